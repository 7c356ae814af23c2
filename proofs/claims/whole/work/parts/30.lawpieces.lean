/-! THE LAW'S METHODS: handlers, the script, its end -/
/-- how a method with handlers ends -/
def am_EH (ret : Option FieldType) (nm : String) (hh : List (Nat × Nat × Nat × Nat)) (X : am_X) (G : am_G) (S0 : am_S) (fin : am_O × am_S) : Prop :=
  (xh X).sig.returnType = ret ∧ xQ X = vx_MQ (xb X) (am_Qc G fin) (am_XC G fin) (xa X) (xs X) (am_n fin.2 - am_n S0) (am_z fin.2 - am_z S0) (am_fr G) ∧ (xc X).exceptionTable.toList = tableOf hh ∧ (xh X).name = nm
def am_MH (l : Launch) (y : MethodName) (bytes : ByteArray) (maxL : Nat) (ret : Option FieldType) (hh : List (Nat × Nat × Nat × Nat)) (fr lo : Nat) (f : am_F) : Prop :=
  (∀ (As : List Value) (S : am_S) (fin : am_O × am_S), f As S = some fin → am_le S fin.2) ∧ ∀ (G : am_G) (As : List Value) (S : am_S) (fin : am_O × am_S), f As S = some fin →
    vx_Met l y (.codeWith y bytes maxL ret hh :: am_tb) (am_rm fr lo S fin.2) (am_Pc G As S) (am_Qc G fin) (am_XC G fin) (am_n fin.2 - am_n S) (am_z fin.2 - am_z S) (am_fr G)
def am_drop (j : Nat) (lv : List (Nat × Value)) : List (Nat × Value) := lv.filter (fun q => !(q.1 == j) && !(q.1 + 1 == j && q.2.category == 2))
/-- a call within a handler's reach: what is thrown goes into local j, and on with kh -/
def c_callH (ci n : Nat) (f : am_F) (j : Nat) (kh : String → Option am_K) (k : am_K) : am_K := fun lv st S =>
  match st.drop n with
  | .ref b :: rest =>
    if am_k S b = ci ∧ (rest.map (fun v => v.category)).sum ≤ 8 then
      match f (.ref b :: (st.take n).reverse) S with
      | some (.inl v, S2) => k lv (v.toList ++ rest) S2
      | some (.inr E, S2) =>
        match kh E with
        | some k' => k' (am_drop j lv) [] S2
        | none => none
      | none => none
    else none
  | _ => none
/-- a call of an instance method that comes back -/
def c_callR (ci n : Nat) (f : am_F) (k : am_K) : am_K := fun lv st S =>
  match st.drop n with
  | .ref b :: rest =>
    if am_k S b = ci ∧ (rest.map (fun v => v.category)).sum ≤ 8 then
      match f (.ref b :: (st.take n).reverse) S with
      | some (.inl v, S2) => k lv (v.toList ++ rest) S2
      | _ => none
    else none
  | _ => none
def c_sld (L : Nat) (sc : Nat → Int32) (k : am_K) : am_K := fun lv st S => match st with
  | .int i :: .ref a :: r => if a = 70 ∧ 0 ≤ i.toInt ∧ i.toInt < L then k lv (.int (sc i.toNatClampNeg) :: r) S else none
  | _ => none
def c_slen (L : Nat) (k : am_K) : am_K := fun lv st S => match st with
  | .ref a :: r => if a = 70 then k lv (.int (nI L) :: r) S else none
  | _ => none
/-- the script, at the place 70 -/
def am_Sc (b L : Nat) (sc : Nat → Int32) (X : am_X) (G : am_G) : Prop := am_A G 70 = b ∧ va_X b L sc (xs X) (xs X).heap ∧ b < (xs X).heap.size ∧ am_B G = (xs X).heap.size
/-- a thing thrown at pc: what k' does behind its handler's store -/
def am_Ct (X : am_X) (G : am_G) (S0 : am_S) (fin : am_O × am_S) (nL pc j : Nat) (E : String) (k' : am_K) : Prop :=
  ∀ (lv : List (Nat × Value)) (S : am_S), k' (am_drop j lv) [] S = some fin → am_le S fin.2 ∧ (am_le S0 S → ∀ (H : Heap) (ls : Array Slot) (locs : List Loc) (rest : List Value) (q : Addr) (ce : Cell), am_R G S H → lv_has ls nL (lv.map (am_vp G)) → (∀ z ∈ locs, am_B G ≤ z.base) →
    H[q]? = some ce → ce.vm = .none → (xs X).vm.findClass E = some ce.cls →
    vx_W (xp X) (xl X) (xe X) (xR X) (xs X) (xm X) (xa X) (xb X) (xh X) (xc X) H locs (am_n S - am_n S0) (am_z S - am_z S0) (xQ X) (F0 (xm X) pc ls rest) q)
section AM30
variable {X : am_X} {cc : ByteArray} {nL : Nat} {own : String} {G : am_G} {S0 : am_S} {fin : am_O × am_S} {fr lo pc : Nat} {k k1 k2 : am_K} {ret : Option FieldType} {nm : String} {hh : List (Nat × Nat × Nat × Nat)}
theorem am_EH.i (C : am_C X cc nL own G S0 fin.2 fr lo) (E : am_EH (some .int) nm hh X G S0 fin) : am_Rt X cc G S0 fin .ireturn p_i := by
  intro v H ls locs pc hp h1 hR hb hdg
  obtain ⟨x, rfl⟩ := hp
  unfold am_w
  rw [E.2.1]
  exact vx_ret (W.iret C.1 C.2.1 E.1 (fun t ht _ => am_E.q h1 rfl hR ht) hb hdg C.2.2.2.2.2.2.2.2.2.1)
theorem am_dropS (lv : List (Nat × Value)) (j : Nat) : (lv.map (am_vp G)).filter (fun q => !(q.1 == j) && !(q.1 + 1 == j && q.2.category == 2)) = (am_drop j lv).map (am_vp G) := by
  unfold am_drop
  rw [List.filter_map]
  congr 2
  funext q
  show _ = _
  simp only [Function.comp, am_vp, am_v_cat]
theorem am_tail {ls : Array Slot} {q : Nat × Value} {l : List (Nat × Value)} (h : lv_has ls nL (q :: l)) : lv_has ls nL l := ⟨h.1, h.2.1, fun z hz => h.2.2 z (List.mem_cons_of_mem _ hz)⟩
/-- the handler begins with a store; the rows ahead in the table don't take it -/
theorem am_ct (C : am_C X cc nL own G S0 fin.2 fr lo) (hE : (xc X).exceptionTable.toList = tableOf hh) {Ex : String} {j st1 en1 hpc ct len : Nat} {k' : am_K} (pre suf : List (Nat × Nat × Nat × Nat)) (hsp : hh = pre ++ (st1, en1, hpc, ct) :: suf)
    (hpass : ∀ z ∈ pre, z.2.2.2 ≠ 0 ∧ ∃ nm2 : String, Cond.classLink own z.2.2.2 nm2 ∈ am_tb ∧ va_Nc Ex nm2 (xs X)) (hcov : covers ⟨st1, en1, hpc, ct⟩ pc = true) (hct : ct ≠ 0) (w1 : Cond.classLink own ct Ex ∈ am_tb) (w2 : Cond.instantiable Ex 6 ∈ am_tb)
    (hst : (len = 2 ∧ decode cc hpc = .ok (.astore j, 2)) ∨ (len = 1 ∧ ∃ n : Fin 4, (n : Nat) = j ∧ decode cc hpc = .ok (.astore_n n, 1))) (hj : j < nL) (h : am_W X G S0 fin nL (hpc + len) k') : am_Ct X G S0 fin nL pc j Ex k' := by
  intro lv S hk
  obtain ⟨h1, h2⟩ := h _ _ _ hk
  refine ⟨h1, fun hle H ls locs rest q ce hR hl hb hce hcv hcl => ?_⟩
  refine vx_catch (name := Ex) C.2.2.2.1 (tableOf pre) ⟨st1, en1, hpc, ct⟩ (tableOf suf) (by rw [hE, hsp]; simp [tableOf]) (fun z hz => ?_) hcov hct (C.2.2.2.2.1 _ w1) (am_cast (C.2.2.2.2.1 _ w2)) hce hcv hcl ?_
  · obtain ⟨z', hz', rfl⟩ := List.mem_map.mp hz
    obtain ⟨g1, nm2, g2, g3⟩ := hpass z' hz'
    exact Or.inr ⟨g1, nm2, C.2.2.2.2.1 _ g2, g3⟩
  · rcases hst with ⟨rfl, hd⟩ | ⟨rfl, n, hn, hd⟩
    · refine lv_astore C.1 C.2.1 hd hl hj rfl (fun ls' hl' => ?_)
      rw [am_dropS] at hl'
      exact h2 hle H ls' locs hR (am_tail hl') hb
    · refine lv_astore_n C.1 C.2.1 hd hn hl hj rfl (fun ls' hl' => ?_)
      rw [am_dropS] at hl'
      exact h2 hle H ls' locs hR (am_tail hl') hb
theorem am_callH (C : am_C X cc nL own G S0 fin.2 fr lo) {y : MethodName} {bytes : ByteArray} {maxL fr' lo' idx n ci j : Nat} {ret : Option FieldType} {f : am_F} {kh : String → Option am_K} (hM : am_M (xl X) y bytes maxL ret fr' lo' f) {r : vw_C} (hr : am_CI ci r)
    (hy : y.cls ≠ "java/lang/invoke/MethodHandle" ∧ y.cls ≠ "java/lang/invoke/VarHandle" ∧ (parseMethodDescriptor y.desc).map (fun d => d.parameters.length) = some n) (h1 : Cond.methodLink own idx y ∈ am_tb) (h2 : Cond.instanceMethod y ∈ am_tb) (h3 : Cond.initialized y.cls ∈ am_tb) (h4 : Cond.code y bytes maxL ret ∈ am_tb) (h5 : Cond.selects r.1 y y ∈ am_tb)
    (hfr : fr' + 1 ≤ fr) (hlo : 8 + (maxL + 11) + lo' ≤ lo) (hdg : decode cc pc = .ok (.invokevirtual idx, 3)) (hct : ∀ E k', kh E = some k' → am_Ct X G S0 fin nL pc j E k') (h : am_W X G S0 fin nL (pc + 3) k) : am_W X G S0 fin nL pc (c_callH ci n f j kh k) := by
  intro lv st S hk
  dsimp only [c_callH] at hk
  split at hk
  next b rest hdrop =>
    split at hk
    next hc =>
      cases hf : f (.ref b :: (st.take n).reverse) S with
      | none => rw [hf] at hk; cases hk
      | some fin2 =>
        obtain ⟨o2, S2⟩ := fin2
        rw [hf] at hk
        have hle2 := hM.1 _ S (o2, S2) hf
        have hMet := hM.2 G _ S (o2, S2) hf
        have hn : ∀ v, o2 = .inl v → k lv (v.toList ++ rest) S2 = some fin := by
          intro v hv
          subst hv
          exact hk
        have hx : ∀ E, o2 = .inr E → ∃ k', kh E = some k' ∧ k' (am_drop j lv) [] S2 = some fin := by
          intro E hE
          subst hE
          dsimp only at hk
          split at hk
          next k' hk' => exact ⟨k', hk', hk⟩
          next => cases hk
        have hle3 : am_le S2 fin.2 := by
          cases o2 with
          | inl v => exact (h _ _ _ (hn v rfl)).1
          | inr E =>
            obtain ⟨k', e1, e2⟩ := hx E rfl
            exact (hct E k' e1 _ _ e2).1
        have hlen : n < st.length := by
          have := congrArg List.length hdrop
          simp at this
          omega
        have hst : st = st.take n ++ (.ref b :: rest) := by rw [← hdrop, List.take_append_drop]
        refine ⟨hle2.tr hle3, fun hle H ls locs hR hl hb => ?_⟩
        obtain ⟨hba, hPb⟩ := am_at_obj hR hr.2.1 hc.1
        have hrun := vx_runV (e := xe X) (below := xb X) (meth := xh X) (C := r.1) (b := am_L G b) (As := ((st.take n).reverse).map (am_v G)) (rest := rest.map (am_v G)) (locs := locs) (cells := am_n S - am_n S0) (slots := am_z S - am_z S0) (g := F0 (xm X) pc ls (st.map (am_v G))) ⟨C.1, C.2.1, C.2.2.1, C.2.2.2.1, C.2.2.2.2.1⟩ hMet
          ⟨callB_of n C.2.2.2.2.1 (am_hG h4) rfl rfl rfl (C.2.2.2.2.1 _ h3) (C.2.2.2.2.1 _ h1) hy ⟨Nat.le_trans hfr C.2.2.2.2.2.2.2.2.2.2.2.1, Nat.le_trans hlo C.2.2.2.2.2.2.2.2.2.2.2.2⟩, C.2.2.2.2.1 _ h2, C.2.2.2.2.1 _ h5⟩
          (H := H) ⟨am_Pc.blind, va_recv (q0 := 0) C.2.2.2.2.2.1.1 hPb hr.1 rfl, fun U hU hW => ⟨rfl, by rw [hU]; exact hR, am_KK.warm hW C.2.2.2.2.2.1⟩⟩ rfl (by simp; omega) hl.1
          (by show st.map (am_v G) = _; rw [← List.map_reverse, List.reverse_reverse]; conv => lhs; rw [hst]
              rw [List.map_append]; rfl) (by show 2 * 0 + _ ≤ 8; rw [am_csS]; omega) hdg
          (am_fits hle hle2 hle3 C.2.2.2.2.2.2.2.1 C.2.2.2.2.2.2.2.2.1)
        intro T hT0 X9
        have hb' : ∀ L : List Loc, (∀ q ∈ L, am_fr G q.base) → ∀ q ∈ locs ++ L, am_B G ≤ q.base := fun L hL q hq => (List.mem_append.mp hq).elim (hb q) (hL q)
        have en : am_n S - am_n S0 + (am_n S2 - am_n S) = am_n S2 - am_n S0 := by have q1 := hle.1; have q2 : am_n S ≤ am_n S2 := hle2.1; omega
        have ez : am_z S - am_z S0 + (am_z S2 - am_z S) = am_z S2 - am_z S0 := by have q1 := hle.2; have q2 : am_z S ≤ am_z S2 := hle2.2; omega
        rcases hrun T hT0 X9 with ⟨v', st₀, t, T', L, h0, X1, hL, e1, e2, ⟨v2, q1, q2, q3⟩, go⟩ | ⟨q, st₀, t, T', L, E, ce, h0, X1, hL, e1, e2, ⟨q1, q3⟩, hce, hcv, hcl, go⟩
        · dsimp only at X1
          rw [en, ez] at X1
          obtain ⟨-, g2⟩ := h _ _ _ (hn v2 q1)
          obtain ⟨t2, a1, b1⟩ := g2 (hle.tr hle2) T'.heap ls (locs ++ L) (by rw [e1]; exact q3) hl (hb' L hL) T' rfl X1
          refine ⟨t2, go t2 ?_, b1⟩
          have ev : (v2.toList ++ rest).map (am_v G) = v'.toList ++ rest.map (am_v G) := by
            have := Outcome.returned.inj q2
            rw [this]
            cases v2 <;> simp
          rw [ev] at a1
          exact a1
        · dsimp only at X1
          rw [en, ez] at X1
          obtain ⟨k', f1, f2⟩ := hx E q1
          obtain ⟨-, g2⟩ := hct E k' f1 _ _ f2
          obtain ⟨t2, a1, b1⟩ := g2 (hle.tr hle2) T'.heap ls (locs ++ L) (rest.map (am_v G)) q ce (by rw [e1]; exact q3) hl (hb' L hL) (by rw [e1]; exact hce) hcv hcl T' rfl X1
          exact ⟨t2, go.trans a1, b1⟩
    next => cases hk
  next => cases hk
theorem am_callR (C : am_C X cc nL own G S0 fin.2 fr lo) {y : MethodName} {bytes : ByteArray} {maxL fr' lo' idx n ci : Nat} {ret : Option FieldType} {f : am_F} (hM : am_M (xl X) y bytes maxL ret fr' lo' f) {r : vw_C} (hr : am_CI ci r)
    (hy : y.cls ≠ "java/lang/invoke/MethodHandle" ∧ y.cls ≠ "java/lang/invoke/VarHandle" ∧ (parseMethodDescriptor y.desc).map (fun d => d.parameters.length) = some n) (h1 : Cond.methodLink own idx y ∈ am_tb) (h2 : Cond.instanceMethod y ∈ am_tb) (h3 : Cond.initialized y.cls ∈ am_tb) (h4 : Cond.code y bytes maxL ret ∈ am_tb) (h5 : Cond.selects r.1 y y ∈ am_tb)
    (hfr : fr' + 1 ≤ fr) (hlo : 8 + (maxL + 11) + lo' ≤ lo) (hdg : decode cc pc = .ok (.invokevirtual idx, 3)) (h : am_W X G S0 fin nL (pc + 3) k) : am_W X G S0 fin nL pc (c_callR ci n f k) := by
  intro lv st S hk
  dsimp only [c_callR] at hk
  split at hk
  next b rest hdrop =>
    split at hk
    next hc =>
      split at hk
      next v S2 hf =>
        have hle2 := hM.1 _ S (.inl v, S2) hf
        have hMet := am_met (hM.2 G _ S (.inl v, S2) hf) (fun E s t hx => by have := hx.1; cases this)
        have hlen : n < st.length := by
          have := congrArg List.length hdrop
          simp at this
          omega
        have hst : st = st.take n ++ (.ref b :: rest) := by rw [← hdrop, List.take_append_drop]
        refine ⟨hle2.tr (h _ _ _ hk).1, fun hle H ls locs hR hl hb => ?_⟩
        obtain ⟨hba, hPb⟩ := am_at_obj hR hr.2.1 hc.1
        have hrun := va_runV (e := xe X) (below := xb X) (meth := xh X) (C := r.1) (b := am_L G b) (As := ((st.take n).reverse).map (am_v G)) (rest := rest.map (am_v G)) (locs := locs) (cells := am_n S - am_n S0) (slots := am_z S - am_z S0) (g := F0 (xm X) pc ls (st.map (am_v G))) ⟨C.1, C.2.1, C.2.2.1, C.2.2.2.1, C.2.2.2.2.1⟩ hMet
          ⟨callB_of n C.2.2.2.2.1 (am_hG h4) rfl rfl rfl (C.2.2.2.2.1 _ h3) (C.2.2.2.2.1 _ h1) hy ⟨Nat.le_trans hfr C.2.2.2.2.2.2.2.2.2.2.2.1, Nat.le_trans hlo C.2.2.2.2.2.2.2.2.2.2.2.2⟩, C.2.2.2.2.1 _ h2, C.2.2.2.2.1 _ h5⟩
          (H := H) ⟨am_Pc.blind, va_recv (q0 := 0) C.2.2.2.2.2.1.1 hPb hr.1 rfl, fun U hU hW => ⟨rfl, by rw [hU]; exact hR, am_KK.warm hW C.2.2.2.2.2.1⟩⟩ rfl (by simp; omega) hl.1
          (by show st.map (am_v G) = _; rw [← List.map_reverse, List.reverse_reverse]; conv => lhs; rw [hst]
              rw [List.map_append]; rfl) (by show 2 * 0 + _ ≤ 8; rw [am_csS]; omega) hdg
          (am_fits hle hle2 (h _ _ _ hk).1 C.2.2.2.2.2.2.2.1 C.2.2.2.2.2.2.2.2.1)
        exact am_back C hle hle2 hrun hl hb hk h
      next => cases hk
    next => cases hk
  next => cases hk
/-- a static method with handlers: it comes back -/
theorem am_callSH (C : am_C X cc nL own G S0 fin.2 fr lo) {y : MethodName} {bytes : ByteArray} {maxL fr' lo' idx n : Nat} {ret : Option FieldType} {f : am_F} (hM : am_MH (xl X) y bytes maxL ret hh fr' lo' f)
    (hy : y.cls ≠ "java/lang/invoke/MethodHandle" ∧ y.cls ≠ "java/lang/invoke/VarHandle" ∧ (parseMethodDescriptor y.desc).map (fun d => d.parameters.length) = some n) (h1 : Cond.methodLink own idx y ∈ am_tb) (h2 : Cond.static y ∈ am_tb) (h3 : Cond.initialized y.cls ∈ am_tb) (h4 : Cond.codeWith y bytes maxL ret hh ∈ am_tb)
    (hfr : fr' + 1 ≤ fr) (hlo : 8 + (maxL + 11) + lo' ≤ lo) (hdg : decode cc pc = .ok (.invokestatic idx, 3)) (h : am_W X G S0 fin nL (pc + 3) k) : am_W X G S0 fin nL pc (c_callSN n f k) := by
  intro lv st S hk
  dsimp only [c_callSN] at hk
  split at hk
  next hc =>
    split at hk
    next v S2 hf =>
      have hle2 := hM.1 _ S (.inl v, S2) hf
      have hMet := am_met (hM.2 G _ S (.inl v, S2) hf) (fun E s t hx => by have := hx.1; cases this)
      refine ⟨hle2.tr (h _ _ _ hk).1, fun hle H ls locs hR hl hb => ?_⟩
      have hG : GoodIn am_tb (va_wsS own idx y (Cond.codeWith y bytes maxL ret hh :: am_tb)) := by
        intro w hw
        unfold va_wsS at hw
        rcases List.mem_append.mp hw with hw | hw
        · simp only [List.mem_cons, List.not_mem_nil, or_false] at hw
          rcases hw with rfl | rfl | rfl
          · exact am_good h1
          · exact am_good h2
          · exact am_good h3
        · rcases List.mem_cons.mp hw with rfl | hw
          · exact am_good h4
          · exact am_good hw
      have hrun := vx_runSW (e := xe X) (below := xb X) (meth := xh X) (As := ((st.take n).reverse).map (am_v G)) (rest := (st.drop n).map (am_v G)) (locs := locs) (cells := am_n S - am_n S0) (slots := am_z S - am_z S0) (g := F0 (xm X) pc ls (st.map (am_v G))) ⟨C.1, C.2.1, C.2.2.1, C.2.2.2.1, C.2.2.2.2.1⟩ hMet
        (vx_cwSW n C.2.2.2.2.1 hG rfl rfl rfl hy ⟨Nat.le_trans hfr C.2.2.2.2.2.2.2.2.2.2.2.1, Nat.le_trans hlo C.2.2.2.2.2.2.2.2.2.2.2.2⟩)
        (H := H) ⟨am_Pc.blind, fun U hU hW => ⟨rfl, by rw [hU]; exact hR, am_KK.warm hW C.2.2.2.2.2.1⟩⟩ rfl (by simp; omega) hl.1
        (by show st.map (am_v G) = _; rw [← List.map_reverse, List.reverse_reverse, ← List.map_append, List.take_append_drop]) (by show 2 * 0 + _ ≤ 8; rw [am_csS]; omega) hdg
        (am_fits hle hle2 (h _ _ _ hk).1 C.2.2.2.2.2.2.2.1 C.2.2.2.2.2.2.2.2.1)
      exact am_back C hle hle2 hrun hl hb hk h
    next => cases hk
  next => cases hk
theorem am_sld (C : am_C X cc nL own G S0 fin.2 fr lo) {b L : Nat} {sc : Nat → Int32} (Z : am_Sc b L sc X G) (hdg : decode cc pc = .ok (.iaload, 1)) (h : am_W X G S0 fin nL (pc + 1) k) : am_W X G S0 fin nL pc (c_sld L sc k) := by
  intro lv st S hk
  dsimp only [c_sld] at hk
  split at hk
  next i a r =>
    split at hk
    next hc =>
      obtain ⟨h1, h2⟩ := h _ _ _ hk
      refine ⟨h1, fun hle H ls locs hR hl hb => ?_⟩
      obtain ⟨rfl, hc⟩ := hc
      have h9 := h2 hle H ls locs hR hl hb
      have e : am_v G (.ref 70) = .ref b := by
        show Value.ref (am_L G 70) = _
        rw [am_LA G (by omega), Z.1]
      rw [List.map_cons, List.map_cons, e]
      exact va_sld (A := fun q => am_B G ≤ q) C.1 C.2.1 Z.2.1 Z.2.2.1 (by rw [Z.2.2.2]; exact Nat.not_le.mpr Z.2.2.1) (am_old C.2.2.2.2.2.2.1 hR hle hb) (vp_in_iff.mpr hc) hdg h9
    next => cases hk
  next => cases hk
theorem am_slen (C : am_C X cc nL own G S0 fin.2 fr lo) {b L : Nat} {sc : Nat → Int32} (Z : am_Sc b L sc X G) (hdg : decode cc pc = .ok (.arraylength, 1)) (h : am_W X G S0 fin nL (pc + 1) k) : am_W X G S0 fin nL pc (c_slen L k) := by
  intro lv st S hk
  dsimp only [c_slen] at hk
  split at hk
  next a r =>
    split at hk
    next hc =>
      obtain ⟨h1, h2⟩ := h _ _ _ hk
      refine ⟨h1, fun hle H ls locs hR hl hb => ?_⟩
      subst hc
      have h9 := h2 hle H ls locs hR hl hb
      have e : am_v G (.ref 70) = .ref b := by
        show Value.ref (am_L G 70) = _
        rw [am_LA G (by omega), Z.1]
      rw [List.map_cons, e]
      exact va_slen (A := fun q => am_B G ≤ q) C.1 C.2.1 Z.2.1 Z.2.2.1 (by rw [Z.2.2.2]; exact Nat.not_le.mpr Z.2.2.1) (am_old C.2.2.2.2.2.2.1 hR hle hb) hdg h9
    next => cases hk
  next => cases hk
end AM30
theorem am_methH {l : Launch} {y : MethodName} {bytes : ByteArray} {maxL : Nat} {ret : Option FieldType} {hh : List (Nat × Nat × Nat × Nat)} {fr lo : Nat} {own : String} {b : am_K} (hfl : l.stackTraces = false) (hy : plainName y.cls = true) (hyo : y.cls = own) (hmo : am_Mo b)
    (body : ∀ (X : am_X) (G : am_G) (S0 : am_S) (fin : am_O × am_S), xl X = l → am_C X bytes maxL own G S0 fin.2 fr lo → am_EH ret y.name hh X G S0 fin → am_W X G S0 fin maxL 0 b) : am_MH l y bytes maxL ret hh fr lo (am_fn maxL b) := by
  refine ⟨fun As S fin h => ?_, fun G As S fin h => ?_⟩
  · unfold am_fn at h
    split at h
    next hc => exact hmo _ _ _ _ h
    next => cases h
  · unfold am_fn at h
    split at h
    next hc =>
      refine vx_ofWH (cc := bytes) (maxL := maxL) (ret := ret) (hh := hh) hy rfl ?_
      intro p e s m args below meth c s₁ B hml hv
      obtain ⟨rfl, hR, hK⟩ := hv
      have hts : ∀ w ∈ am_tb, w.before ((As.map (am_v G)).toArray) s = true := fun w hw => atoms_spec B.pre w (List.mem_cons_of_mem _ hw)
      have hex := vx_table (x := y) B (atoms_spec B.pre _ List.mem_cons_self)
      have hown : s.vm.findClass own = some m.cls := hyo ▸ findClass_of_methodNamed B.named
      have hin : meth.name = y.name := (name_of_methodNamed B.named B.method).1
      have hl := lv_entry (As.map (am_v G)) (n := maxL) (by rw [am_slS]; exact hc)
      rw [lg_entry_eq]
      rw [am_argS] at hl
      have hb := body (p, l, e, (am_rm fr lo S fin.2), s, m, ((As.map (am_v G)).toArray), below, meth, c, (vx_MQ below (am_Qc G fin) (am_XC G fin) ((As.map (am_v G)).toArray) s (am_n fin.2 - am_n S) (am_z fin.2 - am_z S) (am_fr G))) G S fin rfl
        ⟨B.exec, B.bytes, hml, hown, hts, hK, hR, Nat.le_refl _, Nat.le_refl _, B.notSynchronized, hfl, Nat.le_refl _, Nat.le_refl _⟩ ⟨B.returns, rfl, hex, hin⟩
      obtain ⟨-, h2⟩ := hb _ _ _ h
      have h3 := h2 am_le.rf s.heap _ [] hR hl (fun _ hq => nomatch hq)
      rw [Nat.sub_self, Nat.sub_self] at h3
      exact h3
    next => cases h
section AV30
variable {l : Launch} {cc : ByteArray} {nL : Nat} {own : String} {EC : am_Q} {fr lo pc : Nat} {k k1 k2 : am_K} {nm : String} {hh : List (Nat × Nat × Nat × Nat)}
theorem am_hiH : am_HR cc nL own (am_EH (some .int) nm hh) fr lo .ireturn p_i := fun _ _ _ _ C E => E.i C
theorem mo_callH {ci n j : Nat} {f : am_F} {kh : String → Option am_K} (hf : ∀ (As : List Value) (S : am_S) (fin : am_O × am_S), f As S = some fin → am_le S fin.2) (hk : ∀ E k', kh E = some k' → am_Mo k') (h : am_Mo k) : am_Mo (c_callH ci n f j kh k) := by
  intro lv st S fin hk0
  dsimp only [c_callH] at hk0
  split at hk0
  next b rest hd =>
    split at hk0
    next hc =>
      split at hk0
      next v S2 hq => exact (hf _ _ _ hq).tr (h _ _ _ _ hk0)
      next E S2 hq =>
        split at hk0
        next k' hk' => exact (hf _ _ _ hq).tr (hk _ _ hk' _ _ _ _ hk0)
        next => cases hk0
      next => cases hk0
    next => cases hk0
  next => cases hk0
theorem mo_callR {ci n : Nat} {f : am_F} (hf : ∀ (As : List Value) (S : am_S) (fin : am_O × am_S), f As S = some fin → am_le S fin.2) (h : am_Mo k) : am_Mo (c_callR ci n f k) := by
  intro lv st S fin hk
  dsimp only [c_callR] at hk
  split at hk
  next b rest hd =>
    split at hk
    next hc =>
      split at hk
      next v S2 hq => exact (hf _ _ _ hq).tr (h _ _ _ _ hk)
      next => cases hk
    next => cases hk
  next => cases hk
theorem mo_sld {L : Nat} {sc : Nat → Int32} (h : am_Mo k) : am_Mo (c_sld L sc k) := by
  intro lv st S fin hk
  dsimp only [c_sld] at hk
  (repeat' split at hk) <;> first | exact h _ _ _ _ hk | cases hk
theorem mo_slen {L : Nat} (h : am_Mo k) : am_Mo (c_slen L k) := by
  intro lv st S fin hk
  dsimp only [c_slen] at hk
  (repeat' split at hk) <;> first | exact h _ _ _ _ hk | cases hk
def am_kh1 (E1 : String) (k1 : am_K) : String → Option am_K := fun E => if E = E1 then some k1 else none
def am_kh2 (E1 : String) (k1 : am_K) (E2 : String) (k2 : am_K) : String → Option am_K := fun E => if E = E1 then some k1 else if E = E2 then some k2 else none
theorem am_kh1_of {P : String → am_K → Prop} {E1 : String} {k1 : am_K} (h1 : P E1 k1) : ∀ E k', am_kh1 E1 k1 E = some k' → P E k' := by
  intro E k' h
  unfold am_kh1 at h
  split at h
  next e => cases h; rw [e]; exact h1
  next => cases h
theorem am_kh2_of {P : String → am_K → Prop} {E1 E2 : String} {k1 k2 : am_K} (h1 : P E1 k1) (h2 : P E2 k2) : ∀ E k', am_kh2 E1 k1 E2 k2 E = some k' → P E k' := by
  intro E k' h
  unfold am_kh2 at h
  split at h
  next e => cases h; rw [e]; exact h1
  next =>
    split at h
    next e => cases h; rw [e]; exact h2
    next => cases h
/-- one handler -/
theorem av_callH1 {y : MethodName} {bytes : ByteArray} {maxL fr' lo' idx n ci j s1 e1 h1 c1 len : Nat} {rt ret : Option FieldType} {f : am_F} {r : vw_C} {Ex : String} (hM : am_M l y bytes maxL rt fr' lo' f) (hr : am_CI ci r) (hy : y.cls ≠ "java/lang/invoke/MethodHandle" ∧ y.cls ≠ "java/lang/invoke/VarHandle" ∧ (parseMethodDescriptor y.desc).map (fun d => d.parameters.length) = some n)
    (w1 : Cond.methodLink own idx y ∈ am_tb) (w2 : Cond.instanceMethod y ∈ am_tb) (w3 : Cond.initialized y.cls ∈ am_tb) (w4 : Cond.code y bytes maxL rt ∈ am_tb) (w5 : Cond.selects r.1 y y ∈ am_tb) (hfr : fr' + 1 ≤ fr) (hlo : 8 + (maxL + 11) + lo' ≤ lo) (hdg : decode cc pc = .ok (.invokevirtual idx, 3))
    (hcov : covers ⟨s1, e1, h1, c1⟩ pc = true) (hc1 : c1 ≠ 0) (w6 : Cond.classLink own c1 Ex ∈ am_tb) (w7 : Cond.instantiable Ex 6 ∈ am_tb) (hst : (len = 2 ∧ decode cc h1 = .ok (.astore j, 2)) ∨ (len = 1 ∧ ∃ n : Fin 4, (n : Nat) = j ∧ decode cc h1 = .ok (.astore_n n, 1))) (hj : j < nL)
    (hk1 : am_V l cc nL own (am_EH ret nm [(s1, e1, h1, c1)]) fr lo (h1 + len) k1) (h : am_V l cc nL own (am_EH ret nm [(s1, e1, h1, c1)]) fr lo (pc + 3) k) : am_V l cc nL own (am_EH ret nm [(s1, e1, h1, c1)]) fr lo pc (c_callH ci n f j (am_kh1 Ex k1) k) :=
  ⟨mo_callH hM.1 (am_kh1_of (P := fun _ k' => am_Mo k') hk1.1) h.1, fun X G S0 fin e C E => am_callH C (by rw [e]; exact hM) hr hy w1 w2 w3 w4 w5 hfr hlo hdg (am_kh1_of (P := fun E k' => am_Ct X G S0 fin nL pc j E k') (am_ct C E.2.2.1 [] [] rfl (fun _ h => nomatch h) hcov hc1 w6 w7 hst hj (hk1.2 X G S0 fin e C E))) (h.2 X G S0 fin e C E)⟩
/-- two handlers, the first of NoSuchElementException, the second of IllegalArgumentException -/
theorem av_callH2 {y : MethodName} {bytes : ByteArray} {maxL fr' lo' idx n ci j s1 e1 h1 c1 h2 c2 len : Nat} {rt ret : Option FieldType} {f : am_F} {r : vw_C} (hM : am_M l y bytes maxL rt fr' lo' f) (hr : am_CI ci r) (hy : y.cls ≠ "java/lang/invoke/MethodHandle" ∧ y.cls ≠ "java/lang/invoke/VarHandle" ∧ (parseMethodDescriptor y.desc).map (fun d => d.parameters.length) = some n)
    (w1 : Cond.methodLink own idx y ∈ am_tb) (w2 : Cond.instanceMethod y ∈ am_tb) (w3 : Cond.initialized y.cls ∈ am_tb) (w4 : Cond.code y bytes maxL rt ∈ am_tb) (w5 : Cond.selects r.1 y y ∈ am_tb) (hfr : fr' + 1 ≤ fr) (hlo : 8 + (maxL + 11) + lo' ≤ lo) (hdg : decode cc pc = .ok (.invokevirtual idx, 3))
    (hcov : covers ⟨s1, e1, h1, c1⟩ pc = true) (hcov2 : covers ⟨s1, e1, h2, c2⟩ pc = true) (hc1 : c1 ≠ 0) (hc2 : c2 ≠ 0) (w6 : Cond.classLink own c1 "java/util/NoSuchElementException" ∈ am_tb) (w7 : Cond.instantiable "java/util/NoSuchElementException" 6 ∈ am_tb) (w8 : Cond.classLink own c2 "java/lang/IllegalArgumentException" ∈ am_tb) (w9 : Cond.instantiable "java/lang/IllegalArgumentException" 6 ∈ am_tb)
    (hst : (len = 2 ∧ decode cc h1 = .ok (.astore j, 2)) ∨ (len = 1 ∧ ∃ n : Fin 4, (n : Nat) = j ∧ decode cc h1 = .ok (.astore_n n, 1))) (hst2 : (len = 2 ∧ decode cc h2 = .ok (.astore j, 2)) ∨ (len = 1 ∧ ∃ n : Fin 4, (n : Nat) = j ∧ decode cc h2 = .ok (.astore_n n, 1))) (hj : j < nL)
    (hk1 : am_V l cc nL own (am_EH ret nm [(s1, e1, h1, c1), (s1, e1, h2, c2)]) fr lo (h1 + len) k1) (hk2 : am_V l cc nL own (am_EH ret nm [(s1, e1, h1, c1), (s1, e1, h2, c2)]) fr lo (h2 + len) k2) (h : am_V l cc nL own (am_EH ret nm [(s1, e1, h1, c1), (s1, e1, h2, c2)]) fr lo (pc + 3) k) :
    am_V l cc nL own (am_EH ret nm [(s1, e1, h1, c1), (s1, e1, h2, c2)]) fr lo pc (c_callH ci n f j (am_kh2 "java/util/NoSuchElementException" k1 "java/lang/IllegalArgumentException" k2) k) :=
  ⟨mo_callH hM.1 (am_kh2_of (P := fun _ k' => am_Mo k') hk1.1 hk2.1) h.1, fun X G S0 fin e C E => am_callH C (by rw [e]; exact hM) hr hy w1 w2 w3 w4 w5 hfr hlo hdg (am_kh2_of (P := fun E k' => am_Ct X G S0 fin nL pc j E k')
    (am_ct C E.2.2.1 [] [(s1, e1, h2, c2)] rfl (fun _ h => nomatch h) hcov hc1 w6 w7 hst hj (hk1.2 X G S0 fin e C E))
    (am_ct C E.2.2.1 [(s1, e1, h1, c1)] [] rfl (fun z hz => by
      rcases List.mem_cons.mp hz with rfl | hz
      · exact ⟨hc1, _, w6, C.2.2.2.2.2.1.2.2.2.2.2.2.2.2.1⟩
      · cases hz) hcov2 hc2 w8 w9 hst2 hj (hk2.2 X G S0 fin e C E))) (h.2 X G S0 fin e C E)⟩
theorem av_methH {y : MethodName} {maxL : Nat} {ret : Option FieldType} {b : am_K} (hfl : l.stackTraces = false) (hy : plainName y.cls = true) (hyo : y.cls = own) (h : am_V l cc maxL own (am_EH ret y.name hh) fr lo 0 b) : am_MH l y cc maxL ret hh fr lo (am_fn maxL b) :=
  am_methH hfl hy hyo h.1 (fun X G S0 fin e C E => h.2 X G S0 fin e C E)
theorem av_callR {y : MethodName} {bytes : ByteArray} {maxL fr' lo' idx n ci : Nat} {rt : Option FieldType} {f : am_F} {r : vw_C} (hM : am_M l y bytes maxL rt fr' lo' f) (hr : am_CI ci r) (hy : y.cls ≠ "java/lang/invoke/MethodHandle" ∧ y.cls ≠ "java/lang/invoke/VarHandle" ∧ (parseMethodDescriptor y.desc).map (fun d => d.parameters.length) = some n)
    (w1 : Cond.methodLink own idx y ∈ am_tb) (w2 : Cond.instanceMethod y ∈ am_tb) (w3 : Cond.initialized y.cls ∈ am_tb) (w4 : Cond.code y bytes maxL rt ∈ am_tb) (w5 : Cond.selects r.1 y y ∈ am_tb) (hfr : fr' + 1 ≤ fr) (hlo : 8 + (maxL + 11) + lo' ≤ lo) (hdg : decode cc pc = .ok (.invokevirtual idx, 3)) (h : am_V l cc nL own EC fr lo (pc + 3) k) : am_V l cc nL own EC fr lo pc (c_callR ci n f k) :=
  ⟨mo_callR hM.1 h.1, fun X G S0 fin e C E => am_callR C (by rw [e]; exact hM) hr hy w1 w2 w3 w4 w5 hfr hlo hdg (h.2 X G S0 fin e C E)⟩
theorem av_callSH {y : MethodName} {bytes : ByteArray} {maxL fr' lo' idx n : Nat} {rt : Option FieldType} {f : am_F} (hM : am_MH l y bytes maxL rt hh fr' lo' f) (hy : y.cls ≠ "java/lang/invoke/MethodHandle" ∧ y.cls ≠ "java/lang/invoke/VarHandle" ∧ (parseMethodDescriptor y.desc).map (fun d => d.parameters.length) = some n)
    (w1 : Cond.methodLink own idx y ∈ am_tb) (w2 : Cond.static y ∈ am_tb) (w3 : Cond.initialized y.cls ∈ am_tb) (w4 : Cond.codeWith y bytes maxL rt hh ∈ am_tb) (hfr : fr' + 1 ≤ fr) (hlo : 8 + (maxL + 11) + lo' ≤ lo) (hdg : decode cc pc = .ok (.invokestatic idx, 3)) (h : am_V l cc nL own EC fr lo (pc + 3) k) : am_V l cc nL own EC fr lo pc (c_callSN n f k) :=
  ⟨mo_callSN hM.1 h.1, fun X G S0 fin e C E => am_callSH C (by rw [e]; exact hM) hy w1 w2 w3 w4 hfr hlo hdg (h.2 X G S0 fin e C E)⟩
/-- the law's own end -/
def am_EL (L : Nat) (sc : Nat → Int32) (X : am_X) (G : am_G) (S0 : am_S) (fin : am_O × am_S) : Prop := fin.1 = .inl (some (.int 1)) ∧ (∃ b, am_Sc b L sc X G) ∧
  ∀ (H : Heap) (ls : Array Slot) (locs : List Loc) (pc : Nat), (∀ q ∈ locs, am_B G ≤ q.base) → decode (xc X).code pc = .ok (.ireturn, 1) → am_w X H locs (am_n fin.2 - am_n S0) (am_z fin.2 - am_z S0) (F0 (xm X) pc ls [.int 1])
theorem am_hzL {L : Nat} {sc : Nat → Int32} : am_HR cc nL own (am_EL L sc) fr lo .ireturn p_z := by
  intro X G S0 fin C E v H ls locs pc hp h1 hR hb hdg
  have e := Sum.inl.inj (h1.symm.trans E.1)
  subst e
  exact E.2.2 H ls locs pc hb (by rw [C.2.1]; exact hdg)
theorem av_sld {L : Nat} {sc : Nat → Int32} (hdg : decode cc pc = .ok (.iaload, 1)) (h : am_V l cc nL own (am_EL L sc) fr lo (pc + 1) k) : am_V l cc nL own (am_EL L sc) fr lo pc (c_sld L sc k) := ⟨mo_sld h.1, fun X G S0 fin e C E => by
  obtain ⟨b, Z⟩ := E.2.1
  exact am_sld C Z hdg (h.2 X G S0 fin e C E)⟩
theorem av_slen {L : Nat} {sc : Nat → Int32} (hdg : decode cc pc = .ok (.arraylength, 1)) (h : am_V l cc nL own (am_EL L sc) fr lo (pc + 1) k) : am_V l cc nL own (am_EL L sc) fr lo pc (c_slen L k) := ⟨mo_slen h.1, fun X G S0 fin e C E => by
  obtain ⟨b, Z⟩ := E.2.1
  exact am_slen C Z hdg (h.2 X G S0 fin e C E)⟩
end AV30
