/-! CALLS, THROWS, METHODS -/
def am_Pc (G : am_G) (As : List Value) (S : am_S) : Array Value → State → Prop := fun v U => v = (As.map (am_v G)).toArray ∧ am_R G S U.heap ∧ am_KK G U
def am_Qc (G : am_G) (fin : am_O × am_S) : Array Value → State → Outcome → State → Prop := fun _ _ oc t => ∃ v : Option Value, fin.1 = .inl v ∧ oc = .returned (v.map (am_v G)) ∧ am_R G fin.2 t.heap
def am_XC (G : am_G) (fin : am_O × am_S) : String → State → State → Prop := fun E _ t => fin.1 = .inr E ∧ am_R G fin.2 t.heap
def am_rm (fr lo : Nat) (S T : am_S) : Room := { frames := fr, cells := am_n T - am_n S, slots := am_z T - am_z S, locals := lo }
def am_fr (G : am_G) : Addr → Prop := fun q => am_B G ≤ q
/-- a method does what f does -/
def am_M (l : Launch) (y : MethodName) (bytes : ByteArray) (maxL : Nat) (ret : Option FieldType) (fr lo : Nat) (f : am_F) : Prop :=
  (∀ (As : List Value) (S : am_S) (fin : am_O × am_S), f As S = some fin → am_le S fin.2) ∧ ∀ (G : am_G) (As : List Value) (S : am_S) (fin : am_O × am_S), f As S = some fin →
    vx_Met l y (.code y bytes maxL ret :: am_tb) (am_rm fr lo S fin.2) (am_Pc G As S) (am_Qc G fin) (am_XC G fin) (am_n fin.2 - am_n S) (am_z fin.2 - am_z S) (am_fr G)
theorem am_met {l : Launch} {y : MethodName} {ws : List Cond} {rm : Room} {Pc : Array Value → State → Prop} {Qc : Array Value → State → Outcome → State → Prop} {XC : String → State → State → Prop} {mc ms : Nat} {free : Addr → Prop} (h : vx_Met l y ws rm Pc Qc XC mc ms free) (hx : ∀ E s t, ¬ XC E s t) : Met l y ws rm Pc Qc mc ms free :=
  MetFree.mono h (fun _ _ h => h) (fun _ _ _ _ _ h => h) (fun a st o t _ hq => by
    rcases hq with h | ⟨q, -, E, ce, L, h, -⟩
    · exact h
    · exact absurd h (hx _ _ _))
theorem am_Pc.blind {G : am_G} {As : List Value} {S : am_S} : FrameBlind (am_Pc G As S) := fun _ _ _ _ h => ⟨h.1, h.2.1, am_KK.calling h.2.2⟩
theorem am_csS (G : am_G) (rest : List Value) : ((rest.map (am_v G)).map fun v => v.category).sum = (rest.map fun v => v.category).sum := by
  rw [List.map_map]
  congr 1
  apply List.map_congr_left
  intro v _
  exact am_v_cat G v
def c_callS (n : Nat) (f : am_F) (k : am_K) : am_K := fun lv st S =>
  if n ≤ st.length ∧ ((st.drop n).map (fun v => v.category)).sum ≤ 8 then
    match f (st.take n).reverse S with
    | some (.inl v, S2) => k lv (v.toList ++ st.drop n) S2
    | some (.inr E, S2) => some (.inr E, S2)
    | none => none
  else none
def c_callV (ci n : Nat) (f : am_F) (k : am_K) : am_K := fun lv st S =>
  match st.drop n with
  | .ref b :: rest =>
    if am_k S b = ci ∧ (rest.map (fun v => v.category)).sum ≤ 8 then
      match f (.ref b :: (st.take n).reverse) S with
      | some (.inl v, S2) => k lv (v.toList ++ rest) S2
      | some (.inr E, S2) => some (.inr E, S2)
      | none => none
    else none
  | _ => none
/-- a constructor: it comes back, with nothing -/
def c_callI (n : Nat) (f : am_F) (k : am_K) : am_K := fun lv st S =>
  match st.drop n with
  | .ref b :: rest =>
    if (rest.map (fun v => v.category)).sum ≤ 8 then
      match f (.ref b :: (st.take n).reverse) S with
      | some (.inl none, S2) => k lv rest S2
      | _ => none
    else none
  | _ => none
def c_oinit (k : am_K) : am_K := fun lv st S => match st with
  | .ref _ :: r => if (r.map (fun v => v.category)).sum ≤ 8 then k lv r S else none
  | _ => none
def c_throw (E : String) : am_K := fun _ st S => if (st.map (fun v => v.category)).sum ≤ 8 then some (.inr E, am_new S 99 0 6) else none
theorem am_fits {S0 S S2 SF : am_S} {c z : Nat} (h1 : am_le S0 S) (h2 : am_le S S2) (h3 : am_le S2 SF) (hc : am_n SF - am_n S0 ≤ c) (hz : am_z SF - am_z S0 ≤ z) : am_n S - am_n S0 + (am_n S2 - am_n S) ≤ c ∧ am_z S - am_z S0 + (am_z S2 - am_z S) ≤ z := by
  obtain ⟨a1, a2⟩ := h1
  obtain ⟨b1, b2⟩ := h2
  obtain ⟨c1, c2⟩ := h3
  constructor <;> omega
section AM4
variable {X : am_X} {cc : ByteArray} {nL : Nat} {own : String} {G : am_G} {S0 : am_S} {fin : am_O × am_S} {fr lo pc : Nat} {k k1 k2 : am_K}
theorem am_hG {y : MethodName} {bytes : ByteArray} {maxL : Nat} {ret : Option FieldType} (h4 : Cond.code y bytes maxL ret ∈ am_tb) : GoodIn am_tb (Cond.code y bytes maxL ret :: am_tb) := fun w hw => (List.mem_cons.mp hw).elim (fun e => by rw [e]; exact am_good h4) am_good
/-- behind a call: it went on, or it threw -/
theorem am_behind (C : am_C X cc nL own G S0 fin.2 fr lo) (hT : am_Th X G S0 fin) {S : am_S} {fin2 : am_O × am_S} {H : Heap} {ls : Array Slot} {locs : List Loc} {st0 rest : List Value} {a : Array Value} {lv : List (Nat × Value)}
    (hle : am_le S0 S) (hle2 : am_le S fin2.2) (hrun : vx_Run (xp X) (xl X) (xe X) (xR X) (xs X) (xm X) (xa X) (xb X) (xh X) (xc X) H locs (am_n S - am_n S0) (am_z S - am_z S0) (am_n fin2.2 - am_n S) (am_z fin2.2 - am_z S) (F0 (xm X) pc ls st0) (rest.map (am_v G)) (am_Qc G fin2 a) (am_XC G fin2) (am_fr G))
    (hl : lv_has ls nL (lv.map (am_vp G))) (hb : ∀ q ∈ locs, am_B G ≤ q.base)
    (hn : ∀ v, fin2.1 = .inl v → k lv (v.toList ++ rest) fin2.2 = some fin) (hx : ∀ E, fin2.1 = .inr E → fin = fin2) (h : am_W X G S0 fin nL (pc + 3) k) : am_w X H locs (am_n S - am_n S0) (am_z S - am_z S0) (F0 (xm X) pc ls st0) := by
  intro T hT0 X9
  have hb' : ∀ L : List Loc, (∀ q ∈ L, am_fr G q.base) → ∀ q ∈ locs ++ L, am_B G ≤ q.base := fun L hL q hq => (List.mem_append.mp hq).elim (hb q) (hL q)
  have en : am_n S - am_n S0 + (am_n fin2.2 - am_n S) = am_n fin2.2 - am_n S0 := by have := hle.1; have := hle2.1; omega
  have ez : am_z S - am_z S0 + (am_z fin2.2 - am_z S) = am_z fin2.2 - am_z S0 := by have := hle.2; have := hle2.2; omega
  rcases hrun T hT0 X9 with ⟨v', st₀, t, T', L, h0, X1, hL, e1, e2, ⟨v2, q1, q2, q3⟩, go⟩ | ⟨q, st₀, t, T', L, E, ce, h0, X1, hL, e1, e2, ⟨q1, q3⟩, hce, hcv, hcl, go⟩
  · rw [en, ez] at X1
    obtain ⟨-, g2⟩ := h _ _ _ (hn v2 q1)
    obtain ⟨t2, a1, b1⟩ := g2 (hle.tr hle2) T'.heap ls (locs ++ L) (by rw [e1]; exact q3) hl (hb' L hL) T' rfl X1
    refine ⟨t2, go t2 ?_, b1⟩
    have ev : (v2.toList ++ rest).map (am_v G) = v'.toList ++ rest.map (am_v G) := by
      have := Outcome.returned.inj q2
      rw [this]
      cases v2 <;> simp
    rw [ev] at a1
    exact a1
  · rw [en, ez] at X1
    have hf := hx E q1
    subst hf
    obtain ⟨t2, a1, b1⟩ := hT E T'.heap ls (locs ++ L) pc (rest.map (am_v G)) q ce q1 (by rw [e1]; exact q3) (by rw [e1]; exact hce) hcv hcl (hb' L hL) T' rfl X1
    exact ⟨t2, go.trans a1, b1⟩
theorem am_callS (C : am_C X cc nL own G S0 fin.2 fr lo) (hT : am_Th X G S0 fin) {y : MethodName} {bytes : ByteArray} {maxL fr' lo' idx n : Nat} {ret : Option FieldType} {f : am_F} (hM : am_M (xl X) y bytes maxL ret fr' lo' f)
    (hy : y.cls ≠ "java/lang/invoke/MethodHandle" ∧ y.cls ≠ "java/lang/invoke/VarHandle" ∧ (parseMethodDescriptor y.desc).map (fun d => d.parameters.length) = some n) (h1 : Cond.methodLink own idx y ∈ am_tb) (h2 : Cond.static y ∈ am_tb) (h3 : Cond.initialized y.cls ∈ am_tb) (h4 : Cond.code y bytes maxL ret ∈ am_tb)
    (hfr : fr' + 1 ≤ fr) (hlo : 8 + (maxL + 11) + lo' ≤ lo) (hdg : decode cc pc = .ok (.invokestatic idx, 3)) (h : am_W X G S0 fin nL (pc + 3) k) : am_W X G S0 fin nL pc (c_callS n f k) := by
  intro lv st S hk
  dsimp only [c_callS] at hk
  split at hk
  next hc =>
    cases hf : f (st.take n).reverse S with
    | none => rw [hf] at hk; cases hk
    | some fin2 =>
      obtain ⟨o2, S2⟩ := fin2
      rw [hf] at hk
      have hle2 := hM.1 _ S (o2, S2) hf
      have hMet := hM.2 G _ S (o2, S2) hf
      have hn : ∀ v, o2 = .inl v → k lv (v.toList ++ st.drop n) S2 = some fin := by
        intro v hv
        subst hv
        exact hk
      have hx : ∀ E, o2 = .inr E → fin = (o2, S2) := by
        intro E hE
        subst hE
        exact (Option.some.inj hk).symm
      have hle3 : am_le S2 fin.2 := by
        cases o2 with
        | inl v => exact (h _ _ _ (hn v rfl)).1
        | inr E => rw [hx E rfl]; exact am_le.rf
      refine ⟨hle2.tr hle3, fun hle H ls locs hR hl hb => ?_⟩
      have hrun := vx_runS (e := xe X) (below := xb X) (meth := xh X) (As := ((st.take n).reverse).map (am_v G)) (rest := (st.drop n).map (am_v G)) (locs := locs) (cells := am_n S - am_n S0) (slots := am_z S - am_z S0) (g := F0 (xm X) pc ls (st.map (am_v G))) ⟨C.1, C.2.1, C.2.2.1, C.2.2.2.1, C.2.2.2.2.1⟩ hMet
        ⟨callB_of n C.2.2.2.2.1 (am_hG h4) rfl rfl rfl (C.2.2.2.2.1 _ h3) (C.2.2.2.2.1 _ h1) hy ⟨Nat.le_trans hfr C.2.2.2.2.2.2.2.2.2.2.2.1, Nat.le_trans hlo C.2.2.2.2.2.2.2.2.2.2.2.2⟩, C.2.2.2.2.1 _ h2⟩
        (H := H) ⟨am_Pc.blind, fun U hU hW => ⟨rfl, by rw [hU]; exact hR, am_KK.warm hW C.2.2.2.2.2.1⟩⟩ rfl (by simp; omega) hl.1
        (by show st.map (am_v G) = _; rw [← List.map_reverse, List.reverse_reverse, ← List.map_append, List.take_append_drop]) (by show 2 * 0 + _ ≤ 8; rw [am_csS]; omega) hdg
        (am_fits hle hle2 hle3 C.2.2.2.2.2.2.2.1 C.2.2.2.2.2.2.2.2.1)
      exact am_behind C hT hle hle2 hrun hl hb hn hx h
  next => cases hk
theorem am_callV (C : am_C X cc nL own G S0 fin.2 fr lo) (hT : am_Th X G S0 fin) {y : MethodName} {bytes : ByteArray} {maxL fr' lo' idx n ci : Nat} {ret : Option FieldType} {f : am_F} (hM : am_M (xl X) y bytes maxL ret fr' lo' f) {r : vw_C} (hr : am_CI ci r)
    (hy : y.cls ≠ "java/lang/invoke/MethodHandle" ∧ y.cls ≠ "java/lang/invoke/VarHandle" ∧ (parseMethodDescriptor y.desc).map (fun d => d.parameters.length) = some n) (h1 : Cond.methodLink own idx y ∈ am_tb) (h2 : Cond.instanceMethod y ∈ am_tb) (h3 : Cond.initialized y.cls ∈ am_tb) (h4 : Cond.code y bytes maxL ret ∈ am_tb) (h5 : Cond.selects r.1 y y ∈ am_tb)
    (hfr : fr' + 1 ≤ fr) (hlo : 8 + (maxL + 11) + lo' ≤ lo) (hdg : decode cc pc = .ok (.invokevirtual idx, 3)) (h : am_W X G S0 fin nL (pc + 3) k) : am_W X G S0 fin nL pc (c_callV ci n f k) := by
  intro lv st S hk
  dsimp only [c_callV] at hk
  split at hk
  next b rest hdrop =>
    split at hk
    next hc =>
      cases hf : f (.ref b :: (st.take n).reverse) S with
      | none => rw [hf] at hk; cases hk
      | some fin2 =>
        obtain ⟨o2, S2⟩ := fin2
        rw [hf] at hk
        have hle2 := hM.1 _ S (o2, S2) hf
        have hMet := hM.2 G _ S (o2, S2) hf
        have hn : ∀ v, o2 = .inl v → k lv (v.toList ++ rest) S2 = some fin := by
          intro v hv
          subst hv
          exact hk
        have hx : ∀ E, o2 = .inr E → fin = (o2, S2) := by
          intro E hE
          subst hE
          exact (Option.some.inj hk).symm
        have hle3 : am_le S2 fin.2 := by
          cases o2 with
          | inl v => exact (h _ _ _ (hn v rfl)).1
          | inr E => rw [hx E rfl]; exact am_le.rf
        have hlen : n < st.length := by
          have := congrArg List.length hdrop
          simp at this
          omega
        have hst : st = st.take n ++ (.ref b :: rest) := by rw [← hdrop, List.take_append_drop]
        refine ⟨hle2.tr hle3, fun hle H ls locs hR hl hb => ?_⟩
        obtain ⟨hba, hPb⟩ := am_at_obj hR hr.2.1 hc.1
        have hrun := vx_runV (e := xe X) (below := xb X) (meth := xh X) (C := r.1) (b := am_L G b) (As := ((st.take n).reverse).map (am_v G)) (rest := rest.map (am_v G)) (locs := locs) (cells := am_n S - am_n S0) (slots := am_z S - am_z S0) (g := F0 (xm X) pc ls (st.map (am_v G))) ⟨C.1, C.2.1, C.2.2.1, C.2.2.2.1, C.2.2.2.2.1⟩ hMet
          ⟨callB_of n C.2.2.2.2.1 (am_hG h4) rfl rfl rfl (C.2.2.2.2.1 _ h3) (C.2.2.2.2.1 _ h1) hy ⟨Nat.le_trans hfr C.2.2.2.2.2.2.2.2.2.2.2.1, Nat.le_trans hlo C.2.2.2.2.2.2.2.2.2.2.2.2⟩, C.2.2.2.2.1 _ h2, C.2.2.2.2.1 _ h5⟩
          (H := H) ⟨am_Pc.blind, va_recv (q0 := 0) C.2.2.2.2.2.1.1 hPb hr.1 rfl, fun U hU hW => ⟨rfl, by rw [hU]; exact hR, am_KK.warm hW C.2.2.2.2.2.1⟩⟩ rfl (by simp; omega) hl.1
          (by show st.map (am_v G) = _; rw [← List.map_reverse, List.reverse_reverse]; conv => lhs; rw [hst]
              rw [List.map_append]; rfl) (by show 2 * 0 + _ ≤ 8; rw [am_csS]; omega) hdg
          (am_fits hle hle2 hle3 C.2.2.2.2.2.2.2.1 C.2.2.2.2.2.2.2.2.1)
        exact am_behind C hT hle hle2 hrun hl hb hn hx h
    next => cases hk
  next => cases hk
theorem am_callI (C : am_C X cc nL own G S0 fin.2 fr lo) {y : MethodName} {bytes : ByteArray} {maxL fr' lo' idx n : Nat} {f : am_F} (hM : am_M (xl X) y bytes maxL none fr' lo' f) (hy1 : y.name = "<init>")
    (hy : y.cls ≠ "java/lang/invoke/MethodHandle" ∧ y.cls ≠ "java/lang/invoke/VarHandle" ∧ (parseMethodDescriptor y.desc).map (fun d => d.parameters.length) = some n) (h1 : Cond.methodLink own idx y ∈ am_tb) (h2 : Cond.instanceMethod y ∈ am_tb) (h3 : Cond.initialized y.cls ∈ am_tb) (h4 : Cond.code y bytes maxL none ∈ am_tb)
    (hfr : fr' + 1 ≤ fr) (hlo : 8 + (maxL + 11) + lo' ≤ lo) (hdg : decode cc pc = .ok (.invokespecial idx, 3)) (h : am_W X G S0 fin nL (pc + 3) k) : am_W X G S0 fin nL pc (c_callI n f k) := by
  intro lv st S hk
  dsimp only [c_callI] at hk
  split at hk
  next b rest hdrop =>
    split at hk
    next hc =>
      split at hk
      next S2 hf =>
        have hle2 := hM.1 _ S (.inl none, S2) hf
        have hMet := hM.2 G _ S (.inl none, S2) hf
        obtain ⟨hle3, g2⟩ := h _ _ _ hk
        have hMet' := am_met hMet (fun E s t hx => by have := hx.1; cases this)
        have hlen : n < st.length := by
          have := congrArg List.length hdrop
          simp at this
          omega
        have hst : st = st.take n ++ (.ref b :: rest) := by rw [← hdrop, List.take_append_drop]
        refine ⟨hle2.tr hle3, fun hle H ls locs hR hl hb => ?_⟩
        have hrun := va_runI (e := xe X) (below := xb X) (meth := xh X) (b := am_L G b) (As := ((st.take n).reverse).map (am_v G)) (rest := rest.map (am_v G)) (locs := locs) (cells := am_n S - am_n S0) (slots := am_z S - am_z S0) (g := F0 (xm X) pc ls (st.map (am_v G))) ⟨C.1, C.2.1, C.2.2.1, C.2.2.2.1, C.2.2.2.2.1⟩ hMet'
          ⟨callB_of n C.2.2.2.2.1 (am_hG h4) rfl rfl rfl (C.2.2.2.2.1 _ h3) (C.2.2.2.2.1 _ h1) hy ⟨Nat.le_trans hfr C.2.2.2.2.2.2.2.2.2.2.2.1, Nat.le_trans hlo C.2.2.2.2.2.2.2.2.2.2.2.2⟩, hy1, C.2.2.2.2.1 _ h2⟩
          (H := H) ⟨am_Pc.blind, fun U hU hW => ⟨rfl, by rw [hU]; exact hR, am_KK.warm hW C.2.2.2.2.2.1⟩⟩ rfl (by simp; omega) hl.1
          (by show st.map (am_v G) = _; rw [← List.map_reverse, List.reverse_reverse]; conv => lhs; rw [hst]
              rw [List.map_append]; rfl) (by show 2 * 0 + _ ≤ 8; rw [am_csS]; omega) hdg
          (am_fits hle hle2 hle3 C.2.2.2.2.2.2.2.1 C.2.2.2.2.2.2.2.2.1)
        intro T hT0 X9
        have hb' : ∀ L : List Loc, (∀ q ∈ L, am_fr G q.base) → ∀ q ∈ locs ++ L, am_B G ≤ q.base := fun L hL q hq => (List.mem_append.mp hq).elim (hb q) (hL q)
        have en : am_n S - am_n S0 + (am_n S2 - am_n S) = am_n S2 - am_n S0 := by have h1 := hle.1; have h2 : am_n S ≤ am_n S2 := hle2.1; omega
        have ez : am_z S - am_z S0 + (am_z S2 - am_z S) = am_z S2 - am_z S0 := by have h1 := hle.2; have h2 : am_z S ≤ am_z S2 := hle2.2; omega
        obtain ⟨v', st₀, t, T', L, h0, X1, hL, e1, e2, ⟨v2, q1, q2, q3⟩, go⟩ := hrun T hT0 X9
        rw [en, ez] at X1
        cases q1
        have := Outcome.returned.inj q2
        subst this
        obtain ⟨t2, a1, b1⟩ := g2 (hle.tr hle2) T'.heap ls (locs ++ L) (by rw [e1]; exact q3) hl (hb' L hL) T' rfl X1
        exact ⟨t2, go t2 a1, b1⟩
      next => cases hk
    next => cases hk
  next => cases hk
theorem am_objInit (C : am_C X cc nL own G S0 fin.2 fr lo) {idx : Nat} (h1 : Cond.methodLink own idx Lib.objectInit ∈ am_tb) (h2 : Cond.instanceMethod Lib.objectInit ∈ am_tb) (h3 : Cond.code Lib.objectInit ⟨#[0xb1]⟩ 1 none ∈ am_tb) (hfr : 1 ≤ fr) (hlo : 20 ≤ lo)
    (hdg : decode cc pc = .ok (.invokespecial idx, 3)) (h : am_W X G S0 fin nL (pc + 3) k) : am_W X G S0 fin nL pc (c_oinit k) := by
  intro lv st S hk
  dsimp only [c_oinit] at hk
  split at hk
  next a r =>
    split at hk
    next hc =>
      obtain ⟨g1, g2⟩ := h _ _ _ hk
      refine ⟨g1, fun hle H ls locs hR hl hb => ?_⟩
      have a1 := C.2.2.2.2.2.2.2.2.2.2.2.1
      have a2 := C.2.2.2.2.2.2.2.2.2.2.2.2
      refine W.objInit C.1 C.2.1 C.2.2.2.1 (C.2.2.2.2.1 _ h1) (C.2.2.2.2.1 _ h2) (C.2.2.2.2.1 _ h3) rfl (hl.1.trans C.2.2.1.symm) (rest := r.map (am_v G)) rfl hdg (by omega) (by show 2 * 0 + _ + 12 ≤ _; rw [am_csS]; omega) ?_
      exact g2 hle H ls locs hR hl hb
    next => cases hk
  next => cases hk
end AM4
