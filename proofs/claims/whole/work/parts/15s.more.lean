/-! STRINGS, STATICS, NEST MATES, NARROW ENDS -/
def p_n (ty : FieldType) (v : Option Value) : Prop := ∃ x, v = some (.int x) ∧ narrow ty (.int x) = .int x
/-- an end with an int that is narrowed to ty: it is as it was -/
def c_nret (ty : FieldType) : am_K := fun _ st S => match st with
  | [.int x] => match narrow ty (.int x) with
    | .int y => if y = x then some (.inl (some (.int x)), S) else none
    | _ => none
  | _ => none
def c_sval (k : am_K) : am_K := fun lv st S => match st with
  | .ref a :: r => if am_isT a then k lv (.ref (a + 32) :: r) S else none
  | _ => none
def c_scod (k : am_K) : am_K := fun lv st S => match st with
  | .ref a :: r => if am_isT a then k lv (.int 0 :: r) S else none
  | _ => none
abbrev am_isB (b : Nat) : Prop := 33 ≤ b ∧ b < 65
def c_blen (k : am_K) : am_K := fun lv st S => match st with
  | .ref b :: r => if am_isB b then k lv (.int (nI (am_len.getD (b - 33) 0)) :: r) S else none
  | _ => none
def c_bal (k : am_K) : am_K := fun lv st S => match st with
  | .int i :: .ref b :: r => if am_isB b ∧ 0 ≤ i.toInt ∧ i.toInt < am_len.getD (b - 33) 0 then k lv (.int ((am_byt.getD (b - 33) []).getD i.toNatClampNeg 0) :: r) S else none
  | _ => none
/-- a static that holds null or a thing of which nothing is asked: what follows doesn't depend on it -/
noncomputable def c_sio (k : am_K) : am_K := fun lv st S => @ite _ (k lv (.ref 0 :: st) S = k lv (.null :: st) S) (Classical.propDecidable _) (k lv (.null :: st) S) none
/-- a call of a text's method -/
def c_callT (n : Nat) (f : am_F) (k : am_K) : am_K := fun lv st S =>
  match st.drop n with
  | .ref b :: rest =>
    if am_isT b ∧ (rest.map (fun v => v.category)).sum ≤ 8 then
      match f (.ref b :: (st.take n).reverse) S with
      | some (.inl v, S2) => k lv (v.toList ++ rest) S2
      | some (.inr E, S2) => some (.inr E, S2)
      | none => none
    else none
  | _ => none
/-- calls of nest mates: they come back -/
def c_callSN (n : Nat) (f : am_F) (k : am_K) : am_K := fun lv st S =>
  if n ≤ st.length ∧ ((st.drop n).map (fun v => v.category)).sum ≤ 8 then
    match f (st.take n).reverse S with
    | some (.inl v, S2) => k lv (v.toList ++ st.drop n) S2
    | _ => none
  else none
section AM9
variable {X : am_X} {cc : ByteArray} {nL : Nat} {own : String} {G : am_G} {S0 : am_S} {fin : am_O × am_S} {fr lo pc : Nat} {k k1 k2 : am_K} {ret : Option FieldType} {nm : String}
theorem am_LA (G : am_G) {a : Nat} (h : a < 100) : am_L G a = am_A G a := by
  unfold am_L
  rw [if_pos h]
theorem am_keptq {S0 : am_S} {H : Heap} (hR : am_R G S0 H) : ∀ a : Nat, a < (am_H G).size → ¬ am_B G ≤ a → H[a]? = (am_H G)[a]? := fun a _ h2 => hR.2.2.1 a (by omega)
theorem am_nreturn {ty : FieldType} (C : am_C X cc nL own G S0 fin.2 fr lo) (hr : am_Rt X cc G S0 fin .ireturn (p_n ty)) (hdg : decode cc pc = .ok (.ireturn, 1)) : am_W X G S0 fin nL pc (c_nret ty) := by
  intro lv st S hk
  dsimp only [c_nret] at hk
  split at hk
  next x =>
    split at hk
    next y hy =>
      split at hk
      next hc =>
        cases hk
        subst hc
        exact ⟨am_le.rf, fun hle H ls locs hR hl hb => hr _ H ls locs _ ⟨y, rfl, hy⟩ rfl hR hb hdg⟩
      next => cases hk
    next => cases hk
  next => cases hk
theorem am_E.n {ty : FieldType} (C : am_C X cc nL own G S0 fin.2 fr lo) (E : am_E (some ty) nm X G S0 fin) : am_Rt X cc G S0 fin .ireturn (p_n ty) := by
  intro v H ls locs pc hp h1 hR hb hdg
  obtain ⟨x, rfl, hx⟩ := hp
  unfold am_w
  rw [E.2.1]
  exact vx_ret (W.zret C.1 C.2.1 E.1 hx (fun t ht _ => am_E.q h1 rfl hR ht) hb hdg C.2.2.2.2.2.2.2.2.2.1)
theorem am_sval (C : am_C X cc nL own G S0 fin.2 fr lo) {idx : Nat} (hw : Cond.fieldLink own idx "java/lang/String" "value" "[B" ∈ am_tb) (hdg : decode cc pc = .ok (.getfield idx, 3)) (h : am_W X G S0 fin nL (pc + 3) k) : am_W X G S0 fin nL pc (c_sval k) := by
  intro lv st S hk
  dsimp only [c_sval] at hk
  split at hk
  next a r =>
    split at hk
    next hc =>
      obtain ⟨h1, h2⟩ := h _ _ _ hk
      refine ⟨h1, fun hle H ls locs hR hl hb => ?_⟩
      obtain ⟨j, rfl, hj⟩ := am_isTx hc
      have h9 := h2 hle H ls locs hR hl hb
      have hE := (C.2.2.2.2.2.1.2.2.2.2.1) j hj
      have e1 : am_v G (.ref (j + 1 + 32)) = .ref (am_A G (j + 33)) := by
        show Value.ref (am_L G (j + 1 + 32)) = _
        rw [am_LA G (by omega), show j + 1 + 32 = j + 33 by omega]
      rw [List.map_cons, e1] at h9
      have q := vk_getf (o := "java/lang/String") C.1 C.2.1 (v := .ref (am_A G (j + 33))) (hE.2.2.1.kept (am_keptq C.2.2.2.2.2.2.1)) (am_old C.2.2.2.2.2.2.1 hR hle hb) C.2.2.2.1 (C.2.2.2.2.1 _ hw) (fun _ h => h) hdg h9
      have e : am_v G (.ref (j + 1)) = .ref (am_A G (j + 1)) := by
        show Value.ref (am_L G (j + 1)) = _
        rw [am_LA G (by omega)]
      rw [List.map_cons, e]
      exact q
    next => cases hk
  next => cases hk
theorem am_scod (C : am_C X cc nL own G S0 fin.2 fr lo) {idx : Nat} (hw : Cond.fieldLink own idx "java/lang/String" "coder" "B" ∈ am_tb) (hdg : decode cc pc = .ok (.getfield idx, 3)) (h : am_W X G S0 fin nL (pc + 3) k) : am_W X G S0 fin nL pc (c_scod k) := by
  intro lv st S hk
  dsimp only [c_scod] at hk
  split at hk
  next a r =>
    split at hk
    next hc =>
      obtain ⟨h1, h2⟩ := h _ _ _ hk
      refine ⟨h1, fun hle H ls locs hR hl hb => ?_⟩
      obtain ⟨j, rfl, hj⟩ := am_isTx hc
      have h9 := h2 hle H ls locs hR hl hb
      have hE := (C.2.2.2.2.2.1.2.2.2.2.1) j hj
      have q := vk_getf (o := "java/lang/String") C.1 C.2.1 (v := .int 0) (hE.2.1.kept (am_keptq C.2.2.2.2.2.2.1)) (am_old C.2.2.2.2.2.2.1 hR hle hb) C.2.2.2.1 (C.2.2.2.2.1 _ hw) (fun _ h => h) hdg h9
      have e : am_v G (.ref (j + 1)) = .ref (am_A G (j + 1)) := by
        show Value.ref (am_L G (j + 1)) = _
        rw [am_LA G (by omega)]
      rw [List.map_cons, e]
      exact q
    next => cases hk
  next => cases hk
theorem am_isBx {b : Nat} (h : am_isB b) : ∃ j : Nat, b = j + 33 ∧ j < 32 := ⟨b - 33, by have := h.1; omega, by have := h.2; have := h.1; omega⟩
theorem am_blen (C : am_C X cc nL own G S0 fin.2 fr lo) (hdg : decode cc pc = .ok (.arraylength, 1)) (h : am_W X G S0 fin nL (pc + 1) k) : am_W X G S0 fin nL pc (c_blen k) := by
  intro lv st S hk
  dsimp only [c_blen] at hk
  split at hk
  next a r =>
    split at hk
    next hc =>
      obtain ⟨h1, h2⟩ := h _ _ _ hk
      refine ⟨h1, fun hle H ls locs hR hl hb => ?_⟩
      obtain ⟨j, rfl, hj⟩ := am_isBx hc
      rw [Nat.add_sub_cancel] at h2
      have h9 := h2 hle H ls locs hR hl hb
      have hE := (C.2.2.2.2.2.1.2.2.2.2.1) j hj
      have q := va_tlen C.1 C.2.1 (hE.2.2.2.kept (am_keptq C.2.2.2.2.2.2.1)) (am_old C.2.2.2.2.2.2.1 hR hle hb) rfl hdg h9
      have e : am_v G (.ref (j + 33)) = .ref (am_A G (j + 33)) := by
        show Value.ref (am_L G (j + 33)) = _
        rw [am_LA G (by omega)]
      rw [List.map_cons, e]
      exact q
    next => cases hk
  next => cases hk
theorem am_bal (C : am_C X cc nL own G S0 fin.2 fr lo) (hdg : decode cc pc = .ok (.baload, 1)) (h : am_W X G S0 fin nL (pc + 1) k) : am_W X G S0 fin nL pc (c_bal k) := by
  intro lv st S hk
  dsimp only [c_bal] at hk
  split at hk
  next i a r =>
    split at hk
    next hc =>
      obtain ⟨h1, h2⟩ := h _ _ _ hk
      refine ⟨h1, fun hle H ls locs hR hl hb => ?_⟩
      obtain ⟨j, rfl, hj⟩ := am_isBx hc.1
      rw [Nat.add_sub_cancel] at h2 hc
      have h9 := h2 hle H ls locs hR hl hb
      have hE := (C.2.2.2.2.2.1.2.2.2.2.1) j hj
      have q := va_tb C.1 C.2.1 (hE.2.2.2.kept (am_keptq C.2.2.2.2.2.2.1)) (am_old C.2.2.2.2.2.2.1 hR hle hb) (i := i) (vp_in_iff.mpr hc.2) rfl hdg h9
      have e : am_v G (.ref (j + 33)) = .ref (am_A G (j + 33)) := by
        show Value.ref (am_L G (j + 33)) = _
        rw [am_LA G (by omega)]
      rw [List.map_cons, List.map_cons, e]
      exact q
    next => cases hk
  next => cases hk
theorem am_cst (C : am_C X cc nL own G S0 fin.2 fr lo) {idx : Nat} (hw : Cond.fieldLink own idx "java/lang/String" "COMPACT_STRINGS" "Z" ∈ am_tb) (hdg : decode cc pc = .ok (.getstatic idx, 3)) (h : am_W X G S0 fin nL (pc + 3) k) : am_W X G S0 fin nL pc (c_i 1 k) := by
  intro lv st S hk
  obtain ⟨h1, h2⟩ := h _ _ _ hk
  exact ⟨h1, fun hle H ls locs hR hl hb => va_gets C.1 C.2.1 (va_Z.kept C.2.2.2.2.2.1.2.2.2.2.2.1 (am_keptq C.2.2.2.2.2.2.1)) (am_old C.2.2.2.2.2.2.1 hR hle hb) C.2.2.2.1 (C.2.2.2.2.1 _ hw) (fun _ h => h) hdg (h2 hle H ls locs hR hl hb)⟩
theorem am_sio (C : am_C X cc nL own G S0 fin.2 fr lo) {idx : Nat} (hw : Cond.fieldLink own idx "jdk/internal/util/Preconditions" "SIOOBE_FORMATTER" am_sioD ∈ am_tb) (hdg : decode cc pc = .ok (.getstatic idx, 3)) (h : am_W X G S0 fin nL (pc + 3) k) : am_W X G S0 fin nL pc (c_sio k) := by
  intro lv st S hk
  dsimp only [c_sio] at hk
  split at hk
  next hc =>
    obtain ⟨h1, h2⟩ := h _ _ _ hk
    rw [← hc] at hk
    obtain ⟨-, h3⟩ := h _ _ _ hk
    refine ⟨h1, fun hle H ls locs hR hl hb => ?_⟩
    have hS := am_old C.2.2.2.2.2.2.1 hR hle hb
    rcases C.2.2.2.2.2.1.2.2.2.2.2.2.1 with hz | hz
    · exact va_gets C.1 C.2.1 (va_Z.kept hz (am_keptq C.2.2.2.2.2.2.1)) hS C.2.2.2.1 (C.2.2.2.2.1 _ hw) (fun _ h => h) hdg (h2 hle H ls locs hR hl hb)
    · have h9 := h3 hle H ls locs hR hl hb
      have e : am_v G (.ref 0) = .ref (am_A G 0) := by
        show Value.ref (am_L G 0) = _
        rw [am_LA G (by omega)]
      rw [List.map_cons, e] at h9
      exact va_gets C.1 C.2.1 (va_Z.kept hz (am_keptq C.2.2.2.2.2.2.1)) hS C.2.2.2.1 (C.2.2.2.2.1 _ hw) (fun _ h => h) hdg h9
  next => cases hk
theorem am_callT (C : am_C X cc nL own G S0 fin.2 fr lo) (hT : am_Th X G S0 fin) {y : MethodName} {bytes : ByteArray} {maxL fr' lo' idx n : Nat} {ret : Option FieldType} {f : am_F} (hM : am_M (xl X) y bytes maxL ret fr' lo' f)
    (hy : y.cls ≠ "java/lang/invoke/MethodHandle" ∧ y.cls ≠ "java/lang/invoke/VarHandle" ∧ (parseMethodDescriptor y.desc).map (fun d => d.parameters.length) = some n) (h1 : Cond.methodLink own idx y ∈ am_tb) (h2 : Cond.instanceMethod y ∈ am_tb) (h3 : Cond.initialized y.cls ∈ am_tb) (h4 : Cond.code y bytes maxL ret ∈ am_tb) (h5 : Cond.selects "java/lang/String" y y ∈ am_tb)
    (hfr : fr' + 1 ≤ fr) (hlo : 8 + (maxL + 11) + lo' ≤ lo) (hdg : decode cc pc = .ok (.invokevirtual idx, 3)) (h : am_W X G S0 fin nL (pc + 3) k) : am_W X G S0 fin nL pc (c_callT n f k) := by
  intro lv st S hk
  dsimp only [c_callT] at hk
  split at hk
  next b rest hdrop =>
    split at hk
    next hc =>
      cases hf : f (.ref b :: (st.take n).reverse) S with
      | none => rw [hf] at hk; cases hk
      | some fin2 =>
        obtain ⟨o2, S2⟩ := fin2
        rw [hf] at hk
        have hle2 := hM.1 _ S (o2, S2) hf
        have hMet := hM.2 G _ S (o2, S2) hf
        have hn : ∀ v, o2 = .inl v → k lv (v.toList ++ rest) S2 = some fin := by
          intro v hv
          subst hv
          exact hk
        have hx : ∀ E, o2 = .inr E → fin = (o2, S2) := by
          intro E hE
          subst hE
          exact (Option.some.inj hk).symm
        have hle3 : am_le S2 fin.2 := by
          cases o2 with
          | inl v => exact (h _ _ _ (hn v rfl)).1
          | inr E => rw [hx E rfl]; exact am_le.rf
        have hlen : n < st.length := by
          have := congrArg List.length hdrop
          simp at this
          omega
        have hst : st = st.take n ++ (.ref b :: rest) := by rw [← hdrop, List.take_append_drop]
        refine ⟨hle2.tr hle3, fun hle H ls locs hR hl hb => ?_⟩
        obtain ⟨j, rfl, hj⟩ := am_isTx hc.1
        have hrecv : ∃ cell : Cell, H[am_L G (j + 1)]? = some cell ∧ cell.vm.isStatics = false ∧ (xs X).vm.findClass "java/lang/String" = some cell.cls := by
          rw [am_LA G (by omega)]
          obtain ⟨cell, e1, e2, e3, -⟩ := ((C.2.2.2.2.2.1.2.2.2.2.1) j hj).1.kept (am_keptq hR)
          exact ⟨cell, e1, e2, e3⟩
        have hrun := vx_runV (e := xe X) (below := xb X) (meth := xh X) (C := "java/lang/String") (b := am_L G (j + 1)) (As := ((st.take n).reverse).map (am_v G)) (rest := rest.map (am_v G)) (locs := locs) (cells := am_n S - am_n S0) (slots := am_z S - am_z S0) (g := F0 (xm X) pc ls (st.map (am_v G))) ⟨C.1, C.2.1, C.2.2.1, C.2.2.2.1, C.2.2.2.2.1⟩ hMet
          ⟨callB_of n C.2.2.2.2.1 (am_hG h4) rfl rfl rfl (C.2.2.2.2.1 _ h3) (C.2.2.2.2.1 _ h1) hy ⟨Nat.le_trans hfr C.2.2.2.2.2.2.2.2.2.2.2.1, Nat.le_trans hlo C.2.2.2.2.2.2.2.2.2.2.2.2⟩, C.2.2.2.2.1 _ h2, C.2.2.2.2.1 _ h5⟩
          (H := H) ⟨am_Pc.blind, hrecv, fun U hU hW => ⟨rfl, by rw [hU]; exact hR, am_KK.warm hW C.2.2.2.2.2.1⟩⟩ rfl (by simp; omega) hl.1
          (by show st.map (am_v G) = _; rw [← List.map_reverse, List.reverse_reverse]; conv => lhs; rw [hst]
              rw [List.map_append]; rfl) (by show 2 * 0 + _ ≤ 8; rw [am_csS]; omega) hdg
          (am_fits hle hle2 hle3 C.2.2.2.2.2.2.2.1 C.2.2.2.2.2.2.2.2.1)
        exact am_behind C hT hle hle2 hrun hl hb hn hx h
    next => cases hk
  next => cases hk
/-- behind a call that comes back -/
theorem am_back (C : am_C X cc nL own G S0 fin.2 fr lo) {S S2 : am_S} {v0 : Option Value} {H : Heap} {ls : Array Slot} {locs : List Loc} {st rest : List Value} {a : Array Value} {lv : List (Nat × Value)} (hle : am_le S0 S) (hle2 : am_le S S2)
    (hrun : va_Run (xp X) (xl X) (xe X) (xR X) (xs X) (xm X) (xa X) (xb X) (xh X) (xc X) H locs (am_n S - am_n S0) (am_z S - am_z S0) (am_n S2 - am_n S) (am_z S2 - am_z S) (F0 (xm X) pc ls st) (rest.map (am_v G)) (am_Qc G (.inl v0, S2) a) (am_fr G))
    (hl : lv_has ls nL (lv.map (am_vp G))) (hb : ∀ q ∈ locs, am_B G ≤ q.base) (hk : k lv (v0.toList ++ rest) S2 = some fin) (h : am_W X G S0 fin nL (pc + 3) k) : am_w X H locs (am_n S - am_n S0) (am_z S - am_z S0) (F0 (xm X) pc ls st) := by
  intro T hT0 X9
  obtain ⟨-, g2⟩ := h _ _ _ hk
  have hb' : ∀ L : List Loc, (∀ q ∈ L, am_fr G q.base) → ∀ q ∈ locs ++ L, am_B G ≤ q.base := fun L hL q hq => (List.mem_append.mp hq).elim (hb q) (hL q)
  have en : am_n S - am_n S0 + (am_n S2 - am_n S) = am_n S2 - am_n S0 := by have h1 := hle.1; have h2 : am_n S ≤ am_n S2 := hle2.1; omega
  have ez : am_z S - am_z S0 + (am_z S2 - am_z S) = am_z S2 - am_z S0 := by have h1 := hle.2; have h2 : am_z S ≤ am_z S2 := hle2.2; omega
  obtain ⟨v', st₀, t, T', L, h0, X1, hL, e1, e2, ⟨v2, q1, q2, q3⟩, go⟩ := hrun T hT0 X9
  rw [en, ez] at X1
  have q1 := Sum.inl.inj q1
  subst q1
  have := Outcome.returned.inj q2
  subst this
  have ev : (v0.toList ++ rest).map (am_v G) = (v0.map (am_v G)).toList ++ rest.map (am_v G) := by
    cases v0 <;> simp
  have g3 := g2 (hle.tr hle2) T'.heap ls (locs ++ L) (by rw [e1]; exact q3) hl (hb' L hL) T' rfl X1
  rw [ev] at g3
  obtain ⟨t2, a1, b1⟩ := g3
  exact ⟨t2, go t2 a1, b1⟩
theorem am_callSN (C : am_C X cc nL own G S0 fin.2 fr lo) {y : MethodName} {bytes : ByteArray} {maxL fr' lo' idx n : Nat} {host : String} {ret : Option FieldType} {f : am_F} (hM : am_M (xl X) y bytes maxL ret fr' lo' f)
    (hy : y.cls ≠ "java/lang/invoke/MethodHandle" ∧ y.cls ≠ "java/lang/invoke/VarHandle" ∧ (parseMethodDescriptor y.desc).map (fun d => d.parameters.length) = some n) (h1 : (own, idx, y, host) ∈ am_nst) (h2 : Cond.static y ∈ am_tb) (h3 : Cond.initialized y.cls ∈ am_tb) (h4 : Cond.code y bytes maxL ret ∈ am_tb)
    (hfr : fr' + 1 ≤ fr) (hlo : 8 + (maxL + 11) + lo' ≤ lo) (hdg : decode cc pc = .ok (.invokestatic idx, 3)) (h : am_W X G S0 fin nL (pc + 3) k) : am_W X G S0 fin nL pc (c_callSN n f k) := by
  intro lv st S hk
  dsimp only [c_callSN] at hk
  split at hk
  next hc =>
    split at hk
    next v S2 hf =>
      have hle2 := hM.1 _ S (.inl v, S2) hf
      have hMet := am_met (hM.2 G _ S (.inl v, S2) hf) (fun E s t hx => by have := hx.1; cases this)
      refine ⟨hle2.tr (h _ _ _ hk).1, fun hle H ls locs hR hl hb => ?_⟩
      have hrun := va_runSN (e := xe X) (below := xb X) (meth := xh X) (As := ((st.take n).reverse).map (am_v G)) (rest := (st.drop n).map (am_v G)) (locs := locs) (cells := am_n S - am_n S0) (slots := am_z S - am_z S0) (g := F0 (xm X) pc ls (st.map (am_v G))) ⟨C.1, C.2.1, C.2.2.1, C.2.2.2.1, C.2.2.2.2.1⟩ hMet
        ⟨va_cnB n C.2.2.2.2.1 (am_hG h4) rfl rfl rfl (C.2.2.2.2.2.1.2.2.2.2.2.2.2.1 _ h1) (C.2.2.2.2.1 _ h3) hy ⟨Nat.le_trans hfr C.2.2.2.2.2.2.2.2.2.2.2.1, Nat.le_trans hlo C.2.2.2.2.2.2.2.2.2.2.2.2⟩, C.2.2.2.2.1 _ h2, trivial⟩
        (H := H) ⟨am_Pc.blind, fun U hU hW => ⟨rfl, by rw [hU]; exact hR, am_KK.warm hW C.2.2.2.2.2.1⟩⟩ rfl (by simp; omega) hl.1
        (by show st.map (am_v G) = _; rw [← List.map_reverse, List.reverse_reverse, ← List.map_append, List.take_append_drop]) (by show 2 * 0 + _ ≤ 8; rw [am_csS]; omega) hdg
        (am_fits hle hle2 (h _ _ _ hk).1 C.2.2.2.2.2.2.2.1 C.2.2.2.2.2.2.2.2.1)
      exact am_back C hle hle2 hrun hl hb hk h
    next => cases hk
  next => cases hk
theorem am_callIN (C : am_C X cc nL own G S0 fin.2 fr lo) {y : MethodName} {bytes : ByteArray} {maxL fr' lo' idx n : Nat} {host : String} {f : am_F} (hM : am_M (xl X) y bytes maxL none fr' lo' f) (hy1 : y.name = "<init>")
    (hy : y.cls ≠ "java/lang/invoke/MethodHandle" ∧ y.cls ≠ "java/lang/invoke/VarHandle" ∧ (parseMethodDescriptor y.desc).map (fun d => d.parameters.length) = some n) (h1 : (own, idx, y, host) ∈ am_nst) (h2 : Cond.instanceMethod y ∈ am_tb) (h3 : Cond.initialized y.cls ∈ am_tb) (h4 : Cond.code y bytes maxL none ∈ am_tb)
    (hfr : fr' + 1 ≤ fr) (hlo : 8 + (maxL + 11) + lo' ≤ lo) (hdg : decode cc pc = .ok (.invokespecial idx, 3)) (h : am_W X G S0 fin nL (pc + 3) k) : am_W X G S0 fin nL pc (c_callI n f k) := by
  intro lv st S hk
  dsimp only [c_callI] at hk
  split at hk
  next b rest hdrop =>
    split at hk
    next hc =>
      split at hk
      next S2 hf =>
        have hle2 := hM.1 _ S (.inl none, S2) hf
        have hMet := am_met (hM.2 G _ S (.inl none, S2) hf) (fun E s t hx => by have := hx.1; cases this)
        have hlen : n < st.length := by
          have := congrArg List.length hdrop
          simp at this
          omega
        have hst : st = st.take n ++ (.ref b :: rest) := by rw [← hdrop, List.take_append_drop]
        refine ⟨hle2.tr (h _ _ _ hk).1, fun hle H ls locs hR hl hb => ?_⟩
        have hrun := va_runIN (e := xe X) (below := xb X) (meth := xh X) (b := am_L G b) (As := ((st.take n).reverse).map (am_v G)) (rest := rest.map (am_v G)) (locs := locs) (cells := am_n S - am_n S0) (slots := am_z S - am_z S0) (g := F0 (xm X) pc ls (st.map (am_v G))) ⟨C.1, C.2.1, C.2.2.1, C.2.2.2.1, C.2.2.2.2.1⟩ hMet
          ⟨va_cnB n C.2.2.2.2.1 (am_hG h4) rfl rfl rfl (C.2.2.2.2.2.1.2.2.2.2.2.2.2.1 _ h1) (C.2.2.2.2.1 _ h3) hy ⟨Nat.le_trans hfr C.2.2.2.2.2.2.2.2.2.2.2.1, Nat.le_trans hlo C.2.2.2.2.2.2.2.2.2.2.2.2⟩, hy1, C.2.2.2.2.1 _ h2⟩
          (H := H) ⟨am_Pc.blind, fun U hU hW => ⟨rfl, by rw [hU]; exact hR, am_KK.warm hW C.2.2.2.2.2.1⟩⟩ rfl (by simp; omega) hl.1
          (by show st.map (am_v G) = _; rw [← List.map_reverse, List.reverse_reverse]; conv => lhs; rw [hst]
              rw [List.map_append]; rfl) (by show 2 * 0 + _ ≤ 8; rw [am_csS]; omega) hdg
          (am_fits hle hle2 (h _ _ _ hk).1 C.2.2.2.2.2.2.2.1 C.2.2.2.2.2.2.2.2.1)
        exact am_back (v0 := none) C hle hle2 hrun hl hb hk h
      next => cases hk
    next => cases hk
  next => cases hk
end AM9
section AVS
variable {l : Launch} {cc : ByteArray} {nL : Nat} {own : String} {EC : am_Q} {fr lo pc : Nat} {k k1 k2 : am_K} {nm : String}
theorem am_hn {ty : FieldType} : am_HR cc nL own (am_E (some ty) nm) fr lo .ireturn (p_n ty) := fun _ _ _ _ C E => E.n C
theorem mo_nret {ty : FieldType} : am_Mo (c_nret ty) := by
  intro lv st S fin hk
  dsimp only [c_nret] at hk
  (repeat' split at hk) <;> first | (cases hk; exact am_le.rf) | cases hk
theorem mo_sval (h : am_Mo k) : am_Mo (c_sval k) := by
  intro lv st S fin hk
  dsimp only [c_sval] at hk
  (repeat' split at hk) <;> first | exact h _ _ _ _ hk | cases hk
theorem mo_scod (h : am_Mo k) : am_Mo (c_scod k) := by
  intro lv st S fin hk
  dsimp only [c_scod] at hk
  (repeat' split at hk) <;> first | exact h _ _ _ _ hk | cases hk
theorem mo_blen (h : am_Mo k) : am_Mo (c_blen k) := by
  intro lv st S fin hk
  dsimp only [c_blen] at hk
  (repeat' split at hk) <;> first | exact h _ _ _ _ hk | cases hk
theorem mo_bal (h : am_Mo k) : am_Mo (c_bal k) := by
  intro lv st S fin hk
  dsimp only [c_bal] at hk
  (repeat' split at hk) <;> first | exact h _ _ _ _ hk | cases hk
theorem mo_sio (h : am_Mo k) : am_Mo (c_sio k) := by
  intro lv st S fin hk
  dsimp only [c_sio] at hk
  (repeat' split at hk) <;> first | exact h _ _ _ _ hk | cases hk
theorem mo_callT {n : Nat} {f : am_F} (hf : ∀ (As : List Value) (S : am_S) (fin : am_O × am_S), f As S = some fin → am_le S fin.2) (h : am_Mo k) : am_Mo (c_callT n f k) := by
  intro lv st S fin hk
  dsimp only [c_callT] at hk
  split at hk
  next b rest hd =>
    split at hk
    next hc =>
      split at hk
      next v S2 hq => exact (hf _ _ _ hq).tr (h _ _ _ _ hk)
      next E S2 hq => cases hk; exact hf _ _ _ hq
      next => cases hk
    next => cases hk
  next => cases hk
theorem mo_callSN {n : Nat} {f : am_F} (hf : ∀ (As : List Value) (S : am_S) (fin : am_O × am_S), f As S = some fin → am_le S fin.2) (h : am_Mo k) : am_Mo (c_callSN n f k) := by
  intro lv st S fin hk
  dsimp only [c_callSN] at hk
  split at hk
  next hc =>
    split at hk
    next v S2 hq => exact (hf _ _ _ hq).tr (h _ _ _ _ hk)
    next => cases hk
  next => cases hk
theorem av_nreturn {ty : FieldType} (hr : am_HR cc nL own EC fr lo .ireturn (p_n ty)) (hdg : decode cc pc = .ok (.ireturn, 1)) : am_V l cc nL own EC fr lo pc (c_nret ty) := ⟨mo_nret, fun X G S0 fin e C E => am_nreturn C (hr X G S0 fin C E) hdg⟩
theorem av_sval {idx : Nat} (hw : Cond.fieldLink own idx "java/lang/String" "value" "[B" ∈ am_tb) (hdg : decode cc pc = .ok (.getfield idx, 3)) (h : am_V l cc nL own EC fr lo (pc + 3) k) : am_V l cc nL own EC fr lo pc (c_sval k) := ⟨mo_sval h.1, fun X G S0 fin e C E => am_sval C hw hdg (h.2 X G S0 fin e C E)⟩
theorem av_scod {idx : Nat} (hw : Cond.fieldLink own idx "java/lang/String" "coder" "B" ∈ am_tb) (hdg : decode cc pc = .ok (.getfield idx, 3)) (h : am_V l cc nL own EC fr lo (pc + 3) k) : am_V l cc nL own EC fr lo pc (c_scod k) := ⟨mo_scod h.1, fun X G S0 fin e C E => am_scod C hw hdg (h.2 X G S0 fin e C E)⟩
theorem av_blen (hdg : decode cc pc = .ok (.arraylength, 1)) (h : am_V l cc nL own EC fr lo (pc + 1) k) : am_V l cc nL own EC fr lo pc (c_blen k) := ⟨mo_blen h.1, fun X G S0 fin e C E => am_blen C hdg (h.2 X G S0 fin e C E)⟩
theorem av_bal (hdg : decode cc pc = .ok (.baload, 1)) (h : am_V l cc nL own EC fr lo (pc + 1) k) : am_V l cc nL own EC fr lo pc (c_bal k) := ⟨mo_bal h.1, fun X G S0 fin e C E => am_bal C hdg (h.2 X G S0 fin e C E)⟩
theorem av_cst {idx : Nat} (hw : Cond.fieldLink own idx "java/lang/String" "COMPACT_STRINGS" "Z" ∈ am_tb) (hdg : decode cc pc = .ok (.getstatic idx, 3)) (h : am_V l cc nL own EC fr lo (pc + 3) k) : am_V l cc nL own EC fr lo pc (c_i 1 k) := ⟨mo_i h.1, fun X G S0 fin e C E => am_cst C hw hdg (h.2 X G S0 fin e C E)⟩
theorem av_sio {idx : Nat} (hw : Cond.fieldLink own idx "jdk/internal/util/Preconditions" "SIOOBE_FORMATTER" am_sioD ∈ am_tb) (hdg : decode cc pc = .ok (.getstatic idx, 3)) (h : am_V l cc nL own EC fr lo (pc + 3) k) : am_V l cc nL own EC fr lo pc (c_sio k) := ⟨mo_sio h.1, fun X G S0 fin e C E => am_sio C hw hdg (h.2 X G S0 fin e C E)⟩
theorem av_callT {y : MethodName} {bytes : ByteArray} {maxL fr' lo' idx n : Nat} {rt : Option FieldType} {f : am_F} (hT : am_HT cc nL own EC fr lo) (hM : am_M l y bytes maxL rt fr' lo' f) (hy : y.cls ≠ "java/lang/invoke/MethodHandle" ∧ y.cls ≠ "java/lang/invoke/VarHandle" ∧ (parseMethodDescriptor y.desc).map (fun d => d.parameters.length) = some n)
    (w1 : Cond.methodLink own idx y ∈ am_tb) (w2 : Cond.instanceMethod y ∈ am_tb) (w3 : Cond.initialized y.cls ∈ am_tb) (w4 : Cond.code y bytes maxL rt ∈ am_tb) (w5 : Cond.selects "java/lang/String" y y ∈ am_tb) (hfr : fr' + 1 ≤ fr) (hlo : 8 + (maxL + 11) + lo' ≤ lo) (hdg : decode cc pc = .ok (.invokevirtual idx, 3)) (h : am_V l cc nL own EC fr lo (pc + 3) k) : am_V l cc nL own EC fr lo pc (c_callT n f k) :=
  ⟨mo_callT hM.1 h.1, fun X G S0 fin e C E => am_callT C (hT X G S0 fin C E) (by rw [e]; exact hM) hy w1 w2 w3 w4 w5 hfr hlo hdg (h.2 X G S0 fin e C E)⟩
theorem av_callSN {y : MethodName} {bytes : ByteArray} {maxL fr' lo' idx n : Nat} {host : String} {rt : Option FieldType} {f : am_F} (hM : am_M l y bytes maxL rt fr' lo' f) (hy : y.cls ≠ "java/lang/invoke/MethodHandle" ∧ y.cls ≠ "java/lang/invoke/VarHandle" ∧ (parseMethodDescriptor y.desc).map (fun d => d.parameters.length) = some n)
    (w1 : (own, idx, y, host) ∈ am_nst) (w2 : Cond.static y ∈ am_tb) (w3 : Cond.initialized y.cls ∈ am_tb) (w4 : Cond.code y bytes maxL rt ∈ am_tb) (hfr : fr' + 1 ≤ fr) (hlo : 8 + (maxL + 11) + lo' ≤ lo) (hdg : decode cc pc = .ok (.invokestatic idx, 3)) (h : am_V l cc nL own EC fr lo (pc + 3) k) : am_V l cc nL own EC fr lo pc (c_callSN n f k) :=
  ⟨mo_callSN hM.1 h.1, fun X G S0 fin e C E => am_callSN C (by rw [e]; exact hM) hy w1 w2 w3 w4 hfr hlo hdg (h.2 X G S0 fin e C E)⟩
theorem av_callIN {y : MethodName} {bytes : ByteArray} {maxL fr' lo' idx n : Nat} {host : String} {f : am_F} (hM : am_M l y bytes maxL none fr' lo' f) (hy1 : y.name = "<init>") (hy : y.cls ≠ "java/lang/invoke/MethodHandle" ∧ y.cls ≠ "java/lang/invoke/VarHandle" ∧ (parseMethodDescriptor y.desc).map (fun d => d.parameters.length) = some n)
    (w1 : (own, idx, y, host) ∈ am_nst) (w2 : Cond.instanceMethod y ∈ am_tb) (w3 : Cond.initialized y.cls ∈ am_tb) (w4 : Cond.code y bytes maxL none ∈ am_tb) (hfr : fr' + 1 ≤ fr) (hlo : 8 + (maxL + 11) + lo' ≤ lo) (hdg : decode cc pc = .ok (.invokespecial idx, 3)) (h : am_V l cc nL own EC fr lo (pc + 3) k) : am_V l cc nL own EC fr lo pc (c_callI n f k) :=
  ⟨mo_callI hM.1 h.1, fun X G S0 fin e C E => am_callIN C (by rw [e]; exact hM) hy1 hy w1 w2 w3 w4 hfr hlo hdg (h.2 X G S0 fin e C E)⟩
/-- another am_M of the same method: more room; nothing -/
theorem am_M.none {y : MethodName} {bytes : ByteArray} {maxL : Nat} {rt : Option FieldType} : am_M l y bytes maxL rt fr lo (fun _ _ => Option.none) :=
  ⟨fun As S fin h => (nomatch (show (Option.none : Option (am_O × am_S)) = some fin from h)), fun G As S fin h => (nomatch (show (Option.none : Option (am_O × am_S)) = some fin from h))⟩
end AVS
