/-! PIECES THAT TOUCH THE HEAP -/
def am_CI (ci : Nat) (r : vw_C) : Prop := vwCl[ci]? = some r ∧ ci < 12 ∧ (∀ w ∈ u_ws r.1 r.2.1 r.2.2, w ∈ am_tb) ∧ (∃ ty : Nat → FieldType, ∀ k, k < r.2.2 → parseFieldDescriptor (r.2.1 k).2.2.1 = some (ty k) ∧ defaultValue (ty k) = if am_ft ci k = 2 then .null else .int 0) ∧
  (∀ a, a < r.2.2 → ∀ b, b < r.2.2 → a ≠ b → (r.2.1 a).2.1 ≠ (r.2.1 b).2.1)
theorem am_CI.nf {ci : Nat} {r : vw_C} (h : am_CI ci r) : am_nf ci = r.2.2 := by unfold am_nf; rw [h.1]; rfl
theorem am_at_obj {G : am_G} {S : am_S} {H : Heap} {a ci : Nat} (hR : am_R G S H) (hci : ci < 12) (ha : am_k S a = ci) : (100 ≤ a ∧ a < am_n S) ∧ va_P (am_D G) vwCl [(am_L G a, .inr (ci, am_ob G S a))] H := by
  obtain ⟨h1, h2⟩ := hR.2.2.2 a (by omega)
  refine ⟨h1, fun k q hk => ?_⟩
  have hz : k < 1 := (List.getElem?_eq_some_iff.mp hk).1
  rw [show k = 0 by omega] at hk
  cases hk
  have e : am_e G S a = .inr (ci, am_ob G S a) := by unfold am_e; rw [if_pos (by omega), ha]
  rw [e] at h2
  exact h2
theorem am_at_int {G : am_G} {S : am_S} {H : Heap} {a : Nat} (hR : am_R G S H) (ha : am_k S a = 20) : (100 ≤ a ∧ a < am_n S) ∧ va_P (am_D G) vwCl [(am_L G a, .inl (am_cl G 20, am_l S a, .inl (am_i S a)))] H := by
  obtain ⟨h1, h2⟩ := hR.2.2.2 a (by omega)
  refine ⟨h1, fun k q hk => ?_⟩
  have hz : k < 1 := (List.getElem?_eq_some_iff.mp hk).1
  rw [show k = 0 by omega] at hk
  cases hk
  have e : am_e G S a = .inl (am_cl G 20, am_l S a, .inl (am_i S a)) := by unfold am_e; rw [if_neg (by omega), if_pos ha]
  rw [e] at h2
  exact h2
theorem am_at_long {G : am_G} {S : am_S} {H : Heap} {a : Nat} (hR : am_R G S H) (ha : am_k S a = 21) : (100 ≤ a ∧ a < am_n S) ∧ va_P (am_D G) vwCl [(am_L G a, .inl (am_cl G 21, am_l S a, .inr (.inl (am_j S a))))] H := by
  obtain ⟨h1, h2⟩ := hR.2.2.2 a (by omega)
  refine ⟨h1, fun k q hk => ?_⟩
  have hz : k < 1 := (List.getElem?_eq_some_iff.mp hk).1
  rw [show k = 0 by omega] at hk
  cases hk
  have e : am_e G S a = .inl (am_cl G 21, am_l S a, .inr (.inl (am_j S a))) := by unfold am_e; rw [if_neg (by omega), if_neg (by omega), if_pos ha]
  rw [e] at h2
  exact h2
theorem am_at_ref {G : am_G} {S : am_S} {H : Heap} {a kd : Nat} (hR : am_R G S H) (hk1 : 22 ≤ kd) (hk2 : kd < 25) (ha : am_k S a = kd) : (100 ≤ a ∧ a < am_n S) ∧ va_P (am_D G) vwCl [(am_L G a, .inl (am_cl G kd, am_l S a, .inr (.inr (.inr (.inr (fun j => (am_r S a j).map (am_L G)))))))] H := by
  obtain ⟨h1, h2⟩ := hR.2.2.2 a (by omega)
  refine ⟨h1, fun k q hk => ?_⟩
  have hz : k < 1 := (List.getElem?_eq_some_iff.mp hk).1
  rw [show k = 0 by omega] at hk
  cases hk
  have e : am_e G S a = .inl (am_cl G kd, am_l S a, .inr (.inr (.inr (.inr (fun j => (am_r S a j).map (am_L G)))))) := by unfold am_e; rw [if_neg (by omega), if_neg (by omega), if_neg (by omega), ha]
  rw [e] at h2
  exact h2
theorem am_in {i : Int32} {n : Nat} (h : 0 ≤ i.toInt ∧ i.toInt < n) : vp_in i n := vp_in_iff.mpr h
def c_geti (ci j : Nat) (k : am_K) : am_K := fun lv st S => match st with
  | .ref a :: r => if am_k S a = ci then k lv (.int (am_i S a j) :: r) S else none
  | _ => none
def c_getr (ci j : Nat) (k : am_K) : am_K := fun lv st S => match st with
  | .ref a :: r => if am_k S a = ci then k lv (va_rf (am_r S a j) :: r) S else none
  | _ => none
def c_puti (ci j : Nat) (k : am_K) : am_K := fun lv st S => match st with
  | .int x :: .ref a :: r => if am_k S a = ci then k lv r (am_putI S a j x) else none
  | _ => none
def c_putz (ci j : Nat) (k : am_K) : am_K := fun lv st S => match st with
  | .int x :: .ref a :: r => if am_k S a = ci ∧ (x = 0 ∨ x = 1) then k lv r (am_putI S a j x) else none
  | _ => none
def c_putr (ci j : Nat) (k : am_K) : am_K := fun lv st S => match st with
  | .ref b :: .ref a :: r => if am_k S a = ci then k lv r (am_putR S a j (some b)) else none
  | _ => none
def c_ial (k : am_K) : am_K := fun lv st S => match st with
  | .int i :: .ref a :: r => if am_k S a = 20 ∧ 0 ≤ i.toInt ∧ i.toInt < am_l S a then k lv (.int (am_i S a i.toNatClampNeg) :: r) S else none
  | _ => none
def c_ias (k : am_K) : am_K := fun lv st S => match st with
  | .int x :: .int i :: .ref a :: r => if am_k S a = 20 ∧ 0 ≤ i.toInt ∧ i.toInt < am_l S a then k lv r (am_putI S a i.toNatClampNeg x) else none
  | _ => none
def c_lal (k : am_K) : am_K := fun lv st S => match st with
  | .int i :: .ref a :: r => if am_k S a = 21 ∧ 0 ≤ i.toInt ∧ i.toInt < am_l S a then k lv (.long (am_j S a i.toNatClampNeg) :: r) S else none
  | _ => none
def c_las (k : am_K) : am_K := fun lv st S => match st with
  | .long x :: .int i :: .ref a :: r => if am_k S a = 21 ∧ 0 ≤ i.toInt ∧ i.toInt < am_l S a then k lv r (am_putJ S a i.toNatClampNeg x) else none
  | _ => none
def c_aal (kd : Nat) (k : am_K) : am_K := fun lv st S => match st with
  | .int i :: .ref a :: r => if am_k S a = kd ∧ 0 ≤ i.toInt ∧ i.toInt < am_l S a then k lv (va_rf (am_r S a i.toNatClampNeg) :: r) S else none
  | _ => none
-- a store of an object of class ci into an array of kind kd
def c_aas (kd ci : Nat) (k : am_K) : am_K := fun lv st S => match st with
  | .ref b :: .int i :: .ref a :: r => if am_k S a = kd ∧ am_k S b = ci ∧ 0 ≤ i.toInt ∧ i.toInt < am_l S a then k lv r (am_putR S a i.toNatClampNeg (some b)) else none
  | _ => none
abbrev am_isT (b : Nat) : Prop := 1 ≤ b ∧ b < 33
-- a store of a text into an array of texts
def c_aast (k : am_K) : am_K := fun lv st S => match st with
  | .ref b :: .int i :: .ref a :: r => if am_k S a = 24 ∧ am_isT b ∧ 0 ≤ i.toInt ∧ i.toInt < am_l S a then k lv r (am_putR S a i.toNatClampNeg (some b)) else none
  | _ => none
def c_alen (k : am_K) : am_K := fun lv st S => match st with
  | .ref a :: r => if 20 ≤ am_k S a ∧ am_k S a < 25 then k lv (.int (nI (am_l S a)) :: r) S else none
  | _ => none
def c_new (ci : Nat) (k : am_K) : am_K := fun lv st S => k lv (.ref (am_n S) :: st) (am_new S ci 0 (am_nf ci))
def c_newa (kd : Nat) (k : am_K) : am_K := fun lv st S => match st with
  | .int n :: r => if 0 ≤ n.toInt ∧ n.toInt ≤ 60000 then k lv (.ref (am_n S) :: r) (am_new S kd n.toNatClampNeg n.toNatClampNeg) else none
  | _ => none
def am_cpy (S : am_S) (a sp b dp n : Nat) : am_S := am_row S b (va_cpy (am_i S a) (am_i S b) sp dp n)
def c_copy (k : am_K) : am_K := fun lv st S => match st with
  | .int n :: .int dp :: .ref b :: .int sp :: .ref a :: r =>
    if am_k S a = 20 ∧ am_k S b = 20 ∧ 0 ≤ sp.toInt ∧ 0 ≤ dp.toInt ∧ 0 ≤ n.toInt ∧ sp.toInt + n.toInt ≤ am_l S a ∧ dp.toInt + n.toInt ≤ am_l S b then (if (r.map (fun v => v.category)).sum ≤ 8 then k lv r (am_cpy S a sp.toNatClampNeg b dp.toNatClampNeg n.toNatClampNeg) else none) else none
  | _ => none
section AM2
variable {X : am_X} {cc : ByteArray} {nL : Nat} {own : String} {G : am_G} {S0 : am_S} {fin : am_O × am_S} {fr lo pc : Nat} {k k1 k2 : am_K}
theorem am_geti (C : am_C X cc nL own G S0 fin.2 fr lo) {ci j idx : Nat} {r : vw_C} (hr : am_CI ci r) (hj : j < r.2.2) (hf : am_ft ci j ≠ 2) (hl : Cond.fieldLink own idx (r.2.1 j).1 (r.2.1 j).2.1 (r.2.1 j).2.2.1 ∈ am_tb)
    (hdg : decode cc pc = .ok (.getfield idx, 3)) (h : am_W X G S0 fin nL (pc + 3) k) : am_W X G S0 fin nL pc (c_geti ci j k) := by
  intro lv st S hk
  dsimp only [c_geti] at hk
  split at hk
  next a rr =>
    split at hk
    next hc =>
      obtain ⟨h1, h2⟩ := h _ _ _ hk
      refine ⟨h1, fun hle H ls locs hR hl1 hb => ?_⟩
      obtain ⟨ha, hP⟩ := am_at_obj hR hr.2.1 hc
      refine va_get C.1 C.2.1 C.2.2.2.2.1 hr.2.2.1 C.2.2.2.1 C.2.2.2.2.2.1.1 hP 0 rfl hr.1 j hj (C.2.2.2.2.1 _ hl) (fun _ h9 => h9) (v := .int (am_i S a j)) ?_ hdg (h2 hle H ls locs hR hl1 hb)
      rw [am_ob_get (by rw [hc, hr.nf]; exact hj)]
      unfold am_fv
      rw [hc, if_neg hf]
    next => cases hk
  next => cases hk
theorem am_getr (C : am_C X cc nL own G S0 fin.2 fr lo) {ci j idx : Nat} {r : vw_C} (hr : am_CI ci r) (hj : j < r.2.2) (hf : am_ft ci j = 2) (hl : Cond.fieldLink own idx (r.2.1 j).1 (r.2.1 j).2.1 (r.2.1 j).2.2.1 ∈ am_tb)
    (hdg : decode cc pc = .ok (.getfield idx, 3)) (h : am_W X G S0 fin nL (pc + 3) k) : am_W X G S0 fin nL pc (c_getr ci j k) := by
  intro lv st S hk
  dsimp only [c_getr] at hk
  split at hk
  next a rr =>
    split at hk
    next hc =>
      obtain ⟨h1, h2⟩ := h _ _ _ hk
      refine ⟨h1, fun hle H ls locs hR hl1 hb => ?_⟩
      obtain ⟨ha, hP⟩ := am_at_obj hR hr.2.1 hc
      refine va_get C.1 C.2.1 C.2.2.2.2.1 hr.2.2.1 C.2.2.2.1 C.2.2.2.2.2.1.1 hP 0 rfl hr.1 j hj (C.2.2.2.2.1 _ hl) (fun _ h9 => h9) (v := am_v G (va_rf (am_r S a j))) ?_ hdg (h2 hle H ls locs hR hl1 hb)
      rw [am_ob_get (by rw [hc, hr.nf]; exact hj)]
      unfold am_fv
      rw [hc, if_pos hf, am_v_rf]
    next => cases hk
  next => cases hk
/-- a store into a field -/
theorem am_putg (C : am_C X cc nL own G S0 fin.2 fr lo) {ci j idx a cells slots : Nat} {r : vw_C} (hr : am_CI ci r) (hj : j < r.2.2) (hl : Cond.fieldLink own idx (r.2.1 j).1 (r.2.1 j).2.1 (r.2.1 j).2.2.1 ∈ am_tb)
    {ty : FieldType} {v : Value} (hd : parseFieldDescriptor (r.2.1 j).2.2.1 = some ty) (hn : narrow ty v = v) (hv : fits ty v = true) (hfin : (r.2.1 j).2.2.2 = false ∨ ((r.2.1 j).2.2.2 = true ∧ (xh X).name = "<init>" ∧ (r.2.1 j).1 = own))
    (hdg : decode cc pc = .ok (.putfield idx, 3)) {S S' : am_S} {H : Heap} {ls : Array Slot} {locs : List Loc} {rest : List Value} (ha : am_k S a = ci) (hR : am_R G S H) (hS' : am_n S' = am_n S) (hk : am_k S' = am_k S) (he : ∀ b, b ≠ a → am_k S b < 50 → am_e G S' b = am_e G S b)
    (hf : ∀ q, am_fv G S' a q = if q = j then v else am_fv G S a q) (hb : ∀ q ∈ locs, am_B G ≤ q.base)
    (kk : ∀ (H' : Heap) (locs' : List Loc), am_R G S' H' → (∀ q ∈ locs', am_B G ≤ q.base) → am_w X H' locs' cells slots (F0 (xm X) (pc + 3) ls rest)) : am_w X H locs cells slots (F0 (xm X) pc ls (v :: .ref (am_L G a) :: rest)) := by
  have hts := C.2.2.2.2.1
  have hown := C.2.2.2.1
  have hK := C.2.2.2.2.2.1.1
  obtain ⟨had, hP⟩ := am_at_obj hR hr.2.1 ha
  obtain ⟨tyf, htyf⟩ := hr.2.2.2.1
  have hap := va_apart (own := own) hts hr.2.2.1 tyf (fun q hq => (htyf q hq).1) hr.2.2.2.2 hK hr.1
  obtain ⟨r', h1, cell, q1, q2, q3, q4⟩ := hP 0 _ rfl
  have hrr : r' = r := Option.some.inj (h1.symm.trans hr.1)
  subst hrr
  obtain ⟨hSl, hfc, kC, hkC, hkind⟩ := hK.1 ci _ hr.1
  obtain ⟨cf, kf, fi, f, hi, hsl⟩ := hSl j hj
  have hst := (u_facts hfc hkC (u_lays hts hr.2.2.1 hj) hi).1
  have hlay := hts _ (hr.2.2.1 _ (u_in_lay hj))
  have hLa := am_L_ge (G := G) had.1
  have fini : ∀ H' : Heap, H'[am_L G a]? = some (cell.setSlot f.slot v) → H'.size = H.size → (∀ q : Nat, q ≠ am_L G a → H'[q]? = H[q]?) → am_w X H' (locs ++ [⟨am_L G a, f.slot⟩]) cells slots (F0 (xm X) (pc + 3) ls rest) := by
    intro H' e1 e2 e3
    refine kk H' _ (hR.write had hS' hk he e2 e3 ?_) ?_
    · have e : am_e G S' a = .inr (ci, am_ob G S' a) := by unfold am_e; rw [hk, if_pos (by rw [ha]; exact hr.2.1), ha]
      rw [e]
      have e1' : H'[am_L G a]? = some (cell.setSlot ((am_D G).2 ci j) v) := by rw [← hsl]; exact e1
      refine ⟨r', hr.1, t_OB.to (V := updV (vp_V (am_ob G S a)) j v) ⟨cell.setSlot ((am_D G).2 ci j) v, e1', q2, q3, t_set q4 hap hj v⟩ (fun q hq => ?_)⟩
      rw [am_ob_V (by rw [hk, ha, hr.nf]; exact hq), hf q]
      unfold updV
      by_cases hqj : q = j
      · rw [if_pos hqj, if_pos hqj]
      · rw [if_neg hqj, if_neg hqj]
        exact am_ob_V (by rw [ha, hr.nf]; exact hq)
    · intro z hz
      rcases List.mem_append.mp hz with h9 | h9
      · exact hb z h9
      · rw [List.mem_singleton.mp h9]
        show am_B G ≤ am_L G a
        omega
  rcases hfin with hfin | ⟨hfin, hin2, hdecl⟩
  · unfold u_lay at hlay
    rw [if_neg (by rw [hfin]; decide)] at hlay
    have h6 := u_store hfc hkC hkind hlay hi hd hn hv
    exact W.putK C.1 C.2.1 (f := f) ⟨hown, hts _ hl, ⟨_, _, _, hi⟩, hst⟩ (by rw [q2]; exact h6) q1 q3 (by rw [hsl]; exact k2_hasslot (q4 j hj)) rfl rfl hdg fini
  · unfold u_lay at hlay
    rw [if_pos hfin] at hlay
    have hcf : (xm X).cls = cf := by
      obtain ⟨_, _, c', _, _, _, -, -, hf', -, -, -, hown2, -⟩ := Cond.laysFinal_spec hlay
      have e1 : c' = cf := by have := hi.symm.trans hf'; simp at this; exact this.1.symm
      rw [hdecl] at hown2
      rw [← e1]; exact Option.some.inj (hown.symm.trans hown2)
    have h6 := u_fits hfc hkC hkind (Or.inr hlay) hi hd hn hv
    exact W.putFinK C.1 C.2.1 hown (hts _ hl) hi hst hcf hin2 (by rw [q2]; exact h6) q1 q3 (by rw [hsl]; exact k2_hasslot (q4 j hj)) rfl rfl hdg fini
theorem am_puti (C : am_C X cc nL own G S0 fin.2 fr lo) {ci j idx : Nat} {r : vw_C} (hr : am_CI ci r) (hj : j < r.2.2) (hft : am_ft ci j ≠ 2) (hl : Cond.fieldLink own idx (r.2.1 j).1 (r.2.1 j).2.1 (r.2.1 j).2.2.1 ∈ am_tb)
    (hd : parseFieldDescriptor (r.2.1 j).2.2.1 = some .int) (hfin : (r.2.1 j).2.2.2 = false ∨ ((r.2.1 j).2.2.2 = true ∧ (xh X).name = "<init>" ∧ (r.2.1 j).1 = own))
    (hdg : decode cc pc = .ok (.putfield idx, 3)) (h : am_W X G S0 fin nL (pc + 3) k) : am_W X G S0 fin nL pc (c_puti ci j k) := by
  intro lv st S hk
  dsimp only [c_puti] at hk
  split at hk
  next x a rr =>
    split at hk
    next hc =>
      obtain ⟨h1, h2⟩ := h _ _ _ hk
      refine ⟨h1, fun hle H ls locs hR hl1 hb => ?_⟩
      refine am_putg C hr hj hl (v := .int x) hd rfl rfl hfin hdg hc hR (S' := am_putI S a j x) rfl rfl (fun b hne _ => am_e_row hne) (fun q => ?_) hb (fun H' locs' hR' hb' => h2 hle H' ls locs' hR' hl1 hb')
      unfold am_fv
      show (if am_ft (am_k S a) q = 2 then va_rf (Option.map (am_L G) (am_r S a q)) else .int (va_up (am_i S) a (va_up (am_i S a) j x) a q)) = _
      rw [va_up_self]
      by_cases hq : q = j
      · rw [if_pos hq, hq, hc, if_neg hft, va_up_self]
      · rw [if_neg hq, va_up_ne _ _ hq]
    next => cases hk
  next => cases hk
theorem am_putz (C : am_C X cc nL own G S0 fin.2 fr lo) {ci j idx : Nat} {r : vw_C} (hr : am_CI ci r) (hj : j < r.2.2) (hft : am_ft ci j ≠ 2) (hl : Cond.fieldLink own idx (r.2.1 j).1 (r.2.1 j).2.1 (r.2.1 j).2.2.1 ∈ am_tb)
    (hd : parseFieldDescriptor (r.2.1 j).2.2.1 = some .boolean) (hfin : (r.2.1 j).2.2.2 = false ∨ ((r.2.1 j).2.2.2 = true ∧ (xh X).name = "<init>" ∧ (r.2.1 j).1 = own))
    (hdg : decode cc pc = .ok (.putfield idx, 3)) (h : am_W X G S0 fin nL (pc + 3) k) : am_W X G S0 fin nL pc (c_putz ci j k) := by
  intro lv st S hk
  dsimp only [c_putz] at hk
  split at hk
  next x a rr =>
    split at hk
    next hc =>
      obtain ⟨hc, hx⟩ := hc
      obtain ⟨h1, h2⟩ := h _ _ _ hk
      refine ⟨h1, fun hle H ls locs hR hl1 hb => ?_⟩
      refine am_putg C hr hj hl (v := .int x) hd (by rcases hx with rfl | rfl <;> decide) (by rcases hx with rfl | rfl <;> decide) hfin hdg hc hR (S' := am_putI S a j x) rfl rfl (fun b hne _ => am_e_row hne) (fun q => ?_) hb (fun H' locs' hR' hb' => h2 hle H' ls locs' hR' hl1 hb')
      unfold am_fv
      show (if am_ft (am_k S a) q = 2 then va_rf (Option.map (am_L G) (am_r S a q)) else .int (va_up (am_i S) a (va_up (am_i S a) j x) a q)) = _
      rw [va_up_self]
      by_cases hq : q = j
      · rw [if_pos hq, hq, hc, if_neg hft, va_up_self]
      · rw [if_neg hq, va_up_ne _ _ hq]
    next => cases hk
  next => cases hk
theorem am_putr (C : am_C X cc nL own G S0 fin.2 fr lo) {ci j idx : Nat} {r : vw_C} (hr : am_CI ci r) (hj : j < r.2.2) (hft : am_ft ci j = 2) (hl : Cond.fieldLink own idx (r.2.1 j).1 (r.2.1 j).2.1 (r.2.1 j).2.2.1 ∈ am_tb) {ty : FieldType}
    (hd : parseFieldDescriptor (r.2.1 j).2.2.1 = some ty) (hn : ∀ a : Nat, narrow ty (.ref a) = .ref a ∧ fits ty (.ref a) = true) (hfin : (r.2.1 j).2.2.2 = false ∨ ((r.2.1 j).2.2.2 = true ∧ (xh X).name = "<init>" ∧ (r.2.1 j).1 = own))
    (hdg : decode cc pc = .ok (.putfield idx, 3)) (h : am_W X G S0 fin nL (pc + 3) k) : am_W X G S0 fin nL pc (c_putr ci j k) := by
  intro lv st S hk
  dsimp only [c_putr] at hk
  split at hk
  next x a rr =>
    split at hk
    next hc =>
      obtain ⟨h1, h2⟩ := h _ _ _ hk
      refine ⟨h1, fun hle H ls locs hR hl1 hb => ?_⟩
      refine am_putg C hr hj hl (v := .ref (am_L G x)) hd (hn _).1 (hn _).2 hfin hdg hc hR (S' := am_putR S a j (some x)) rfl rfl (fun b hne _ => am_e_putR hne) (fun q => ?_) hb (fun H' locs' hR' hb' => h2 hle H' ls locs' hR' hl1 hb')
      unfold am_fv
      show (if am_ft (am_k S a) q = 2 then va_rf (Option.map (am_L G) (va_up (am_r S) a (va_up (am_r S a) j (some x)) a q)) else .int (am_i S a q)) = _
      rw [va_up_self]
      by_cases hq : q = j
      · rw [if_pos hq, hq, hc, if_pos hft, va_up_self]
        rfl
      · rw [if_neg hq, va_up_ne _ _ hq]
    next => cases hk
  next => cases hk
theorem am_iaload (C : am_C X cc nL own G S0 fin.2 fr lo) (hdg : decode cc pc = .ok (.iaload, 1)) (h : am_W X G S0 fin nL (pc + 1) k) : am_W X G S0 fin nL pc (c_ial k) := by
  intro lv st S hk
  dsimp only [c_ial] at hk
  split at hk
  next i a rr =>
    split at hk
    next hc =>
      obtain ⟨h1, h2⟩ := h _ _ _ hk
      refine ⟨h1, fun hle H ls locs hR hl1 hb => ?_⟩
      obtain ⟨ha, hP⟩ := am_at_int hR hc.1
      exact va_iald C.1 C.2.1 C.2.2.2.2.2.1.1 hP 0 0 rfl rfl (am_in hc.2) hdg (h2 hle H ls locs hR hl1 hb)
    next => cases hk
  next => cases hk
theorem am_laload (C : am_C X cc nL own G S0 fin.2 fr lo) (hdg : decode cc pc = .ok (.laload, 1)) (h : am_W X G S0 fin nL (pc + 1) k) : am_W X G S0 fin nL pc (c_lal k) := by
  intro lv st S hk
  dsimp only [c_lal] at hk
  split at hk
  next i a rr =>
    split at hk
    next hc =>
      obtain ⟨h1, h2⟩ := h _ _ _ hk
      refine ⟨h1, fun hle H ls locs hR hl1 hb => ?_⟩
      obtain ⟨ha, hP⟩ := am_at_long hR hc.1
      exact va_lald C.1 C.2.1 C.2.2.2.2.2.1.1 hP 0 1 rfl rfl (am_in hc.2) hdg (h2 hle H ls locs hR hl1 hb)
    next => cases hk
  next => cases hk
theorem am_aaload (C : am_C X cc nL own G S0 fin.2 fr lo) {kd t0 : Nat} {Cn : String} (hk1 : 22 ≤ kd) (hk2 : kd < 25) (ht : (am_ty G)[t0]? = some (am_cl G kd, .object Cn)) (hdg : decode cc pc = .ok (.aaload, 1)) (h : am_W X G S0 fin nL (pc + 1) k) : am_W X G S0 fin nL pc (c_aal kd k) := by
  intro lv st S hk
  dsimp only [c_aal] at hk
  split at hk
  next i a rr =>
    split at hk
    next hc =>
      obtain ⟨h1, h2⟩ := h _ _ _ hk
      refine ⟨h1, fun hle H ls locs hR hl1 hb => ?_⟩
      obtain ⟨ha, hP⟩ := am_at_ref hR hk1 hk2 hc.1
      have h9 := h2 hle H ls locs hR hl1 hb
      rw [List.map_cons, am_v_rf] at h9
      exact va_aldq C.1 C.2.1 C.2.2.2.2.2.1.1 hP 0 t0 rfl ht (am_in hc.2) hdg h9
    next => cases hk
  next => cases hk
theorem am_arraylength (C : am_C X cc nL own G S0 fin.2 fr lo) (hdg : decode cc pc = .ok (.arraylength, 1)) (h : am_W X G S0 fin nL (pc + 1) k) : am_W X G S0 fin nL pc (c_alen k) := by
  intro lv st S hk
  dsimp only [c_alen] at hk
  split at hk
  next a rr =>
    split at hk
    next hc =>
      obtain ⟨h1, h2⟩ := h _ _ _ hk
      refine ⟨h1, fun hle H ls locs hR hl1 hb => ?_⟩
      have h9 := h2 hle H ls locs hR hl1 hb
      rcases (by omega : am_k S a = 20 ∨ am_k S a = 21 ∨ am_k S a = 22 ∨ am_k S a = 23 ∨ am_k S a = 24) with e | e | e | e | e
      · exact va_alen C.1 C.2.1 C.2.2.2.2.2.1.1 (am_at_int hR e).2 0 0 rfl rfl rfl hdg h9
      · exact va_alen C.1 C.2.1 C.2.2.2.2.2.1.1 (am_at_long hR e).2 0 1 rfl rfl rfl hdg h9
      · exact va_alen C.1 C.2.1 C.2.2.2.2.2.1.1 (am_at_ref hR (by omega) (by omega) e).2 0 2 rfl rfl rfl hdg h9
      · exact va_alen C.1 C.2.1 C.2.2.2.2.2.1.1 (am_at_ref hR (by omega) (by omega) e).2 0 3 rfl rfl rfl hdg h9
      · exact va_alen C.1 C.2.1 C.2.2.2.2.2.1.1 (am_at_ref hR (by omega) (by omega) e).2 0 4 rfl rfl rfl hdg h9
    next => cases hk
  next => cases hk
theorem am_locs {G : am_G} {locs : List Loc} {a j : Nat} (hb : ∀ q ∈ locs, am_B G ≤ q.base) (ha : 100 ≤ a) : ∀ q ∈ locs ++ [⟨am_L G a, j⟩], am_B G ≤ q.base := by
  intro z hz
  rcases List.mem_append.mp hz with h9 | h9
  · exact hb z h9
  · rw [List.mem_singleton.mp h9]
    show am_B G ≤ am_L G a
    rw [am_L_ge ha]
    omega
theorem am_iastore (C : am_C X cc nL own G S0 fin.2 fr lo) (hdg : decode cc pc = .ok (.iastore, 1)) (h : am_W X G S0 fin nL (pc + 1) k) : am_W X G S0 fin nL pc (c_ias k) := by
  intro lv st S hk
  dsimp only [c_ias] at hk
  split at hk
  next x i a rr =>
    split at hk
    next hc =>
      obtain ⟨h1, h2⟩ := h _ _ _ hk
      refine ⟨h1, fun hle H ls locs hR hl1 hb => ?_⟩
      obtain ⟨ha, hP⟩ := am_at_int hR hc.1
      have hin : vp_in i (am_l S a) := am_in hc.2
      refine W.iast C.1 C.2.1 (hP 0 _ rfl) ((C.2.2.2.2.2.1.1.2 0 _ rfl).1 (am_l S a) (fun j => .int (am_i S a j))) (fun q => by cases q) (by show ¬ (i < 0 ∨ (arrV _ _ _).slots.size ≤ _); rw [arrV_size]; exact hin) rfl rfl hdg fun H1 e z oq => ?_
      refine h2 hle H1 ls _ (hR.write (S' := am_putI S a i.toNatClampNeg x) ha rfl rfl (fun b hne _ => am_e_row hne) z oq ?_) hl1 (am_locs hb ha.1)
      have e1 : am_e G (am_putI S a i.toNatClampNeg x) a = .inl (am_cl G 20, am_l S a, .inl (va_up (am_i S a) i.toNatClampNeg x)) := by
        unfold am_e
        show (if am_k S a < 12 then _ else if am_k S a = 20 then _ else _) = _
        rw [if_neg (by omega), if_pos hc.1]
        rw [show am_i (am_putI S a i.toNatClampNeg x) a = va_up (am_i S a) i.toNatClampNeg x from va_up_self _ _ _]
        rfl
      rw [e1]
      show H1[am_L G a]? = some (vp_cell _ _)
      rw [e]
      rw [vp_cell_i, vp_cell_i, arrV_store]
      congr 2
      funext q
      by_cases hq : q = i.toNatClampNeg
      · subst hq
        simp [updV, va_up]
      · simp [updV, va_up, hq]
    next => cases hk
  next => cases hk
theorem am_lastore (C : am_C X cc nL own G S0 fin.2 fr lo) (hdg : decode cc pc = .ok (.lastore, 1)) (h : am_W X G S0 fin nL (pc + 1) k) : am_W X G S0 fin nL pc (c_las k) := by
  intro lv st S hk
  dsimp only [c_las] at hk
  split at hk
  next x i a rr =>
    split at hk
    next hc =>
      obtain ⟨h1, h2⟩ := h _ _ _ hk
      refine ⟨h1, fun hle H ls locs hR hl1 hb => ?_⟩
      obtain ⟨ha, hP⟩ := am_at_long hR hc.1
      have hin : vp_in i (am_l S a) := am_in hc.2
      refine W.last C.1 C.2.1 (hP 0 _ rfl) ((C.2.2.2.2.2.1.1.2 1 _ rfl).1 (am_l S a) (fun j => .long (am_j S a j))) (fun q => by cases q) (by show ¬ (i < 0 ∨ (arrV _ _ _).slots.size ≤ _); rw [arrV_size]; exact hin) rfl rfl hdg fun H1 e z oq => ?_
      refine h2 hle H1 ls _ (hR.write (S' := am_putJ S a i.toNatClampNeg x) ha rfl rfl (fun b hne _ => am_e_putJ hne) z oq ?_) hl1 (am_locs hb ha.1)
      have e1 : am_e G (am_putJ S a i.toNatClampNeg x) a = .inl (am_cl G 21, am_l S a, .inr (.inl (va_up (am_j S a) i.toNatClampNeg x))) := by
        unfold am_e
        show (if am_k S a < 12 then _ else if am_k S a = 20 then _ else if am_k S a = 21 then _ else _) = _
        rw [if_neg (by omega), if_neg (by omega), if_pos hc.1]
        rw [show am_j (am_putJ S a i.toNatClampNeg x) a = va_up (am_j S a) i.toNatClampNeg x from va_up_self _ _ _]
        rfl
      rw [e1]
      show H1[am_L G a]? = some (vp_cell _ _)
      rw [e]
      rw [vp_cell_l, vp_cell_l, arrV_store]
      congr 2
      funext q
      by_cases hq : q = i.toNatClampNeg
      · subst hq
        simp [updV, va_up]
      · simp [updV, va_up, hq]
    next => cases hk
  next => cases hk
end AM2
