/-! THE CLASS READS: a picket -/
def s_addP (R : Nat → Int32) (n : Nat) (x y g d f t : Int32) : Nat → Int32 := va_up (va_up (va_up (va_up (va_up (va_up (va_up (va_up R (36 + 7 * n + 0) x) (36 + 7 * n + 1) y) (36 + 7 * n + 2) g) (36 + 7 * n + 3) d) (36 + 7 * n + 4) f) (36 + 7 * n + 5) t) (36 + 7 * n + 6) (nI 0)) 3 (nI (n + 1))
def p_picket (B : Nat → Nat) (L : Nat) (s : p_S) : p_S :=
  let s0 := if s_n (s.2.2 3) < 4 then s else p_fail s 3
  let c := p_col B L s0
  let r := p_row B L c.1
  let g := p_num B L r.1 0 4
  let d := p_num B L g.1 1 21
  let f := p_num B L d.1 0 d.2
  let t := p_num B L f.1 0 d.2
  let e := if f.2 ≤ t.2 then t.1 else p_fail t.1 4
  p_set e (if s_n (s.2.2 3) < 4 then s_addP s.2.2 (s_n (s.2.2 3)) (nI c.2) (nI r.2) (nI g.2) (nI d.2) (nI f.2) (nI t.2) else s.2.2)
section L15
variable {S S' T : am_S} {a b c o p q i j k m n t L e f κ v0 lo h ne : Nat} {P : Nat → Prop} {B : Nat → Nat} {u x y z v hi : Int32} {s s' : p_S} {R Q : Nat → Int32}
theorem p_num_set : p_num B L (p_set s Q) lo h = (p_set (p_num B L s lo h).1 Q, (p_num B L s lo h).2) := by
  have e1 : (p_set s Q).1 = s.1 := rfl
  have e2 : p_next B L (p_set s Q) = p_set (p_next B L s) Q := rfl
  have e3 : (p_set (p_next B L s) Q).2.1 = (p_next B L s).2.1 := rfl
  have e4 : ∀ (s1 : p_S) c, p_fail (p_set s1 Q) c = p_set (p_fail s1 c) Q := fun s1 c => by
    unfold p_fail
    show (if s1.1.1 = 0 then _ else _) = _
    split <;> rfl
  unfold p_num
  rw [e1, e2, e3]
  split
  · split
    · split
      · rfl
      · rw [e4]
    · rw [e4]
  · rfl
/-- a place more for a picket: what stands there is left as it is -/
theorem w_R.addP (h : w_R S a R) (hB : s_VC R) (hn : s_n (R 3) < 4) (hne : ne = s_n (R 3)) : ∃ Q, w_R (am_putI S (a + 4) 3 (nI (ne + 1))) a Q ∧ Q 3 = nI (ne + 1) ∧ ∀ j, j ≠ 3 → (j < 36 + 7 * ne ∨ 36 + 7 * ne + 7 ≤ j) → Q j = R j := by
  have b2 := hB.2.1.2
  have b3 := hB.2.2.1.2
  have b4 := hB.2.2.2.1.2
  have b7 := hB.2.2.2.2.1.2
  have b8 := hB.2.2.2.2.2.1.2
  refine ⟨fun j => if j = 3 then nI (ne + 1) else if 36 + 7 * ne ≤ j ∧ j < 36 + 7 * ne + 6 then am_i S (a + 5) (ne * 8 + (j - (36 + 7 * ne))) else if j = 36 + 7 * ne + 6 then am_i S (a + 5) (ne * 8 + 7) else R j, ?_, if_pos rfl, fun j h1 h2 => (if_neg h1).trans ((if_neg (by omega)).trans (if_neg (by omega)))⟩
  generalize hQ : (fun j => if j = 3 then nI (ne + 1) else if 36 + 7 * ne ≤ j ∧ j < 36 + 7 * ne + 6 then am_i S (a + 5) (ne * 8 + (j - (36 + 7 * ne))) else if j = 36 + 7 * ne + 6 then am_i S (a + 5) (ne * 8 + 7) else R j) = Q
  have q3 : Q 3 = nI (ne + 1) := by rw [← hQ]; exact if_pos rfl
  have qn : ∀ j, j ≠ 3 → (j < 36 + 7 * ne ∨ 36 + 7 * ne + 7 ≤ j) → Q j = R j := fun j h1 h2 => by rw [← hQ]; exact (if_neg h1).trans ((if_neg (by omega)).trans (if_neg (by omega)))
  have qa : ∀ g, g < 6 → Q (36 + 7 * ne + g) = am_i S (a + 5) (ne * 8 + g) := fun g hg => by
    rw [← hQ]
    refine (if_neg (by omega)).trans ((if_pos (by omega)).trans ?_)
    rw [show 36 + 7 * ne + g - (36 + 7 * ne) = g by omega]
  have q6 : Q (36 + 7 * ne + 6) = am_i S (a + 5) (ne * 8 + 7) := by
    rw [← hQ]
    exact (if_neg (by omega)).trans ((if_neg (by omega)).trans (if_pos rfl))
  have n3 : s_n (Q 3) = ne + 1 := by rw [q3, w_snI (by omega)]
  have iS : ∀ b g, b ≠ a + 4 → am_i (am_putI S (a + 4) 3 (nI (ne + 1))) b g = am_i S b g := fun b g hb => by rw [x_i_I, if_neg hb]
  obtain ⟨⟨a0, a1, a2, a3, a4, a5, a6⟩, ⟨e2, e3, e8, e4, e7⟩, h3, h4, h5, h6, h7, h8, h9⟩ := h
  refine ⟨⟨?_, ?_, ?_, ?_, ?_, ?_, ?_⟩, ⟨?_, ?_, ?_, ?_, ?_⟩, fun c hc2 => ?_, fun u g k1 k2 => ?_, fun u g k1 k2 => ?_, fun u k1 => ?_, fun u g k1 k2 => ?_, fun u g k1 k2 => ?_, fun u g k1 k2 => ?_⟩
  · rw [iS _ _ (by omega), qn _ (by omega) (by omega)]; exact a0
  · rw [iS _ _ (by omega), qn _ (by omega) (by omega)]; exact a1
  · rw [iS _ _ (by omega), qn _ (by omega) (by omega)]; exact a2
  · rw [iS _ _ (by omega), qn _ (by omega) (by omega)]; exact a3
  · rw [iS _ _ (by omega), qn _ (by omega) (by omega)]; exact a4
  · rw [iS _ _ (by omega), qn _ (by omega) (by omega)]; exact a5
  · rw [iS _ _ (by omega), qn _ (by omega) (by omega)]; exact a6
  · rw [iS _ _ (by omega), qn _ (by omega) (by omega)]; exact e2
  · rw [q3]; exact x_i_Is
  · rw [iS _ _ (by omega), qn _ (by omega) (by omega)]; exact e8
  · rw [iS _ _ (by omega), qn _ (by omega) (by omega)]; exact e4
  · rw [iS _ _ (by omega), qn _ (by omega) (by omega)]; exact e7
  · rw [iS _ _ (by omega), qn _ (by omega) (by omega)]; exact h3 c hc2
  · rw [qn 2 (by omega) (by omega)] at k1
    rw [iS _ _ (by omega), qn _ (by omega) (by omega)]; exact h4 u g k1 k2
  · rw [n3] at k1
    rw [iS _ _ (by omega)]
    by_cases e : u = ne
    · rw [e, qa g k2]
    · rw [qn _ (by omega) (by omega)]; exact h5 u g (by omega) k2
  · rw [n3] at k1
    rw [iS _ _ (by omega)]
    by_cases e : u = ne
    · rw [e, q6]
    · rw [qn _ (by omega) (by omega)]; exact h6 u (by omega)
  · rw [qn 8 (by omega) (by omega)] at k1
    rw [iS _ _ (by omega), qn _ (by omega) (by omega)]; exact h7 u g k1 k2
  · rw [qn 4 (by omega) (by omega)] at k1
    rw [iS _ _ (by omega), qn _ (by omega) (by omega)]; exact h8 u g k1 k2
  · rw [qn 7 (by omega) (by omega)] at k1
    rw [iS _ _ (by omega), qn _ (by omega) (by omega)]; exact h9 u g k1 k2
theorem s_VC.addP (hV : s_VC R) (hn : s_n (R 3) < 4) (h3 : Q 3 = nI (s_n (R 3) + 1)) (hj : ∀ j, j ≠ 3 → (j < 36 ∨ 64 ≤ j) → Q j = R j) : s_VC Q := by
  obtain ⟨v0, v2, v3, v4, v7, v8, v5, v9, vh, vw⟩ := hV
  unfold s_VC
  rw [h3, hj 0 (by omega) (by omega), hj 1 (by omega) (by omega), hj 2 (by omega) (by omega), hj 4 (by omega) (by omega), hj 7 (by omega) (by omega), hj 8 (by omega) (by omega), hj 5 (by omega) (by omega), hj 9 (by omega) (by omega), hj 10 (by omega) (by omega), hj 11 (by omega) (by omega)]
  exact ⟨v0, v2, s_nnI (by omega) (by omega), v4, v7, v8, v5, v9, vh, fun c hc => by rw [hj _ (by omega) (by omega)]; exact vw c hc⟩
/-- a field of a picket of the row in the making -/
theorem w_pc.putP {S0 : am_S} (H : w_pc S0 S L B s) (hn : n < s_n (s.2.2 3)) (hf : p < 6) : fX7_put w_N [.ref 117, .int (nI n), .int (nI p), .int v] S = some (.inl none, am_putI S (113 + 5) (n * 8 + p) v) ∧ w_pc S0 (am_putI S (113 + 5) (n * 8 + p) v) L B (p_set s (va_up s.2.2 (36 + 7 * n + p) v)) := by
  have hV := H.2.2.2.2.2
  have b3 := hV.2.2.1.2
  have tb := H.2.2.2.2.1.tPc H.2.2.2.1 hV
  have g := y_put (v := v) tb (r := n) (f := p) hn (by omega)
  refine ⟨g, H.row (w_J.put (by omega) (by intro q _ _ _; omega)) (H.2.2.2.2.1.putPc hV hn hf) ?_⟩
  obtain ⟨v0, v2, v3, v4, v7, v8, v5, v9, vh, vw⟩ := hV
  unfold s_VC
  simp (disch := omega) only [s_up_n]
  exact ⟨v0, v2, v3, v4, v7, v8, v5, v9, vh, vw⟩
theorem w_pc.putC {S0 : am_S} (H : w_pc S0 S L B s) (hn : n < s_n (s.2.2 3)) : fX7_put w_N [.ref 117, .int (nI n), .int (nI 7), .int v] S = some (.inl none, am_putI S (113 + 5) (n * 8 + 7) v) ∧ w_pc S0 (am_putI S (113 + 5) (n * 8 + 7) v) L B (p_set s (va_up s.2.2 (36 + 7 * n + 6) v)) := by
  have hV := H.2.2.2.2.2
  have b3 := hV.2.2.1.2
  have tb := H.2.2.2.2.1.tPc H.2.2.2.1 hV
  have g := y_put (v := v) tb (r := n) (f := 7) hn (by omega)
  refine ⟨g, H.row (w_J.put (by omega) (by intro q _ _ _; omega)) (H.2.2.2.2.1.putCc hV hn) ?_⟩
  obtain ⟨v0, v2, v3, v4, v7, v8, v5, v9, vh, vw⟩ := hV
  unfold s_VC
  simp (disch := omega) only [s_up_n]
  exact ⟨v0, v2, v3, v4, v7, v8, v5, v9, vh, vw⟩
end L15
