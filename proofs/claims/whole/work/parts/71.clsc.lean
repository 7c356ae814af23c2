/-! WAYS DEPEND ON THE WALLS ALONE -/
/-- the same board, the same walls -/
def s_wl (R Q : Nat → Int32) : Prop := ∀ j, (j < 2 ∨ 784 ≤ j ∧ j < 928) → Q j = R j
theorem s_wl.rf {R : Nat → Int32} : s_wl R R := fun _ _ => rfl
theorem s_wl.tr {R Q T : Nat → Int32} (h : s_wl R Q) (k : s_wl Q T) : s_wl R T := fun j hj => (k j hj).trans (h j hj)
theorem s_wl.sy {R Q : Nat → Int32} (h : s_wl R Q) : s_wl Q R := fun j hj => (h j hj).symm
theorem s_K.wl {R Q : Nat → Int32} (h : s_K R Q) : s_wl R Q := fun j hj => h j (by omega)
theorem s_KS.wl {R Q : Nat → Int32} (h : s_KS R Q) : s_wl R Q := fun j hj => h j (by omega)
section W1
variable {R Q : Nat → Int32} {c d b t : Nat}
theorem s_wl.ok (h : s_wl R Q) : s_ok Q c ↔ s_ok R c := by
  unfold s_ok s_w s_h
  rw [h 0 (by omega), h 1 (by omega)]
theorem s_wl.fr (h : s_wl R Q) (hB : s_B R) : s_fr Q c ↔ s_fr R c := by
  constructor
  · intro q
    have k := h.ok.mp q.1
    have := s_ok_lt hB k
    exact ⟨k, by rw [← h (784 + c) (by omega)]; exact q.2⟩
  · intro q
    have := s_ok_lt hB q.1
    exact ⟨h.ok.mpr q.1, by rw [h (784 + c) (by omega)]; exact q.2⟩
theorem s_wl.nb (h : s_wl R Q) (hB : s_B R) : s_nb Q c d = s_nb R c d := by
  have e0 : s_w Q = s_w R := by
    show s_n (Q 0) = s_n (R 0)
    rw [h 0 (by omega)]
  have f : ∀ b, s_fr Q b = s_fr R b := fun b => propext (h.fr hB)
  unfold s_nb
  simp only [f, e0]
theorem s_wl.sp1 (h : s_wl R Q) (hB : s_B R) (q : s_Q) : s_sp1 Q c d q = s_sp1 R c d q := by
  unfold s_sp1
  rw [h.nb hB]
theorem s_wl.sp (h : s_wl R Q) (hB : s_B R) : ∀ (d : Nat) (q : s_Q), s_sp Q c d q = s_sp R c d q
  | 0, q => rfl
  | d + 1, q => by rw [s_sp, s_sp, s_wl.sp h hB d q, h.sp1 hB]
theorem s_wl.bfs (h : s_wl R Q) (hB : s_B R) : ∀ (f k : Nat) (q : s_Q), s_bfs Q f k q = s_bfs R f k q
  | 0, k, q => rfl
  | f + 1, k, q => by
    rw [s_bfs, s_bfs]
    split
    · rw [h.sp hB, s_wl.bfs h hB f]
    · rfl
theorem s_wl.far (h : s_wl R Q) (hB : s_B R) (t : Nat) : s_far Q t = s_far R t := by
  unfold s_far s_lay
  rw [h.bfs hB]
  have e : s_lay0 Q t = s_lay0 R t := by
    unfold s_lay0
    by_cases c : s_fr R t
    · rw [if_pos c, if_pos ((h.fr hB).mpr c)]
    · rw [if_neg c, if_neg (fun q => c ((h.fr hB).mp q))]
  rw [e]
theorem s_wl.st (h : s_wl R Q) (hB : s_B R) {F : Nat → Int32} : ∀ k i, s_st Q F c k i = s_st R F c k i
  | 0, i => rfl
  | k + 1, i => by rw [s_st, s_st, h.nb hB, s_wl.st h hB k (i + 1)]
theorem s_wl.nx (h : s_wl R Q) (hB : s_B R) : s_nx Q t c = s_nx R t c := by
  unfold s_nx
  rw [h.far hB, h.st hB]
theorem s_wl.T {S : am_S} (h : s_wl R Q) (hB : s_B R) (hT : w_T S R) : w_T S Q := by
  refine ⟨fun t D ht hD => ?_, hT.2⟩
  obtain ⟨g1, g2, g3⟩ := hT.1 t D ht hD
  refine ⟨g1, g2, g3.imp id (fun w => ⟨w.1, fun k c hc => ?_⟩)⟩
  rw [h.far hB]
  exact w.2 (h.ok.mp k) c hc
end W1
section W2
variable {S S' : am_S} {a : Nat} {R Q : Nat → Int32}
/-- all that a turn of the situation at a wants of a state -/
def w_Q (S : am_S) (a : Nat) (R : Nat → Int32) : Prop := (w_C S ∧ 151 < am_n S) ∧ (w_A S 101 ∧ w_A S a) ∧ (w_R S a R ∧ s_V R) ∧ ∃ R0, w_R S 101 R0 ∧ s_VB R0 ∧ w_T S R0 ∧ s_wl R R0
theorem w_T.J (hT : w_T S R) (ha : a = 101 ∨ a = 113) (h : w_J a S S') : w_T S' R := by
  have ek : am_k S' = am_k S := h.1.2.2.1
  have el : am_l S' = am_l S := h.1.2.2.2.1
  have er : am_r S' = am_r S := h.1.2.2.2.2.2.1
  have en : am_n S' = am_n S := h.1.1
  unfold w_T w_D
  rw [ek, el, er, en]
  refine ⟨fun t D ht hD => ?_, hT.2⟩
  obtain ⟨g1, g2, g3⟩ := hT.1 t D ht hD
  refine ⟨g1, g2, ?_⟩
  rw [h.1.i (b := D) (fun q => by omega), h.1.i (b := D + 1) (fun q => by omega)]
  exact g3
theorem w_Q.J (hQ : w_Q S a R) (ha : a = 101 ∨ a = 113) (h : w_J a S S') (hR : w_R S' a Q) (hV : s_V Q) (hw : s_wl R Q) : w_Q S' a Q := by
  obtain ⟨⟨q1, q2⟩, ⟨q3, q4⟩, ⟨q5, q6⟩, R0, q7, q8, q9, q10⟩ := hQ
  have en : am_n S' = am_n S := h.1.1
  rcases ha with e | e
  · subst e
    have w0 : s_wl R0 Q := q10.sy.tr hw
    exact ⟨⟨h.1.C q1, by rw [en]; exact q2⟩, ⟨h.A q3, h.A q4⟩, ⟨hR, hV⟩, Q, hR, hV.B, w0.T (s_BWH q8.WH) (q9.J (Or.inl rfl) h), s_wl.rf⟩
  · subst e
    have hP : ∀ b, 101 ≤ b → b < 101 + 12 → ¬ (113 ≤ b ∧ b < 113 + 12) := fun b h1 h2 q => by omega
    exact ⟨⟨h.1.C q1, by rw [en]; exact q2⟩, ⟨h.1.Aa q3 hP, h.A q4⟩, ⟨hR, hV⟩, R0, h.1.Ra q7 hP, q8, q9.J (Or.inr rfl) h, hw.sy.tr q10⟩
/-- the next cell, of a situation with the walls of the present one -/
theorem y_nextQ (hQ : w_Q S a R) (ha : a = 101 ∨ a = 113) {c t : Nat} (ht : s_ok R t) (hc : s_fr R c) :
    ∃ S', fX4_nextCell w_N [.ref 129, .int (nI c), .int (nI t)] S = some (.inl (some (.int (s_nx R t c))), S') ∧ w_Q S' a R ∧ w_H S S' := by
  obtain ⟨⟨q1, q2⟩, ⟨q3, q4⟩, ⟨q5, q6⟩, R0, q7, q8, q9, q10⟩ := hQ
  have hB := s_BWH q6.B.WH
  obtain ⟨S', f1, f2, f3⟩ := y_nextCell q1 q3 q7 q8 q2 q9 (q10.ok.mpr ht) ((q10.fr hB).mpr hc)
  rw [q10.nx hB] at f1
  exact ⟨S', f1, ⟨⟨f3.cC q2 q1, by have := f3.1.1; omega⟩, ⟨f3.cA q9 q2 (Or.inl rfl) q3, f3.cA q9 q2 ha q4⟩, ⟨f3.cR q9 q2 ha q5, q6⟩, R0, f3.cR q9 q2 (Or.inl rfl) q7, q8, f2, q10⟩, f3⟩
end W2
