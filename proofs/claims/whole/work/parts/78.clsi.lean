/-! THE CLASS: a turn passes -/
section Y17
variable {S S' S2 : am_S} {x y z v : Int32} {i j o u n w hh c d b m t p np ne no a L f k D E hd j0 m0 cl : Nat} {R R' F Q : Nat → Int32} {q : s_Q} {r r4 : am_K} {lv : List (Nat × Value)}
theorem w_R.put0 (h : w_R S a R) : w_R (am_putI S a 0 v) a (va_up R 0 v) := by
  obtain ⟨⟨a0, a1, a2, a3, a4, a5, a6⟩, ⟨b0, b1, b2, b3, b4⟩, c1, c2, c3, c4, c5, c6, c7⟩ := h
  have i0 : ∀ g, g ≠ 0 → am_i (am_putI S a 0 v) a g = am_i S a g := fun g hg => by rw [x_i_I, if_pos rfl, if_neg hg]
  have i1 : ∀ b g, b ≠ a → am_i (am_putI S a 0 v) b g = am_i S b g := fun b g hb => by rw [x_i_I, if_neg hb]
  have r : ∀ g, g ≠ 0 → va_up R 0 v g = R g := fun g hg => s_up_n hg
  have r2 := r 2 (by omega)
  have r3 := r 3 (by omega)
  have r4 := r 4 (by omega)
  have r7 := r 7 (by omega)
  have r8 := r 8 (by omega)
  refine ⟨⟨by rw [x_i_Is, s_up_s], by rw [i0 1 (by omega), r 1 (by omega)]; exact a1, by rw [i0 2 (by omega), r 10 (by omega)]; exact a2, by rw [i0 3 (by omega), r 11 (by omega)]; exact a3, by rw [i0 4 (by omega), r 5 (by omega)]; exact a4, by rw [i0 5 (by omega), r 9 (by omega)]; exact a5, by rw [i0 6 (by omega), r 6 (by omega)]; exact a6⟩, ⟨by rw [i1 _ _ (by omega), r 2 (by omega)]; exact b0, by rw [i1 _ _ (by omega), r 3 (by omega)]; exact b1, by rw [i1 _ _ (by omega), r 8 (by omega)]; exact b2, by rw [i1 _ _ (by omega), r 4 (by omega)]; exact b3, by rw [i1 _ _ (by omega), r 7 (by omega)]; exact b4⟩, fun c hc => by rw [i1 _ _ (by omega), r _ (by omega)]; exact c1 c hc, fun u f hu hf => by rw [r2] at hu; rw [i1 _ _ (by omega), r _ (by omega)]; exact c2 u f hu hf, fun u f hu hf => by rw [r3] at hu; rw [i1 _ _ (by omega), r _ (by omega)]; exact c3 u f hu hf, fun u hu => by rw [r3] at hu; rw [i1 _ _ (by omega), r _ (by omega)]; exact c4 u hu, fun u f hu hf => by rw [r8] at hu; rw [i1 _ _ (by omega), r _ (by omega)]; exact c5 u f hu hf, fun u f hu hf => by rw [r4] at hu; rw [i1 _ _ (by omega), r _ (by omega)]; exact c6 u f hu hf, fun u f hu hf => by rw [r7] at hu; rw [i1 _ _ (by omega), r _ (by omega)]; exact c7 u f hu hf⟩
theorem w_R.put1 (h : w_R S a R) : w_R (am_putI S a 1 v) a (va_up R 1 v) := by
  obtain ⟨⟨a0, a1, a2, a3, a4, a5, a6⟩, ⟨b0, b1, b2, b3, b4⟩, c1, c2, c3, c4, c5, c6, c7⟩ := h
  have i0 : ∀ g, g ≠ 1 → am_i (am_putI S a 1 v) a g = am_i S a g := fun g hg => by rw [x_i_I, if_pos rfl, if_neg hg]
  have i1 : ∀ b g, b ≠ a → am_i (am_putI S a 1 v) b g = am_i S b g := fun b g hb => by rw [x_i_I, if_neg hb]
  have r : ∀ g, g ≠ 1 → va_up R 1 v g = R g := fun g hg => s_up_n hg
  have r2 := r 2 (by omega)
  have r3 := r 3 (by omega)
  have r4 := r 4 (by omega)
  have r7 := r 7 (by omega)
  have r8 := r 8 (by omega)
  refine ⟨⟨by rw [i0 0 (by omega), r 0 (by omega)]; exact a0, by rw [x_i_Is, s_up_s], by rw [i0 2 (by omega), r 10 (by omega)]; exact a2, by rw [i0 3 (by omega), r 11 (by omega)]; exact a3, by rw [i0 4 (by omega), r 5 (by omega)]; exact a4, by rw [i0 5 (by omega), r 9 (by omega)]; exact a5, by rw [i0 6 (by omega), r 6 (by omega)]; exact a6⟩, ⟨by rw [i1 _ _ (by omega), r 2 (by omega)]; exact b0, by rw [i1 _ _ (by omega), r 3 (by omega)]; exact b1, by rw [i1 _ _ (by omega), r 8 (by omega)]; exact b2, by rw [i1 _ _ (by omega), r 4 (by omega)]; exact b3, by rw [i1 _ _ (by omega), r 7 (by omega)]; exact b4⟩, fun c hc => by rw [i1 _ _ (by omega), r _ (by omega)]; exact c1 c hc, fun u f hu hf => by rw [r2] at hu; rw [i1 _ _ (by omega), r _ (by omega)]; exact c2 u f hu hf, fun u f hu hf => by rw [r3] at hu; rw [i1 _ _ (by omega), r _ (by omega)]; exact c3 u f hu hf, fun u hu => by rw [r3] at hu; rw [i1 _ _ (by omega), r _ (by omega)]; exact c4 u hu, fun u f hu hf => by rw [r8] at hu; rw [i1 _ _ (by omega), r _ (by omega)]; exact c5 u f hu hf, fun u f hu hf => by rw [r4] at hu; rw [i1 _ _ (by omega), r _ (by omega)]; exact c6 u f hu hf, fun u f hu hf => by rw [r7] at hu; rw [i1 _ _ (by omega), r _ (by omega)]; exact c7 u f hu hf⟩
theorem w_R.put2 (h : w_R S a R) : w_R (am_putI S a 2 v) a (va_up R 10 v) := by
  obtain ⟨⟨a0, a1, a2, a3, a4, a5, a6⟩, ⟨b0, b1, b2, b3, b4⟩, c1, c2, c3, c4, c5, c6, c7⟩ := h
  have i0 : ∀ g, g ≠ 2 → am_i (am_putI S a 2 v) a g = am_i S a g := fun g hg => by rw [x_i_I, if_pos rfl, if_neg hg]
  have i1 : ∀ b g, b ≠ a → am_i (am_putI S a 2 v) b g = am_i S b g := fun b g hb => by rw [x_i_I, if_neg hb]
  have r : ∀ g, g ≠ 10 → va_up R 10 v g = R g := fun g hg => s_up_n hg
  have r2 := r 2 (by omega)
  have r3 := r 3 (by omega)
  have r4 := r 4 (by omega)
  have r7 := r 7 (by omega)
  have r8 := r 8 (by omega)
  refine ⟨⟨by rw [i0 0 (by omega), r 0 (by omega)]; exact a0, by rw [i0 1 (by omega), r 1 (by omega)]; exact a1, by rw [x_i_Is, s_up_s], by rw [i0 3 (by omega), r 11 (by omega)]; exact a3, by rw [i0 4 (by omega), r 5 (by omega)]; exact a4, by rw [i0 5 (by omega), r 9 (by omega)]; exact a5, by rw [i0 6 (by omega), r 6 (by omega)]; exact a6⟩, ⟨by rw [i1 _ _ (by omega), r 2 (by omega)]; exact b0, by rw [i1 _ _ (by omega), r 3 (by omega)]; exact b1, by rw [i1 _ _ (by omega), r 8 (by omega)]; exact b2, by rw [i1 _ _ (by omega), r 4 (by omega)]; exact b3, by rw [i1 _ _ (by omega), r 7 (by omega)]; exact b4⟩, fun c hc => by rw [i1 _ _ (by omega), r _ (by omega)]; exact c1 c hc, fun u f hu hf => by rw [r2] at hu; rw [i1 _ _ (by omega), r _ (by omega)]; exact c2 u f hu hf, fun u f hu hf => by rw [r3] at hu; rw [i1 _ _ (by omega), r _ (by omega)]; exact c3 u f hu hf, fun u hu => by rw [r3] at hu; rw [i1 _ _ (by omega), r _ (by omega)]; exact c4 u hu, fun u f hu hf => by rw [r8] at hu; rw [i1 _ _ (by omega), r _ (by omega)]; exact c5 u f hu hf, fun u f hu hf => by rw [r4] at hu; rw [i1 _ _ (by omega), r _ (by omega)]; exact c6 u f hu hf, fun u f hu hf => by rw [r7] at hu; rw [i1 _ _ (by omega), r _ (by omega)]; exact c7 u f hu hf⟩
theorem w_R.put3 (h : w_R S a R) : w_R (am_putI S a 3 v) a (va_up R 11 v) := by
  obtain ⟨⟨a0, a1, a2, a3, a4, a5, a6⟩, ⟨b0, b1, b2, b3, b4⟩, c1, c2, c3, c4, c5, c6, c7⟩ := h
  have i0 : ∀ g, g ≠ 3 → am_i (am_putI S a 3 v) a g = am_i S a g := fun g hg => by rw [x_i_I, if_pos rfl, if_neg hg]
  have i1 : ∀ b g, b ≠ a → am_i (am_putI S a 3 v) b g = am_i S b g := fun b g hb => by rw [x_i_I, if_neg hb]
  have r : ∀ g, g ≠ 11 → va_up R 11 v g = R g := fun g hg => s_up_n hg
  have r2 := r 2 (by omega)
  have r3 := r 3 (by omega)
  have r4 := r 4 (by omega)
  have r7 := r 7 (by omega)
  have r8 := r 8 (by omega)
  refine ⟨⟨by rw [i0 0 (by omega), r 0 (by omega)]; exact a0, by rw [i0 1 (by omega), r 1 (by omega)]; exact a1, by rw [i0 2 (by omega), r 10 (by omega)]; exact a2, by rw [x_i_Is, s_up_s], by rw [i0 4 (by omega), r 5 (by omega)]; exact a4, by rw [i0 5 (by omega), r 9 (by omega)]; exact a5, by rw [i0 6 (by omega), r 6 (by omega)]; exact a6⟩, ⟨by rw [i1 _ _ (by omega), r 2 (by omega)]; exact b0, by rw [i1 _ _ (by omega), r 3 (by omega)]; exact b1, by rw [i1 _ _ (by omega), r 8 (by omega)]; exact b2, by rw [i1 _ _ (by omega), r 4 (by omega)]; exact b3, by rw [i1 _ _ (by omega), r 7 (by omega)]; exact b4⟩, fun c hc => by rw [i1 _ _ (by omega), r _ (by omega)]; exact c1 c hc, fun u f hu hf => by rw [r2] at hu; rw [i1 _ _ (by omega), r _ (by omega)]; exact c2 u f hu hf, fun u f hu hf => by rw [r3] at hu; rw [i1 _ _ (by omega), r _ (by omega)]; exact c3 u f hu hf, fun u hu => by rw [r3] at hu; rw [i1 _ _ (by omega), r _ (by omega)]; exact c4 u hu, fun u f hu hf => by rw [r8] at hu; rw [i1 _ _ (by omega), r _ (by omega)]; exact c5 u f hu hf, fun u f hu hf => by rw [r4] at hu; rw [i1 _ _ (by omega), r _ (by omega)]; exact c6 u f hu hf, fun u f hu hf => by rw [r7] at hu; rw [i1 _ _ (by omega), r _ (by omega)]; exact c7 u f hu hf⟩
theorem w_R.put4 (h : w_R S a R) : w_R (am_putI S a 4 v) a (va_up R 5 v) := by
  obtain ⟨⟨a0, a1, a2, a3, a4, a5, a6⟩, ⟨b0, b1, b2, b3, b4⟩, c1, c2, c3, c4, c5, c6, c7⟩ := h
  have i0 : ∀ g, g ≠ 4 → am_i (am_putI S a 4 v) a g = am_i S a g := fun g hg => by rw [x_i_I, if_pos rfl, if_neg hg]
  have i1 : ∀ b g, b ≠ a → am_i (am_putI S a 4 v) b g = am_i S b g := fun b g hb => by rw [x_i_I, if_neg hb]
  have r : ∀ g, g ≠ 5 → va_up R 5 v g = R g := fun g hg => s_up_n hg
  have r2 := r 2 (by omega)
  have r3 := r 3 (by omega)
  have r4 := r 4 (by omega)
  have r7 := r 7 (by omega)
  have r8 := r 8 (by omega)
  refine ⟨⟨by rw [i0 0 (by omega), r 0 (by omega)]; exact a0, by rw [i0 1 (by omega), r 1 (by omega)]; exact a1, by rw [i0 2 (by omega), r 10 (by omega)]; exact a2, by rw [i0 3 (by omega), r 11 (by omega)]; exact a3, by rw [x_i_Is, s_up_s], by rw [i0 5 (by omega), r 9 (by omega)]; exact a5, by rw [i0 6 (by omega), r 6 (by omega)]; exact a6⟩, ⟨by rw [i1 _ _ (by omega), r 2 (by omega)]; exact b0, by rw [i1 _ _ (by omega), r 3 (by omega)]; exact b1, by rw [i1 _ _ (by omega), r 8 (by omega)]; exact b2, by rw [i1 _ _ (by omega), r 4 (by omega)]; exact b3, by rw [i1 _ _ (by omega), r 7 (by omega)]; exact b4⟩, fun c hc => by rw [i1 _ _ (by omega), r _ (by omega)]; exact c1 c hc, fun u f hu hf => by rw [r2] at hu; rw [i1 _ _ (by omega), r _ (by omega)]; exact c2 u f hu hf, fun u f hu hf => by rw [r3] at hu; rw [i1 _ _ (by omega), r _ (by omega)]; exact c3 u f hu hf, fun u hu => by rw [r3] at hu; rw [i1 _ _ (by omega), r _ (by omega)]; exact c4 u hu, fun u f hu hf => by rw [r8] at hu; rw [i1 _ _ (by omega), r _ (by omega)]; exact c5 u f hu hf, fun u f hu hf => by rw [r4] at hu; rw [i1 _ _ (by omega), r _ (by omega)]; exact c6 u f hu hf, fun u f hu hf => by rw [r7] at hu; rw [i1 _ _ (by omega), r _ (by omega)]; exact c7 u f hu hf⟩
theorem w_R.put5 (h : w_R S a R) : w_R (am_putI S a 5 v) a (va_up R 9 v) := by
  obtain ⟨⟨a0, a1, a2, a3, a4, a5, a6⟩, ⟨b0, b1, b2, b3, b4⟩, c1, c2, c3, c4, c5, c6, c7⟩ := h
  have i0 : ∀ g, g ≠ 5 → am_i (am_putI S a 5 v) a g = am_i S a g := fun g hg => by rw [x_i_I, if_pos rfl, if_neg hg]
  have i1 : ∀ b g, b ≠ a → am_i (am_putI S a 5 v) b g = am_i S b g := fun b g hb => by rw [x_i_I, if_neg hb]
  have r : ∀ g, g ≠ 9 → va_up R 9 v g = R g := fun g hg => s_up_n hg
  have r2 := r 2 (by omega)
  have r3 := r 3 (by omega)
  have r4 := r 4 (by omega)
  have r7 := r 7 (by omega)
  have r8 := r 8 (by omega)
  refine ⟨⟨by rw [i0 0 (by omega), r 0 (by omega)]; exact a0, by rw [i0 1 (by omega), r 1 (by omega)]; exact a1, by rw [i0 2 (by omega), r 10 (by omega)]; exact a2, by rw [i0 3 (by omega), r 11 (by omega)]; exact a3, by rw [i0 4 (by omega), r 5 (by omega)]; exact a4, by rw [x_i_Is, s_up_s], by rw [i0 6 (by omega), r 6 (by omega)]; exact a6⟩, ⟨by rw [i1 _ _ (by omega), r 2 (by omega)]; exact b0, by rw [i1 _ _ (by omega), r 3 (by omega)]; exact b1, by rw [i1 _ _ (by omega), r 8 (by omega)]; exact b2, by rw [i1 _ _ (by omega), r 4 (by omega)]; exact b3, by rw [i1 _ _ (by omega), r 7 (by omega)]; exact b4⟩, fun c hc => by rw [i1 _ _ (by omega), r _ (by omega)]; exact c1 c hc, fun u f hu hf => by rw [r2] at hu; rw [i1 _ _ (by omega), r _ (by omega)]; exact c2 u f hu hf, fun u f hu hf => by rw [r3] at hu; rw [i1 _ _ (by omega), r _ (by omega)]; exact c3 u f hu hf, fun u hu => by rw [r3] at hu; rw [i1 _ _ (by omega), r _ (by omega)]; exact c4 u hu, fun u f hu hf => by rw [r8] at hu; rw [i1 _ _ (by omega), r _ (by omega)]; exact c5 u f hu hf, fun u f hu hf => by rw [r4] at hu; rw [i1 _ _ (by omega), r _ (by omega)]; exact c6 u f hu hf, fun u f hu hf => by rw [r7] at hu; rw [i1 _ _ (by omega), r _ (by omega)]; exact c7 u f hu hf⟩
theorem w_R.put6 (h : w_R S a R) : w_R (am_putI S a 6 v) a (va_up R 6 v) := by
  obtain ⟨⟨a0, a1, a2, a3, a4, a5, a6⟩, ⟨b0, b1, b2, b3, b4⟩, c1, c2, c3, c4, c5, c6, c7⟩ := h
  have i0 : ∀ g, g ≠ 6 → am_i (am_putI S a 6 v) a g = am_i S a g := fun g hg => by rw [x_i_I, if_pos rfl, if_neg hg]
  have i1 : ∀ b g, b ≠ a → am_i (am_putI S a 6 v) b g = am_i S b g := fun b g hb => by rw [x_i_I, if_neg hb]
  have r : ∀ g, g ≠ 6 → va_up R 6 v g = R g := fun g hg => s_up_n hg
  have r2 := r 2 (by omega)
  have r3 := r 3 (by omega)
  have r4 := r 4 (by omega)
  have r7 := r 7 (by omega)
  have r8 := r 8 (by omega)
  refine ⟨⟨by rw [i0 0 (by omega), r 0 (by omega)]; exact a0, by rw [i0 1 (by omega), r 1 (by omega)]; exact a1, by rw [i0 2 (by omega), r 10 (by omega)]; exact a2, by rw [i0 3 (by omega), r 11 (by omega)]; exact a3, by rw [i0 4 (by omega), r 5 (by omega)]; exact a4, by rw [i0 5 (by omega), r 9 (by omega)]; exact a5, by rw [x_i_Is, s_up_s]⟩, ⟨by rw [i1 _ _ (by omega), r 2 (by omega)]; exact b0, by rw [i1 _ _ (by omega), r 3 (by omega)]; exact b1, by rw [i1 _ _ (by omega), r 8 (by omega)]; exact b2, by rw [i1 _ _ (by omega), r 4 (by omega)]; exact b3, by rw [i1 _ _ (by omega), r 7 (by omega)]; exact b4⟩, fun c hc => by rw [i1 _ _ (by omega), r _ (by omega)]; exact c1 c hc, fun u f hu hf => by rw [r2] at hu; rw [i1 _ _ (by omega), r _ (by omega)]; exact c2 u f hu hf, fun u f hu hf => by rw [r3] at hu; rw [i1 _ _ (by omega), r _ (by omega)]; exact c3 u f hu hf, fun u hu => by rw [r3] at hu; rw [i1 _ _ (by omega), r _ (by omega)]; exact c4 u hu, fun u f hu hf => by rw [r8] at hu; rw [i1 _ _ (by omega), r _ (by omega)]; exact c5 u f hu hf, fun u f hu hf => by rw [r4] at hu; rw [i1 _ _ (by omega), r _ (by omega)]; exact c6 u f hu hf, fun u f hu hf => by rw [r7] at hu; rw [i1 _ _ (by omega), r _ (by omega)]; exact c7 u f hu hf⟩
/-- what is behind the lost orders, without the past -/
def s_pass' (R : Nat → Int32) : Nat → Int32 := s_p5 (s_p4 R)
theorem w_J.puta (hj : f < 7) : w_J a S (am_putI S a f v) := w_J.put (by omega) (by intro q _ _ _; omega)
theorem w_Q.cong (hQ : w_Q S a R) (hc : ∀ j, j < 928 → Q j = R j) (hV : s_V Q) : w_Q S a Q := by
  obtain ⟨q1, q2, ⟨q3, q4⟩, R0, q5, q6, q7, q8⟩ := hQ
  exact ⟨q1, q2, ⟨q3.congR ⟨hV.B.2.1.2, hV.B.2.2.1.2, hV.B.2.2.2.1.2, hV.B.2.2.2.2.1.2, hV.B.2.2.2.2.2.1.2⟩ hc, hV⟩, R0, q5, q6, q7, (show s_wl R Q from fun j hj => hc j (by omega)).sy.tr q8⟩
abbrev lvP (a n o : Nat) : List (Nat × Value) := [(0, .ref 132), (1, .ref a), (2, .int (nI n)), (3, .int (nI o))]
theorem y_lostG (hQ : w_Q S a R) (ha : a = 101 ∨ a = 113) (ho : o < s_n (R 4)) (hn : s_n (R 4) = n) :
    ∃ S', bX1_passTurn_46 w_N r (lvP a n o) [] S = r (lvP a n (o + 1)) [] S' ∧ w_Q S' a (s_lostG o R) ∧ w_O a S S' := by
  have hV := hQ.2.2.1.2
  have hA := hQ.2.1.2
  have h := hQ.2.2.1.1
  have a4 := hV.B.2.2.2.1.2
  have g3 := y_O hA h hV.B ho (f := 3) (by omega)
  have g4 := y_O hA h hV.B ho (f := 4) (by omega)
  have e5 := h.1.2.2.2.2.1
  have e9 := h.1.2.2.2.2.2.1
  unfold s_lostG
  by_cases c1 : R (64 + 10 * o + 3) = nI 0
  · by_cases c2 : R 5 - R (64 + 10 * o + 4) < R 9
    · have c3 : ¬ R 9 ≤ R 5 - R (64 + 10 * o + 4) := (fa_of_lt c2).2.1
      rw [if_neg (fun q => c3 q.2)]
      refine ⟨S, ?_, hQ, w_O.rf⟩
      simp (disch := omega) only [bX1_passTurn_46, kX1_passTurn_94, lvP, x_cs0, x_csi, x_csr, x_csn, x_csl, x_ret_v, x_ret_t, x_ret_n, x_tl_s, x_tl_n, x_lk0, x_lk, x_rem0, x_rem_i, x_rem_r, x_rem_l, x_rem2_0, x_rem2_i, x_rem2_r, x_rem2_l, x_pick0, x_pick_c, x_st1, x_st2, x_live, x_i, x_l, x_a, x_ild, x_lld, x_rld, x_ist, x_lst, x_rst, x_inc, x_ii, x_ll, x_li, x_cmp, x_ui, x_il, x_lti, x_idiv, x_irem, x_dup_i, x_dup_r, x_pop_i, x_pop_r, x_dupx_ir, x_dup2_ir, x_ifeq, x_iceq, x_iflt, x_iclt, x_ifge, x_icge, x_ifgt, x_icgt, x_ifle, x_icle, x_ifne, x_icne, x_ifnull_r, x_ifnull_n, x_ifnonnull_r, x_ifnonnull_n, x_sw, x_vret, x_iret, x_lret, x_zret, x_zret0, x_zret1, x_rf_s, x_rf_n, x_geti, x_getr, x_puti, x_putz, x_putr, x_ial, x_ias, x_lal, x_las, x_aal, x_aas, x_aast, x_alen, x_new, x_newa, x_copy, x_min, x_abs, x_minl, x_oinit, x_throw, x_callS0, x_callS1, x_callS2, x_callS3, x_callS4, x_callV0, x_callV1, x_callV2, x_callV3, x_callV4, x_callV5, x_retI_v, x_callI0, x_callI1, x_callI2, x_retN_v, x_callSN1, x_callSN2, x_callT0, x_callT1, x_fn, x_sl0, x_sli, x_slr, x_sll, x_ar0, x_ari, x_arr, x_arl, ↓reduceIte, Nat.reduceAdd, Nat.reduceSub, Nat.reduceMul, Nat.reduceEqDiff, Nat.reduceLeDiff, Nat.reduceLT, if_true, if_false, Nat.le_refl, and_true, true_and, and_self, reduceCtorEq, or_false, false_or, or_true, true_or, Nat.zero_le, fa_lit, nI_add, w_mul, nI_ltI, nI_leI, nI_eq, nI_clamp, nI_toInt, if_pos, if_neg, w_div, w_rem2, xk0 hA, xk1 hA, xl1 hA, xk2 hA, xk3 hA, xl3 hA, xr2_2 hA, xi2_0 hA, xi2_1 hA, xk4 hA, xk5 hA, xl5 hA, xr4_2 hA, xi4_0 hA, xi4_1 hA, xk6 hA, xk7 hA, xl7 hA, xr6_2 hA, xi6_0 hA, xi6_1 hA, xk8 hA, xk9 hA, xl9 hA, xr8_2 hA, xi8_0 hA, xi8_1 hA, xk10 hA, xk11 hA, xl11 hA, xr10_2 hA, xi10_0 hA, xi10_1 hA, xr0_7 hA, xr0_8 hA, xr0_9 hA, xr0_10 hA, xr0_11 hA, xr0_12 hA, g3, g4, e5, e9, c1, c2]
    · have c3 := fa_of_nlt c2
      rw [if_pos ⟨c1, c3⟩]
      obtain ⟨S', f1, f2, f3⟩ := y_changeOrder (x := nI 4) hA h hV ho (Or.inl c1)
      have V := hV.fin (k := 4) ho (s_wg_c (Or.inl c1)) (by omega) (by omega)
      have wl : s_wl R (s_become R o (nI 4)) := (s_K.bec (hV.room ho (s_wg_c (Or.inl c1))) (by omega)).wl
      refine ⟨S', ?_, hQ.J ha f3 f2 V wl, f3.O⟩
      simp (disch := omega) only [bX1_passTurn_46, kX1_passTurn_94, lvP, x_cs0, x_csi, x_csr, x_csn, x_csl, x_ret_v, x_ret_t, x_ret_n, x_tl_s, x_tl_n, x_lk0, x_lk, x_rem0, x_rem_i, x_rem_r, x_rem_l, x_rem2_0, x_rem2_i, x_rem2_r, x_rem2_l, x_pick0, x_pick_c, x_st1, x_st2, x_live, x_i, x_l, x_a, x_ild, x_lld, x_rld, x_ist, x_lst, x_rst, x_inc, x_ii, x_ll, x_li, x_cmp, x_ui, x_il, x_lti, x_idiv, x_irem, x_dup_i, x_dup_r, x_pop_i, x_pop_r, x_dupx_ir, x_dup2_ir, x_ifeq, x_iceq, x_iflt, x_iclt, x_ifge, x_icge, x_ifgt, x_icgt, x_ifle, x_icle, x_ifne, x_icne, x_ifnull_r, x_ifnull_n, x_ifnonnull_r, x_ifnonnull_n, x_sw, x_vret, x_iret, x_lret, x_zret, x_zret0, x_zret1, x_rf_s, x_rf_n, x_geti, x_getr, x_puti, x_putz, x_putr, x_ial, x_ias, x_lal, x_las, x_aal, x_aas, x_aast, x_alen, x_new, x_newa, x_copy, x_min, x_abs, x_minl, x_oinit, x_throw, x_callS0, x_callS1, x_callS2, x_callS3, x_callS4, x_callV0, x_callV1, x_callV2, x_callV3, x_callV4, x_callV5, x_retI_v, x_callI0, x_callI1, x_callI2, x_retN_v, x_callSN1, x_callSN2, x_callT0, x_callT1, x_fn, x_sl0, x_sli, x_slr, x_sll, x_ar0, x_ari, x_arr, x_arl, ↓reduceIte, Nat.reduceAdd, Nat.reduceSub, Nat.reduceMul, Nat.reduceEqDiff, Nat.reduceLeDiff, Nat.reduceLT, if_true, if_false, Nat.le_refl, and_true, true_and, and_self, reduceCtorEq, or_false, false_or, or_true, true_or, Nat.zero_le, fa_lit, nI_add, w_mul, nI_ltI, nI_leI, nI_eq, nI_clamp, nI_toInt, if_pos, if_neg, w_div, w_rem2, xk0 hA, xk1 hA, xl1 hA, xk2 hA, xk3 hA, xl3 hA, xr2_2 hA, xi2_0 hA, xi2_1 hA, xk4 hA, xk5 hA, xl5 hA, xr4_2 hA, xi4_0 hA, xi4_1 hA, xk6 hA, xk7 hA, xl7 hA, xr6_2 hA, xi6_0 hA, xi6_1 hA, xk8 hA, xk9 hA, xl9 hA, xr8_2 hA, xi8_0 hA, xi8_1 hA, xk10 hA, xk11 hA, xl11 hA, xr10_2 hA, xi10_0 hA, xi10_1 hA, xr0_7 hA, xr0_8 hA, xr0_9 hA, xr0_10 hA, xr0_11 hA, xr0_12 hA, g3, g4, e5, e9, c1, c2, f1]
  · rw [if_neg (fun q => c1 q.1)]
    refine ⟨S, ?_, hQ, w_O.rf⟩
    simp (disch := omega) only [bX1_passTurn_46, kX1_passTurn_94, lvP, x_cs0, x_csi, x_csr, x_csn, x_csl, x_ret_v, x_ret_t, x_ret_n, x_tl_s, x_tl_n, x_lk0, x_lk, x_rem0, x_rem_i, x_rem_r, x_rem_l, x_rem2_0, x_rem2_i, x_rem2_r, x_rem2_l, x_pick0, x_pick_c, x_st1, x_st2, x_live, x_i, x_l, x_a, x_ild, x_lld, x_rld, x_ist, x_lst, x_rst, x_inc, x_ii, x_ll, x_li, x_cmp, x_ui, x_il, x_lti, x_idiv, x_irem, x_dup_i, x_dup_r, x_pop_i, x_pop_r, x_dupx_ir, x_dup2_ir, x_ifeq, x_iceq, x_iflt, x_iclt, x_ifge, x_icge, x_ifgt, x_icgt, x_ifle, x_icle, x_ifne, x_icne, x_ifnull_r, x_ifnull_n, x_ifnonnull_r, x_ifnonnull_n, x_sw, x_vret, x_iret, x_lret, x_zret, x_zret0, x_zret1, x_rf_s, x_rf_n, x_geti, x_getr, x_puti, x_putz, x_putr, x_ial, x_ias, x_lal, x_las, x_aal, x_aas, x_aast, x_alen, x_new, x_newa, x_copy, x_min, x_abs, x_minl, x_oinit, x_throw, x_callS0, x_callS1, x_callS2, x_callS3, x_callS4, x_callV0, x_callV1, x_callV2, x_callV3, x_callV4, x_callV5, x_retI_v, x_callI0, x_callI1, x_callI2, x_retN_v, x_callSN1, x_callSN2, x_callT0, x_callT1, x_fn, x_sl0, x_sli, x_slr, x_sll, x_ar0, x_ari, x_arr, x_arl, ↓reduceIte, Nat.reduceAdd, Nat.reduceSub, Nat.reduceMul, Nat.reduceEqDiff, Nat.reduceLeDiff, Nat.reduceLT, if_true, if_false, Nat.le_refl, and_true, true_and, and_self, reduceCtorEq, or_false, false_or, or_true, true_or, Nat.zero_le, fa_lit, nI_add, w_mul, nI_ltI, nI_leI, nI_eq, nI_clamp, nI_toInt, if_pos, if_neg, w_div, w_rem2, xk0 hA, xk1 hA, xl1 hA, xk2 hA, xk3 hA, xl3 hA, xr2_2 hA, xi2_0 hA, xi2_1 hA, xk4 hA, xk5 hA, xl5 hA, xr4_2 hA, xi4_0 hA, xi4_1 hA, xk6 hA, xk7 hA, xl7 hA, xr6_2 hA, xi6_0 hA, xi6_1 hA, xk8 hA, xk9 hA, xl9 hA, xr8_2 hA, xi8_0 hA, xi8_1 hA, xk10 hA, xk11 hA, xl11 hA, xr10_2 hA, xi10_0 hA, xi10_1 hA, xr0_7 hA, xr0_8 hA, xr0_9 hA, xr0_10 hA, xr0_11 hA, xr0_12 hA, g3, g4, e5, e9, c1]
theorem y_carryG (hQ : w_Q S a R) (ha : a = 101 ∨ a = 113) (ho : o < s_n (R 4)) (hn : s_n (R 4) = n) :
    ∃ S', bX1_passTurn_15 w_N r (lvP a n o) [] S = r (lvP a n (o + 1)) [] S' ∧ w_Q S' a (s_carryG o R) ∧ w_O a S S' := by
  have hV := hQ.2.2.1.2
  have hA := hQ.2.1.2
  have h := hQ.2.2.1.1
  have hC := hQ.1.1
  have a4 := hV.B.2.2.2.1.2
  have g3 := y_O hA h hV.B ho (f := 3) (by omega)
  unfold s_carryG
  by_cases c1 : R (64 + 10 * o + 3) = nI 0
  · rw [if_pos c1]
    obtain ⟨S', f1, f2, f3⟩ := y_carry hQ ha ho c1
    refine ⟨S', ?_, f2, f3⟩
    simp (disch := omega) only [bX1_passTurn_15, kX1_passTurn_38, lvP, x_cs0, x_csi, x_csr, x_csn, x_csl, x_ret_v, x_ret_t, x_ret_n, x_tl_s, x_tl_n, x_lk0, x_lk, x_rem0, x_rem_i, x_rem_r, x_rem_l, x_rem2_0, x_rem2_i, x_rem2_r, x_rem2_l, x_pick0, x_pick_c, x_st1, x_st2, x_live, x_i, x_l, x_a, x_ild, x_lld, x_rld, x_ist, x_lst, x_rst, x_inc, x_ii, x_ll, x_li, x_cmp, x_ui, x_il, x_lti, x_idiv, x_irem, x_dup_i, x_dup_r, x_pop_i, x_pop_r, x_dupx_ir, x_dup2_ir, x_ifeq, x_iceq, x_iflt, x_iclt, x_ifge, x_icge, x_ifgt, x_icgt, x_ifle, x_icle, x_ifne, x_icne, x_ifnull_r, x_ifnull_n, x_ifnonnull_r, x_ifnonnull_n, x_sw, x_vret, x_iret, x_lret, x_zret, x_zret0, x_zret1, x_rf_s, x_rf_n, x_geti, x_getr, x_puti, x_putz, x_putr, x_ial, x_ias, x_lal, x_las, x_aal, x_aas, x_aast, x_alen, x_new, x_newa, x_copy, x_min, x_abs, x_minl, x_oinit, x_throw, x_callS0, x_callS1, x_callS2, x_callS3, x_callS4, x_callV0, x_callV1, x_callV2, x_callV3, x_callV4, x_callV5, x_retI_v, x_callI0, x_callI1, x_callI2, x_retN_v, x_callSN1, x_callSN2, x_callT0, x_callT1, x_fn, x_sl0, x_sli, x_slr, x_sll, x_ar0, x_ari, x_arr, x_arl, ↓reduceIte, Nat.reduceAdd, Nat.reduceSub, Nat.reduceMul, Nat.reduceEqDiff, Nat.reduceLeDiff, Nat.reduceLT, if_true, if_false, Nat.le_refl, and_true, true_and, and_self, reduceCtorEq, or_false, false_or, or_true, true_or, Nat.zero_le, fa_lit, nI_add, w_mul, nI_ltI, nI_leI, nI_eq, nI_clamp, nI_toInt, if_pos, if_neg, w_div, w_rem2, xk0 hA, xk1 hA, xl1 hA, xk2 hA, xk3 hA, xl3 hA, xr2_2 hA, xi2_0 hA, xi2_1 hA, xk4 hA, xk5 hA, xl5 hA, xr4_2 hA, xi4_0 hA, xi4_1 hA, xk6 hA, xk7 hA, xl7 hA, xr6_2 hA, xi6_0 hA, xi6_1 hA, xk8 hA, xk9 hA, xl9 hA, xr8_2 hA, xi8_0 hA, xi8_1 hA, xk10 hA, xk11 hA, xl11 hA, xr10_2 hA, xi10_0 hA, xi10_1 hA, xr0_7 hA, xr0_8 hA, xr0_9 hA, xr0_10 hA, xr0_11 hA, xr0_12 hA, yk100 hC, yk125 hC, yk126 hC, yk127 hC, yk128 hC, yk129 hC, yk130 hC, yk131 hC, yk132 hC, yk133 hC, yk134 hC, yk135 hC, yk136 hC, yk137 hC, yl126 hC, yl128 hC, yl130 hC, yl131 hC, yl133 hC, yl137 hC, yr100_0 hC, yr100_1 hC, yr100_2 hC, yr100_3 hC, yr100_4 hC, yr100_5 hC, yr100_6 hC, yr100_7 hC, yr100_8 hC, yr100_9 hC, yr100_10 hC, yr125_0 hC, yr127_0 hC, yr129_0 hC, yr129_1 hC, yr129_2 hC, yr132_0 hC, yr134_0 hC, yr135_0 hC, yr135_1 hC, yr136_0 hC, yr136_1 hC, g3, c1, f1]
  · rw [if_neg c1]
    refine ⟨S, ?_, hQ, w_O.rf⟩
    simp (disch := omega) only [bX1_passTurn_15, kX1_passTurn_38, lvP, x_cs0, x_csi, x_csr, x_csn, x_csl, x_ret_v, x_ret_t, x_ret_n, x_tl_s, x_tl_n, x_lk0, x_lk, x_rem0, x_rem_i, x_rem_r, x_rem_l, x_rem2_0, x_rem2_i, x_rem2_r, x_rem2_l, x_pick0, x_pick_c, x_st1, x_st2, x_live, x_i, x_l, x_a, x_ild, x_lld, x_rld, x_ist, x_lst, x_rst, x_inc, x_ii, x_ll, x_li, x_cmp, x_ui, x_il, x_lti, x_idiv, x_irem, x_dup_i, x_dup_r, x_pop_i, x_pop_r, x_dupx_ir, x_dup2_ir, x_ifeq, x_iceq, x_iflt, x_iclt, x_ifge, x_icge, x_ifgt, x_icgt, x_ifle, x_icle, x_ifne, x_icne, x_ifnull_r, x_ifnull_n, x_ifnonnull_r, x_ifnonnull_n, x_sw, x_vret, x_iret, x_lret, x_zret, x_zret0, x_zret1, x_rf_s, x_rf_n, x_geti, x_getr, x_puti, x_putz, x_putr, x_ial, x_ias, x_lal, x_las, x_aal, x_aas, x_aast, x_alen, x_new, x_newa, x_copy, x_min, x_abs, x_minl, x_oinit, x_throw, x_callS0, x_callS1, x_callS2, x_callS3, x_callS4, x_callV0, x_callV1, x_callV2, x_callV3, x_callV4, x_callV5, x_retI_v, x_callI0, x_callI1, x_callI2, x_retN_v, x_callSN1, x_callSN2, x_callT0, x_callT1, x_fn, x_sl0, x_sli, x_slr, x_sll, x_ar0, x_ari, x_arr, x_arl, ↓reduceIte, Nat.reduceAdd, Nat.reduceSub, Nat.reduceMul, Nat.reduceEqDiff, Nat.reduceLeDiff, Nat.reduceLT, if_true, if_false, Nat.le_refl, and_true, true_and, and_self, reduceCtorEq, or_false, false_or, or_true, true_or, Nat.zero_le, fa_lit, nI_add, w_mul, nI_ltI, nI_leI, nI_eq, nI_clamp, nI_toInt, if_pos, if_neg, w_div, w_rem2, xk0 hA, xk1 hA, xl1 hA, xk2 hA, xk3 hA, xl3 hA, xr2_2 hA, xi2_0 hA, xi2_1 hA, xk4 hA, xk5 hA, xl5 hA, xr4_2 hA, xi4_0 hA, xi4_1 hA, xk6 hA, xk7 hA, xl7 hA, xr6_2 hA, xi6_0 hA, xi6_1 hA, xk8 hA, xk9 hA, xl9 hA, xr8_2 hA, xi8_0 hA, xi8_1 hA, xk10 hA, xk11 hA, xl11 hA, xr10_2 hA, xi10_0 hA, xi10_1 hA, xr0_7 hA, xr0_8 hA, xr0_9 hA, xr0_10 hA, xr0_11 hA, xr0_12 hA, g3, c1]
abbrev lvN (a n u : Nat) : List (Nat × Value) := [(0, .ref 132), (1, .ref a), (3, .int (nI n)), (4, .int (nI u))]
theorem y_moveL (hQ : w_Q S a R) (ha : a = 101 ∨ a = 113) (hn : s_n (R 2) = n) (ht : s_n (R 5) < 999) : ∃ S', am_loop (bX1_passTurn_111 w_N) w_N (lvN a n 0) [] S = some (.inl none, S') ∧ w_Q S' a (s_pass' R) ∧ w_O a S S' := by
  have b2 := hQ.2.2.1.2.B.2.1.2
  obtain ⟨S1, f1, f2, f3⟩ := w_genL (body := bX1_passTurn_111 w_N) (lvf := fun i => lvN a n i) (n := n) (g := s_moveG) (P := fun _ T Q => w_Q T a Q ∧ s_K R Q) (Fr := w_O a) (res := fun T Q => some (.inl none, am_putI T a 4 (Q 5 + nI 1)))
    (fun _ => w_O.rf) (fun _ _ _ => w_O.tr)
    (fun i T Q r hi hP => by
      obtain ⟨p1, p2⟩ := hP
      have e2 : Q 2 = R 2 := p2 2 (by omega)
      have hC := p1.1.1
      obtain ⟨T', k1, k2, k3⟩ := y_march (u := i) p1 ha (by rw [e2, hn]; exact hi)
      refine ⟨T', ?_, ⟨k2, p2.tr (p1.2.2.1.2.moveG (by rw [e2, hn]; exact hi)).2⟩, k3⟩
      simp (disch := omega) only [bX1_passTurn_111, lvN, x_cs0, x_csi, x_csr, x_csn, x_csl, x_ret_v, x_ret_t, x_ret_n, x_tl_s, x_tl_n, x_lk0, x_lk, x_rem0, x_rem_i, x_rem_r, x_rem_l, x_rem2_0, x_rem2_i, x_rem2_r, x_rem2_l, x_pick0, x_pick_c, x_st1, x_st2, x_live, x_i, x_l, x_a, x_ild, x_lld, x_rld, x_ist, x_lst, x_rst, x_inc, x_ii, x_ll, x_li, x_cmp, x_ui, x_il, x_lti, x_idiv, x_irem, x_dup_i, x_dup_r, x_pop_i, x_pop_r, x_dupx_ir, x_dup2_ir, x_ifeq, x_iceq, x_iflt, x_iclt, x_ifge, x_icge, x_ifgt, x_icgt, x_ifle, x_icle, x_ifne, x_icne, x_ifnull_r, x_ifnull_n, x_ifnonnull_r, x_ifnonnull_n, x_sw, x_vret, x_iret, x_lret, x_zret, x_zret0, x_zret1, x_rf_s, x_rf_n, x_geti, x_getr, x_puti, x_putz, x_putr, x_ial, x_ias, x_lal, x_las, x_aal, x_aas, x_aast, x_alen, x_new, x_newa, x_copy, x_min, x_abs, x_minl, x_oinit, x_throw, x_callS0, x_callS1, x_callS2, x_callS3, x_callS4, x_callV0, x_callV1, x_callV2, x_callV3, x_callV4, x_callV5, x_retI_v, x_callI0, x_callI1, x_callI2, x_retN_v, x_callSN1, x_callSN2, x_callT0, x_callT1, x_fn, x_sl0, x_sli, x_slr, x_sll, x_ar0, x_ari, x_arr, x_arl, ↓reduceIte, Nat.reduceAdd, Nat.reduceSub, Nat.reduceMul, Nat.reduceEqDiff, Nat.reduceLeDiff, Nat.reduceLT, if_true, if_false, Nat.le_refl, and_true, true_and, and_self, reduceCtorEq, or_false, false_or, or_true, true_or, Nat.zero_le, fa_lit, nI_add, w_mul, nI_ltI, nI_leI, nI_eq, nI_clamp, nI_toInt, if_pos, if_neg, w_div, w_rem2, yk100 hC, yk125 hC, yk126 hC, yk127 hC, yk128 hC, yk129 hC, yk130 hC, yk131 hC, yk132 hC, yk133 hC, yk134 hC, yk135 hC, yk136 hC, yk137 hC, yl126 hC, yl128 hC, yl130 hC, yl131 hC, yl133 hC, yl137 hC, yr100_0 hC, yr100_1 hC, yr100_2 hC, yr100_3 hC, yr100_4 hC, yr100_5 hC, yr100_6 hC, yr100_7 hC, yr100_8 hC, yr100_9 hC, yr100_10 hC, yr125_0 hC, yr127_0 hC, yr129_0 hC, yr129_1 hC, yr129_2 hC, yr132_0 hC, yr134_0 hC, yr135_0 hC, yr135_1 hC, yr136_0 hC, yr136_1 hC, k1])
    (fun T Q r hP => by
      have hA := hP.1.2.1.2
      have e5 := hP.1.2.2.1.1.1.2.2.2.2.1
      simp (disch := omega) only [bX1_passTurn_111, lvN, x_cs0, x_csi, x_csr, x_csn, x_csl, x_ret_v, x_ret_t, x_ret_n, x_tl_s, x_tl_n, x_lk0, x_lk, x_rem0, x_rem_i, x_rem_r, x_rem_l, x_rem2_0, x_rem2_i, x_rem2_r, x_rem2_l, x_pick0, x_pick_c, x_st1, x_st2, x_live, x_i, x_l, x_a, x_ild, x_lld, x_rld, x_ist, x_lst, x_rst, x_inc, x_ii, x_ll, x_li, x_cmp, x_ui, x_il, x_lti, x_idiv, x_irem, x_dup_i, x_dup_r, x_pop_i, x_pop_r, x_dupx_ir, x_dup2_ir, x_ifeq, x_iceq, x_iflt, x_iclt, x_ifge, x_icge, x_ifgt, x_icgt, x_ifle, x_icle, x_ifne, x_icne, x_ifnull_r, x_ifnull_n, x_ifnonnull_r, x_ifnonnull_n, x_sw, x_vret, x_iret, x_lret, x_zret, x_zret0, x_zret1, x_rf_s, x_rf_n, x_geti, x_getr, x_puti, x_putz, x_putr, x_ial, x_ias, x_lal, x_las, x_aal, x_aas, x_aast, x_alen, x_new, x_newa, x_copy, x_min, x_abs, x_minl, x_oinit, x_throw, x_callS0, x_callS1, x_callS2, x_callS3, x_callS4, x_callV0, x_callV1, x_callV2, x_callV3, x_callV4, x_callV5, x_retI_v, x_callI0, x_callI1, x_callI2, x_retN_v, x_callSN1, x_callSN2, x_callT0, x_callT1, x_fn, x_sl0, x_sli, x_slr, x_sll, x_ar0, x_ari, x_arr, x_arl, ↓reduceIte, Nat.reduceAdd, Nat.reduceSub, Nat.reduceMul, Nat.reduceEqDiff, Nat.reduceLeDiff, Nat.reduceLT, if_true, if_false, Nat.le_refl, and_true, true_and, and_self, reduceCtorEq, or_false, false_or, or_true, true_or, Nat.zero_le, fa_lit, nI_add, w_mul, nI_ltI, nI_leI, nI_eq, nI_clamp, nI_toInt, if_pos, if_neg, w_div, w_rem2, xk0 hA, xk1 hA, xl1 hA, xk2 hA, xk3 hA, xl3 hA, xr2_2 hA, xi2_0 hA, xi2_1 hA, xk4 hA, xk5 hA, xl5 hA, xr4_2 hA, xi4_0 hA, xi4_1 hA, xk6 hA, xk7 hA, xl7 hA, xr6_2 hA, xi6_0 hA, xi6_1 hA, xk8 hA, xk9 hA, xl9 hA, xr8_2 hA, xi8_0 hA, xi8_1 hA, xk10 hA, xk11 hA, xl11 hA, xr10_2 hA, xi10_0 hA, xi10_1 hA, xr0_7 hA, xr0_8 hA, xr0_9 hA, xr0_10 hA, xr0_11 hA, xr0_12 hA, e5]) w_N 0 S R (by show n - 0 < 5000; omega) (Nat.zero_le _) ⟨hQ, s_K.rf⟩
  rw [Nat.sub_zero] at f1 f2
  obtain ⟨q1, q2⟩ := f2
  have ep : s_it s_moveG n 0 R = s_p4 R := by rw [← hn]; rfl
  rw [ep] at f1 q1 q2
  have e5 : s_p4 R 5 = R 5 := q2 5 (by omega)
  have h5 := hQ.2.2.1.2.B.2.2.2.2.2.2.1
  have ev : s_p4 R 5 + nI 1 = nI (s_n (s_p4 R 5) + 1) := by
    rw [e5, h5.1, w_snI (by omega), nI_add]
  have J : w_J a S1 (am_putI S1 a 4 (s_p4 R 5 + nI 1)) := w_J.puta (by omega)
  have hR := (q1.2.2.1.1).put4 (v := s_p4 R 5 + nI 1)
  have V := q1.2.2.1.2.tick (by rw [e5]; exact ht)
  rw [← ev] at V
  refine ⟨_, f1, ?_, f3.tr J.O⟩
  have := q1.J ha J hR V (fun j hj => s_up_n (by omega))
  rw [ev] at this ⊢
  exact this
theorem y_lostL (hQ : w_Q S a R) (ha : a = 101 ∨ a = 113) (hn : s_n (R 4) = n) (ht : s_n (R 5) < 999) : ∃ S', am_loop (bX1_passTurn_46 w_N) w_N (lvP a n 0) [] S = some (.inl none, S') ∧ w_Q S' a (s_pass' (s_p3 R)) ∧ w_O a S S' := by
  have b4 := hQ.2.2.1.2.B.2.2.2.1.2
  obtain ⟨S1, f1, f2, f3⟩ := w_genL (body := bX1_passTurn_46 w_N) (lvf := fun i => lvP a n i) (n := n) (g := s_lostG) (P := fun _ T Q => w_Q T a Q ∧ s_K R Q) (Fr := w_O a) (res := fun T Q => am_loop (bX1_passTurn_111 w_N) w_N (lvN a (s_n (Q 2)) 0) [] T)
    (fun _ => w_O.rf) (fun _ _ _ => w_O.tr)
    (fun i T Q r hi hP => by
      obtain ⟨p1, p2⟩ := hP
      have e4 : Q 4 = R 4 := p2 4 (by omega)
      obtain ⟨T', k1, k2, k3⟩ := y_lostG (r := r) (o := i) (n := n) p1 ha (by rw [e4, hn]; exact hi) (by rw [e4, hn])
      exact ⟨T', k1, ⟨k2, p2.tr (p1.2.2.1.2.lostG (by rw [e4, hn]; exact hi)).2⟩, k3⟩)
    (fun T Q r hP => by
      have hA := hP.1.2.1.2
      have ec := y_count (hP.1.2.2.1.1.tU hA hP.1.2.2.1.2.B)
      simp (disch := omega) only [bX1_passTurn_46, kX1_passTurn_111, lvP, lvN, x_cs0, x_csi, x_csr, x_csn, x_csl, x_ret_v, x_ret_t, x_ret_n, x_tl_s, x_tl_n, x_lk0, x_lk, x_rem0, x_rem_i, x_rem_r, x_rem_l, x_rem2_0, x_rem2_i, x_rem2_r, x_rem2_l, x_pick0, x_pick_c, x_st1, x_st2, x_live, x_i, x_l, x_a, x_ild, x_lld, x_rld, x_ist, x_lst, x_rst, x_inc, x_ii, x_ll, x_li, x_cmp, x_ui, x_il, x_lti, x_idiv, x_irem, x_dup_i, x_dup_r, x_pop_i, x_pop_r, x_dupx_ir, x_dup2_ir, x_ifeq, x_iceq, x_iflt, x_iclt, x_ifge, x_icge, x_ifgt, x_icgt, x_ifle, x_icle, x_ifne, x_icne, x_ifnull_r, x_ifnull_n, x_ifnonnull_r, x_ifnonnull_n, x_sw, x_vret, x_iret, x_lret, x_zret, x_zret0, x_zret1, x_rf_s, x_rf_n, x_geti, x_getr, x_puti, x_putz, x_putr, x_ial, x_ias, x_lal, x_las, x_aal, x_aas, x_aast, x_alen, x_new, x_newa, x_copy, x_min, x_abs, x_minl, x_oinit, x_throw, x_callS0, x_callS1, x_callS2, x_callS3, x_callS4, x_callV0, x_callV1, x_callV2, x_callV3, x_callV4, x_callV5, x_retI_v, x_callI0, x_callI1, x_callI2, x_retN_v, x_callSN1, x_callSN2, x_callT0, x_callT1, x_fn, x_sl0, x_sli, x_slr, x_sll, x_ar0, x_ari, x_arr, x_arl, ↓reduceIte, Nat.reduceAdd, Nat.reduceSub, Nat.reduceMul, Nat.reduceEqDiff, Nat.reduceLeDiff, Nat.reduceLT, if_true, if_false, Nat.le_refl, and_true, true_and, and_self, reduceCtorEq, or_false, false_or, or_true, true_or, Nat.zero_le, fa_lit, nI_add, w_mul, nI_ltI, nI_leI, nI_eq, nI_clamp, nI_toInt, if_pos, if_neg, w_div, w_rem2, xk0 hA, xk1 hA, xl1 hA, xk2 hA, xk3 hA, xl3 hA, xr2_2 hA, xi2_0 hA, xi2_1 hA, xk4 hA, xk5 hA, xl5 hA, xr4_2 hA, xi4_0 hA, xi4_1 hA, xk6 hA, xk7 hA, xl7 hA, xr6_2 hA, xi6_0 hA, xi6_1 hA, xk8 hA, xk9 hA, xl9 hA, xr8_2 hA, xi8_0 hA, xi8_1 hA, xk10 hA, xk11 hA, xl11 hA, xr10_2 hA, xi10_0 hA, xi10_1 hA, xr0_7 hA, xr0_8 hA, xr0_9 hA, xr0_10 hA, xr0_11 hA, xr0_12 hA, ec]) w_N 0 S R (by show n - 0 < 5000; omega) (Nat.zero_le _) ⟨hQ, s_K.rf⟩
  rw [Nat.sub_zero] at f1 f2
  obtain ⟨q1, q2⟩ := f2
  have ep : s_it s_lostG n 0 R = s_p3 R := by rw [← hn]; rfl
  rw [ep] at f1 q1 q2
  have e5 : s_p3 R 5 = R 5 := q2 5 (by omega)
  obtain ⟨S2, g1, g2, g3⟩ := y_moveL q1 ha rfl (by rw [e5]; exact ht)
  exact ⟨S2, f1.trans g1, g2, f3.tr g3⟩
theorem y_carL (hQ : w_Q S a R) (ha : a = 101 ∨ a = 113) (hn : s_n (R 4) = n) (ht : s_n (R 5) < 999) : ∃ S', am_loop (bX1_passTurn_15 w_N) w_N (lvP a n 0) [] S = some (.inl none, S') ∧ w_Q S' a (s_pass' (s_p3 (s_p2 R))) ∧ w_O a S S' := by
  have b4 := hQ.2.2.1.2.B.2.2.2.1.2
  obtain ⟨S1, f1, f2, f3⟩ := w_genL (body := bX1_passTurn_15 w_N) (lvf := fun i => lvP a n i) (n := n) (g := s_carryG) (P := fun _ T Q => w_Q T a Q ∧ s_K R Q) (Fr := w_O a) (res := fun T Q => am_loop (bX1_passTurn_46 w_N) w_N (lvP a n 0) [] T)
    (fun _ => w_O.rf) (fun _ _ _ => w_O.tr)
    (fun i T Q r hi hP => by
      obtain ⟨p1, p2⟩ := hP
      have e4 : Q 4 = R 4 := p2 4 (by omega)
      obtain ⟨T', k1, k2, k3⟩ := y_carryG (r := r) (o := i) (n := n) p1 ha (by rw [e4, hn]; exact hi) (by rw [e4, hn])
      exact ⟨T', k1, ⟨k2, p2.tr (p1.2.2.1.2.carryG (by rw [e4, hn]; exact hi)).2⟩, k3⟩)
    (fun T Q r hP => by
      have hA := hP.1.2.1.2
      simp (disch := omega) only [bX1_passTurn_15, kX1_passTurn_46, lvP, x_cs0, x_csi, x_csr, x_csn, x_csl, x_ret_v, x_ret_t, x_ret_n, x_tl_s, x_tl_n, x_lk0, x_lk, x_rem0, x_rem_i, x_rem_r, x_rem_l, x_rem2_0, x_rem2_i, x_rem2_r, x_rem2_l, x_pick0, x_pick_c, x_st1, x_st2, x_live, x_i, x_l, x_a, x_ild, x_lld, x_rld, x_ist, x_lst, x_rst, x_inc, x_ii, x_ll, x_li, x_cmp, x_ui, x_il, x_lti, x_idiv, x_irem, x_dup_i, x_dup_r, x_pop_i, x_pop_r, x_dupx_ir, x_dup2_ir, x_ifeq, x_iceq, x_iflt, x_iclt, x_ifge, x_icge, x_ifgt, x_icgt, x_ifle, x_icle, x_ifne, x_icne, x_ifnull_r, x_ifnull_n, x_ifnonnull_r, x_ifnonnull_n, x_sw, x_vret, x_iret, x_lret, x_zret, x_zret0, x_zret1, x_rf_s, x_rf_n, x_geti, x_getr, x_puti, x_putz, x_putr, x_ial, x_ias, x_lal, x_las, x_aal, x_aas, x_aast, x_alen, x_new, x_newa, x_copy, x_min, x_abs, x_minl, x_oinit, x_throw, x_callS0, x_callS1, x_callS2, x_callS3, x_callS4, x_callV0, x_callV1, x_callV2, x_callV3, x_callV4, x_callV5, x_retI_v, x_callI0, x_callI1, x_callI2, x_retN_v, x_callSN1, x_callSN2, x_callT0, x_callT1, x_fn, x_sl0, x_sli, x_slr, x_sll, x_ar0, x_ari, x_arr, x_arl, ↓reduceIte, Nat.reduceAdd, Nat.reduceSub, Nat.reduceMul, Nat.reduceEqDiff, Nat.reduceLeDiff, Nat.reduceLT, if_true, if_false, Nat.le_refl, and_true, true_and, and_self, reduceCtorEq, or_false, false_or, or_true, true_or, Nat.zero_le, fa_lit, nI_add, w_mul, nI_ltI, nI_leI, nI_eq, nI_clamp, nI_toInt, if_pos, if_neg, w_div, w_rem2, xk0 hA, xk1 hA, xl1 hA, xk2 hA, xk3 hA, xl3 hA, xr2_2 hA, xi2_0 hA, xi2_1 hA, xk4 hA, xk5 hA, xl5 hA, xr4_2 hA, xi4_0 hA, xi4_1 hA, xk6 hA, xk7 hA, xl7 hA, xr6_2 hA, xi6_0 hA, xi6_1 hA, xk8 hA, xk9 hA, xl9 hA, xr8_2 hA, xi8_0 hA, xi8_1 hA, xk10 hA, xk11 hA, xl11 hA, xr10_2 hA, xi10_0 hA, xi10_1 hA, xr0_7 hA, xr0_8 hA, xr0_9 hA, xr0_10 hA, xr0_11 hA, xr0_12 hA]) w_N 0 S R (by show n - 0 < 5000; omega) (Nat.zero_le _) ⟨hQ, s_K.rf⟩
  rw [Nat.sub_zero] at f2
  obtain ⟨q1, q2⟩ := f2
  have ep : s_it s_carryG n 0 R = s_p2 R := by rw [← hn]; rfl
  rw [ep] at q1 q2
  have e5 : s_p2 R 5 = R 5 := q2 5 (by omega)
  have e4 : s_p2 R 4 = R 4 := q2 4 (by omega)
  obtain ⟨S2, g1, g2, g3⟩ := y_lostL (n := n) q1 ha (by rw [e4, hn]) (by rw [e5]; exact ht)
  exact ⟨S2, f1.trans g1, g2, f3.tr g3⟩
theorem y_passTurn (hQ : w_Q S a R) (ha : a = 101 ∨ a = 113) (ht : s_n (R 5) < 999) : ∃ S', fX1_passTurn w_N [.ref 132, .ref a] S = some (.inl none, S') ∧ w_Q S' a (s_pass R) ∧ w_O a S S' := by
  obtain ⟨S1, f1, f2, f3⟩ := y_sendPlanned (cl := 132) hQ.2.1.2 hQ.2.2.1.1 hQ.2.2.1.2
  have V := hQ.2.2.1.2.p1
  have Q1 := hQ.J ha f3 f2 V.1 V.2.wl
  have hC := hQ.1.1
  have hA := Q1.2.1.2
  have e5 : s_p1 R 5 = R 5 := V.2 5 (by omega)
  have ec := y_count (Q1.2.2.1.1.tO hA V.1.B)
  obtain ⟨S2, g1, g2, g3⟩ := y_carL Q1 ha rfl (by rw [e5]; exact ht)
  have V2 := hQ.2.2.1.2.turn ht
  have V5 := g2.2.2.1.2
  refine ⟨S2, ?_, g2.cong (fun j hj => V5.rem.2 j hj) V2.1, f3.O.tr g3⟩
  simp (disch := omega) only [fX1_passTurn, kX1_passTurn_0, kX1_passTurn_15, x_cs0, x_csi, x_csr, x_csn, x_csl, x_ret_v, x_ret_t, x_ret_n, x_tl_s, x_tl_n, x_lk0, x_lk, x_rem0, x_rem_i, x_rem_r, x_rem_l, x_rem2_0, x_rem2_i, x_rem2_r, x_rem2_l, x_pick0, x_pick_c, x_st1, x_st2, x_live, x_i, x_l, x_a, x_ild, x_lld, x_rld, x_ist, x_lst, x_rst, x_inc, x_ii, x_ll, x_li, x_cmp, x_ui, x_il, x_lti, x_idiv, x_irem, x_dup_i, x_dup_r, x_pop_i, x_pop_r, x_dupx_ir, x_dup2_ir, x_ifeq, x_iceq, x_iflt, x_iclt, x_ifge, x_icge, x_ifgt, x_icgt, x_ifle, x_icle, x_ifne, x_icne, x_ifnull_r, x_ifnull_n, x_ifnonnull_r, x_ifnonnull_n, x_sw, x_vret, x_iret, x_lret, x_zret, x_zret0, x_zret1, x_rf_s, x_rf_n, x_geti, x_getr, x_puti, x_putz, x_putr, x_ial, x_ias, x_lal, x_las, x_aal, x_aas, x_aast, x_alen, x_new, x_newa, x_copy, x_min, x_abs, x_minl, x_oinit, x_throw, x_callS0, x_callS1, x_callS2, x_callS3, x_callS4, x_callV0, x_callV1, x_callV2, x_callV3, x_callV4, x_callV5, x_retI_v, x_callI0, x_callI1, x_callI2, x_retN_v, x_callSN1, x_callSN2, x_callT0, x_callT1, x_fn, x_sl0, x_sli, x_slr, x_sll, x_ar0, x_ari, x_arr, x_arl, ↓reduceIte, Nat.reduceAdd, Nat.reduceSub, Nat.reduceMul, Nat.reduceEqDiff, Nat.reduceLeDiff, Nat.reduceLT, if_true, if_false, Nat.le_refl, and_true, true_and, and_self, reduceCtorEq, or_false, false_or, or_true, true_or, Nat.zero_le, fa_lit, nI_add, w_mul, nI_ltI, nI_leI, nI_eq, nI_clamp, nI_toInt, if_pos, if_neg, w_div, w_rem2, yk100 hC, yk125 hC, yk126 hC, yk127 hC, yk128 hC, yk129 hC, yk130 hC, yk131 hC, yk132 hC, yk133 hC, yk134 hC, yk135 hC, yk136 hC, yk137 hC, yl126 hC, yl128 hC, yl130 hC, yl131 hC, yl133 hC, yl137 hC, yr100_0 hC, yr100_1 hC, yr100_2 hC, yr100_3 hC, yr100_4 hC, yr100_5 hC, yr100_6 hC, yr100_7 hC, yr100_8 hC, yr100_9 hC, yr100_10 hC, yr125_0 hC, yr127_0 hC, yr129_0 hC, yr129_1 hC, yr129_2 hC, yr132_0 hC, yr134_0 hC, yr135_0 hC, yr135_1 hC, yr136_0 hC, yr136_1 hC, xk0 hA, xk1 hA, xl1 hA, xk2 hA, xk3 hA, xl3 hA, xr2_2 hA, xi2_0 hA, xi2_1 hA, xk4 hA, xk5 hA, xl5 hA, xr4_2 hA, xi4_0 hA, xi4_1 hA, xk6 hA, xk7 hA, xl7 hA, xr6_2 hA, xi6_0 hA, xi6_1 hA, xk8 hA, xk9 hA, xl9 hA, xr8_2 hA, xi8_0 hA, xi8_1 hA, xk10 hA, xk11 hA, xl11 hA, xr10_2 hA, xi10_0 hA, xi10_1 hA, xr0_7 hA, xr0_8 hA, xr0_9 hA, xr0_10 hA, xr0_11 hA, xr0_12 hA, f1, ec]
  exact g1
end Y17
