/-! A ROW IN THE MAKING: what holds of it also behind a flaw (the headquarters may stand in a wall then) -/
def s_VC (R : Nat → Int32) : Prop := (s_nn (R 0) 13 ∧ 3 ≤ s_n (R 0) ∧ s_nn (R 1) 13 ∧ 3 ≤ s_n (R 1)) ∧ s_nn (R 2) 7 ∧ s_nn (R 3) 5 ∧ s_nn (R 4) 41 ∧ s_nn (R 7) 81 ∧ s_nn (R 8) 21 ∧ s_nn (R 5) 1000 ∧ (s_nn (R 9) 31 ∧ 0 < s_n (R 9)) ∧ (s_nn (R 10) 12 ∧ s_nn (R 11) 12) ∧ ∀ c, c < 144 → R (784 + c) = 0 ∨ R (784 + c) = 1
section Y40
variable {S S' T : am_S} {a b c o p q i j k m n u t D z d f : Nat} {P : Nat → Prop} {R R' Q : Nat → Int32} {x y v : Int32}
theorem w_R.tUc (hA : w_A S a) (h : w_R S a R) (hB : s_VC R) : w_tb S (a + 2) (a + 3) 4 (s_n (R 2)) 24 := by
  have := hB.2.1
  exact ⟨⟨xk2 hA, xr2_2 hA, xi2_1 hA, h.2.1.1.trans this.1⟩, ⟨xk3 hA, xl3 hA⟩, by omega, by omega, by omega, by omega⟩
theorem w_R.tPc (hA : w_A S a) (h : w_R S a R) (hB : s_VC R) : w_tb S (a + 4) (a + 5) 8 (s_n (R 3)) 32 := by
  have := hB.2.2.1
  exact ⟨⟨xk4 hA, xr4_2 hA, xi4_1 hA, h.2.1.2.1.trans this.1⟩, ⟨xk5 hA, xl5 hA⟩, by omega, by omega, by omega, by omega⟩
theorem w_R.tLc (hA : w_A S a) (h : w_R S a R) (hB : s_VC R) : w_tb S (a + 6) (a + 7) 4 (s_n (R 8)) 80 := by
  have := hB.2.2.2.2.2.1
  exact ⟨⟨xk6 hA, xr6_2 hA, xi6_1 hA, h.2.1.2.2.1.trans this.1⟩, ⟨xk7 hA, xl7 hA⟩, by omega, by omega, by omega, by omega⟩
theorem y_Uc (hA : w_A S a) (h : w_R S a R) (hB : s_VC R) (hu : u < s_n (R 2)) (hf : f < 4) : fX7_get w_N [.ref (a + 2), .int (nI u), .int (nI f)] S = some (.inl (some (.int (R (12 + 4 * u + f)))), S) := by
  rw [y_get (h.tUc hA hB) hu hf, h.2.2.2.1 u f hu hf]
theorem w_R.putUc (h : w_R S a R) (hB : s_VC R) (ho : o < s_n (R 2)) (hf : f < 4) : w_R (am_putI S (a + 3) (o * 4 + f) v) a (va_up R (12 + 4 * o + f) v) := by
  have b2 := hB.2.1.2
  have b3 := hB.2.2.1.2
  have b4 := hB.2.2.2.1.2
  have b7 := hB.2.2.2.2.1.2
  have b8 := hB.2.2.2.2.2.1.2
  obtain ⟨h1, h2, h3, h4, h5, h6, h7, h8, h9⟩ := h
  unfold w_R
  simp (disch := omega) only [x_i_I, if_neg, s_up_n]
  refine ⟨h1, h2, fun c hc2 => ?_, fun u g k1 k2 => ?_, fun u g k1 k2 => ?_, fun u k1 => ?_, fun u g k1 k2 => ?_, fun u g k1 k2 => ?_, fun u g k1 k2 => ?_⟩
  · try rw [s_up_n (by omega)]
    exact h3 c hc2
  · rw [if_pos trivial]
    by_cases e : u * 4 + g = o * 4 + f
    · rw [if_pos e, show 12 + 4 * u + g = 12 + 4 * o + f by omega, s_up_s]
    · rw [if_neg e, s_up_n (by omega)]
      exact h4 u g k1 k2
  · try rw [s_up_n (by omega)]
    exact h5 u g k1 k2
  · try rw [s_up_n (by omega)]
    exact h6 u k1
  · try rw [s_up_n (by omega)]
    exact h7 u g k1 k2
  · try rw [s_up_n (by omega)]
    exact h8 u g k1 k2
  · try rw [s_up_n (by omega)]
    exact h9 u g k1 k2
theorem w_R.putCc (h : w_R S a R) (hB : s_VC R) (ho : p < s_n (R 3)) : w_R (am_putI S (a + 5) (p * 8 + 7) v) a (va_up R (36 + 7 * p + 6) v) := by
  have b2 := hB.2.1.2
  have b3 := hB.2.2.1.2
  have b4 := hB.2.2.2.1.2
  have b7 := hB.2.2.2.2.1.2
  have b8 := hB.2.2.2.2.2.1.2
  obtain ⟨h1, h2, h3, h4, h5, h6, h7, h8, h9⟩ := h
  unfold w_R
  simp (disch := omega) only [x_i_I, if_neg, s_up_n]
  refine ⟨h1, h2, fun c hc2 => ?_, fun u g k1 k2 => ?_, fun u g k1 k2 => ?_, fun u k1 => ?_, fun u g k1 k2 => ?_, fun u g k1 k2 => ?_, fun u g k1 k2 => ?_⟩
  · try rw [s_up_n (by omega)]
    exact h3 c hc2
  · try rw [s_up_n (by omega)]
    exact h4 u g k1 k2
  · try rw [if_pos trivial]
    try rw [if_neg (by omega)]
    try rw [s_up_n (by omega)]
    exact h5 u g k1 k2
  · rw [if_pos trivial]
    by_cases e : u = p
    · rw [e, if_pos rfl, s_up_s]
    · rw [if_neg (by omega), s_up_n (by omega)]
      exact h6 u k1
  · try rw [s_up_n (by omega)]
    exact h7 u g k1 k2
  · try rw [s_up_n (by omega)]
    exact h8 u g k1 k2
  · try rw [s_up_n (by omega)]
    exact h9 u g k1 k2
theorem w_R.putLc (h : w_R S a R) (hB : s_VC R) (ho : o < s_n (R 8)) (hf : p < 4) : w_R (am_putI S (a + 7) (o * 4 + p) v) a (va_up R (464 + 4 * o + p) v) := by
  have b8 := hB.2.2.2.2.2.1.2
  obtain ⟨⟨a0, a1, a2, a3, a4, a5, a6⟩, ⟨b0, b1, b2, b3, b4⟩, c1, c2, c3, c4, c5, c6, c7⟩ := h
  have i1 : ∀ b g, b ≠ a + 7 → am_i (am_putI S (a + 7) (o * 4 + p) v) b g = am_i S b g := fun b g hb => by rw [x_i_I, if_neg hb]
  have r : ∀ g, g ≠ 464 + 4 * o + p → va_up R (464 + 4 * o + p) v g = R g := fun g hg => s_up_n hg
  have r2 := r 2 (by omega)
  have r3 := r 3 (by omega)
  have r4 := r 4 (by omega)
  have r7 := r 7 (by omega)
  have r8 := r 8 (by omega)
  have d2 := hB.2.1.2
  have d3 := hB.2.2.1.2
  have d4 := hB.2.2.2.1.2
  have d7 := hB.2.2.2.2.1.2
  refine ⟨⟨by rw [i1 _ _ (by omega), r _ (by omega)]; exact a0, by rw [i1 _ _ (by omega), r _ (by omega)]; exact a1, by rw [i1 _ _ (by omega), r _ (by omega)]; exact a2, by rw [i1 _ _ (by omega), r _ (by omega)]; exact a3, by rw [i1 _ _ (by omega), r _ (by omega)]; exact a4, by rw [i1 _ _ (by omega), r _ (by omega)]; exact a5, by rw [i1 _ _ (by omega), r _ (by omega)]; exact a6⟩, ⟨by rw [i1 _ _ (by omega), r2]; exact b0, by rw [i1 _ _ (by omega), r3]; exact b1, by rw [i1 _ _ (by omega), r8]; exact b2, by rw [i1 _ _ (by omega), r4]; exact b3, by rw [i1 _ _ (by omega), r7]; exact b4⟩, fun c hc => by rw [i1 _ _ (by omega), r _ (by omega)]; exact c1 c hc, fun u f hu hf => by rw [r2] at hu; rw [i1 _ _ (by omega), r _ (by omega)]; exact c2 u f hu hf, fun u f hu hf => by rw [r3] at hu; rw [i1 _ _ (by omega), r _ (by omega)]; exact c3 u f hu hf, fun u hu => by rw [r3] at hu; rw [i1 _ _ (by omega), r _ (by omega)]; exact c4 u hu, fun u f hu hf2 => ?_, fun u f hu hf => by rw [r4] at hu; rw [i1 _ _ (by omega), r _ (by omega)]; exact c6 u f hu hf, fun u f hu hf => by rw [r7] at hu; rw [i1 _ _ (by omega), r _ (by omega)]; exact c7 u f hu hf⟩
  rw [r8] at hu
  rw [x_i_I, if_pos rfl, s_up]
  by_cases e : u * 4 + f = o * 4 + p
  · rw [if_pos e, if_pos (by omega)]
  · rw [if_neg e, if_neg (by omega)]
    exact c5 u f hu hf2
theorem w_R.putPc (h : w_R S a R) (hB : s_VC R) (ho : o < s_n (R 3)) (hf : p < 6) : w_R (am_putI S (a + 5) (o * 8 + p) v) a (va_up R (36 + 7 * o + p) v) := by
  obtain ⟨⟨a0, a1, a2, a3, a4, a5, a6⟩, ⟨b0, b1, b2, b3, b4⟩, c1, c2, c3, c4, c5, c6, c7⟩ := h
  have i1 : ∀ b g, b ≠ a + 5 → am_i (am_putI S (a + 5) (o * 8 + p) v) b g = am_i S b g := fun b g hb => by rw [x_i_I, if_neg hb]
  have r : ∀ g, g ≠ 36 + 7 * o + p → va_up R (36 + 7 * o + p) v g = R g := fun g hg => s_up_n hg
  have d2 := hB.2.1.2
  have d3 := hB.2.2.1.2
  have d4 := hB.2.2.2.1.2
  have d7 := hB.2.2.2.2.1.2
  have d8 := hB.2.2.2.2.2.1.2
  have r2 := r 2 (by omega)
  have r3 := r 3 (by omega)
  have r4 := r 4 (by omega)
  have r7 := r 7 (by omega)
  have r8 := r 8 (by omega)
  refine ⟨⟨by rw [i1 _ _ (by omega), r _ (by omega)]; exact a0, by rw [i1 _ _ (by omega), r _ (by omega)]; exact a1, by rw [i1 _ _ (by omega), r _ (by omega)]; exact a2, by rw [i1 _ _ (by omega), r _ (by omega)]; exact a3, by rw [i1 _ _ (by omega), r _ (by omega)]; exact a4, by rw [i1 _ _ (by omega), r _ (by omega)]; exact a5, by rw [i1 _ _ (by omega), r _ (by omega)]; exact a6⟩, ⟨by rw [i1 _ _ (by omega), r2]; exact b0, by rw [i1 _ _ (by omega), r3]; exact b1, by rw [i1 _ _ (by omega), r8]; exact b2, by rw [i1 _ _ (by omega), r4]; exact b3, by rw [i1 _ _ (by omega), r7]; exact b4⟩, fun c hc => by rw [i1 _ _ (by omega), r _ (by omega)]; exact c1 c hc, fun u f hu hf => by rw [r2] at hu; rw [i1 _ _ (by omega), r _ (by omega)]; exact c2 u f hu hf, fun u f hu hf2 => ?_, fun u hu => ?_, fun u f hu hf => by rw [r8] at hu; rw [i1 _ _ (by omega), r _ (by omega)]; exact c5 u f hu hf, fun u f hu hf => by rw [r4] at hu; rw [i1 _ _ (by omega), r _ (by omega)]; exact c6 u f hu hf, fun u f hu hf => by rw [r7] at hu; rw [i1 _ _ (by omega), r _ (by omega)]; exact c7 u f hu hf⟩
  · rw [r3] at hu
    rw [x_i_I, if_pos rfl, s_up]
    by_cases e : u * 8 + f = o * 8 + p
    · rw [if_pos e, if_pos (by omega)]
    · rw [if_neg e, if_neg (by omega)]
      exact c3 u f hu hf2
  · rw [r3] at hu
    rw [x_i_I, if_pos rfl, if_neg (by omega), r _ (by omega)]
    exact c4 u hu
theorem w_R.putWc (h : w_R S a R) (hB : s_VC R) (ho : o < 144) : w_R (am_putI S (a + 1) o v) a (va_up R (784 + o) v) := by
  obtain ⟨⟨a0, a1, a2, a3, a4, a5, a6⟩, ⟨b0, b1, b2, b3, b4⟩, c1, c2, c3, c4, c5, c6, c7⟩ := h
  have i1 : ∀ b g, b ≠ a + 1 → am_i (am_putI S (a + 1) (o) v) b g = am_i S b g := fun b g hb => by rw [x_i_I, if_neg hb]
  have r : ∀ g, g ≠ 784 + o → va_up R (784 + o) v g = R g := fun g hg => s_up_n hg
  have d2 := hB.2.1.2
  have d3 := hB.2.2.1.2
  have d4 := hB.2.2.2.1.2
  have d7 := hB.2.2.2.2.1.2
  have d8 := hB.2.2.2.2.2.1.2
  have r2 := r 2 (by omega)
  have r3 := r 3 (by omega)
  have r4 := r 4 (by omega)
  have r7 := r 7 (by omega)
  have r8 := r 8 (by omega)
  refine ⟨⟨by rw [i1 _ _ (by omega), r _ (by omega)]; exact a0, by rw [i1 _ _ (by omega), r _ (by omega)]; exact a1, by rw [i1 _ _ (by omega), r _ (by omega)]; exact a2, by rw [i1 _ _ (by omega), r _ (by omega)]; exact a3, by rw [i1 _ _ (by omega), r _ (by omega)]; exact a4, by rw [i1 _ _ (by omega), r _ (by omega)]; exact a5, by rw [i1 _ _ (by omega), r _ (by omega)]; exact a6⟩, ⟨by rw [i1 _ _ (by omega), r2]; exact b0, by rw [i1 _ _ (by omega), r3]; exact b1, by rw [i1 _ _ (by omega), r8]; exact b2, by rw [i1 _ _ (by omega), r4]; exact b3, by rw [i1 _ _ (by omega), r7]; exact b4⟩, fun c hc => ?_, fun u f hu hf => by rw [r2] at hu; rw [i1 _ _ (by omega), r _ (by omega)]; exact c2 u f hu hf, fun u f hu hf => by rw [r3] at hu; rw [i1 _ _ (by omega), r _ (by omega)]; exact c3 u f hu hf, fun u hu => by rw [r3] at hu; rw [i1 _ _ (by omega), r _ (by omega)]; exact c4 u hu, fun u f hu hf => by rw [r8] at hu; rw [i1 _ _ (by omega), r _ (by omega)]; exact c5 u f hu hf, fun u f hu hf => by rw [r4] at hu; rw [i1 _ _ (by omega), r _ (by omega)]; exact c6 u f hu hf, fun u f hu hf => by rw [r7] at hu; rw [i1 _ _ (by omega), r _ (by omega)]; exact c7 u f hu hf⟩
  · rw [x_i_I, if_pos rfl, s_up]
    by_cases e : c = o
    · rw [if_pos e, if_pos (by omega)]
    · rw [if_neg e, if_neg (by omega)]
      exact c1 c hc
end Y40
