/-! THE CLASS READS: a picket, whole -/
section L16
variable {S S' T : am_S} {a b c o p q i j k m n t L e f κ v0 lo h ne : Nat} {P : Nat → Prop} {B : Nat → Nat} {u x y z v hi : Int32} {s s' : p_S} {R Q : Nat → Int32}
theorem p_set_set {Q' : Nat → Int32} : p_set (p_set s Q) Q' = p_set s Q' := rfl
theorem p_col_set (h0 : Q 0 = s.2.2 0) : p_col B L (p_set s Q) = (p_set (p_col B L s).1 Q, (p_col B L s).2) := by
  unfold p_col
  rw [← h0]
  exact p_num_set
theorem p_row_set (h0 : Q 1 = s.2.2 1) : p_row B L (p_set s Q) = (p_set (p_row B L s).1 Q, (p_row B L s).2) := by
  unfold p_row
  rw [← h0]
  exact p_num_set
theorem s_addP_eq {g d f' t' : Int32} (h3 : Q 3 = nI (n + 1)) (hn : n < 4) (hj : ∀ j, j ≠ 3 → (j < 36 + 7 * n ∨ 36 + 7 * n + 7 ≤ j) → Q j = R j) : va_up (va_up (va_up (va_up (va_up (va_up (va_up Q (36 + 7 * n + 0) x) (36 + 7 * n + 1) y) (36 + 7 * n + 2) g) (36 + 7 * n + 3) d) (36 + 7 * n + 4) f') (36 + 7 * n + 5) t') (36 + 7 * n + 6) (nI 0) = s_addP R n x y g d f' t' := by
  funext j
  unfold s_addP
  by_cases c3 : j = 3
  · subst c3
    rw [s_up_s]
    simp (disch := omega) only [s_up_n]
    exact h3
  · rw [s_up_n (h := c3)]
    by_cases ci : j < 36 + 7 * n ∨ 36 + 7 * n + 7 ≤ j
    · simp (disch := omega) only [s_up_n]
      exact hj j c3 ci
    · rcases (show j = 36 + 7 * n + 0 ∨ j = 36 + 7 * n + 1 ∨ j = 36 + 7 * n + 2 ∨ j = 36 + 7 * n + 3 ∨ j = 36 + 7 * n + 4 ∨ j = 36 + 7 * n + 5 ∨ j = 36 + 7 * n + 6 by omega) with rfl | rfl | rfl | rfl | rfl | rfl | rfl <;> simp (disch := omega) only [s_up_n, s_up_s]
end L16
