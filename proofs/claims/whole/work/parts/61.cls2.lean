/-! THE CLASS: what changes a situation -/
/-- only the data of the situation at a change -/
def w_J (a : Nat) (S S' : am_S) : Prop := w_I (fun b => a ≤ b ∧ b < a + 12) S S' ∧ ∀ q j, 1 ≤ q → q ≤ 5 → j < 3 → am_i S' (a + 2 * q) j = am_i S (a + 2 * q) j
theorem w_J.rf {a : Nat} {S : am_S} : w_J a S S := ⟨w_I.rf, fun _ _ _ _ _ => rfl⟩
theorem w_J.tr {a : Nat} {S T U : am_S} (h : w_J a S T) (k : w_J a T U) : w_J a S U := ⟨h.1.tr k.1, fun q j h1 h2 h3 => (k.2 q j h1 h2 h3).trans (h.2 q j h1 h2 h3)⟩
theorem w_J.put {a : Nat} {S : am_S} {b j : Nat} {v : Int32} (h : a ≤ b ∧ b < a + 12) (hj : ∀ q, 1 ≤ q → q ≤ 5 → b = a + 2 * q → 3 ≤ j) : w_J a S (am_putI S b j v) := ⟨w_I.put h, fun q i h1 h2 h3 => by
  rw [x_i_I]
  by_cases e : a + 2 * q = b
  · rw [if_pos e, if_neg (by have := hj q h1 h2 e.symm; omega)]
  · rw [if_neg e]⟩
theorem w_J.A {a : Nat} {S S' : am_S} (h : w_J a S S') (hA : w_A S a) : w_A S' a := by
  have e1 := h.2 1 0 (by omega) (by omega) (by omega)
  have e2 := h.2 1 1 (by omega) (by omega) (by omega)
  have e3 := h.2 2 0 (by omega) (by omega) (by omega)
  have e4 := h.2 2 1 (by omega) (by omega) (by omega)
  have e5 := h.2 3 0 (by omega) (by omega) (by omega)
  have e6 := h.2 3 1 (by omega) (by omega) (by omega)
  have e7 := h.2 4 0 (by omega) (by omega) (by omega)
  have e8 := h.2 4 1 (by omega) (by omega) (by omega)
  have e9 := h.2 5 0 (by omega) (by omega) (by omega)
  have e10 := h.2 5 1 (by omega) (by omega) (by omega)
  simp only [Nat.reduceMul] at e1 e2 e3 e4 e5 e6 e7 e8 e9 e10
  unfold w_A
  rw [h.1.2.2.1, h.1.2.2.2.1, h.1.2.2.2.2.2.1, e1, e2, e3, e4, e5, e6, e7, e8, e9, e10]
  exact hA
section Y2
variable {S S' : am_S} {x y z v : Int32} {i j o u n w hh c d b m t p np ne no a T P C L r f : Nat} {R R' F : Nat → Int32}
theorem w_R.congR (h : w_R S a R) (hb : s_n (R' 2) < 7 ∧ s_n (R' 3) < 5 ∧ s_n (R' 4) < 41 ∧ s_n (R' 7) < 81 ∧ s_n (R' 8) < 21) (hc : ∀ j, j < 928 → R' j = R j) : w_R S a R' := by
  obtain ⟨b2, b3, b4, b7, b8⟩ := hb
  rw [hc 2 (by omega)] at b2
  rw [hc 3 (by omega)] at b3
  rw [hc 4 (by omega)] at b4
  rw [hc 7 (by omega)] at b7
  rw [hc 8 (by omega)] at b8
  obtain ⟨h1, h2, h3, h4, h5, h6, h7, h8, h9⟩ := h
  unfold w_R
  rw [hc 0 (by omega), hc 1 (by omega), hc 2 (by omega), hc 3 (by omega), hc 4 (by omega), hc 5 (by omega), hc 6 (by omega), hc 7 (by omega), hc 8 (by omega), hc 9 (by omega), hc 10 (by omega), hc 11 (by omega)]
  exact ⟨h1, h2, fun c hc2 => by rw [hc _ (by omega)]; exact h3 c hc2, fun u f k1 k2 => by rw [hc _ (by omega)]; exact h4 u f k1 k2, fun u f k1 k2 => by rw [hc _ (by omega)]; exact h5 u f k1 k2, fun u k1 => by rw [hc _ (by omega)]; exact h6 u k1, fun u f k1 k2 => by rw [hc _ (by omega)]; exact h7 u f k1 k2, fun u f k1 k2 => by rw [hc _ (by omega)]; exact h8 u f k1 k2, fun u f k1 k2 => by rw [hc _ (by omega)]; exact h9 u f k1 k2⟩
theorem w_R.putO (h : w_R S a R) (hB : s_VB R) (ho : o < s_n (R 4)) (hf : f < 10) : w_R (am_putI S (a + 9) (o * 10 + f) v) a (va_up R (64 + 10 * o + f) v) := by
  have b2 := hB.2.1.2
  have b3 := hB.2.2.1.2
  have b4 := hB.2.2.2.1.2
  have b7 := hB.2.2.2.2.1.2
  have b8 := hB.2.2.2.2.2.1.2
  obtain ⟨h1, h2, h3, h4, h5, h6, h7, h8, h9⟩ := h
  unfold w_R
  simp (disch := omega) only [x_i_I, if_neg, s_up_n]
  refine ⟨h1, h2, fun c hc2 => ?_, fun u g k1 k2 => ?_, fun u g k1 k2 => ?_, fun u k1 => ?_, fun u g k1 k2 => ?_, fun u g k1 k2 => ?_, fun u g k1 k2 => ?_⟩
  · try rw [s_up_n (by omega)]
    exact h3 c hc2
  · try rw [s_up_n (by omega)]
    exact h4 u g k1 k2
  · try rw [s_up_n (by omega)]
    exact h5 u g k1 k2
  · try rw [s_up_n (by omega)]
    exact h6 u k1
  · try rw [s_up_n (by omega)]
    exact h7 u g k1 k2
  · rw [if_pos trivial]
    by_cases e : u * 10 + g = o * 10 + f
    · rw [if_pos e, show 64 + 10 * u + g = 64 + 10 * o + f by omega, s_up_s]
    · rw [if_neg e, s_up_n (by omega)]
      exact h8 u g k1 k2
  · try rw [s_up_n (by omega)]
    exact h9 u g k1 k2
theorem w_R.putU (h : w_R S a R) (hB : s_VB R) (ho : o < s_n (R 2)) (hf : f < 4) : w_R (am_putI S (a + 3) (o * 4 + f) v) a (va_up R (12 + 4 * o + f) v) := by
  have b2 := hB.2.1.2
  have b3 := hB.2.2.1.2
  have b4 := hB.2.2.2.1.2
  have b7 := hB.2.2.2.2.1.2
  have b8 := hB.2.2.2.2.2.1.2
  obtain ⟨h1, h2, h3, h4, h5, h6, h7, h8, h9⟩ := h
  unfold w_R
  simp (disch := omega) only [x_i_I, if_neg, s_up_n]
  refine ⟨h1, h2, fun c hc2 => ?_, fun u g k1 k2 => ?_, fun u g k1 k2 => ?_, fun u k1 => ?_, fun u g k1 k2 => ?_, fun u g k1 k2 => ?_, fun u g k1 k2 => ?_⟩
  · try rw [s_up_n (by omega)]
    exact h3 c hc2
  · rw [if_pos trivial]
    by_cases e : u * 4 + g = o * 4 + f
    · rw [if_pos e, show 12 + 4 * u + g = 12 + 4 * o + f by omega, s_up_s]
    · rw [if_neg e, s_up_n (by omega)]
      exact h4 u g k1 k2
  · try rw [s_up_n (by omega)]
    exact h5 u g k1 k2
  · try rw [s_up_n (by omega)]
    exact h6 u k1
  · try rw [s_up_n (by omega)]
    exact h7 u g k1 k2
  · try rw [s_up_n (by omega)]
    exact h8 u g k1 k2
  · try rw [s_up_n (by omega)]
    exact h9 u g k1 k2
theorem w_R.putC (h : w_R S a R) (hB : s_VB R) (ho : p < s_n (R 3)) : w_R (am_putI S (a + 5) (p * 8 + 7) v) a (va_up R (36 + 7 * p + 6) v) := by
  have b2 := hB.2.1.2
  have b3 := hB.2.2.1.2
  have b4 := hB.2.2.2.1.2
  have b7 := hB.2.2.2.2.1.2
  have b8 := hB.2.2.2.2.2.1.2
  obtain ⟨h1, h2, h3, h4, h5, h6, h7, h8, h9⟩ := h
  unfold w_R
  simp (disch := omega) only [x_i_I, if_neg, s_up_n]
  refine ⟨h1, h2, fun c hc2 => ?_, fun u g k1 k2 => ?_, fun u g k1 k2 => ?_, fun u k1 => ?_, fun u g k1 k2 => ?_, fun u g k1 k2 => ?_, fun u g k1 k2 => ?_⟩
  · try rw [s_up_n (by omega)]
    exact h3 c hc2
  · try rw [s_up_n (by omega)]
    exact h4 u g k1 k2
  · try rw [if_pos trivial]
    try rw [if_neg (by omega)]
    try rw [s_up_n (by omega)]
    exact h5 u g k1 k2
  · rw [if_pos trivial]
    by_cases e : u = p
    · rw [e, if_pos rfl, s_up_s]
    · rw [if_neg (by omega), s_up_n (by omega)]
      exact h6 u k1
  · try rw [s_up_n (by omega)]
    exact h7 u g k1 k2
  · try rw [s_up_n (by omega)]
    exact h8 u g k1 k2
  · try rw [s_up_n (by omega)]
    exact h9 u g k1 k2
theorem w_R.addE (h : w_R S a R) (hB : s_VB R) (hn : s_n (R 7) < 80) (hne : ne = s_n (R 7)) : w_R (am_putI (am_putI (am_putI (am_putI S (a + 10) 3 (nI (ne + 1))) (a + 11) (ne * 3 + 0) x) (a + 11) (ne * 3 + 1) y) (a + 11) (ne * 3 + 2) z) a
    (va_up (va_up (va_up (va_up R (544 + 3 * ne) x) (544 + 3 * ne + 1) y) (544 + 3 * ne + 2) z) 7 (nI (ne + 1))) := by
  have b2 := hB.2.1.2
  have b3 := hB.2.2.1.2
  have b4 := hB.2.2.2.1.2
  have b7 := hB.2.2.2.2.1.2
  have b8 := hB.2.2.2.2.2.1.2
  obtain ⟨h1, h2, h3, h4, h5, h6, h7, h8, h9⟩ := h
  unfold w_R
  simp (disch := omega) only [x_i_I, if_neg, if_pos, s_up_n, s_up_s, w_snI]
  refine ⟨h1, ⟨h2.1, h2.2.1, h2.2.2.1, h2.2.2.2.1, ?_⟩, fun c hc2 => ?_, fun u g k1 k2 => ?_, fun u g k1 k2 => ?_, fun u k1 => ?_, fun u g k1 k2 => ?_, fun u g k1 k2 => ?_, fun u g k1 k2 => ?_⟩
  · first | rfl | trivial
  · try simp (disch := omega) only [s_up_n]
    exact h3 c hc2
  · try simp (disch := omega) only [s_up_n]
    exact h4 u g k1 k2
  · try simp (disch := omega) only [s_up_n]
    exact h5 u g k1 k2
  · try simp (disch := omega) only [s_up_n]
    exact h6 u k1
  · try simp (disch := omega) only [s_up_n]
    exact h7 u g k1 k2
  · try simp (disch := omega) only [s_up_n]
    exact h8 u g k1 k2
  · by_cases e : u = ne
    · subst e
      rcases (show g = 0 ∨ g = 1 ∨ g = 2 by omega) with rfl | rfl | rfl
      · rw [show 544 + 3 * u + 0 = 544 + 3 * u from rfl]
        simp (disch := omega) only [if_true, if_neg, s_up_n, s_up_s]
      · simp (disch := omega) only [if_true, if_neg, s_up_n, s_up_s]
      · simp (disch := omega) only [if_true, if_neg, s_up_n, s_up_s]
    · simp (disch := omega) only [if_pos, if_neg, s_up_n, s_up_s]
      exact h9 u g (by omega) k2
theorem s_bec_ord (ho : o < 40) (hn : ne < 80) (he : x = nI 1 → R (64 + 10 * o + 6) = -nI 1) : ∀ j, s_bec R ne o x j = va_up (va_up (va_up (va_up (if x = nI 1 then va_up R (64 + 10 * o + 3) x else va_up (va_up R (64 + 10 * o + 3) x) (64 + 10 * o + 6) (R 5)) (544 + 3 * ne) (R 5)) (544 + 3 * ne + 1) (nI o)) (544 + 3 * ne + 2) x) 7 (nI (ne + 1)) j := by
  intro j
  unfold s_bec
  by_cases j7 : j = 7
  · subst j7
    simp (disch := omega) only [s_up_n, s_up_s]
  · by_cases j3 : j = 64 + 10 * o + 3
    · subst j3
      split <;> simp (disch := omega) only [s_up_n, s_up_s]
    · by_cases j6 : j = 64 + 10 * o + 6
      · subst j6
        by_cases c : x = nI 1
        · rw [if_pos c, if_pos c]
          simp (disch := omega) only [s_up_n, s_up_s]
          exact (he c).symm
        · rw [if_neg c, if_neg c]
          simp (disch := omega) only [s_up_n, s_up_s]
      · by_cases k0 : j = 544 + 3 * ne
        · subst k0
          simp (disch := omega) only [s_up_n, s_up_s]
        · by_cases k1 : j = 544 + 3 * ne + 1
          · subst k1
            simp (disch := omega) only [s_up_n, s_up_s]
          · by_cases k2 : j = 544 + 3 * ne + 2
            · subst k2
              simp (disch := omega) only [s_up_n, s_up_s]
            · split <;> simp (disch := omega) only [s_up_n, s_up_s]
theorem y_change0 (hA : w_A S a) (h : w_R S a R) (hB : s_VB R) (ho : o < s_n (R 4)) (hn : s_n (R 7) < 80) (he : R (64 + 10 * o + 6) = -nI 1) : ∃ S', fX6_changeOrder w_N [.ref a, .int (nI o), .int x] S = some (.inl none, S') ∧ w_R S' a (s_become R o x) ∧ w_J a S S' := by
  have b4 := hB.2.2.2.1.2
  have p1 := y_put (v := x) (h.tO hA hB) ho (f := 3) (by omega)
  have h1 := h.putO (v := x) hB ho (f := 3) (by omega)
  have J1 : w_J a S (am_putI S (a + 9) (o * 10 + 3) x) := w_J.put (by omega) (by intro q _ _ _; omega)
  have hA1 := J1.A hA
  have hBx : ∀ j, j ≠ 64 + 10 * o + 3 → va_up R (64 + 10 * o + 3) x j = R j := fun j hj => s_up_n hj
  have hB1 : s_VB (va_up R (64 + 10 * o + 3) x) := hB.congs (by rw [hBx 7 (by omega)]; exact hB.2.2.2.2.1) (fun j _ hj => hBx j (by omega))
  have e4 : va_up R (64 + 10 * o + 3) x 4 = R 4 := hBx 4 (by omega)
  have e5 : va_up R (64 + 10 * o + 3) x 5 = R 5 := hBx 5 (by omega)
  have e7 : va_up R (64 + 10 * o + 3) x 7 = R 7 := hBx 7 (by omega)
  have f5 : am_i (am_putI S (a + 9) (o * 10 + 3) x) a 4 = R 5 := by rw [h1.1.2.2.2.2.1, e5]
  have rest : ∀ T Q, w_A T a → w_R T a Q → s_VB Q → Q 5 = R 5 → Q 7 = R 7 → w_J a S T → ∃ S', kX6_changeOrder_29 w_N [(0, .ref a), (1, .int (nI o)), (2, .int x)] [] T = some (.inl none, S') ∧ w_R S' a (va_up (va_up (va_up (va_up Q (544 + 3 * s_n (R 7)) (R 5)) (544 + 3 * s_n (R 7) + 1) (nI o)) (544 + 3 * s_n (R 7) + 2) x) 7 (nI (s_n (R 7) + 1))) ∧ w_J a S S' := by
    intro T Q hT hQ hBQ q5 q7 hJ
    have g5 : am_i T a 4 = R 5 := by rw [hQ.1.2.2.2.2.1, q5]
    have a7 := hBQ.2.2.2.2.1
    have ga := y_add (S := T) (T := a + 10) (m := 80) (n := s_n (R 7)) (xk10 hT) (xi10_0 hT) (by rw [hQ.2.1.2.2.2.2, ← q7]; exact a7.1) (by omega) hn
    have J2 : w_J a T (am_putI T (a + 10) 3 (nI (s_n (R 7) + 1))) := w_J.put (by omega) (by intro q _ _ _; omega)
    have hA2 := J2.A hT
    have tb2 : w_tb (am_putI T (a + 10) 3 (nI (s_n (R 7) + 1))) (a + 10) (a + 11) 3 (s_n (R 7) + 1) 240 := ⟨⟨xk10 hA2, xr10_2 hA2, xi10_1 hA2, x_i_Is⟩, ⟨xk11 hA2, xl11 hA2⟩, by omega, by omega, by omega, by omega⟩
    have p2 := y_put (v := R 5) (r := s_n (R 7)) (f := 0) tb2 (by omega) (by omega)
    have J3 : w_J a (am_putI T (a + 10) 3 (nI (s_n (R 7) + 1))) (am_putI (am_putI T (a + 10) 3 (nI (s_n (R 7) + 1))) (a + 11) (s_n (R 7) * 3 + 0) (R 5)) := w_J.put (by omega) (by intro q _ _ _; omega)
    have hA3 := J3.A hA2
    have tb3 : w_tb (am_putI (am_putI T (a + 10) 3 (nI (s_n (R 7) + 1))) (a + 11) (s_n (R 7) * 3 + 0) (R 5)) (a + 10) (a + 11) 3 (s_n (R 7) + 1) 240 := ⟨⟨xk10 hA3, xr10_2 hA3, xi10_1 hA3, by rw [x_i_I, if_neg (by omega), x_i_Is]⟩, ⟨xk11 hA3, xl11 hA3⟩, by omega, by omega, by omega, by omega⟩
    have p3 := y_put (v := nI o) (r := s_n (R 7)) (f := 1) tb3 (by omega) (by omega)
    have J4 : w_J a (am_putI (am_putI T (a + 10) 3 (nI (s_n (R 7) + 1))) (a + 11) (s_n (R 7) * 3 + 0) (R 5)) (am_putI (am_putI (am_putI T (a + 10) 3 (nI (s_n (R 7) + 1))) (a + 11) (s_n (R 7) * 3 + 0) (R 5)) (a + 11) (s_n (R 7) * 3 + 1) (nI o)) := w_J.put (by omega) (by intro q _ _ _; omega)
    have hA4 := J4.A hA3
    have tb4 : w_tb (am_putI (am_putI (am_putI T (a + 10) 3 (nI (s_n (R 7) + 1))) (a + 11) (s_n (R 7) * 3 + 0) (R 5)) (a + 11) (s_n (R 7) * 3 + 1) (nI o)) (a + 10) (a + 11) 3 (s_n (R 7) + 1) 240 := ⟨⟨xk10 hA4, xr10_2 hA4, xi10_1 hA4, by rw [x_i_I, if_neg (by omega), x_i_I, if_neg (by omega), x_i_Is]⟩, ⟨xk11 hA4, xl11 hA4⟩, by omega, by omega, by omega, by omega⟩
    have p4 := y_put (v := x) (r := s_n (R 7)) (f := 2) tb4 (by omega) (by omega)
    have J5 : w_J a (am_putI (am_putI (am_putI T (a + 10) 3 (nI (s_n (R 7) + 1))) (a + 11) (s_n (R 7) * 3 + 0) (R 5)) (a + 11) (s_n (R 7) * 3 + 1) (nI o)) (am_putI (am_putI (am_putI (am_putI T (a + 10) 3 (nI (s_n (R 7) + 1))) (a + 11) (s_n (R 7) * 3 + 0) (R 5)) (a + 11) (s_n (R 7) * 3 + 1) (nI o)) (a + 11) (s_n (R 7) * 3 + 2) x) := w_J.put (by omega) (by intro q _ _ _; omega)
    refine ⟨_, ?_, hQ.addE (x := R 5) (y := nI o) (z := x) hBQ (by rw [q7]; exact hn) (by rw [q7]), (hJ.tr J2).tr ((J3.tr J4).tr J5)⟩
    have n5 : am_i (am_putI T (a + 10) 3 (nI (s_n (R 7) + 1))) a 4 = R 5 := by rw [x_i_I, if_neg (by omega), g5]
    simp (disch := omega) only [kX6_changeOrder_29, x_cs0, x_csi, x_csr, x_csn, x_csl, x_ret_v, x_ret_t, x_ret_n, x_tl_s, x_tl_n, x_lk0, x_lk, x_rem0, x_rem_i, x_rem_r, x_rem_l, x_rem2_0, x_rem2_i, x_rem2_r, x_rem2_l, x_pick0, x_pick_c, x_st1, x_st2, x_live, x_i, x_l, x_a, x_ild, x_lld, x_rld, x_ist, x_lst, x_rst, x_inc, x_ii, x_ll, x_li, x_cmp, x_ui, x_il, x_lti, x_idiv, x_irem, x_dup_i, x_dup_r, x_pop_i, x_pop_r, x_dupx_ir, x_dup2_ir, x_ifeq, x_iceq, x_iflt, x_iclt, x_ifge, x_icge, x_ifgt, x_icgt, x_ifle, x_icle, x_ifne, x_icne, x_ifnull_r, x_ifnull_n, x_ifnonnull_r, x_ifnonnull_n, x_sw, x_vret, x_iret, x_lret, x_zret, x_zret0, x_zret1, x_rf_s, x_rf_n, x_geti, x_getr, x_puti, x_putz, x_putr, x_ial, x_ias, x_lal, x_las, x_aal, x_aas, x_aast, x_alen, x_new, x_newa, x_copy, x_min, x_abs, x_minl, x_oinit, x_throw, x_callS0, x_callS1, x_callS2, x_callS3, x_callS4, x_callV0, x_callV1, x_callV2, x_callV3, x_callV4, x_callV5, x_retI_v, x_callI0, x_callI1, x_callI2, x_retN_v, x_callSN1, x_callSN2, x_callT0, x_callT1, x_fn, x_sl0, x_sli, x_slr, x_sll, x_ar0, x_ari, x_arr, x_arl, ↓reduceIte, Nat.reduceAdd, Nat.reduceSub, Nat.reduceMul, Nat.reduceEqDiff, Nat.reduceLeDiff, Nat.reduceLT, if_true, if_false, Nat.le_refl, and_true, true_and, and_self, reduceCtorEq, or_false, false_or, or_true, true_or, Nat.zero_le, fa_lit, nI_add, w_mul, nI_ltI, nI_leI, nI_eq, nI_clamp, nI_toInt, if_pos, if_neg, w_div, w_rem2, xk0 hT, xk1 hT, xl1 hT, xk2 hT, xk3 hT, xl3 hT, xr2_2 hT, xi2_0 hT, xi2_1 hT, xk4 hT, xk5 hT, xl5 hT, xr4_2 hT, xi4_0 hT, xi4_1 hT, xk6 hT, xk7 hT, xl7 hT, xr6_2 hT, xi6_0 hT, xi6_1 hT, xk8 hT, xk9 hT, xl9 hT, xr8_2 hT, xi8_0 hT, xi8_1 hT, xk10 hT, xk11 hT, xl11 hT, xr10_2 hT, xi10_0 hT, xi10_1 hT, xr0_7 hT, xr0_8 hT, xr0_9 hT, xr0_10 hT, xr0_11 hT, xr0_12 hT, xk0 hA2, xk1 hA2, xl1 hA2, xk2 hA2, xk3 hA2, xl3 hA2, xr2_2 hA2, xi2_0 hA2, xi2_1 hA2, xk4 hA2, xk5 hA2, xl5 hA2, xr4_2 hA2, xi4_0 hA2, xi4_1 hA2, xk6 hA2, xk7 hA2, xl7 hA2, xr6_2 hA2, xi6_0 hA2, xi6_1 hA2, xk8 hA2, xk9 hA2, xl9 hA2, xr8_2 hA2, xi8_0 hA2, xi8_1 hA2, xk10 hA2, xk11 hA2, xl11 hA2, xr10_2 hA2, xi10_0 hA2, xi10_1 hA2, xr0_7 hA2, xr0_8 hA2, xr0_9 hA2, xr0_10 hA2, xr0_11 hA2, xr0_12 hA2, xk0 hA3, xk1 hA3, xl1 hA3, xk2 hA3, xk3 hA3, xl3 hA3, xr2_2 hA3, xi2_0 hA3, xi2_1 hA3, xk4 hA3, xk5 hA3, xl5 hA3, xr4_2 hA3, xi4_0 hA3, xi4_1 hA3, xk6 hA3, xk7 hA3, xl7 hA3, xr6_2 hA3, xi6_0 hA3, xi6_1 hA3, xk8 hA3, xk9 hA3, xl9 hA3, xr8_2 hA3, xi8_0 hA3, xi8_1 hA3, xk10 hA3, xk11 hA3, xl11 hA3, xr10_2 hA3, xi10_0 hA3, xi10_1 hA3, xr0_7 hA3, xr0_8 hA3, xr0_9 hA3, xr0_10 hA3, xr0_11 hA3, xr0_12 hA3, xk0 hA4, xk1 hA4, xl1 hA4, xk2 hA4, xk3 hA4, xl3 hA4, xr2_2 hA4, xi2_0 hA4, xi2_1 hA4, xk4 hA4, xk5 hA4, xl5 hA4, xr4_2 hA4, xi4_0 hA4, xi4_1 hA4, xk6 hA4, xk7 hA4, xl7 hA4, xr6_2 hA4, xi6_0 hA4, xi6_1 hA4, xk8 hA4, xk9 hA4, xl9 hA4, xr8_2 hA4, xi8_0 hA4, xi8_1 hA4, xk10 hA4, xk11 hA4, xl11 hA4, xr10_2 hA4, xi10_0 hA4, xi10_1 hA4, xr0_7 hA4, xr0_8 hA4, xr0_9 hA4, xr0_10 hA4, xr0_11 hA4, xr0_12 hA4, ga, n5, p2, p3, p4]
  have hb : s_n (s_become R o x 2) < 7 ∧ s_n (s_become R o x 3) < 5 ∧ s_n (s_become R o x 4) < 41 ∧ s_n (s_become R o x 7) < 81 ∧ s_n (s_become R o x 8) < 21 := by
    unfold s_become
    rw [s_bec_7, w_snI (by omega), s_bec_n (by omega) (by omega) (by omega) (by omega), s_bec_n (by omega) (by omega) (by omega) (by omega), s_bec_n (by omega) (by omega) (by omega) (by omega), s_bec_n (by omega) (by omega) (by omega) (by omega)]
    exact ⟨hB.2.1.2, hB.2.2.1.2, hB.2.2.2.1.2, by omega, hB.2.2.2.2.2.1.2⟩
  have ord := s_bec_ord (R := R) (x := x) (ne := s_n (R 7)) (o := o) (by omega) hn (fun _ => he)
  by_cases c : x = nI 1
  · obtain ⟨S', r1, r2, r3⟩ := rest _ _ hA1 h1 hB1 e5 e7 J1
    refine ⟨S', ?_, r2.congR hb (fun j _ => ?_), r3⟩
    · rw [← r1]
      rw [c] at p1
      simp (disch := omega) only [fX6_changeOrder, kX6_changeOrder_0, x_cs0, x_csi, x_csr, x_csn, x_csl, x_ret_v, x_ret_t, x_ret_n, x_tl_s, x_tl_n, x_lk0, x_lk, x_rem0, x_rem_i, x_rem_r, x_rem_l, x_rem2_0, x_rem2_i, x_rem2_r, x_rem2_l, x_pick0, x_pick_c, x_st1, x_st2, x_live, x_i, x_l, x_a, x_ild, x_lld, x_rld, x_ist, x_lst, x_rst, x_inc, x_ii, x_ll, x_li, x_cmp, x_ui, x_il, x_lti, x_idiv, x_irem, x_dup_i, x_dup_r, x_pop_i, x_pop_r, x_dupx_ir, x_dup2_ir, x_ifeq, x_iceq, x_iflt, x_iclt, x_ifge, x_icge, x_ifgt, x_icgt, x_ifle, x_icle, x_ifne, x_icne, x_ifnull_r, x_ifnull_n, x_ifnonnull_r, x_ifnonnull_n, x_sw, x_vret, x_iret, x_lret, x_zret, x_zret0, x_zret1, x_rf_s, x_rf_n, x_geti, x_getr, x_puti, x_putz, x_putr, x_ial, x_ias, x_lal, x_las, x_aal, x_aas, x_aast, x_alen, x_new, x_newa, x_copy, x_min, x_abs, x_minl, x_oinit, x_throw, x_callS0, x_callS1, x_callS2, x_callS3, x_callS4, x_callV0, x_callV1, x_callV2, x_callV3, x_callV4, x_callV5, x_retI_v, x_callI0, x_callI1, x_callI2, x_retN_v, x_callSN1, x_callSN2, x_callT0, x_callT1, x_fn, x_sl0, x_sli, x_slr, x_sll, x_ar0, x_ari, x_arr, x_arl, ↓reduceIte, Nat.reduceAdd, Nat.reduceSub, Nat.reduceMul, Nat.reduceEqDiff, Nat.reduceLeDiff, Nat.reduceLT, if_true, if_false, Nat.le_refl, and_true, true_and, and_self, reduceCtorEq, or_false, false_or, or_true, true_or, Nat.zero_le, fa_lit, nI_add, w_mul, nI_ltI, nI_leI, nI_eq, nI_clamp, nI_toInt, if_pos, if_neg, w_div, w_rem2, xk0 hA, xk1 hA, xl1 hA, xk2 hA, xk3 hA, xl3 hA, xr2_2 hA, xi2_0 hA, xi2_1 hA, xk4 hA, xk5 hA, xl5 hA, xr4_2 hA, xi4_0 hA, xi4_1 hA, xk6 hA, xk7 hA, xl7 hA, xr6_2 hA, xi6_0 hA, xi6_1 hA, xk8 hA, xk9 hA, xl9 hA, xr8_2 hA, xi8_0 hA, xi8_1 hA, xk10 hA, xk11 hA, xl11 hA, xr10_2 hA, xi10_0 hA, xi10_1 hA, xr0_7 hA, xr0_8 hA, xr0_9 hA, xr0_10 hA, xr0_11 hA, xr0_12 hA, p1, c]
      try rfl
    · unfold s_become
      rw [ord j, if_pos c]
  · have tb1 := h1.tO hA1 hB1
    rw [e4] at tb1
    have p6 := y_put (v := R 5) tb1 ho (f := 6) (by omega)
    have h2 := h1.putO (v := R 5) hB1 (o := o) (f := 6) (by rw [e4]; exact ho) (by omega)
    have J2 : w_J a (am_putI S (a + 9) (o * 10 + 3) x) (am_putI (am_putI S (a + 9) (o * 10 + 3) x) (a + 9) (o * 10 + 6) (R 5)) := w_J.put (by omega) (by intro q _ _ _; omega)
    have hBy : ∀ j, j ≠ 64 + 10 * o + 6 → va_up (va_up R (64 + 10 * o + 3) x) (64 + 10 * o + 6) (R 5) j = va_up R (64 + 10 * o + 3) x j := fun j hj => s_up_n hj
    have hB2 : s_VB (va_up (va_up R (64 + 10 * o + 3) x) (64 + 10 * o + 6) (R 5)) := hB1.congs (by rw [hBy 7 (by omega)]; exact hB1.2.2.2.2.1) (fun j _ hj => hBy j (by omega))
    obtain ⟨S', r1, r2, r3⟩ := rest _ _ (J2.A hA1) h2 hB2 (by rw [hBy 5 (by omega), e5]) (by rw [hBy 7 (by omega), e7]) (J1.tr J2)
    refine ⟨S', ?_, r2.congR hb (fun j _ => ?_), r3⟩
    · rw [← r1]
      simp (disch := omega) only [fX6_changeOrder, kX6_changeOrder_0, x_cs0, x_csi, x_csr, x_csn, x_csl, x_ret_v, x_ret_t, x_ret_n, x_tl_s, x_tl_n, x_lk0, x_lk, x_rem0, x_rem_i, x_rem_r, x_rem_l, x_rem2_0, x_rem2_i, x_rem2_r, x_rem2_l, x_pick0, x_pick_c, x_st1, x_st2, x_live, x_i, x_l, x_a, x_ild, x_lld, x_rld, x_ist, x_lst, x_rst, x_inc, x_ii, x_ll, x_li, x_cmp, x_ui, x_il, x_lti, x_idiv, x_irem, x_dup_i, x_dup_r, x_pop_i, x_pop_r, x_dupx_ir, x_dup2_ir, x_ifeq, x_iceq, x_iflt, x_iclt, x_ifge, x_icge, x_ifgt, x_icgt, x_ifle, x_icle, x_ifne, x_icne, x_ifnull_r, x_ifnull_n, x_ifnonnull_r, x_ifnonnull_n, x_sw, x_vret, x_iret, x_lret, x_zret, x_zret0, x_zret1, x_rf_s, x_rf_n, x_geti, x_getr, x_puti, x_putz, x_putr, x_ial, x_ias, x_lal, x_las, x_aal, x_aas, x_aast, x_alen, x_new, x_newa, x_copy, x_min, x_abs, x_minl, x_oinit, x_throw, x_callS0, x_callS1, x_callS2, x_callS3, x_callS4, x_callV0, x_callV1, x_callV2, x_callV3, x_callV4, x_callV5, x_retI_v, x_callI0, x_callI1, x_callI2, x_retN_v, x_callSN1, x_callSN2, x_callT0, x_callT1, x_fn, x_sl0, x_sli, x_slr, x_sll, x_ar0, x_ari, x_arr, x_arl, ↓reduceIte, Nat.reduceAdd, Nat.reduceSub, Nat.reduceMul, Nat.reduceEqDiff, Nat.reduceLeDiff, Nat.reduceLT, if_true, if_false, Nat.le_refl, and_true, true_and, and_self, reduceCtorEq, or_false, false_or, or_true, true_or, Nat.zero_le, fa_lit, nI_add, w_mul, nI_ltI, nI_leI, nI_eq, nI_clamp, nI_toInt, if_pos, if_neg, w_div, w_rem2, xk0 hA, xk1 hA, xl1 hA, xk2 hA, xk3 hA, xl3 hA, xr2_2 hA, xi2_0 hA, xi2_1 hA, xk4 hA, xk5 hA, xl5 hA, xr4_2 hA, xi4_0 hA, xi4_1 hA, xk6 hA, xk7 hA, xl7 hA, xr6_2 hA, xi6_0 hA, xi6_1 hA, xk8 hA, xk9 hA, xl9 hA, xr8_2 hA, xi8_0 hA, xi8_1 hA, xk10 hA, xk11 hA, xl11 hA, xr10_2 hA, xi10_0 hA, xi10_1 hA, xr0_7 hA, xr0_8 hA, xr0_9 hA, xr0_10 hA, xr0_11 hA, xr0_12 hA, xk0 hA1, xk1 hA1, xl1 hA1, xk2 hA1, xk3 hA1, xl3 hA1, xr2_2 hA1, xi2_0 hA1, xi2_1 hA1, xk4 hA1, xk5 hA1, xl5 hA1, xr4_2 hA1, xi4_0 hA1, xi4_1 hA1, xk6 hA1, xk7 hA1, xl7 hA1, xr6_2 hA1, xi6_0 hA1, xi6_1 hA1, xk8 hA1, xk9 hA1, xl9 hA1, xr8_2 hA1, xi8_0 hA1, xi8_1 hA1, xk10 hA1, xk11 hA1, xl11 hA1, xr10_2 hA1, xi10_0 hA1, xi10_1 hA1, xr0_7 hA1, xr0_8 hA1, xr0_9 hA1, xr0_10 hA1, xr0_11 hA1, xr0_12 hA1, p1, c, f5, p6]
    · unfold s_become
      rw [ord j, if_neg c]
theorem y_changeOrder (hA : w_A S a) (h : w_R S a R) (hV : s_V R) (ho : o < s_n (R 4)) (hs : R (64 + 10 * o + 3) = nI 0 ∨ R (64 + 10 * o + 3) = nI 1) : ∃ S', fX6_changeOrder w_N [.ref a, .int (nI o), .int x] S = some (.inl none, S') ∧ w_R S' a (s_become R o x) ∧ w_J a S S' :=
  y_change0 hA h hV.B ho (hV.room ho (s_wg_c hs)) ((hV.O o ho).2.2.2 hs)
end Y2
