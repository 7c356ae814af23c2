/-! THE CLASS READS: units -/
def s_addU (R : Nat → Int32) (n : Nat) (x y z : Int32) : Nat → Int32 := va_up (va_up (va_up (va_up (va_up R (12 + 4 * n + 0) x) (12 + 4 * n + 1) y) (12 + 4 * n + 2) z) (12 + 4 * n + 3) (-nI 1)) 2 (nI (n + 1))
section L11
variable {S S' T : am_S} {a b c o p q i j k m n u t L e f κ v0 lo h ne : Nat} {P : Nat → Prop} {B : Nat → Nat} {x y z v hi : Int32} {s s' : p_S} {R Q : Nat → Int32}
theorem w_R.addU (h : w_R S a R) (hB : s_VC R) (hn : s_n (R 2) < 6) (hne : ne = s_n (R 2)) : w_R (am_putI (am_putI (am_putI (am_putI (am_putI S (a + 2) 3 (nI (ne + 1))) (a + 3) (ne * 4 + 0) x) (a + 3) (ne * 4 + 1) y) (a + 3) (ne * 4 + 2) z) (a + 3) (ne * 4 + 3) (-nI 1)) a (s_addU R ne x y z) := by
  have b2 := hB.2.1.2
  have b3 := hB.2.2.1.2
  have b4 := hB.2.2.2.1.2
  have b7 := hB.2.2.2.2.1.2
  have b8 := hB.2.2.2.2.2.1.2
  obtain ⟨h1, h2, h3, h4, h5, h6, h7, h8, h9⟩ := h
  unfold w_R s_addU
  simp (disch := omega) only [x_i_I, if_neg, if_pos, s_up_n, s_up_s, w_snI]
  refine ⟨h1, ⟨?_, h2.2.1, h2.2.2.1, h2.2.2.2.1, h2.2.2.2.2⟩, fun c hc2 => ?_, fun u g k1 k2 => ?_, fun u g k1 k2 => ?_, fun u k1 => ?_, fun u g k1 k2 => ?_, fun u g k1 k2 => ?_, fun u g k1 k2 => ?_⟩
  · first | rfl | trivial
  · try simp (disch := omega) only [s_up_n]
    exact h3 c hc2
  · by_cases e : u = ne
    · subst e
      rcases (show g = 0 ∨ g = 1 ∨ g = 2 ∨ g = 3 by omega) with rfl | rfl | rfl | rfl
      · simp (disch := omega) only [if_true, if_neg, s_up_n, s_up_s]
      · simp (disch := omega) only [if_true, if_neg, s_up_n, s_up_s]
      · simp (disch := omega) only [if_true, if_neg, s_up_n, s_up_s]
      · simp (disch := omega) only [if_true, if_neg, s_up_n, s_up_s]
    · simp (disch := omega) only [if_pos, if_neg, s_up_n, s_up_s]
      exact h4 u g (by omega) k2
  · try simp (disch := omega) only [s_up_n]
    exact h5 u g k1 k2
  · try simp (disch := omega) only [s_up_n]
    exact h6 u k1
  · try simp (disch := omega) only [s_up_n]
    exact h7 u g k1 k2
  · try simp (disch := omega) only [s_up_n]
    exact h8 u g k1 k2
  · try simp (disch := omega) only [s_up_n]
    exact h9 u g k1 k2
theorem s_VC.addU (hV : s_VC R) (hn : s_n (R 2) < 6) : s_VC (s_addU R (s_n (R 2)) x y z) := by
  obtain ⟨v0, v2, v3, v4, v7, v8, v5, v9, vh, vw⟩ := hV
  unfold s_VC s_addU
  simp (disch := omega) only [s_up_n, s_up_s]
  exact ⟨v0, s_nnI (by omega) (by omega), v3, v4, v7, v8, v5, v9, vh, vw⟩
theorem y_addU (hA : w_A S 113) (hR : w_R S 113 R) (hV : s_VC R) : ∃ S' r, fX6_addUnit w_N [.ref 113, .int x, .int y, .int z] S = some (.inl (some (.int r)), S') ∧ w_R S' 113 (if s_n (R 2) < 6 then s_addU R (s_n (R 2)) x y z else R) ∧ w_J 113 S S' := by
  have v2 := hV.2.1
  have b2 := v2.2
  have c2 : am_i S (113 + 2) 3 = nI (s_n (R 2)) := hR.2.1.1.trans v2.1
  by_cases hn : s_n (R 2) < 6
  · rw [if_pos hn]
    have hR' := hR.addU (x := x) (y := y) (z := z) hV hn rfl
    generalize hno : s_n (R 2) = no at *
    have ga := y_add (S := S) (T := 113 + 2) (m := 6) (n := no) (xk2 hA) (xi2_0 hA) c2 (by omega) hn
    have J1 : w_J 113 S (am_putI S (113 + 2) 3 (nI (no + 1))) := w_J.put (by omega) (by intro q _ _ _; omega)
    have hA1 := J1.A hA
    have tb1 : w_tb (am_putI S (113 + 2) 3 (nI (no + 1))) (113 + 2) (113 + 3) 4 (no + 1) 24 := ⟨⟨xk2 hA1, xr2_2 hA1, xi2_1 hA1, x_i_Is⟩, ⟨xk3 hA1, xl3 hA1⟩, by omega, by omega, by omega, by omega⟩
    have st : ∀ (S1 : am_S) j w, w_tb S1 (113 + 2) (113 + 3) 4 (no + 1) 24 → w_tb (am_putI S1 (113 + 3) j w) (113 + 2) (113 + 3) 4 (no + 1) 24 := fun S1 j w hh => by
      obtain ⟨⟨q1, q2, q3, q4⟩, q5, q6⟩ := hh
      exact ⟨⟨q1, q2, by rw [x_i_I, if_neg (by omega)]; exact q3, by rw [x_i_I, if_neg (by omega)]; exact q4⟩, q5, q6⟩
    have jj : ∀ (S1 : am_S) j w, w_J 113 S1 (am_putI S1 (113 + 3) j w) := fun S1 j w => w_J.put (by omega) (by intro q _ _ _; omega)
    generalize hS1 : am_putI S (113 + 2) 3 (nI (no + 1)) = S1 at *
    have tb2 := st S1 (no * 4 + 0) x tb1
    have p0 := y_put (v := x) tb1 (r := no) (f := 0) (by omega) (by omega)
    have J2 := jj S1 (no * 4 + 0) x
    have hA2 := J2.A hA1
    generalize hS2 : am_putI S1 (113 + 3) (no * 4 + 0) x = S2 at *
    have tb3 := st S2 (no * 4 + 1) y tb2
    have p1 := y_put (v := y) tb2 (r := no) (f := 1) (by omega) (by omega)
    have J3 := jj S2 (no * 4 + 1) y
    have hA3 := J3.A hA2
    generalize hS3 : am_putI S2 (113 + 3) (no * 4 + 1) y = S3 at *
    have tb4 := st S3 (no * 4 + 2) z tb3
    have p2 := y_put (v := z) tb3 (r := no) (f := 2) (by omega) (by omega)
    have J4 := jj S3 (no * 4 + 2) z
    have hA4 := J4.A hA3
    generalize hS4 : am_putI S3 (113 + 3) (no * 4 + 2) z = S4 at *
    have p3 := y_put (v := -nI 1) tb4 (r := no) (f := 3) (by omega) (by omega)
    have J5 := jj S4 (no * 4 + 3) (-nI 1)
    refine ⟨_, nI no, ?_, hR', J1.tr (J2.tr (J3.tr (J4.tr J5)))⟩
    · simp (disch := omega) only [fX6_addUnit, kX6_addUnit_0, x_cs0, x_csi, x_csr, x_csn, x_csl, x_ret_v, x_ret_t, x_ret_n, x_tl_s, x_tl_n, x_lk0, x_lk, x_rem0, x_rem_i, x_rem_r, x_rem_l, x_rem2_0, x_rem2_i, x_rem2_r, x_rem2_l, x_pick0, x_pick_c, x_st1, x_st2, x_live, x_i, x_l, x_a, x_ild, x_lld, x_rld, x_ist, x_lst, x_rst, x_inc, x_ii, x_ll, x_li, x_cmp, x_ui, x_il, x_lti, x_idiv, x_irem, x_dup_i, x_dup_r, x_pop_i, x_pop_r, x_dupx_ir, x_dup2_ir, x_ifeq, x_iceq, x_iflt, x_iclt, x_ifge, x_icge, x_ifgt, x_icgt, x_ifle, x_icle, x_ifne, x_icne, x_ifnull_r, x_ifnull_n, x_ifnonnull_r, x_ifnonnull_n, x_sw, x_vret, x_iret, x_lret, x_zret, x_zret0, x_zret1, x_rf_s, x_rf_n, x_geti, x_getr, x_puti, x_putz, x_putr, x_ial, x_ias, x_lal, x_las, x_aal, x_aas, x_aast, x_alen, x_new, x_newa, x_copy, x_min, x_abs, x_minl, x_oinit, x_throw, x_callS0, x_callS1, x_callS2, x_callS3, x_callS4, x_callV0, x_callV1, x_callV2, x_callV3, x_callV4, x_callV5, x_retI_v, x_callI0, x_callI1, x_callI2, x_retN_v, x_callSN1, x_callSN2, x_callT0, x_callT1, x_fn, x_sl0, x_sli, x_slr, x_sll, x_ar0, x_ari, x_arr, x_arl, ↓reduceIte, Nat.reduceAdd, Nat.reduceSub, Nat.reduceMul, Nat.reduceEqDiff, Nat.reduceLeDiff, Nat.reduceLT, if_true, if_false, Nat.le_refl, and_true, true_and, and_self, reduceCtorEq, or_false, false_or, or_true, true_or, Nat.zero_le, fa_lit, nI_add, w_mul, nI_ltI, nI_leI, nI_eq, nI_clamp, nI_toInt, if_pos, if_neg, w_div, w_rem2, xk0 hA, xk1 hA, xl1 hA, xk2 hA, xk3 hA, xl3 hA, xr2_2 hA, xi2_0 hA, xi2_1 hA, xk4 hA, xk5 hA, xl5 hA, xr4_2 hA, xi4_0 hA, xi4_1 hA, xk6 hA, xk7 hA, xl7 hA, xr6_2 hA, xi6_0 hA, xi6_1 hA, xk8 hA, xk9 hA, xl9 hA, xr8_2 hA, xi8_0 hA, xi8_1 hA, xk10 hA, xk11 hA, xl11 hA, xr10_2 hA, xi10_0 hA, xi10_1 hA, xr0_7 hA, xr0_8 hA, xr0_9 hA, xr0_10 hA, xr0_11 hA, xr0_12 hA, xk0 hA1, xk1 hA1, xl1 hA1, xk2 hA1, xk3 hA1, xl3 hA1, xr2_2 hA1, xi2_0 hA1, xi2_1 hA1, xk4 hA1, xk5 hA1, xl5 hA1, xr4_2 hA1, xi4_0 hA1, xi4_1 hA1, xk6 hA1, xk7 hA1, xl7 hA1, xr6_2 hA1, xi6_0 hA1, xi6_1 hA1, xk8 hA1, xk9 hA1, xl9 hA1, xr8_2 hA1, xi8_0 hA1, xi8_1 hA1, xk10 hA1, xk11 hA1, xl11 hA1, xr10_2 hA1, xi10_0 hA1, xi10_1 hA1, xr0_7 hA1, xr0_8 hA1, xr0_9 hA1, xr0_10 hA1, xr0_11 hA1, xr0_12 hA1, xk0 hA2, xk1 hA2, xl1 hA2, xk2 hA2, xk3 hA2, xl3 hA2, xr2_2 hA2, xi2_0 hA2, xi2_1 hA2, xk4 hA2, xk5 hA2, xl5 hA2, xr4_2 hA2, xi4_0 hA2, xi4_1 hA2, xk6 hA2, xk7 hA2, xl7 hA2, xr6_2 hA2, xi6_0 hA2, xi6_1 hA2, xk8 hA2, xk9 hA2, xl9 hA2, xr8_2 hA2, xi8_0 hA2, xi8_1 hA2, xk10 hA2, xk11 hA2, xl11 hA2, xr10_2 hA2, xi10_0 hA2, xi10_1 hA2, xr0_7 hA2, xr0_8 hA2, xr0_9 hA2, xr0_10 hA2, xr0_11 hA2, xr0_12 hA2, xk0 hA3, xk1 hA3, xl1 hA3, xk2 hA3, xk3 hA3, xl3 hA3, xr2_2 hA3, xi2_0 hA3, xi2_1 hA3, xk4 hA3, xk5 hA3, xl5 hA3, xr4_2 hA3, xi4_0 hA3, xi4_1 hA3, xk6 hA3, xk7 hA3, xl7 hA3, xr6_2 hA3, xi6_0 hA3, xi6_1 hA3, xk8 hA3, xk9 hA3, xl9 hA3, xr8_2 hA3, xi8_0 hA3, xi8_1 hA3, xk10 hA3, xk11 hA3, xl11 hA3, xr10_2 hA3, xi10_0 hA3, xi10_1 hA3, xr0_7 hA3, xr0_8 hA3, xr0_9 hA3, xr0_10 hA3, xr0_11 hA3, xr0_12 hA3, xk0 hA4, xk1 hA4, xl1 hA4, xk2 hA4, xk3 hA4, xl3 hA4, xr2_2 hA4, xi2_0 hA4, xi2_1 hA4, xk4 hA4, xk5 hA4, xl5 hA4, xr4_2 hA4, xi4_0 hA4, xi4_1 hA4, xk6 hA4, xk7 hA4, xl7 hA4, xr6_2 hA4, xi6_0 hA4, xi6_1 hA4, xk8 hA4, xk9 hA4, xl9 hA4, xr8_2 hA4, xi8_0 hA4, xi8_1 hA4, xk10 hA4, xk11 hA4, xl11 hA4, xr10_2 hA4, xi10_0 hA4, xi10_1 hA4, xr0_7 hA4, xr0_8 hA4, xr0_9 hA4, xr0_10 hA4, xr0_11 hA4, xr0_12 hA4, ga, p0, p1, p2, p3]
  · rw [if_neg hn]
    have tb := hR.tUc hA hV
    have ga := y_addf (S := S) (T := 113 + 2) (m := 6) (n := s_n (R 2)) (xk2 hA) (xi2_0 hA) c2 (by omega) (by omega) (by omega)
    have p0 := y_putm (v := x) (f := 0) tb
    have p1 := y_putm (v := y) (f := 1) tb
    have p2 := y_putm (v := z) (f := 2) tb
    have p3 := y_putm (v := -nI 1) (f := 3) tb
    refine ⟨S, -nI 1, ?_, hR, w_J.rf⟩
    simp (disch := omega) only [fX6_addUnit, kX6_addUnit_0, x_cs0, x_csi, x_csr, x_csn, x_csl, x_ret_v, x_ret_t, x_ret_n, x_tl_s, x_tl_n, x_lk0, x_lk, x_rem0, x_rem_i, x_rem_r, x_rem_l, x_rem2_0, x_rem2_i, x_rem2_r, x_rem2_l, x_pick0, x_pick_c, x_st1, x_st2, x_live, x_i, x_l, x_a, x_ild, x_lld, x_rld, x_ist, x_lst, x_rst, x_inc, x_ii, x_ll, x_li, x_cmp, x_ui, x_il, x_lti, x_idiv, x_irem, x_dup_i, x_dup_r, x_pop_i, x_pop_r, x_dupx_ir, x_dup2_ir, x_ifeq, x_iceq, x_iflt, x_iclt, x_ifge, x_icge, x_ifgt, x_icgt, x_ifle, x_icle, x_ifne, x_icne, x_ifnull_r, x_ifnull_n, x_ifnonnull_r, x_ifnonnull_n, x_sw, x_vret, x_iret, x_lret, x_zret, x_zret0, x_zret1, x_rf_s, x_rf_n, x_geti, x_getr, x_puti, x_putz, x_putr, x_ial, x_ias, x_lal, x_las, x_aal, x_aas, x_aast, x_alen, x_new, x_newa, x_copy, x_min, x_abs, x_minl, x_oinit, x_throw, x_callS0, x_callS1, x_callS2, x_callS3, x_callS4, x_callV0, x_callV1, x_callV2, x_callV3, x_callV4, x_callV5, x_retI_v, x_callI0, x_callI1, x_callI2, x_retN_v, x_callSN1, x_callSN2, x_callT0, x_callT1, x_fn, x_sl0, x_sli, x_slr, x_sll, x_ar0, x_ari, x_arr, x_arl, ↓reduceIte, Nat.reduceAdd, Nat.reduceSub, Nat.reduceMul, Nat.reduceEqDiff, Nat.reduceLeDiff, Nat.reduceLT, if_true, if_false, Nat.le_refl, and_true, true_and, and_self, reduceCtorEq, or_false, false_or, or_true, true_or, Nat.zero_le, fa_lit, nI_add, w_mul, nI_ltI, nI_leI, nI_eq, nI_clamp, nI_toInt, if_pos, if_neg, w_div, w_rem2, xk0 hA, xk1 hA, xl1 hA, xk2 hA, xk3 hA, xl3 hA, xr2_2 hA, xi2_0 hA, xi2_1 hA, xk4 hA, xk5 hA, xl5 hA, xr4_2 hA, xi4_0 hA, xi4_1 hA, xk6 hA, xk7 hA, xl7 hA, xr6_2 hA, xi6_0 hA, xi6_1 hA, xk8 hA, xk9 hA, xl9 hA, xr8_2 hA, xi8_0 hA, xi8_1 hA, xk10 hA, xk11 hA, xl11 hA, xr10_2 hA, xi10_0 hA, xi10_1 hA, xr0_7 hA, xr0_8 hA, xr0_9 hA, xr0_10 hA, xr0_11 hA, xr0_12 hA, ga, p0, p1, p2, p3]
end L11
