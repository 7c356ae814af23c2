/-! THE CLASS READS: a plan -/
def s_addL (R : Nat → Int32) (n : Nat) (u x y z : Int32) : Nat → Int32 := va_up (va_up (va_up (va_up (va_up R (464 + 4 * n + 0) u) (464 + 4 * n + 1) x) (464 + 4 * n + 2) y) (464 + 4 * n + 3) z) 8 (nI (n + 1))
def p_plan (B : Nat → Nat) (L : Nat) (s : p_S) : p_S :=
  let s0 := if s_n (s.2.2 8) < 20 then s else p_fail s 3
  let u := p_num B L s0 0 (s_n (s.2.2 2))
  let c := p_col B L u.1
  let r := p_free B L c.1 c.2
  let w := p_num B L r.1 0 500
  p_set w.1 (if s_n (s.2.2 8) < 20 then s_addL s.2.2 (s_n (s.2.2 8)) (nI u.2) (nI c.2) (nI r.2) (nI w.2) else s.2.2)
section L14
variable {S S' T : am_S} {a b c o p q i j k m n t L e f κ v0 lo h ne : Nat} {P : Nat → Prop} {B : Nat → Nat} {u x y z v hi : Int32} {s s' : p_S} {R Q : Nat → Int32}
theorem w_R.addL (h : w_R S a R) (hB : s_VC R) (hn : s_n (R 8) < 20) (hne : ne = s_n (R 8)) : w_R (am_putI (am_putI (am_putI (am_putI (am_putI S (a + 6) 3 (nI (ne + 1))) (a + 7) (ne * 4 + 0) u) (a + 7) (ne * 4 + 1) x) (a + 7) (ne * 4 + 2) y) (a + 7) (ne * 4 + 3) z) a (s_addL R ne u x y z) := by
  have b2 := hB.2.1.2
  have b3 := hB.2.2.1.2
  have b4 := hB.2.2.2.1.2
  have b7 := hB.2.2.2.2.1.2
  have b8 := hB.2.2.2.2.2.1.2
  obtain ⟨h1, h2, h3, h4, h5, h6, h7, h8, h9⟩ := h
  unfold w_R s_addL
  simp (disch := omega) only [x_i_I, if_neg, if_pos, s_up_n, s_up_s, w_snI]
  refine ⟨h1, ⟨h2.1, h2.2.1, ?_, h2.2.2.2.1, h2.2.2.2.2⟩, fun c hc2 => ?_, fun u g k1 k2 => ?_, fun u g k1 k2 => ?_, fun u k1 => ?_, fun u g k1 k2 => ?_, fun u g k1 k2 => ?_, fun u g k1 k2 => ?_⟩
  · first | rfl | trivial
  · try simp (disch := omega) only [s_up_n]
    exact h3 c hc2
  · try simp (disch := omega) only [s_up_n]
    exact h4 u g k1 k2
  · try simp (disch := omega) only [s_up_n]
    exact h5 u g k1 k2
  · try simp (disch := omega) only [s_up_n]
    exact h6 u k1
  · by_cases e : u = ne
    · subst e
      rcases (show g = 0 ∨ g = 1 ∨ g = 2 ∨ g = 3 by omega) with rfl | rfl | rfl | rfl
      · simp (disch := omega) only [if_true, if_neg, s_up_n, s_up_s]
      · simp (disch := omega) only [if_true, if_neg, s_up_n, s_up_s]
      · simp (disch := omega) only [if_true, if_neg, s_up_n, s_up_s]
      · simp (disch := omega) only [if_true, if_neg, s_up_n, s_up_s]
    · simp (disch := omega) only [if_pos, if_neg, s_up_n, s_up_s]
      exact h7 u g (by omega) k2
  · try simp (disch := omega) only [s_up_n]
    exact h8 u g k1 k2
  · try simp (disch := omega) only [s_up_n]
    exact h9 u g k1 k2
theorem s_VC.addL (hV : s_VC R) (hn : s_n (R 8) < 20) : s_VC (s_addL R (s_n (R 8)) u x y z) := by
  obtain ⟨v0, v2, v3, v4, v7, v8, v5, v9, vh, vw⟩ := hV
  unfold s_VC s_addL
  simp (disch := omega) only [s_up_n, s_up_s]
  exact ⟨v0, v2, v3, v4, v7, s_nnI (by omega) (by omega), v5, v9, vh, vw⟩
theorem w_sm1 (hm : m ≤ 80) : (nI m - nI 1).toInt = (m : Int) - 1 := by
  cases m with
  | zero => decide
  | succ m => rw [w_subN (by omega), nI_toInt (by omega)]; omega
theorem y_planR {S0 : am_S} (H : w_pc S0 S L B s) : ∃ S', fX0_readPlan w_N [.ref 135] S = some (.inl none, S') ∧ w_pc S0 S' L B (p_plan B L s) := by
  have hC := H.1.2.1
  have hA := H.2.2.2.1
  have hR := H.2.2.2.2.1
  have hV := H.2.2.2.2.2
  have ec := y_count (hR.tLc hA hV)
  have b8 := hV.2.2.2.2.2.1.2
  have b2 := hV.2.1.2
  obtain ⟨S1, f1, f2⟩ : ∃ S1, fX0_readPlan w_N [.ref 135] S = kX0_readPlan_23 w_N [(0, .ref 135)] [] S1 ∧ w_pc S0 S1 L B (if s_n (s.2.2 8) < 20 then s else p_fail s 3) := by
    by_cases c : s_n (s.2.2 8) < 20
    · rw [if_pos c]
      refine ⟨S, ?_, H⟩
      simp (disch := omega) only [fX0_readPlan, kX0_readPlan_0, x_cs0, x_csi, x_csr, x_csn, x_csl, x_ret_v, x_ret_t, x_ret_n, x_tl_s, x_tl_n, x_lk0, x_lk, x_rem0, x_rem_i, x_rem_r, x_rem_l, x_rem2_0, x_rem2_i, x_rem2_r, x_rem2_l, x_pick0, x_pick_c, x_st1, x_st2, x_live, x_i, x_l, x_a, x_ild, x_lld, x_rld, x_ist, x_lst, x_rst, x_inc, x_ii, x_ll, x_li, x_cmp, x_ui, x_il, x_lti, x_idiv, x_irem, x_dup_i, x_dup_r, x_pop_i, x_pop_r, x_dupx_ir, x_dup2_ir, x_ifeq, x_iceq, x_iflt, x_iclt, x_ifge, x_icge, x_ifgt, x_icgt, x_ifle, x_icle, x_ifne, x_icne, x_ifnull_r, x_ifnull_n, x_ifnonnull_r, x_ifnonnull_n, x_sw, x_vret, x_iret, x_lret, x_zret, x_zret0, x_zret1, x_rf_s, x_rf_n, x_geti, x_getr, x_puti, x_putz, x_putr, x_ial, x_ias, x_lal, x_las, x_aal, x_aas, x_aast, x_alen, x_new, x_newa, x_copy, x_min, x_abs, x_minl, x_oinit, x_throw, x_callS0, x_callS1, x_callS2, x_callS3, x_callS4, x_callV0, x_callV1, x_callV2, x_callV3, x_callV4, x_callV5, x_retI_v, x_callI0, x_callI1, x_callI2, x_retN_v, x_callSN1, x_callSN2, x_callT0, x_callT1, x_fn, x_sl0, x_sli, x_slr, x_sll, x_ar0, x_ari, x_arr, x_arl, ↓reduceIte, Nat.reduceAdd, Nat.reduceSub, Nat.reduceMul, Nat.reduceEqDiff, Nat.reduceLeDiff, Nat.reduceLT, if_true, if_false, Nat.le_refl, and_true, true_and, and_self, reduceCtorEq, or_false, false_or, or_true, true_or, Nat.zero_le, fa_lit, nI_add, w_mul, nI_ltI, nI_leI, nI_eq, nI_clamp, nI_toInt, if_pos, if_neg, w_div, w_rem2, yk100 hC, yk125 hC, yk126 hC, yk127 hC, yk128 hC, yk129 hC, yk130 hC, yk131 hC, yk132 hC, yk133 hC, yk134 hC, yk135 hC, yk136 hC, yk137 hC, yl126 hC, yl128 hC, yl130 hC, yl131 hC, yl133 hC, yl137 hC, yr100_0 hC, yr100_1 hC, yr100_2 hC, yr100_3 hC, yr100_4 hC, yr100_5 hC, yr100_6 hC, yr100_7 hC, yr100_8 hC, yr100_9 hC, yr100_10 hC, yr125_0 hC, yr127_0 hC, yr129_0 hC, yr129_1 hC, yr129_2 hC, yr132_0 hC, yr134_0 hC, yr135_0 hC, yr135_1 hC, yr136_0 hC, yr136_1 hC, xk0 hA, xk1 hA, xl1 hA, xk2 hA, xk3 hA, xl3 hA, xr2_2 hA, xi2_0 hA, xi2_1 hA, xk4 hA, xk5 hA, xl5 hA, xr4_2 hA, xi4_0 hA, xi4_1 hA, xk6 hA, xk7 hA, xl7 hA, xr6_2 hA, xi6_0 hA, xi6_1 hA, xk8 hA, xk9 hA, xl9 hA, xr8_2 hA, xi8_0 hA, xi8_1 hA, xk10 hA, xk11 hA, xl11 hA, xr10_2 hA, xi10_0 hA, xi10_1 hA, xr0_7 hA, xr0_8 hA, xr0_9 hA, xr0_10 hA, xr0_11 hA, xr0_12 hA, ec]
    · rw [if_neg c]
      obtain ⟨S2, k1, k2⟩ := y_fail H (c := 3) (by omega) (by omega)
      refine ⟨S2, ?_, k2⟩
      simp (disch := omega) only [fX0_readPlan, kX0_readPlan_0, x_cs0, x_csi, x_csr, x_csn, x_csl, x_ret_v, x_ret_t, x_ret_n, x_tl_s, x_tl_n, x_lk0, x_lk, x_rem0, x_rem_i, x_rem_r, x_rem_l, x_rem2_0, x_rem2_i, x_rem2_r, x_rem2_l, x_pick0, x_pick_c, x_st1, x_st2, x_live, x_i, x_l, x_a, x_ild, x_lld, x_rld, x_ist, x_lst, x_rst, x_inc, x_ii, x_ll, x_li, x_cmp, x_ui, x_il, x_lti, x_idiv, x_irem, x_dup_i, x_dup_r, x_pop_i, x_pop_r, x_dupx_ir, x_dup2_ir, x_ifeq, x_iceq, x_iflt, x_iclt, x_ifge, x_icge, x_ifgt, x_icgt, x_ifle, x_icle, x_ifne, x_icne, x_ifnull_r, x_ifnull_n, x_ifnonnull_r, x_ifnonnull_n, x_sw, x_vret, x_iret, x_lret, x_zret, x_zret0, x_zret1, x_rf_s, x_rf_n, x_geti, x_getr, x_puti, x_putz, x_putr, x_ial, x_ias, x_lal, x_las, x_aal, x_aas, x_aast, x_alen, x_new, x_newa, x_copy, x_min, x_abs, x_minl, x_oinit, x_throw, x_callS0, x_callS1, x_callS2, x_callS3, x_callS4, x_callV0, x_callV1, x_callV2, x_callV3, x_callV4, x_callV5, x_retI_v, x_callI0, x_callI1, x_callI2, x_retN_v, x_callSN1, x_callSN2, x_callT0, x_callT1, x_fn, x_sl0, x_sli, x_slr, x_sll, x_ar0, x_ari, x_arr, x_arl, ↓reduceIte, Nat.reduceAdd, Nat.reduceSub, Nat.reduceMul, Nat.reduceEqDiff, Nat.reduceLeDiff, Nat.reduceLT, if_true, if_false, Nat.le_refl, and_true, true_and, and_self, reduceCtorEq, or_false, false_or, or_true, true_or, Nat.zero_le, fa_lit, nI_add, w_mul, nI_ltI, nI_leI, nI_eq, nI_clamp, nI_toInt, if_pos, if_neg, w_div, w_rem2, yk100 hC, yk125 hC, yk126 hC, yk127 hC, yk128 hC, yk129 hC, yk130 hC, yk131 hC, yk132 hC, yk133 hC, yk134 hC, yk135 hC, yk136 hC, yk137 hC, yl126 hC, yl128 hC, yl130 hC, yl131 hC, yl133 hC, yl137 hC, yr100_0 hC, yr100_1 hC, yr100_2 hC, yr100_3 hC, yr100_4 hC, yr100_5 hC, yr100_6 hC, yr100_7 hC, yr100_8 hC, yr100_9 hC, yr100_10 hC, yr125_0 hC, yr127_0 hC, yr129_0 hC, yr129_1 hC, yr129_2 hC, yr132_0 hC, yr134_0 hC, yr135_0 hC, yr135_1 hC, yr136_0 hC, yr136_1 hC, xk0 hA, xk1 hA, xl1 hA, xk2 hA, xk3 hA, xl3 hA, xr2_2 hA, xi2_0 hA, xi2_1 hA, xk4 hA, xk5 hA, xl5 hA, xr4_2 hA, xi4_0 hA, xi4_1 hA, xk6 hA, xk7 hA, xl7 hA, xr6_2 hA, xi6_0 hA, xi6_1 hA, xk8 hA, xk9 hA, xl9 hA, xr8_2 hA, xi8_0 hA, xi8_1 hA, xk10 hA, xk11 hA, xl11 hA, xr10_2 hA, xi10_0 hA, xi10_1 hA, xr0_7 hA, xr0_8 hA, xr0_9 hA, xr0_10 hA, xr0_11 hA, xr0_12 hA, ec, k1]
  unfold p_plan
  dsimp only
  have e0 : (if s_n (s.2.2 8) < 20 then s else p_fail s 3).2.2 = s.2.2 := by
    split
    · rfl
    · rw [p_fail_2]
  generalize (if s_n (s.2.2 8) < 20 then s else p_fail s 3) = s0 at *
  have hC1 := f2.1.2.1
  have hA1 := f2.2.2.2.1
  have hR1 := f2.2.2.2.2.1
  have hV1 := f2.2.2.2.2.2
  rw [e0] at hR1 hV1
  have ec1 := y_count (hR1.tUc hA1 hV1)
  obtain ⟨Sa, a1, a2⟩ := y_num (lo := 0) (h := s_n (s.2.2 2)) (hi := nI (s_n (s.2.2 2)) - nI 1) f2 (w_sm1 (by omega)) (by omega) (by omega)
  obtain ⟨S2, g1, g2, g3⟩ := y_col a2
  obtain ⟨S3, k1, k2⟩ := y_free g2 g3
  obtain ⟨S4, m1, m2⟩ := y_num (lo := 0) (h := 500) (hi := nI 499) k2 (by rw [nI_toInt (by omega)]; rfl) (by omega) (by omega)
  have eR : (p_num B L (p_free B L (p_col B L (p_num B L s0 0 (s_n (s.2.2 2))).1).1 (p_col B L (p_num B L s0 0 (s_n (s.2.2 2))).1).2).1 0 500).1.2.2 = s.2.2 := by
    rw [p_num_R, p_free_R]
    exact (p_num_R.trans p_num_R).trans e0
  have hCa := a2.1.2.1
  have hC2 := g2.1.2.1
  have hC3 := k2.1.2.1
  have hC4 := m2.1.2.1
  have hA4 := m2.2.2.2.1
  have hR4 := m2.2.2.2.2.1
  have hV4 := m2.2.2.2.2.2
  rw [eR] at hR4 hV4
  generalize (p_num B L s0 0 (s_n (s.2.2 2))).2 = U at *
  generalize hc : p_col B L (p_num B L s0 0 (s_n (s.2.2 2))).1 = c at *
  generalize hr : p_free B L c.1 c.2 = r at *
  generalize hw : p_num B L r.1 0 500 = w at *
  have v8 := hV.2.2.2.2.2.1
  have c2 : am_i S4 (113 + 6) 3 = nI (s_n (s.2.2 8)) := hR4.2.1.2.2.1.trans v8.1
  by_cases hn : s_n (s.2.2 8) < 20
  · rw [if_pos hn]
    have hR' := hR4.addL (u := nI U) (x := nI c.2) (y := nI r.2) (z := nI w.2) hV4 hn rfl
    have hV' := hV4.addL (u := nI U) (x := nI c.2) (y := nI r.2) (z := nI w.2) hn
    generalize hno : s_n (s.2.2 8) = no at *
    have ga := y_add (S := S4) (T := 113 + 6) (m := 20) (n := no) (xk6 hA4) (xi6_0 hA4) c2 (by omega) hn
    have J1 : w_J 113 S4 (am_putI S4 (113 + 6) 3 (nI (no + 1))) := w_J.put (by omega) (by intro q _ _ _; omega)
    have hA5 := J1.A hA4
    have tb1 : w_tb (am_putI S4 (113 + 6) 3 (nI (no + 1))) (113 + 6) (113 + 7) 4 (no + 1) 80 := ⟨⟨xk6 hA5, xr6_2 hA5, xi6_1 hA5, x_i_Is⟩, ⟨xk7 hA5, xl7 hA5⟩, by omega, by omega, by omega, by omega⟩
    have st : ∀ (S1 : am_S) j w, w_tb S1 (113 + 6) (113 + 7) 4 (no + 1) 80 → w_tb (am_putI S1 (113 + 7) j w) (113 + 6) (113 + 7) 4 (no + 1) 80 := fun S1 j w hh => by
      obtain ⟨⟨q1, q2, q3, q4⟩, q5, q6⟩ := hh
      exact ⟨⟨q1, q2, by rw [x_i_I, if_neg (by omega)]; exact q3, by rw [x_i_I, if_neg (by omega)]; exact q4⟩, q5, q6⟩
    have jj : ∀ (S1 : am_S) j w, w_J 113 S1 (am_putI S1 (113 + 7) j w) := fun S1 j w => w_J.put (by omega) (by intro q _ _ _; omega)
    have hC5 := J1.1.C hC4
    generalize hS1 : am_putI S4 (113 + 6) 3 (nI (no + 1)) = T1 at *
    have tb2 := st T1 (no * 4 + 0) (nI U) tb1
    have p0 := y_put (v := nI U) tb1 (r := no) (f := 0) (by omega) (by omega)
    have J2 := jj T1 (no * 4 + 0) (nI U)
    have hA6 := J2.A hA5
    have hC6 := J2.1.C hC5
    generalize hS2 : am_putI T1 (113 + 7) (no * 4 + 0) (nI U) = T2 at *
    have tb3 := st T2 (no * 4 + 1) (nI c.2) tb2
    have p1 := y_put (v := nI c.2) tb2 (r := no) (f := 1) (by omega) (by omega)
    have J3 := jj T2 (no * 4 + 1) (nI c.2)
    have hA7 := J3.A hA6
    have hC7 := J3.1.C hC6
    generalize hS3 : am_putI T2 (113 + 7) (no * 4 + 1) (nI c.2) = T3 at *
    have tb4 := st T3 (no * 4 + 2) (nI r.2) tb3
    have p2 := y_put (v := nI r.2) tb3 (r := no) (f := 2) (by omega) (by omega)
    have J4 := jj T3 (no * 4 + 2) (nI r.2)
    have hA8 := J4.A hA7
    have hC8 := J4.1.C hC7
    generalize hS4 : am_putI T3 (113 + 7) (no * 4 + 2) (nI r.2) = T4 at *
    have p3 := y_put (v := nI w.2) tb4 (r := no) (f := 3) (by omega) (by omega)
    have J5 := jj T4 (no * 4 + 3) (nI w.2)
    refine ⟨_, ?_, m2.row (J1.tr (J2.tr (J3.tr (J4.tr J5)))) hR' hV'⟩
    rw [f1]
    simp (disch := omega) only [kX0_readPlan_23, x_cs0, x_csi, x_csr, x_csn, x_csl, x_ret_v, x_ret_t, x_ret_n, x_tl_s, x_tl_n, x_lk0, x_lk, x_rem0, x_rem_i, x_rem_r, x_rem_l, x_rem2_0, x_rem2_i, x_rem2_r, x_rem2_l, x_pick0, x_pick_c, x_st1, x_st2, x_live, x_i, x_l, x_a, x_ild, x_lld, x_rld, x_ist, x_lst, x_rst, x_inc, x_ii, x_ll, x_li, x_cmp, x_ui, x_il, x_lti, x_idiv, x_irem, x_dup_i, x_dup_r, x_pop_i, x_pop_r, x_dupx_ir, x_dup2_ir, x_ifeq, x_iceq, x_iflt, x_iclt, x_ifge, x_icge, x_ifgt, x_icgt, x_ifle, x_icle, x_ifne, x_icne, x_ifnull_r, x_ifnull_n, x_ifnonnull_r, x_ifnonnull_n, x_sw, x_vret, x_iret, x_lret, x_zret, x_zret0, x_zret1, x_rf_s, x_rf_n, x_geti, x_getr, x_puti, x_putz, x_putr, x_ial, x_ias, x_lal, x_las, x_aal, x_aas, x_aast, x_alen, x_new, x_newa, x_copy, x_min, x_abs, x_minl, x_oinit, x_throw, x_callS0, x_callS1, x_callS2, x_callS3, x_callS4, x_callV0, x_callV1, x_callV2, x_callV3, x_callV4, x_callV5, x_retI_v, x_callI0, x_callI1, x_callI2, x_retN_v, x_callSN1, x_callSN2, x_callT0, x_callT1, x_fn, x_sl0, x_sli, x_slr, x_sll, x_ar0, x_ari, x_arr, x_arl, ↓reduceIte, Nat.reduceAdd, Nat.reduceSub, Nat.reduceMul, Nat.reduceEqDiff, Nat.reduceLeDiff, Nat.reduceLT, if_true, if_false, Nat.le_refl, and_true, true_and, and_self, reduceCtorEq, or_false, false_or, or_true, true_or, Nat.zero_le, fa_lit, nI_add, w_mul, nI_ltI, nI_leI, nI_eq, nI_clamp, nI_toInt, if_pos, if_neg, w_div, w_rem2, yk100 hC1, yk125 hC1, yk126 hC1, yk127 hC1, yk128 hC1, yk129 hC1, yk130 hC1, yk131 hC1, yk132 hC1, yk133 hC1, yk134 hC1, yk135 hC1, yk136 hC1, yk137 hC1, yl126 hC1, yl128 hC1, yl130 hC1, yl131 hC1, yl133 hC1, yl137 hC1, yr100_0 hC1, yr100_1 hC1, yr100_2 hC1, yr100_3 hC1, yr100_4 hC1, yr100_5 hC1, yr100_6 hC1, yr100_7 hC1, yr100_8 hC1, yr100_9 hC1, yr100_10 hC1, yr125_0 hC1, yr127_0 hC1, yr129_0 hC1, yr129_1 hC1, yr129_2 hC1, yr132_0 hC1, yr134_0 hC1, yr135_0 hC1, yr135_1 hC1, yr136_0 hC1, yr136_1 hC1, xk0 hA1, xk1 hA1, xl1 hA1, xk2 hA1, xk3 hA1, xl3 hA1, xr2_2 hA1, xi2_0 hA1, xi2_1 hA1, xk4 hA1, xk5 hA1, xl5 hA1, xr4_2 hA1, xi4_0 hA1, xi4_1 hA1, xk6 hA1, xk7 hA1, xl7 hA1, xr6_2 hA1, xi6_0 hA1, xi6_1 hA1, xk8 hA1, xk9 hA1, xl9 hA1, xr8_2 hA1, xi8_0 hA1, xi8_1 hA1, xk10 hA1, xk11 hA1, xl11 hA1, xr10_2 hA1, xi10_0 hA1, xi10_1 hA1, xr0_7 hA1, xr0_8 hA1, xr0_9 hA1, xr0_10 hA1, xr0_11 hA1, xr0_12 hA1, yk100 hCa, yk125 hCa, yk126 hCa, yk127 hCa, yk128 hCa, yk129 hCa, yk130 hCa, yk131 hCa, yk132 hCa, yk133 hCa, yk134 hCa, yk135 hCa, yk136 hCa, yk137 hCa, yl126 hCa, yl128 hCa, yl130 hCa, yl131 hCa, yl133 hCa, yl137 hCa, yr100_0 hCa, yr100_1 hCa, yr100_2 hCa, yr100_3 hCa, yr100_4 hCa, yr100_5 hCa, yr100_6 hCa, yr100_7 hCa, yr100_8 hCa, yr100_9 hCa, yr100_10 hCa, yr125_0 hCa, yr127_0 hCa, yr129_0 hCa, yr129_1 hCa, yr129_2 hCa, yr132_0 hCa, yr134_0 hCa, yr135_0 hCa, yr135_1 hCa, yr136_0 hCa, yr136_1 hCa, yk100 hC2, yk125 hC2, yk126 hC2, yk127 hC2, yk128 hC2, yk129 hC2, yk130 hC2, yk131 hC2, yk132 hC2, yk133 hC2, yk134 hC2, yk135 hC2, yk136 hC2, yk137 hC2, yl126 hC2, yl128 hC2, yl130 hC2, yl131 hC2, yl133 hC2, yl137 hC2, yr100_0 hC2, yr100_1 hC2, yr100_2 hC2, yr100_3 hC2, yr100_4 hC2, yr100_5 hC2, yr100_6 hC2, yr100_7 hC2, yr100_8 hC2, yr100_9 hC2, yr100_10 hC2, yr125_0 hC2, yr127_0 hC2, yr129_0 hC2, yr129_1 hC2, yr129_2 hC2, yr132_0 hC2, yr134_0 hC2, yr135_0 hC2, yr135_1 hC2, yr136_0 hC2, yr136_1 hC2, yk100 hC3, yk125 hC3, yk126 hC3, yk127 hC3, yk128 hC3, yk129 hC3, yk130 hC3, yk131 hC3, yk132 hC3, yk133 hC3, yk134 hC3, yk135 hC3, yk136 hC3, yk137 hC3, yl126 hC3, yl128 hC3, yl130 hC3, yl131 hC3, yl133 hC3, yl137 hC3, yr100_0 hC3, yr100_1 hC3, yr100_2 hC3, yr100_3 hC3, yr100_4 hC3, yr100_5 hC3, yr100_6 hC3, yr100_7 hC3, yr100_8 hC3, yr100_9 hC3, yr100_10 hC3, yr125_0 hC3, yr127_0 hC3, yr129_0 hC3, yr129_1 hC3, yr129_2 hC3, yr132_0 hC3, yr134_0 hC3, yr135_0 hC3, yr135_1 hC3, yr136_0 hC3, yr136_1 hC3, yk100 hC4, yk125 hC4, yk126 hC4, yk127 hC4, yk128 hC4, yk129 hC4, yk130 hC4, yk131 hC4, yk132 hC4, yk133 hC4, yk134 hC4, yk135 hC4, yk136 hC4, yk137 hC4, yl126 hC4, yl128 hC4, yl130 hC4, yl131 hC4, yl133 hC4, yl137 hC4, yr100_0 hC4, yr100_1 hC4, yr100_2 hC4, yr100_3 hC4, yr100_4 hC4, yr100_5 hC4, yr100_6 hC4, yr100_7 hC4, yr100_8 hC4, yr100_9 hC4, yr100_10 hC4, yr125_0 hC4, yr127_0 hC4, yr129_0 hC4, yr129_1 hC4, yr129_2 hC4, yr132_0 hC4, yr134_0 hC4, yr135_0 hC4, yr135_1 hC4, yr136_0 hC4, yr136_1 hC4, xk0 hA4, xk1 hA4, xl1 hA4, xk2 hA4, xk3 hA4, xl3 hA4, xr2_2 hA4, xi2_0 hA4, xi2_1 hA4, xk4 hA4, xk5 hA4, xl5 hA4, xr4_2 hA4, xi4_0 hA4, xi4_1 hA4, xk6 hA4, xk7 hA4, xl7 hA4, xr6_2 hA4, xi6_0 hA4, xi6_1 hA4, xk8 hA4, xk9 hA4, xl9 hA4, xr8_2 hA4, xi8_0 hA4, xi8_1 hA4, xk10 hA4, xk11 hA4, xl11 hA4, xr10_2 hA4, xi10_0 hA4, xi10_1 hA4, xr0_7 hA4, xr0_8 hA4, xr0_9 hA4, xr0_10 hA4, xr0_11 hA4, xr0_12 hA4, yk100 hC5, yk125 hC5, yk126 hC5, yk127 hC5, yk128 hC5, yk129 hC5, yk130 hC5, yk131 hC5, yk132 hC5, yk133 hC5, yk134 hC5, yk135 hC5, yk136 hC5, yk137 hC5, yl126 hC5, yl128 hC5, yl130 hC5, yl131 hC5, yl133 hC5, yl137 hC5, yr100_0 hC5, yr100_1 hC5, yr100_2 hC5, yr100_3 hC5, yr100_4 hC5, yr100_5 hC5, yr100_6 hC5, yr100_7 hC5, yr100_8 hC5, yr100_9 hC5, yr100_10 hC5, yr125_0 hC5, yr127_0 hC5, yr129_0 hC5, yr129_1 hC5, yr129_2 hC5, yr132_0 hC5, yr134_0 hC5, yr135_0 hC5, yr135_1 hC5, yr136_0 hC5, yr136_1 hC5, xk0 hA5, xk1 hA5, xl1 hA5, xk2 hA5, xk3 hA5, xl3 hA5, xr2_2 hA5, xi2_0 hA5, xi2_1 hA5, xk4 hA5, xk5 hA5, xl5 hA5, xr4_2 hA5, xi4_0 hA5, xi4_1 hA5, xk6 hA5, xk7 hA5, xl7 hA5, xr6_2 hA5, xi6_0 hA5, xi6_1 hA5, xk8 hA5, xk9 hA5, xl9 hA5, xr8_2 hA5, xi8_0 hA5, xi8_1 hA5, xk10 hA5, xk11 hA5, xl11 hA5, xr10_2 hA5, xi10_0 hA5, xi10_1 hA5, xr0_7 hA5, xr0_8 hA5, xr0_9 hA5, xr0_10 hA5, xr0_11 hA5, xr0_12 hA5, yk100 hC6, yk125 hC6, yk126 hC6, yk127 hC6, yk128 hC6, yk129 hC6, yk130 hC6, yk131 hC6, yk132 hC6, yk133 hC6, yk134 hC6, yk135 hC6, yk136 hC6, yk137 hC6, yl126 hC6, yl128 hC6, yl130 hC6, yl131 hC6, yl133 hC6, yl137 hC6, yr100_0 hC6, yr100_1 hC6, yr100_2 hC6, yr100_3 hC6, yr100_4 hC6, yr100_5 hC6, yr100_6 hC6, yr100_7 hC6, yr100_8 hC6, yr100_9 hC6, yr100_10 hC6, yr125_0 hC6, yr127_0 hC6, yr129_0 hC6, yr129_1 hC6, yr129_2 hC6, yr132_0 hC6, yr134_0 hC6, yr135_0 hC6, yr135_1 hC6, yr136_0 hC6, yr136_1 hC6, xk0 hA6, xk1 hA6, xl1 hA6, xk2 hA6, xk3 hA6, xl3 hA6, xr2_2 hA6, xi2_0 hA6, xi2_1 hA6, xk4 hA6, xk5 hA6, xl5 hA6, xr4_2 hA6, xi4_0 hA6, xi4_1 hA6, xk6 hA6, xk7 hA6, xl7 hA6, xr6_2 hA6, xi6_0 hA6, xi6_1 hA6, xk8 hA6, xk9 hA6, xl9 hA6, xr8_2 hA6, xi8_0 hA6, xi8_1 hA6, xk10 hA6, xk11 hA6, xl11 hA6, xr10_2 hA6, xi10_0 hA6, xi10_1 hA6, xr0_7 hA6, xr0_8 hA6, xr0_9 hA6, xr0_10 hA6, xr0_11 hA6, xr0_12 hA6, yk100 hC7, yk125 hC7, yk126 hC7, yk127 hC7, yk128 hC7, yk129 hC7, yk130 hC7, yk131 hC7, yk132 hC7, yk133 hC7, yk134 hC7, yk135 hC7, yk136 hC7, yk137 hC7, yl126 hC7, yl128 hC7, yl130 hC7, yl131 hC7, yl133 hC7, yl137 hC7, yr100_0 hC7, yr100_1 hC7, yr100_2 hC7, yr100_3 hC7, yr100_4 hC7, yr100_5 hC7, yr100_6 hC7, yr100_7 hC7, yr100_8 hC7, yr100_9 hC7, yr100_10 hC7, yr125_0 hC7, yr127_0 hC7, yr129_0 hC7, yr129_1 hC7, yr129_2 hC7, yr132_0 hC7, yr134_0 hC7, yr135_0 hC7, yr135_1 hC7, yr136_0 hC7, yr136_1 hC7, xk0 hA7, xk1 hA7, xl1 hA7, xk2 hA7, xk3 hA7, xl3 hA7, xr2_2 hA7, xi2_0 hA7, xi2_1 hA7, xk4 hA7, xk5 hA7, xl5 hA7, xr4_2 hA7, xi4_0 hA7, xi4_1 hA7, xk6 hA7, xk7 hA7, xl7 hA7, xr6_2 hA7, xi6_0 hA7, xi6_1 hA7, xk8 hA7, xk9 hA7, xl9 hA7, xr8_2 hA7, xi8_0 hA7, xi8_1 hA7, xk10 hA7, xk11 hA7, xl11 hA7, xr10_2 hA7, xi10_0 hA7, xi10_1 hA7, xr0_7 hA7, xr0_8 hA7, xr0_9 hA7, xr0_10 hA7, xr0_11 hA7, xr0_12 hA7, yk100 hC8, yk125 hC8, yk126 hC8, yk127 hC8, yk128 hC8, yk129 hC8, yk130 hC8, yk131 hC8, yk132 hC8, yk133 hC8, yk134 hC8, yk135 hC8, yk136 hC8, yk137 hC8, yl126 hC8, yl128 hC8, yl130 hC8, yl131 hC8, yl133 hC8, yl137 hC8, yr100_0 hC8, yr100_1 hC8, yr100_2 hC8, yr100_3 hC8, yr100_4 hC8, yr100_5 hC8, yr100_6 hC8, yr100_7 hC8, yr100_8 hC8, yr100_9 hC8, yr100_10 hC8, yr125_0 hC8, yr127_0 hC8, yr129_0 hC8, yr129_1 hC8, yr129_2 hC8, yr132_0 hC8, yr134_0 hC8, yr135_0 hC8, yr135_1 hC8, yr136_0 hC8, yr136_1 hC8, xk0 hA8, xk1 hA8, xl1 hA8, xk2 hA8, xk3 hA8, xl3 hA8, xr2_2 hA8, xi2_0 hA8, xi2_1 hA8, xk4 hA8, xk5 hA8, xl5 hA8, xr4_2 hA8, xi4_0 hA8, xi4_1 hA8, xk6 hA8, xk7 hA8, xl7 hA8, xr6_2 hA8, xi6_0 hA8, xi6_1 hA8, xk8 hA8, xk9 hA8, xl9 hA8, xr8_2 hA8, xi8_0 hA8, xi8_1 hA8, xk10 hA8, xk11 hA8, xl11 hA8, xr10_2 hA8, xi10_0 hA8, xi10_1 hA8, xr0_7 hA8, xr0_8 hA8, xr0_9 hA8, xr0_10 hA8, xr0_11 hA8, xr0_12 hA8, ec1, a1, g1, k1, m1, ga, p0, p1, p2, p3]
  · rw [if_neg hn]
    have tb := hR4.tLc hA4 hV4
    have ga := y_addf (S := S4) (T := 113 + 6) (m := 20) (n := s_n (s.2.2 8)) (xk6 hA4) (xi6_0 hA4) c2 (by omega) (by omega) (by omega)
    have p0 := y_putm (v := nI U) (f := 0) tb
    have p1 := y_putm (v := nI c.2) (f := 1) tb
    have p2 := y_putm (v := nI r.2) (f := 2) tb
    have p3 := y_putm (v := nI w.2) (f := 3) tb
    refine ⟨S4, ?_, m2.row w_J.rf hR4 hV4⟩
    rw [f1]
    simp (disch := omega) only [kX0_readPlan_23, x_cs0, x_csi, x_csr, x_csn, x_csl, x_ret_v, x_ret_t, x_ret_n, x_tl_s, x_tl_n, x_lk0, x_lk, x_rem0, x_rem_i, x_rem_r, x_rem_l, x_rem2_0, x_rem2_i, x_rem2_r, x_rem2_l, x_pick0, x_pick_c, x_st1, x_st2, x_live, x_i, x_l, x_a, x_ild, x_lld, x_rld, x_ist, x_lst, x_rst, x_inc, x_ii, x_ll, x_li, x_cmp, x_ui, x_il, x_lti, x_idiv, x_irem, x_dup_i, x_dup_r, x_pop_i, x_pop_r, x_dupx_ir, x_dup2_ir, x_ifeq, x_iceq, x_iflt, x_iclt, x_ifge, x_icge, x_ifgt, x_icgt, x_ifle, x_icle, x_ifne, x_icne, x_ifnull_r, x_ifnull_n, x_ifnonnull_r, x_ifnonnull_n, x_sw, x_vret, x_iret, x_lret, x_zret, x_zret0, x_zret1, x_rf_s, x_rf_n, x_geti, x_getr, x_puti, x_putz, x_putr, x_ial, x_ias, x_lal, x_las, x_aal, x_aas, x_aast, x_alen, x_new, x_newa, x_copy, x_min, x_abs, x_minl, x_oinit, x_throw, x_callS0, x_callS1, x_callS2, x_callS3, x_callS4, x_callV0, x_callV1, x_callV2, x_callV3, x_callV4, x_callV5, x_retI_v, x_callI0, x_callI1, x_callI2, x_retN_v, x_callSN1, x_callSN2, x_callT0, x_callT1, x_fn, x_sl0, x_sli, x_slr, x_sll, x_ar0, x_ari, x_arr, x_arl, ↓reduceIte, Nat.reduceAdd, Nat.reduceSub, Nat.reduceMul, Nat.reduceEqDiff, Nat.reduceLeDiff, Nat.reduceLT, if_true, if_false, Nat.le_refl, and_true, true_and, and_self, reduceCtorEq, or_false, false_or, or_true, true_or, Nat.zero_le, fa_lit, nI_add, w_mul, nI_ltI, nI_leI, nI_eq, nI_clamp, nI_toInt, if_pos, if_neg, w_div, w_rem2, yk100 hC1, yk125 hC1, yk126 hC1, yk127 hC1, yk128 hC1, yk129 hC1, yk130 hC1, yk131 hC1, yk132 hC1, yk133 hC1, yk134 hC1, yk135 hC1, yk136 hC1, yk137 hC1, yl126 hC1, yl128 hC1, yl130 hC1, yl131 hC1, yl133 hC1, yl137 hC1, yr100_0 hC1, yr100_1 hC1, yr100_2 hC1, yr100_3 hC1, yr100_4 hC1, yr100_5 hC1, yr100_6 hC1, yr100_7 hC1, yr100_8 hC1, yr100_9 hC1, yr100_10 hC1, yr125_0 hC1, yr127_0 hC1, yr129_0 hC1, yr129_1 hC1, yr129_2 hC1, yr132_0 hC1, yr134_0 hC1, yr135_0 hC1, yr135_1 hC1, yr136_0 hC1, yr136_1 hC1, xk0 hA1, xk1 hA1, xl1 hA1, xk2 hA1, xk3 hA1, xl3 hA1, xr2_2 hA1, xi2_0 hA1, xi2_1 hA1, xk4 hA1, xk5 hA1, xl5 hA1, xr4_2 hA1, xi4_0 hA1, xi4_1 hA1, xk6 hA1, xk7 hA1, xl7 hA1, xr6_2 hA1, xi6_0 hA1, xi6_1 hA1, xk8 hA1, xk9 hA1, xl9 hA1, xr8_2 hA1, xi8_0 hA1, xi8_1 hA1, xk10 hA1, xk11 hA1, xl11 hA1, xr10_2 hA1, xi10_0 hA1, xi10_1 hA1, xr0_7 hA1, xr0_8 hA1, xr0_9 hA1, xr0_10 hA1, xr0_11 hA1, xr0_12 hA1, yk100 hCa, yk125 hCa, yk126 hCa, yk127 hCa, yk128 hCa, yk129 hCa, yk130 hCa, yk131 hCa, yk132 hCa, yk133 hCa, yk134 hCa, yk135 hCa, yk136 hCa, yk137 hCa, yl126 hCa, yl128 hCa, yl130 hCa, yl131 hCa, yl133 hCa, yl137 hCa, yr100_0 hCa, yr100_1 hCa, yr100_2 hCa, yr100_3 hCa, yr100_4 hCa, yr100_5 hCa, yr100_6 hCa, yr100_7 hCa, yr100_8 hCa, yr100_9 hCa, yr100_10 hCa, yr125_0 hCa, yr127_0 hCa, yr129_0 hCa, yr129_1 hCa, yr129_2 hCa, yr132_0 hCa, yr134_0 hCa, yr135_0 hCa, yr135_1 hCa, yr136_0 hCa, yr136_1 hCa, yk100 hC2, yk125 hC2, yk126 hC2, yk127 hC2, yk128 hC2, yk129 hC2, yk130 hC2, yk131 hC2, yk132 hC2, yk133 hC2, yk134 hC2, yk135 hC2, yk136 hC2, yk137 hC2, yl126 hC2, yl128 hC2, yl130 hC2, yl131 hC2, yl133 hC2, yl137 hC2, yr100_0 hC2, yr100_1 hC2, yr100_2 hC2, yr100_3 hC2, yr100_4 hC2, yr100_5 hC2, yr100_6 hC2, yr100_7 hC2, yr100_8 hC2, yr100_9 hC2, yr100_10 hC2, yr125_0 hC2, yr127_0 hC2, yr129_0 hC2, yr129_1 hC2, yr129_2 hC2, yr132_0 hC2, yr134_0 hC2, yr135_0 hC2, yr135_1 hC2, yr136_0 hC2, yr136_1 hC2, yk100 hC3, yk125 hC3, yk126 hC3, yk127 hC3, yk128 hC3, yk129 hC3, yk130 hC3, yk131 hC3, yk132 hC3, yk133 hC3, yk134 hC3, yk135 hC3, yk136 hC3, yk137 hC3, yl126 hC3, yl128 hC3, yl130 hC3, yl131 hC3, yl133 hC3, yl137 hC3, yr100_0 hC3, yr100_1 hC3, yr100_2 hC3, yr100_3 hC3, yr100_4 hC3, yr100_5 hC3, yr100_6 hC3, yr100_7 hC3, yr100_8 hC3, yr100_9 hC3, yr100_10 hC3, yr125_0 hC3, yr127_0 hC3, yr129_0 hC3, yr129_1 hC3, yr129_2 hC3, yr132_0 hC3, yr134_0 hC3, yr135_0 hC3, yr135_1 hC3, yr136_0 hC3, yr136_1 hC3, yk100 hC4, yk125 hC4, yk126 hC4, yk127 hC4, yk128 hC4, yk129 hC4, yk130 hC4, yk131 hC4, yk132 hC4, yk133 hC4, yk134 hC4, yk135 hC4, yk136 hC4, yk137 hC4, yl126 hC4, yl128 hC4, yl130 hC4, yl131 hC4, yl133 hC4, yl137 hC4, yr100_0 hC4, yr100_1 hC4, yr100_2 hC4, yr100_3 hC4, yr100_4 hC4, yr100_5 hC4, yr100_6 hC4, yr100_7 hC4, yr100_8 hC4, yr100_9 hC4, yr100_10 hC4, yr125_0 hC4, yr127_0 hC4, yr129_0 hC4, yr129_1 hC4, yr129_2 hC4, yr132_0 hC4, yr134_0 hC4, yr135_0 hC4, yr135_1 hC4, yr136_0 hC4, yr136_1 hC4, xk0 hA4, xk1 hA4, xl1 hA4, xk2 hA4, xk3 hA4, xl3 hA4, xr2_2 hA4, xi2_0 hA4, xi2_1 hA4, xk4 hA4, xk5 hA4, xl5 hA4, xr4_2 hA4, xi4_0 hA4, xi4_1 hA4, xk6 hA4, xk7 hA4, xl7 hA4, xr6_2 hA4, xi6_0 hA4, xi6_1 hA4, xk8 hA4, xk9 hA4, xl9 hA4, xr8_2 hA4, xi8_0 hA4, xi8_1 hA4, xk10 hA4, xk11 hA4, xl11 hA4, xr10_2 hA4, xi10_0 hA4, xi10_1 hA4, xr0_7 hA4, xr0_8 hA4, xr0_9 hA4, xr0_10 hA4, xr0_11 hA4, xr0_12 hA4, ec1, a1, g1, k1, m1, ga, p0, p1, p2, p3]
end L14
