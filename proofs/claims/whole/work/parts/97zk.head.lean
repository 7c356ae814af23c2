/-! THE CLASS READS: the head of a text -/
def p_head (B : Nat → Nat) (L : Nat) (s : p_S) : p_S :=
  let w := p_num B L s 3 13
  let h := p_num B L w.1 3 13
  p_set (p_semi B L h.1) (va_up (va_up s.2.2 0 (nI w.2)) 1 (nI h.2))
section L22
variable {L : Nat} {B : Nat → Nat} {S0 : am_S}
theorem p_semi_R {s : p_S} : (p_semi B L s).2.2 = s.2.2 := by
  unfold p_semi
  split
  · split
    · rfl
    · rw [p_fail_2]
      rfl
  · rfl
theorem y_text42 {S : am_S} {s : p_S} (H : w_pc S0 S L B s) : ∃ S', kX0_readText_42 w_N [(0, .ref 135)] [] S = some (.inl (some (.int (nI (p_loop B L 600 (p_head B L s)).1.1))), S') ∧ w_pc S0 S' L B (p_loop B L 600 (p_head B L s)) := by
  have hC := H.1.2.1
  obtain ⟨S1, f1, f2⟩ := y_num (lo := 3) (h := 13) (hi := nI 12) H (by rw [nI_toInt (by omega)]; rfl) (by omega) (by omega)
  obtain ⟨S2, g1, g2⟩ := y_num (lo := 3) (h := 13) (hi := nI 12) f2 (by rw [nI_toInt (by omega)]; rfl) (by omega) (by omega)
  obtain ⟨S3, k1, k2⟩ := y_semi g2
  have wl := p_num_lt (B := B) (L := L) (s := s) (lo := 3) (h := 13) (m := 12) (by omega) (by omega)
  have hl := p_num_lt (B := B) (L := L) (s := (p_num B L s 3 13).1) (lo := 3) (h := 13) (m := 12) (by omega) (by omega)
  have eR : (p_semi B L (p_num B L (p_num B L s 3 13).1 3 13).1).2.2 = s.2.2 := by rw [p_semi_R, p_num_R, p_num_R]
  have hC1 := f2.1.2.1
  have hC2 := g2.1.2.1
  have hC3 := k2.1.2.1
  have hA3 := k2.2.2.2.1
  have hR3 := k2.2.2.2.2.1
  have hV3 := k2.2.2.2.2.2
  rw [eR] at hR3 hV3
  have J0 : w_J 113 S3 (am_putI S3 113 0 (nI (p_num B L s 3 13).2)) := w_J.puta (by omega)
  have hA4 := J0.A hA3
  have hC4 := J0.1.C hC3
  have hR5 := (hR3.put0 (v := nI (p_num B L s 3 13).2)).put1 (v := nI (p_num B L (p_num B L s 3 13).1 3 13).2)
  have H5 := k2.row (J0.tr (w_J.puta (f := 1) (v := nI (p_num B L (p_num B L s 3 13).1 3 13).2) (by omega))) hR5 (by
    generalize (p_num B L (p_num B L s 3 13).1 3 13).2 = Y at *
    generalize (p_num B L s 3 13).2 = X at *
    obtain ⟨v0, v2, v3, v4, v7, v8, v5, v9, vh, vw⟩ := hV3
    unfold s_VC
    simp (disch := omega) only [s_up_n, s_up_s]
    exact ⟨⟨s_nnI (by omega) (by omega), by rw [w_snI (by omega)]; omega, s_nnI (by omega) (by omega), by rw [w_snI (by omega)]; omega⟩, v2, v3, v4, v7, v8, v5, v9, vh, vw⟩)
  have H6 : w_pc S0 (am_putI (am_putI S3 113 0 (nI (p_num B L s 3 13).2)) 113 1 (nI (p_num B L (p_num B L s 3 13).1 3 13).2)) L B (p_head B L s) := H5
  obtain ⟨S', q1, q2⟩ := y_textL 600 0 _ _ w_N (by omega) (by show 600 < 5000; omega) H6
  refine ⟨S', ?_, q2⟩
  simp (disch := omega) only [kX0_readText_42, kX0_readText_81, x_cs0, x_csi, x_csr, x_csn, x_csl, x_ret_v, x_ret_t, x_ret_n, x_tl_s, x_tl_n, x_lk0, x_lk, x_rem0, x_rem_i, x_rem_r, x_rem_l, x_rem2_0, x_rem2_i, x_rem2_r, x_rem2_l, x_pick0, x_pick_c, x_st1, x_st2, x_live, x_i, x_l, x_a, x_ild, x_lld, x_rld, x_ist, x_lst, x_rst, x_inc, x_ii, x_ll, x_li, x_cmp, x_ui, x_il, x_lti, x_idiv, x_irem, x_dup_i, x_dup_r, x_pop_i, x_pop_r, x_dupx_ir, x_dup2_ir, x_ifeq, x_iceq, x_iflt, x_iclt, x_ifge, x_icge, x_ifgt, x_icgt, x_ifle, x_icle, x_ifne, x_icne, x_ifnull_r, x_ifnull_n, x_ifnonnull_r, x_ifnonnull_n, x_sw, x_vret, x_iret, x_lret, x_zret, x_zret0, x_zret1, x_rf_s, x_rf_n, x_geti, x_getr, x_puti, x_putz, x_putr, x_ial, x_ias, x_lal, x_las, x_aal, x_aas, x_aast, x_alen, x_new, x_newa, x_copy, x_min, x_abs, x_minl, x_oinit, x_throw, x_callS0, x_callS1, x_callS2, x_callS3, x_callS4, x_callV0, x_callV1, x_callV2, x_callV3, x_callV4, x_callV5, x_retI_v, x_callI0, x_callI1, x_callI2, x_retN_v, x_callSN1, x_callSN2, x_callT0, x_callT1, x_fn, x_sl0, x_sli, x_slr, x_sll, x_ar0, x_ari, x_arr, x_arl, ↓reduceIte, Nat.reduceAdd, Nat.reduceSub, Nat.reduceMul, Nat.reduceEqDiff, Nat.reduceLeDiff, Nat.reduceLT, if_true, if_false, Nat.le_refl, and_true, true_and, and_self, reduceCtorEq, or_false, false_or, or_true, true_or, Nat.zero_le, fa_lit, nI_add, w_mul, nI_ltI, nI_leI, nI_eq, nI_clamp, nI_toInt, if_pos, if_neg, w_div, w_rem2, yk100 hC, yk125 hC, yk126 hC, yk127 hC, yk128 hC, yk129 hC, yk130 hC, yk131 hC, yk132 hC, yk133 hC, yk134 hC, yk135 hC, yk136 hC, yk137 hC, yl126 hC, yl128 hC, yl130 hC, yl131 hC, yl133 hC, yl137 hC, yr100_0 hC, yr100_1 hC, yr100_2 hC, yr100_3 hC, yr100_4 hC, yr100_5 hC, yr100_6 hC, yr100_7 hC, yr100_8 hC, yr100_9 hC, yr100_10 hC, yr125_0 hC, yr127_0 hC, yr129_0 hC, yr129_1 hC, yr129_2 hC, yr132_0 hC, yr134_0 hC, yr135_0 hC, yr135_1 hC, yr136_0 hC, yr136_1 hC, yk100 hC1, yk125 hC1, yk126 hC1, yk127 hC1, yk128 hC1, yk129 hC1, yk130 hC1, yk131 hC1, yk132 hC1, yk133 hC1, yk134 hC1, yk135 hC1, yk136 hC1, yk137 hC1, yl126 hC1, yl128 hC1, yl130 hC1, yl131 hC1, yl133 hC1, yl137 hC1, yr100_0 hC1, yr100_1 hC1, yr100_2 hC1, yr100_3 hC1, yr100_4 hC1, yr100_5 hC1, yr100_6 hC1, yr100_7 hC1, yr100_8 hC1, yr100_9 hC1, yr100_10 hC1, yr125_0 hC1, yr127_0 hC1, yr129_0 hC1, yr129_1 hC1, yr129_2 hC1, yr132_0 hC1, yr134_0 hC1, yr135_0 hC1, yr135_1 hC1, yr136_0 hC1, yr136_1 hC1, yk100 hC2, yk125 hC2, yk126 hC2, yk127 hC2, yk128 hC2, yk129 hC2, yk130 hC2, yk131 hC2, yk132 hC2, yk133 hC2, yk134 hC2, yk135 hC2, yk136 hC2, yk137 hC2, yl126 hC2, yl128 hC2, yl130 hC2, yl131 hC2, yl133 hC2, yl137 hC2, yr100_0 hC2, yr100_1 hC2, yr100_2 hC2, yr100_3 hC2, yr100_4 hC2, yr100_5 hC2, yr100_6 hC2, yr100_7 hC2, yr100_8 hC2, yr100_9 hC2, yr100_10 hC2, yr125_0 hC2, yr127_0 hC2, yr129_0 hC2, yr129_1 hC2, yr129_2 hC2, yr132_0 hC2, yr134_0 hC2, yr135_0 hC2, yr135_1 hC2, yr136_0 hC2, yr136_1 hC2, yk100 hC3, yk125 hC3, yk126 hC3, yk127 hC3, yk128 hC3, yk129 hC3, yk130 hC3, yk131 hC3, yk132 hC3, yk133 hC3, yk134 hC3, yk135 hC3, yk136 hC3, yk137 hC3, yl126 hC3, yl128 hC3, yl130 hC3, yl131 hC3, yl133 hC3, yl137 hC3, yr100_0 hC3, yr100_1 hC3, yr100_2 hC3, yr100_3 hC3, yr100_4 hC3, yr100_5 hC3, yr100_6 hC3, yr100_7 hC3, yr100_8 hC3, yr100_9 hC3, yr100_10 hC3, yr125_0 hC3, yr127_0 hC3, yr129_0 hC3, yr129_1 hC3, yr129_2 hC3, yr132_0 hC3, yr134_0 hC3, yr135_0 hC3, yr135_1 hC3, yr136_0 hC3, yr136_1 hC3, xk0 hA3, xk1 hA3, xl1 hA3, xk2 hA3, xk3 hA3, xl3 hA3, xr2_2 hA3, xi2_0 hA3, xi2_1 hA3, xk4 hA3, xk5 hA3, xl5 hA3, xr4_2 hA3, xi4_0 hA3, xi4_1 hA3, xk6 hA3, xk7 hA3, xl7 hA3, xr6_2 hA3, xi6_0 hA3, xi6_1 hA3, xk8 hA3, xk9 hA3, xl9 hA3, xr8_2 hA3, xi8_0 hA3, xi8_1 hA3, xk10 hA3, xk11 hA3, xl11 hA3, xr10_2 hA3, xi10_0 hA3, xi10_1 hA3, xr0_7 hA3, xr0_8 hA3, xr0_9 hA3, xr0_10 hA3, xr0_11 hA3, xr0_12 hA3, yk100 hC4, yk125 hC4, yk126 hC4, yk127 hC4, yk128 hC4, yk129 hC4, yk130 hC4, yk131 hC4, yk132 hC4, yk133 hC4, yk134 hC4, yk135 hC4, yk136 hC4, yk137 hC4, yl126 hC4, yl128 hC4, yl130 hC4, yl131 hC4, yl133 hC4, yl137 hC4, yr100_0 hC4, yr100_1 hC4, yr100_2 hC4, yr100_3 hC4, yr100_4 hC4, yr100_5 hC4, yr100_6 hC4, yr100_7 hC4, yr100_8 hC4, yr100_9 hC4, yr100_10 hC4, yr125_0 hC4, yr127_0 hC4, yr129_0 hC4, yr129_1 hC4, yr129_2 hC4, yr132_0 hC4, yr134_0 hC4, yr135_0 hC4, yr135_1 hC4, yr136_0 hC4, yr136_1 hC4, xk0 hA4, xk1 hA4, xl1 hA4, xk2 hA4, xk3 hA4, xl3 hA4, xr2_2 hA4, xi2_0 hA4, xi2_1 hA4, xk4 hA4, xk5 hA4, xl5 hA4, xr4_2 hA4, xi4_0 hA4, xi4_1 hA4, xk6 hA4, xk7 hA4, xl7 hA4, xr6_2 hA4, xi6_0 hA4, xi6_1 hA4, xk8 hA4, xk9 hA4, xl9 hA4, xr8_2 hA4, xi8_0 hA4, xi8_1 hA4, xk10 hA4, xk11 hA4, xl11 hA4, xr10_2 hA4, xi10_0 hA4, xi10_1 hA4, xr0_7 hA4, xr0_8 hA4, xr0_9 hA4, xr0_10 hA4, xr0_11 hA4, xr0_12 hA4, f1, g1, k1, q1]
end L22
