/-! SUCCESS -/
section Y31
variable {S S' T : am_S} {a b c o p q i j k m n u t D d cl : Nat} {P : Nat → Prop} {R R' Q G : Nat → Int32} {M M' : Nat → Nat → Int32} {x y z v : Int32}
theorem u_succ_q (hV : s_V R) (h : s_n (R 4) ≠ 0) : ∃ i, s_oi R (nI 2) = nI i ∧ i ≤ s_n (R 4) ∧ u_succ R = dd_q i (s_n (R 4)) := by
  have b4 := hV.B.2.2.2.1
  obtain ⟨i, i1, i2⟩ := s_ct_n (p := fun o => R (64 + 10 * o + 3) = nI 2) (s_n (R 4)) 0 0 0 rfl
  have e : s_oi R (nI 2) = nI i := i1
  refine ⟨i, e, by omega, ?_⟩
  unfold u_succ dd_q
  rw [if_neg h, e, ← b4.1]
theorem y_success (h : w_L S R) : fX10_success w_N [.ref 100] S = some (.inl (some (.float (u_succ R))), S) := by
  have g1 := y_ordersIn (x := nI 2) h
  obtain ⟨hC, hA, hR, hV⟩ := h
  have b4 := hV.B.2.2.2.1
  have b42 := b4.2
  have ec := y_count (hR.tO hA hV.B)
  by_cases c : s_n (R 4) = 0
  · rw [c] at ec
    unfold u_succ
    rw [if_pos c]
    simp (disch := omega) only [fX10_success, kX10_success_0, kX10_success_31, x_cs0, x_csi, x_csr, x_csn, x_csl, x_ret_v, x_ret_t, x_ret_n, x_tl_s, x_tl_n, x_lk0, x_lk, x_rem0, x_rem_i, x_rem_r, x_rem_l, x_rem2_0, x_rem2_i, x_rem2_r, x_rem2_l, x_pick0, x_pick_c, x_st1, x_st2, x_live, x_i, x_l, x_a, x_ild, x_lld, x_rld, x_ist, x_lst, x_rst, x_inc, x_ii, x_ll, x_li, x_cmp, x_ui, x_il, x_lti, x_idiv, x_irem, x_dup_i, x_dup_r, x_pop_i, x_pop_r, x_dupx_ir, x_dup2_ir, x_ifeq, x_iceq, x_iflt, x_iclt, x_ifge, x_icge, x_ifgt, x_icgt, x_ifle, x_icle, x_ifne, x_icne, x_ifnull_r, x_ifnull_n, x_ifnonnull_r, x_ifnonnull_n, x_sw, x_vret, x_iret, x_lret, x_zret, x_zret0, x_zret1, x_rf_s, x_rf_n, x_geti, x_getr, x_puti, x_putz, x_putr, x_ial, x_ias, x_lal, x_las, x_aal, x_aas, x_aast, x_alen, x_new, x_newa, x_copy, x_min, x_abs, x_minl, x_oinit, x_throw, x_callS0, x_callS1, x_callS2, x_callS3, x_callS4, x_callV0, x_callV1, x_callV2, x_callV3, x_callV4, x_callV5, x_retI_v, x_callI0, x_callI1, x_callI2, x_retN_v, x_callSN1, x_callSN2, x_callT0, x_callT1, x_fn, x_sl0, x_sli, x_slr, x_sll, x_ar0, x_ari, x_arr, x_arl, ↓reduceIte, Nat.reduceAdd, Nat.reduceSub, Nat.reduceMul, Nat.reduceEqDiff, Nat.reduceLeDiff, Nat.reduceLT, if_true, if_false, Nat.le_refl, and_true, true_and, and_self, reduceCtorEq, or_false, false_or, or_true, true_or, Nat.zero_le, fa_lit, nI_add, w_mul, nI_ltI, nI_leI, nI_eq, nI_clamp, nI_toInt, if_pos, if_neg, w_div, w_rem2, yk100 hC, yk125 hC, yk126 hC, yk127 hC, yk128 hC, yk129 hC, yk130 hC, yk131 hC, yk132 hC, yk133 hC, yk134 hC, yk135 hC, yk136 hC, yk137 hC, yl126 hC, yl128 hC, yl130 hC, yl131 hC, yl133 hC, yl137 hC, yr100_0 hC, yr100_1 hC, yr100_2 hC, yr100_3 hC, yr100_4 hC, yr100_5 hC, yr100_6 hC, yr100_7 hC, yr100_8 hC, yr100_9 hC, yr100_10 hC, yr125_0 hC, yr127_0 hC, yr129_0 hC, yr129_1 hC, yr129_2 hC, yr132_0 hC, yr134_0 hC, yr135_0 hC, yr135_1 hC, yr136_0 hC, yr136_1 hC, xk0 hA, xk1 hA, xl1 hA, xk2 hA, xk3 hA, xl3 hA, xr2_2 hA, xi2_0 hA, xi2_1 hA, xk4 hA, xk5 hA, xl5 hA, xr4_2 hA, xi4_0 hA, xi4_1 hA, xk6 hA, xk7 hA, xl7 hA, xr6_2 hA, xi6_0 hA, xi6_1 hA, xk8 hA, xk9 hA, xl9 hA, xr8_2 hA, xi8_0 hA, xi8_1 hA, xk10 hA, xk11 hA, xl11 hA, xr10_2 hA, xi10_0 hA, xi10_1 hA, xr0_7 hA, xr0_8 hA, xr0_9 hA, xr0_10 hA, xr0_11 hA, xr0_12 hA, ec, x_f, x_fret]
  · obtain ⟨i, i1, i2, i3⟩ := u_succ_q hV c
    rw [i1] at g1
    rw [i3]
    unfold dd_q
    have hm := (dd_41 ⟨s_n (R 4), by omega⟩ c ⟨i, by omega⟩).1
    unfold dd_q at hm
    dsimp only at hm
    simp (disch := omega) only [fX10_success, kX10_success_0, kX10_success_31, x_cs0, x_csi, x_csr, x_csn, x_csl, x_ret_v, x_ret_t, x_ret_n, x_tl_s, x_tl_n, x_lk0, x_lk, x_rem0, x_rem_i, x_rem_r, x_rem_l, x_rem2_0, x_rem2_i, x_rem2_r, x_rem2_l, x_pick0, x_pick_c, x_st1, x_st2, x_live, x_i, x_l, x_a, x_ild, x_lld, x_rld, x_ist, x_lst, x_rst, x_inc, x_ii, x_ll, x_li, x_cmp, x_ui, x_il, x_lti, x_idiv, x_irem, x_dup_i, x_dup_r, x_pop_i, x_pop_r, x_dupx_ir, x_dup2_ir, x_ifeq, x_iceq, x_iflt, x_iclt, x_ifge, x_icge, x_ifgt, x_icgt, x_ifle, x_icle, x_ifne, x_icne, x_ifnull_r, x_ifnull_n, x_ifnonnull_r, x_ifnonnull_n, x_sw, x_vret, x_iret, x_lret, x_zret, x_zret0, x_zret1, x_rf_s, x_rf_n, x_geti, x_getr, x_puti, x_putz, x_putr, x_ial, x_ias, x_lal, x_las, x_aal, x_aas, x_aast, x_alen, x_new, x_newa, x_copy, x_min, x_abs, x_minl, x_oinit, x_throw, x_callS0, x_callS1, x_callS2, x_callS3, x_callS4, x_callV0, x_callV1, x_callV2, x_callV3, x_callV4, x_callV5, x_retI_v, x_callI0, x_callI1, x_callI2, x_retN_v, x_callSN1, x_callSN2, x_callT0, x_callT1, x_fn, x_sl0, x_sli, x_slr, x_sll, x_ar0, x_ari, x_arr, x_arl, ↓reduceIte, Nat.reduceAdd, Nat.reduceSub, Nat.reduceMul, Nat.reduceEqDiff, Nat.reduceLeDiff, Nat.reduceLT, if_true, if_false, Nat.le_refl, and_true, true_and, and_self, reduceCtorEq, or_false, false_or, or_true, true_or, Nat.zero_le, fa_lit, nI_add, w_mul, nI_ltI, nI_leI, nI_eq, nI_clamp, nI_toInt, if_pos, if_neg, w_div, w_rem2, yk100 hC, yk125 hC, yk126 hC, yk127 hC, yk128 hC, yk129 hC, yk130 hC, yk131 hC, yk132 hC, yk133 hC, yk134 hC, yk135 hC, yk136 hC, yk137 hC, yl126 hC, yl128 hC, yl130 hC, yl131 hC, yl133 hC, yl137 hC, yr100_0 hC, yr100_1 hC, yr100_2 hC, yr100_3 hC, yr100_4 hC, yr100_5 hC, yr100_6 hC, yr100_7 hC, yr100_8 hC, yr100_9 hC, yr100_10 hC, yr125_0 hC, yr127_0 hC, yr129_0 hC, yr129_1 hC, yr129_2 hC, yr132_0 hC, yr134_0 hC, yr135_0 hC, yr135_1 hC, yr136_0 hC, yr136_1 hC, xk0 hA, xk1 hA, xl1 hA, xk2 hA, xk3 hA, xl3 hA, xr2_2 hA, xi2_0 hA, xi2_1 hA, xk4 hA, xk5 hA, xl5 hA, xr4_2 hA, xi4_0 hA, xi4_1 hA, xk6 hA, xk7 hA, xl7 hA, xr6_2 hA, xi6_0 hA, xi6_1 hA, xk8 hA, xk9 hA, xl9 hA, xr8_2 hA, xi8_0 hA, xi8_1 hA, xk10 hA, xk11 hA, xl11 hA, xr10_2 hA, xi10_0 hA, xi10_1 hA, xr0_7 hA, xr0_8 hA, xr0_9 hA, xr0_10 hA, xr0_11 hA, xr0_12 hA, ec, g1, x_itf, x_fdiv hm, x_fret]
theorem z_success (hZ : w_Z S) (hR : am_i S 139 = R) (hV : s_V R) : ∃ S', fX11_success w_N [.ref 138] S = some (.inl (some (.float (u_succ R))), S') ∧ w_th 0 S S' := by
  have t0 : w_th 0 S (am_putI S 138 6 (nI 0)) := w_th.put
  refine ⟨am_putI S 138 6 (nI 0), ?_, t0⟩
  have hZ1 := t0.Z hZ
  have h9 : am_i (am_putI S 138 6 (nI 0)) 139 = R := by rw [t0.1.i (by omega)]; exact hR
  have b4 := hV.B.2.2.2.1
  have b42 := b4.2
  have e4 : am_i (am_putI S 138 6 (nI 0)) 139 4 = nI (s_n (R 4)) := by rw [h9]; exact b4.1
  have g1 := z_ordersIn (x := nI 2) hZ1 e4 (by omega)
  rw [h9] at g1
  have eo : s_ct (fun o => R (64 + 10 * o + 3) = nI 2) (s_n (R 4)) 0 0 = s_oi R (nI 2) := rfl
  rw [eo] at g1
  by_cases c : s_n (R 4) = 0
  · rw [c] at e4
    unfold u_succ
    rw [if_pos c]
    simp (disch := omega) only [fX11_success, kX11_success_0, kX11_success_32, x_cs0, x_csi, x_csr, x_csn, x_csl, x_ret_v, x_ret_t, x_ret_n, x_tl_s, x_tl_n, x_lk0, x_lk, x_rem0, x_rem_i, x_rem_r, x_rem_l, x_rem2_0, x_rem2_i, x_rem2_r, x_rem2_l, x_pick0, x_pick_c, x_st1, x_st2, x_live, x_i, x_l, x_a, x_ild, x_lld, x_rld, x_ist, x_lst, x_rst, x_inc, x_ii, x_ll, x_li, x_cmp, x_ui, x_il, x_lti, x_idiv, x_irem, x_dup_i, x_dup_r, x_pop_i, x_pop_r, x_dupx_ir, x_dup2_ir, x_ifeq, x_iceq, x_iflt, x_iclt, x_ifge, x_icge, x_ifgt, x_icgt, x_ifle, x_icle, x_ifne, x_icne, x_ifnull_r, x_ifnull_n, x_ifnonnull_r, x_ifnonnull_n, x_sw, x_vret, x_iret, x_lret, x_zret, x_zret0, x_zret1, x_rf_s, x_rf_n, x_geti, x_getr, x_puti, x_putz, x_putr, x_ial, x_ias, x_lal, x_las, x_aal, x_aas, x_aast, x_alen, x_new, x_newa, x_copy, x_min, x_abs, x_minl, x_oinit, x_throw, x_callS0, x_callS1, x_callS2, x_callS3, x_callS4, x_callV0, x_callV1, x_callV2, x_callV3, x_callV4, x_callV5, x_retI_v, x_callI0, x_callI1, x_callI2, x_retN_v, x_callSN1, x_callSN2, x_callT0, x_callT1, x_fn, x_sl0, x_sli, x_slr, x_sll, x_ar0, x_ari, x_arr, x_arl, ↓reduceIte, Nat.reduceAdd, Nat.reduceSub, Nat.reduceMul, Nat.reduceEqDiff, Nat.reduceLeDiff, Nat.reduceLT, if_true, if_false, Nat.le_refl, and_true, true_and, and_self, reduceCtorEq, or_false, false_or, or_true, true_or, Nat.zero_le, fa_lit, nI_add, w_mul, nI_ltI, nI_leI, nI_eq, nI_clamp, nI_toInt, if_pos, if_neg, w_div, w_rem2, zk138 hZ, zk139 hZ, zk140 hZ, zk141 hZ, zk142 hZ, zk143 hZ, zk144 hZ, zk145 hZ, zk146 hZ, zk147 hZ, zk148 hZ, zk149 hZ, zk150 hZ, zk151 hZ, zl139 hZ, zl140 hZ, zl141 hZ, zl142 hZ, zl143 hZ, zl144 hZ, zl145 hZ, zl146 hZ, zl147 hZ, zl148 hZ, zl149 hZ, zl150 hZ, zl151 hZ, zr138_0 hZ, zr138_1 hZ, zr138_2 hZ, zr138_3 hZ, zr138_4 hZ, zr138_8 hZ, zr138_9 hZ, zr138_10 hZ, zr138_12 hZ, zr138_24 hZ, zr138_25 hZ, zr138_26 hZ, zr148_0 hZ, zr148_1 hZ, zr148_2 hZ, zr148_3 hZ, zr148_4 hZ, zr148_5 hZ, zr148_6 hZ, zr148_7 hZ, zr148_8 hZ, zk138 hZ1, zk139 hZ1, zk140 hZ1, zk141 hZ1, zk142 hZ1, zk143 hZ1, zk144 hZ1, zk145 hZ1, zk146 hZ1, zk147 hZ1, zk148 hZ1, zk149 hZ1, zk150 hZ1, zk151 hZ1, zl139 hZ1, zl140 hZ1, zl141 hZ1, zl142 hZ1, zl143 hZ1, zl144 hZ1, zl145 hZ1, zl146 hZ1, zl147 hZ1, zl148 hZ1, zl149 hZ1, zl150 hZ1, zl151 hZ1, zr138_0 hZ1, zr138_1 hZ1, zr138_2 hZ1, zr138_3 hZ1, zr138_4 hZ1, zr138_8 hZ1, zr138_9 hZ1, zr138_10 hZ1, zr138_12 hZ1, zr138_24 hZ1, zr138_25 hZ1, zr138_26 hZ1, zr148_0 hZ1, zr148_1 hZ1, zr148_2 hZ1, zr148_3 hZ1, zr148_4 hZ1, zr148_5 hZ1, zr148_6 hZ1, zr148_7 hZ1, zr148_8 hZ1, e4, x_f, x_fret]
  · obtain ⟨i, i1, i2, i3⟩ := u_succ_q hV c
    rw [i1] at g1
    rw [i3]
    unfold dd_q
    have hm := (dd_41 ⟨s_n (R 4), by omega⟩ c ⟨i, by omega⟩).1
    unfold dd_q at hm
    dsimp only at hm
    simp (disch := omega) only [fX11_success, kX11_success_0, kX11_success_32, x_cs0, x_csi, x_csr, x_csn, x_csl, x_ret_v, x_ret_t, x_ret_n, x_tl_s, x_tl_n, x_lk0, x_lk, x_rem0, x_rem_i, x_rem_r, x_rem_l, x_rem2_0, x_rem2_i, x_rem2_r, x_rem2_l, x_pick0, x_pick_c, x_st1, x_st2, x_live, x_i, x_l, x_a, x_ild, x_lld, x_rld, x_ist, x_lst, x_rst, x_inc, x_ii, x_ll, x_li, x_cmp, x_ui, x_il, x_lti, x_idiv, x_irem, x_dup_i, x_dup_r, x_pop_i, x_pop_r, x_dupx_ir, x_dup2_ir, x_ifeq, x_iceq, x_iflt, x_iclt, x_ifge, x_icge, x_ifgt, x_icgt, x_ifle, x_icle, x_ifne, x_icne, x_ifnull_r, x_ifnull_n, x_ifnonnull_r, x_ifnonnull_n, x_sw, x_vret, x_iret, x_lret, x_zret, x_zret0, x_zret1, x_rf_s, x_rf_n, x_geti, x_getr, x_puti, x_putz, x_putr, x_ial, x_ias, x_lal, x_las, x_aal, x_aas, x_aast, x_alen, x_new, x_newa, x_copy, x_min, x_abs, x_minl, x_oinit, x_throw, x_callS0, x_callS1, x_callS2, x_callS3, x_callS4, x_callV0, x_callV1, x_callV2, x_callV3, x_callV4, x_callV5, x_retI_v, x_callI0, x_callI1, x_callI2, x_retN_v, x_callSN1, x_callSN2, x_callT0, x_callT1, x_fn, x_sl0, x_sli, x_slr, x_sll, x_ar0, x_ari, x_arr, x_arl, ↓reduceIte, Nat.reduceAdd, Nat.reduceSub, Nat.reduceMul, Nat.reduceEqDiff, Nat.reduceLeDiff, Nat.reduceLT, if_true, if_false, Nat.le_refl, and_true, true_and, and_self, reduceCtorEq, or_false, false_or, or_true, true_or, Nat.zero_le, fa_lit, nI_add, w_mul, nI_ltI, nI_leI, nI_eq, nI_clamp, nI_toInt, if_pos, if_neg, w_div, w_rem2, zk138 hZ, zk139 hZ, zk140 hZ, zk141 hZ, zk142 hZ, zk143 hZ, zk144 hZ, zk145 hZ, zk146 hZ, zk147 hZ, zk148 hZ, zk149 hZ, zk150 hZ, zk151 hZ, zl139 hZ, zl140 hZ, zl141 hZ, zl142 hZ, zl143 hZ, zl144 hZ, zl145 hZ, zl146 hZ, zl147 hZ, zl148 hZ, zl149 hZ, zl150 hZ, zl151 hZ, zr138_0 hZ, zr138_1 hZ, zr138_2 hZ, zr138_3 hZ, zr138_4 hZ, zr138_8 hZ, zr138_9 hZ, zr138_10 hZ, zr138_12 hZ, zr138_24 hZ, zr138_25 hZ, zr138_26 hZ, zr148_0 hZ, zr148_1 hZ, zr148_2 hZ, zr148_3 hZ, zr148_4 hZ, zr148_5 hZ, zr148_6 hZ, zr148_7 hZ, zr148_8 hZ, zk138 hZ1, zk139 hZ1, zk140 hZ1, zk141 hZ1, zk142 hZ1, zk143 hZ1, zk144 hZ1, zk145 hZ1, zk146 hZ1, zk147 hZ1, zk148 hZ1, zk149 hZ1, zk150 hZ1, zk151 hZ1, zl139 hZ1, zl140 hZ1, zl141 hZ1, zl142 hZ1, zl143 hZ1, zl144 hZ1, zl145 hZ1, zl146 hZ1, zl147 hZ1, zl148 hZ1, zl149 hZ1, zl150 hZ1, zl151 hZ1, zr138_0 hZ1, zr138_1 hZ1, zr138_2 hZ1, zr138_3 hZ1, zr138_4 hZ1, zr138_8 hZ1, zr138_9 hZ1, zr138_10 hZ1, zr138_12 hZ1, zr138_24 hZ1, zr138_25 hZ1, zr138_26 hZ1, zr148_0 hZ1, zr148_1 hZ1, zr148_2 hZ1, zr148_3 hZ1, zr148_4 hZ1, zr148_5 hZ1, zr148_6 hZ1, zr148_7 hZ1, zr148_8 hZ1, e4, g1, x_itf, x_fdiv hm, x_fret]
/-- as a double it is a number, equal to itself -/
theorem u_succ_cmp (hV : s_V R) : FP.f2d (u_succ R) &&& 0x7fffffffffffffff ≤ 0x7ff0000000000000 ∧ FP.dcmp (FP.f2d (u_succ R)) (FP.f2d (u_succ R)) = some .eq := by
  have b42 := hV.B.2.2.2.1.2
  by_cases c : s_n (R 4) = 0
  · unfold u_succ
    rw [if_pos c]
    exact dd_f0
  · obtain ⟨i, i1, i2, i3⟩ := u_succ_q hV c
    rw [i3]
    exact (dd_41 ⟨s_n (R 4), by omega⟩ c ⟨i, by omega⟩).2
end Y31
