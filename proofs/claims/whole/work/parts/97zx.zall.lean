/-! THE REFERENCE READS: the whole text -/
section L41
variable {S S' S0 T V : am_S} {a b c o p q i j k m n u t L e f κ v0 lo h ne A : Nat} {P : Nat → Prop} {B : Nat → Nat} {x y z v hi x' y' : Int32} {s s' : p_S} {R Q F : Nat → Int32}
theorem z_loop : ∀ k m (S : am_S) (s : p_S) (x y : Int32), L ≤ k + s.2.1.2.1 → s.2.1.2.1 ≤ L → k + 1 < m → w_zo S0 S L B (p_next B L s) x y → ∃ S' t x' y', am_loop (bX11_readAll_39 w_N) m [(0, .ref 138)] [] S = some (.inl none, S') ∧ w_zo S0 S' L B t x' y' ∧ t.1 = (p_loop B L k s).1 ∧ (t.1.1 = 0 → t.2.2 = (p_loop B L k s).2.2)
  | 0, m, S, s, x, y, h1, h2, h3, H => by
    obtain ⟨m, rfl⟩ : ∃ q, m = q + 1 := ⟨m - 1, by omega⟩
    have hZ := H.Z
    have h18 := H.k18
    rw [p_next_1] at h18
    rw [am_loop_s, p_loop]
    refine ⟨S, _, _, _, ?_, H, rfl, fun _ => rfl⟩
    by_cases e : s.1.1 = 0
    · have h17 := H.k17 e
      have k0 : (p_next B L s).2.1.2.2 = 0 := Classical.byContradiction (fun q => by
        have := p_m.lt h2 q
        have := (p_m.next (B := B) h2).2
        omega)
      rw [k0] at h17
      rw [e] at h18
      obtain ⟨h17, -⟩ := h17
      obtain ⟨h18, -⟩ := h18
      simp (disch := omega) only [bX11_readAll_39, kX11_readAll_60, x_cs0, x_csi, x_csr, x_csn, x_csl, x_ret_v, x_ret_t, x_ret_n, x_tl_s, x_tl_n, x_lk0, x_lk, x_rem0, x_rem_i, x_rem_r, x_rem_l, x_rem2_0, x_rem2_i, x_rem2_r, x_rem2_l, x_pick0, x_pick_c, x_st1, x_st2, x_live, x_i, x_l, x_a, x_ild, x_lld, x_rld, x_ist, x_lst, x_rst, x_inc, x_ii, x_ll, x_li, x_cmp, x_ui, x_il, x_lti, x_idiv, x_irem, x_dup_i, x_dup_r, x_pop_i, x_pop_r, x_dupx_ir, x_dup2_ir, x_ifeq, x_iceq, x_iflt, x_iclt, x_ifge, x_icge, x_ifgt, x_icgt, x_ifle, x_icle, x_ifne, x_icne, x_ifnull_r, x_ifnull_n, x_ifnonnull_r, x_ifnonnull_n, x_sw, x_vret, x_iret, x_lret, x_zret, x_zret0, x_zret1, x_rf_s, x_rf_n, x_geti, x_getr, x_puti, x_putz, x_putr, x_ial, x_ias, x_lal, x_las, x_aal, x_aas, x_aast, x_alen, x_new, x_newa, x_copy, x_min, x_abs, x_minl, x_oinit, x_throw, x_callS0, x_callS1, x_callS2, x_callS3, x_callS4, x_callV0, x_callV1, x_callV2, x_callV3, x_callV4, x_callV5, x_retI_v, x_callI0, x_callI1, x_callI2, x_retN_v, x_callSN1, x_callSN2, x_callT0, x_callT1, x_fn, x_sl0, x_sli, x_slr, x_sll, x_ar0, x_ari, x_arr, x_arl, ↓reduceIte, Nat.reduceAdd, Nat.reduceSub, Nat.reduceMul, Nat.reduceEqDiff, Nat.reduceLeDiff, Nat.reduceLT, if_true, if_false, Nat.le_refl, and_true, true_and, and_self, reduceCtorEq, or_false, false_or, or_true, true_or, Nat.zero_le, fa_lit, nI_add, w_mul, nI_ltI, nI_leI, nI_eq, nI_clamp, nI_toInt, if_pos, if_neg, w_div, w_rem2, zk138 hZ, zk139 hZ, zk140 hZ, zk141 hZ, zk142 hZ, zk143 hZ, zk144 hZ, zk145 hZ, zk146 hZ, zk147 hZ, zk148 hZ, zk149 hZ, zk150 hZ, zk151 hZ, zl139 hZ, zl140 hZ, zl141 hZ, zl142 hZ, zl143 hZ, zl144 hZ, zl145 hZ, zl146 hZ, zl147 hZ, zl148 hZ, zl149 hZ, zl150 hZ, zl151 hZ, zr138_0 hZ, zr138_1 hZ, zr138_2 hZ, zr138_3 hZ, zr138_4 hZ, zr138_8 hZ, zr138_9 hZ, zr138_10 hZ, zr138_12 hZ, zr138_24 hZ, zr138_25 hZ, zr138_26 hZ, zr148_0 hZ, zr148_1 hZ, zr148_2 hZ, zr148_3 hZ, zr148_4 hZ, zr148_5 hZ, zr148_6 hZ, zr148_7 hZ, zr148_8 hZ, h18, h17]
    · generalize s.1.1 = w at *
      obtain ⟨h18, hw4⟩ := h18
      simp (disch := omega) only [bX11_readAll_39, kX11_readAll_60, x_cs0, x_csi, x_csr, x_csn, x_csl, x_ret_v, x_ret_t, x_ret_n, x_tl_s, x_tl_n, x_lk0, x_lk, x_rem0, x_rem_i, x_rem_r, x_rem_l, x_rem2_0, x_rem2_i, x_rem2_r, x_rem2_l, x_pick0, x_pick_c, x_st1, x_st2, x_live, x_i, x_l, x_a, x_ild, x_lld, x_rld, x_ist, x_lst, x_rst, x_inc, x_ii, x_ll, x_li, x_cmp, x_ui, x_il, x_lti, x_idiv, x_irem, x_dup_i, x_dup_r, x_pop_i, x_pop_r, x_dupx_ir, x_dup2_ir, x_ifeq, x_iceq, x_iflt, x_iclt, x_ifge, x_icge, x_ifgt, x_icgt, x_ifle, x_icle, x_ifne, x_icne, x_ifnull_r, x_ifnull_n, x_ifnonnull_r, x_ifnonnull_n, x_sw, x_vret, x_iret, x_lret, x_zret, x_zret0, x_zret1, x_rf_s, x_rf_n, x_geti, x_getr, x_puti, x_putz, x_putr, x_ial, x_ias, x_lal, x_las, x_aal, x_aas, x_aast, x_alen, x_new, x_newa, x_copy, x_min, x_abs, x_minl, x_oinit, x_throw, x_callS0, x_callS1, x_callS2, x_callS3, x_callS4, x_callV0, x_callV1, x_callV2, x_callV3, x_callV4, x_callV5, x_retI_v, x_callI0, x_callI1, x_callI2, x_retN_v, x_callSN1, x_callSN2, x_callT0, x_callT1, x_fn, x_sl0, x_sli, x_slr, x_sll, x_ar0, x_ari, x_arr, x_arl, ↓reduceIte, Nat.reduceAdd, Nat.reduceSub, Nat.reduceMul, Nat.reduceEqDiff, Nat.reduceLeDiff, Nat.reduceLT, if_true, if_false, Nat.le_refl, and_true, true_and, and_self, reduceCtorEq, or_false, false_or, or_true, true_or, Nat.zero_le, fa_lit, nI_add, w_mul, nI_ltI, nI_leI, nI_eq, nI_clamp, nI_toInt, if_pos, if_neg, w_div, w_rem2, zk138 hZ, zk139 hZ, zk140 hZ, zk141 hZ, zk142 hZ, zk143 hZ, zk144 hZ, zk145 hZ, zk146 hZ, zk147 hZ, zk148 hZ, zk149 hZ, zk150 hZ, zk151 hZ, zl139 hZ, zl140 hZ, zl141 hZ, zl142 hZ, zl143 hZ, zl144 hZ, zl145 hZ, zl146 hZ, zl147 hZ, zl148 hZ, zl149 hZ, zl150 hZ, zl151 hZ, zr138_0 hZ, zr138_1 hZ, zr138_2 hZ, zr138_3 hZ, zr138_4 hZ, zr138_8 hZ, zr138_9 hZ, zr138_10 hZ, zr138_12 hZ, zr138_24 hZ, zr138_25 hZ, zr138_26 hZ, zr148_0 hZ, zr148_1 hZ, zr148_2 hZ, zr148_3 hZ, zr148_4 hZ, zr148_5 hZ, zr148_6 hZ, zr148_7 hZ, zr148_8 hZ, h18]
  | k + 1, m, S, s, x, y, h1, h2, h3, H => by
    obtain ⟨m, rfl⟩ : ∃ q, m = q + 1 := ⟨m - 1, by omega⟩
    have hZ := H.Z
    have h18 := H.k18
    rw [p_next_1] at h18
    rw [am_loop_s, p_loop]
    by_cases e : s.1.1 = 0
    · rw [if_pos e]
      rw [e] at h18
      obtain ⟨h18, -⟩ := h18
      have h17 := H.k17 e
      by_cases k0 : (p_next B L s).2.1.2.2 = 0
      · rw [if_pos k0]
        rw [k0] at h17
        obtain ⟨h17, -⟩ := h17
        refine ⟨S, _, _, _, ?_, H, rfl, fun _ => rfl⟩
        simp (disch := omega) only [bX11_readAll_39, kX11_readAll_60, x_cs0, x_csi, x_csr, x_csn, x_csl, x_ret_v, x_ret_t, x_ret_n, x_tl_s, x_tl_n, x_lk0, x_lk, x_rem0, x_rem_i, x_rem_r, x_rem_l, x_rem2_0, x_rem2_i, x_rem2_r, x_rem2_l, x_pick0, x_pick_c, x_st1, x_st2, x_live, x_i, x_l, x_a, x_ild, x_lld, x_rld, x_ist, x_lst, x_rst, x_inc, x_ii, x_ll, x_li, x_cmp, x_ui, x_il, x_lti, x_idiv, x_irem, x_dup_i, x_dup_r, x_pop_i, x_pop_r, x_dupx_ir, x_dup2_ir, x_ifeq, x_iceq, x_iflt, x_iclt, x_ifge, x_icge, x_ifgt, x_icgt, x_ifle, x_icle, x_ifne, x_icne, x_ifnull_r, x_ifnull_n, x_ifnonnull_r, x_ifnonnull_n, x_sw, x_vret, x_iret, x_lret, x_zret, x_zret0, x_zret1, x_rf_s, x_rf_n, x_geti, x_getr, x_puti, x_putz, x_putr, x_ial, x_ias, x_lal, x_las, x_aal, x_aas, x_aast, x_alen, x_new, x_newa, x_copy, x_min, x_abs, x_minl, x_oinit, x_throw, x_callS0, x_callS1, x_callS2, x_callS3, x_callS4, x_callV0, x_callV1, x_callV2, x_callV3, x_callV4, x_callV5, x_retI_v, x_callI0, x_callI1, x_callI2, x_retN_v, x_callSN1, x_callSN2, x_callT0, x_callT1, x_fn, x_sl0, x_sli, x_slr, x_sll, x_ar0, x_ari, x_arr, x_arl, ↓reduceIte, Nat.reduceAdd, Nat.reduceSub, Nat.reduceMul, Nat.reduceEqDiff, Nat.reduceLeDiff, Nat.reduceLT, if_true, if_false, Nat.le_refl, and_true, true_and, and_self, reduceCtorEq, or_false, false_or, or_true, true_or, Nat.zero_le, fa_lit, nI_add, w_mul, nI_ltI, nI_leI, nI_eq, nI_clamp, nI_toInt, if_pos, if_neg, w_div, w_rem2, zk138 hZ, zk139 hZ, zk140 hZ, zk141 hZ, zk142 hZ, zk143 hZ, zk144 hZ, zk145 hZ, zk146 hZ, zk147 hZ, zk148 hZ, zk149 hZ, zk150 hZ, zk151 hZ, zl139 hZ, zl140 hZ, zl141 hZ, zl142 hZ, zl143 hZ, zl144 hZ, zl145 hZ, zl146 hZ, zl147 hZ, zl148 hZ, zl149 hZ, zl150 hZ, zl151 hZ, zr138_0 hZ, zr138_1 hZ, zr138_2 hZ, zr138_3 hZ, zr138_4 hZ, zr138_8 hZ, zr138_9 hZ, zr138_10 hZ, zr138_12 hZ, zr138_24 hZ, zr138_25 hZ, zr138_26 hZ, zr148_0 hZ, zr148_1 hZ, zr148_2 hZ, zr148_3 hZ, zr148_4 hZ, zr148_5 hZ, zr148_6 hZ, zr148_7 hZ, zr148_8 hZ, h18, h17]
      · rw [if_neg k0]
        have g := p_m.lt h2 k0
        have g2 := (p_m.next (B := B) (s := s) h2).2
        have g3 := (p_m.clause (B := B) (s := p_next B L s)).tr (p_m.semi (B := B)) g2
        obtain ⟨S1, X, Y, f1, f2⟩ := z_clauseR H e
        obtain ⟨S2, t, X2, Y2, q1, q2, q3, q4⟩ := z_loop k m S1 _ X Y (by omega) g3.2 (by omega) f2
        refine ⟨S2, t, X2, Y2, ?_, q2, q3, q4⟩
        rw [← q1]
        generalize (p_next B L s).2.1.2.2 = w at *
        obtain ⟨h17, hw4⟩ := h17
        simp (disch := omega) only [bX11_readAll_39, x_cs0, x_csi, x_csr, x_csn, x_csl, x_ret_v, x_ret_t, x_ret_n, x_tl_s, x_tl_n, x_lk0, x_lk, x_rem0, x_rem_i, x_rem_r, x_rem_l, x_rem2_0, x_rem2_i, x_rem2_r, x_rem2_l, x_pick0, x_pick_c, x_st1, x_st2, x_live, x_i, x_l, x_a, x_ild, x_lld, x_rld, x_ist, x_lst, x_rst, x_inc, x_ii, x_ll, x_li, x_cmp, x_ui, x_il, x_lti, x_idiv, x_irem, x_dup_i, x_dup_r, x_pop_i, x_pop_r, x_dupx_ir, x_dup2_ir, x_ifeq, x_iceq, x_iflt, x_iclt, x_ifge, x_icge, x_ifgt, x_icgt, x_ifle, x_icle, x_ifne, x_icne, x_ifnull_r, x_ifnull_n, x_ifnonnull_r, x_ifnonnull_n, x_sw, x_vret, x_iret, x_lret, x_zret, x_zret0, x_zret1, x_rf_s, x_rf_n, x_geti, x_getr, x_puti, x_putz, x_putr, x_ial, x_ias, x_lal, x_las, x_aal, x_aas, x_aast, x_alen, x_new, x_newa, x_copy, x_min, x_abs, x_minl, x_oinit, x_throw, x_callS0, x_callS1, x_callS2, x_callS3, x_callS4, x_callV0, x_callV1, x_callV2, x_callV3, x_callV4, x_callV5, x_retI_v, x_callI0, x_callI1, x_callI2, x_retN_v, x_callSN1, x_callSN2, x_callT0, x_callT1, x_fn, x_sl0, x_sli, x_slr, x_sll, x_ar0, x_ari, x_arr, x_arl, ↓reduceIte, Nat.reduceAdd, Nat.reduceSub, Nat.reduceMul, Nat.reduceEqDiff, Nat.reduceLeDiff, Nat.reduceLT, if_true, if_false, Nat.le_refl, and_true, true_and, and_self, reduceCtorEq, or_false, false_or, or_true, true_or, Nat.zero_le, fa_lit, nI_add, w_mul, nI_ltI, nI_leI, nI_eq, nI_clamp, nI_toInt, if_pos, if_neg, w_div, w_rem2, zk138 hZ, zk139 hZ, zk140 hZ, zk141 hZ, zk142 hZ, zk143 hZ, zk144 hZ, zk145 hZ, zk146 hZ, zk147 hZ, zk148 hZ, zk149 hZ, zk150 hZ, zk151 hZ, zl139 hZ, zl140 hZ, zl141 hZ, zl142 hZ, zl143 hZ, zl144 hZ, zl145 hZ, zl146 hZ, zl147 hZ, zl148 hZ, zl149 hZ, zl150 hZ, zl151 hZ, zr138_0 hZ, zr138_1 hZ, zr138_2 hZ, zr138_3 hZ, zr138_4 hZ, zr138_8 hZ, zr138_9 hZ, zr138_10 hZ, zr138_12 hZ, zr138_24 hZ, zr138_25 hZ, zr138_26 hZ, zr148_0 hZ, zr148_1 hZ, zr148_2 hZ, zr148_3 hZ, zr148_4 hZ, zr148_5 hZ, zr148_6 hZ, zr148_7 hZ, zr148_8 hZ, h18, h17, f1]
    · rw [if_neg e]
      refine ⟨S, _, _, _, ?_, H.er (s' := s) (by rw [p_next_1]; exact e) rfl, rfl, fun _ => rfl⟩
      generalize s.1.1 = w at *
      obtain ⟨h18, hw4⟩ := h18
      simp (disch := omega) only [bX11_readAll_39, kX11_readAll_60, x_cs0, x_csi, x_csr, x_csn, x_csl, x_ret_v, x_ret_t, x_ret_n, x_tl_s, x_tl_n, x_lk0, x_lk, x_rem0, x_rem_i, x_rem_r, x_rem_l, x_rem2_0, x_rem2_i, x_rem2_r, x_rem2_l, x_pick0, x_pick_c, x_st1, x_st2, x_live, x_i, x_l, x_a, x_ild, x_lld, x_rld, x_ist, x_lst, x_rst, x_inc, x_ii, x_ll, x_li, x_cmp, x_ui, x_il, x_lti, x_idiv, x_irem, x_dup_i, x_dup_r, x_pop_i, x_pop_r, x_dupx_ir, x_dup2_ir, x_ifeq, x_iceq, x_iflt, x_iclt, x_ifge, x_icge, x_ifgt, x_icgt, x_ifle, x_icle, x_ifne, x_icne, x_ifnull_r, x_ifnull_n, x_ifnonnull_r, x_ifnonnull_n, x_sw, x_vret, x_iret, x_lret, x_zret, x_zret0, x_zret1, x_rf_s, x_rf_n, x_geti, x_getr, x_puti, x_putz, x_putr, x_ial, x_ias, x_lal, x_las, x_aal, x_aas, x_aast, x_alen, x_new, x_newa, x_copy, x_min, x_abs, x_minl, x_oinit, x_throw, x_callS0, x_callS1, x_callS2, x_callS3, x_callS4, x_callV0, x_callV1, x_callV2, x_callV3, x_callV4, x_callV5, x_retI_v, x_callI0, x_callI1, x_callI2, x_retN_v, x_callSN1, x_callSN2, x_callT0, x_callT1, x_fn, x_sl0, x_sli, x_slr, x_sll, x_ar0, x_ari, x_arr, x_arl, ↓reduceIte, Nat.reduceAdd, Nat.reduceSub, Nat.reduceMul, Nat.reduceEqDiff, Nat.reduceLeDiff, Nat.reduceLT, if_true, if_false, Nat.le_refl, and_true, true_and, and_self, reduceCtorEq, or_false, false_or, or_true, true_or, Nat.zero_le, fa_lit, nI_add, w_mul, nI_ltI, nI_leI, nI_eq, nI_clamp, nI_toInt, if_pos, if_neg, w_div, w_rem2, zk138 hZ, zk139 hZ, zk140 hZ, zk141 hZ, zk142 hZ, zk143 hZ, zk144 hZ, zk145 hZ, zk146 hZ, zk147 hZ, zk148 hZ, zk149 hZ, zk150 hZ, zk151 hZ, zl139 hZ, zl140 hZ, zl141 hZ, zl142 hZ, zl143 hZ, zl144 hZ, zl145 hZ, zl146 hZ, zl147 hZ, zl148 hZ, zl149 hZ, zl150 hZ, zl151 hZ, zr138_0 hZ, zr138_1 hZ, zr138_2 hZ, zr138_3 hZ, zr138_4 hZ, zr138_8 hZ, zr138_9 hZ, zr138_10 hZ, zr138_12 hZ, zr138_24 hZ, zr138_25 hZ, zr138_26 hZ, zr148_0 hZ, zr148_1 hZ, zr148_2 hZ, zr148_3 hZ, zr148_4 hZ, zr148_5 hZ, zr148_6 hZ, zr148_7 hZ, zr148_8 hZ, h18]
theorem p_V.head (hz : ∀ j, j ≠ 0 → j ≠ 1 → j ≠ 9 → j < 928 → R j = nI 0) (h0 : R 0 = nI i) (h1 : R 1 = nI j) (h9 : R 9 = nI 30) (hi : 3 ≤ i ∧ i < 13) (hj : 3 ≤ j ∧ j < 13) : p_V R := by
  have z : ∀ j, j ≠ 0 → j ≠ 1 → j ≠ 9 → j < 928 → s_n (R j) = 0 := fun j a b c d => by rw [hz j a b c d, w_snI (by omega)]
  have nn : ∀ j h, j ≠ 0 → j ≠ 1 → j ≠ 9 → j < 928 → 0 < h → s_nn (R j) h := fun j h h1 h2 h3 h3 h4 => by
    rw [hz j (by assumption) (by assumption) (by assumption) (by assumption)]
    exact s_nnI (by omega) (by omega)
  refine p_V.mk ⟨⟨by rw [h0]; exact s_nnI (by omega) (by omega), by rw [h0, w_snI (by omega)]; omega, by rw [h1]; exact s_nnI (by omega) (by omega), by rw [h1, w_snI (by omega)]; omega⟩, nn 2 7 (by omega) (by omega) (by omega) (by omega) (by omega), nn 3 5 (by omega) (by omega) (by omega) (by omega) (by omega), nn 4 41 (by omega) (by omega) (by omega) (by omega) (by omega), nn 7 81 (by omega) (by omega) (by omega) (by omega) (by omega), nn 8 21 (by omega) (by omega) (by omega) (by omega) (by omega), nn 5 1000 (by omega) (by omega) (by omega) (by omega) (by omega), ⟨by rw [h9]; exact s_nnI (by omega) (by omega), by rw [h9, w_snI (by omega)]; omega⟩, ⟨⟨?_, ?_⟩, ?_⟩, fun c hc => Or.inl ?_⟩ (hz 4 (by omega) (by omega) (by omega) (by omega)) (hz 5 (by omega) (by omega) (by omega) (by omega)) (hz 7 (by omega) (by omega) (by omega) (by omega)) (fun u hu => ?_) (fun u hu => ?_) (fun u hu => ?_)
  · unfold s_w
    rw [h0, w_snI (by omega)]
    exact nn 10 i (by omega) (by omega) (by omega) (by omega) (by omega)
  · unfold s_h
    rw [h1, w_snI (by omega)]
    exact nn 11 j (by omega) (by omega) (by omega) (by omega) (by omega)
  · unfold s_ce
    rw [z 10 (by omega) (by omega) (by omega) (by omega), z 11 (by omega) (by omega) (by omega) (by omega), hz _ (by omega) (by omega) (by omega) (by omega)]
    rfl
  · rw [hz _ (by omega) (by omega) (by omega) (by omega)]
    rfl
  · rw [z 2 (by omega) (by omega) (by omega) (by omega)] at hu
    omega
  · rw [z 3 (by omega) (by omega) (by omega) (by omega)] at hu
    omega
  · rw [z 8 (by omega) (by omega) (by omega) (by omega)] at hu
    omega
theorem p_semi_set : p_semi B L (p_set s Q) = p_set (p_semi B L s) Q := by
  have e1 : (p_set s Q).1 = s.1 := rfl
  have e2 : p_next B L (p_set s Q) = p_set (p_next B L s) Q := rfl
  have e3 : (p_set (p_next B L s) Q).2.1 = (p_next B L s).2.1 := rfl
  have e4 : ∀ (s1 : p_S) c, p_fail (p_set s1 Q) c = p_set (p_fail s1 c) Q := fun s1 c => by
    unfold p_fail
    show (if s1.1.1 = 0 then _ else _) = _
    split <;> rfl
  unfold p_semi
  rw [e1, e2, e3]
  split
  · split
    · rfl
    · rw [e4]
  · rfl
theorem z_head (H : w_zo S0 S L B (p_next B L p_s0) x y) : ∃ S' x' y', fX11_readAll w_N [.ref 138] S = am_loop (bX11_readAll_39 w_N) w_N [(0, .ref 138)] [] S' ∧ w_zo S0 S' L B (p_next B L (p_head B L (p_start B L))) x' y' := by
  have hZ := H.Z
  have t2 : am_isT 2 := by decide
  have gw := z_wd H t2
  obtain ⟨S1, f1, f2⟩ : ∃ S1, fX11_expectWord w_N [.ref 138, .ref 2] S = some (.inl none, S1) ∧ w_zo S0 S1 L B (p_next B L (p_start B L)) x y := by
    unfold p_start
    have e : (p_next B L p_s0).1.1 = 0 := rfl
    generalize p_next B L p_s0 = s at *
    by_cases c : l_w B s.2.1 2
    · rw [if_pos c]
      rw [w_bt ⟨e, c⟩] at gw
      obtain ⟨S1, k1, k2⟩ := z_adv H
      refine ⟨S1, ?_, k2⟩
      simp (disch := omega) only [fX11_expectWord, kX11_expectWord_0, x_cs0, x_csi, x_csr, x_csn, x_csl, x_ret_v, x_ret_t, x_ret_n, x_tl_s, x_tl_n, x_lk0, x_lk, x_rem0, x_rem_i, x_rem_r, x_rem_l, x_rem2_0, x_rem2_i, x_rem2_r, x_rem2_l, x_pick0, x_pick_c, x_st1, x_st2, x_live, x_i, x_l, x_a, x_ild, x_lld, x_rld, x_ist, x_lst, x_rst, x_inc, x_ii, x_ll, x_li, x_cmp, x_ui, x_il, x_lti, x_idiv, x_irem, x_dup_i, x_dup_r, x_pop_i, x_pop_r, x_dupx_ir, x_dup2_ir, x_ifeq, x_iceq, x_iflt, x_iclt, x_ifge, x_icge, x_ifgt, x_icgt, x_ifle, x_icle, x_ifne, x_icne, x_ifnull_r, x_ifnull_n, x_ifnonnull_r, x_ifnonnull_n, x_sw, x_vret, x_iret, x_lret, x_zret, x_zret0, x_zret1, x_rf_s, x_rf_n, x_geti, x_getr, x_puti, x_putz, x_putr, x_ial, x_ias, x_lal, x_las, x_aal, x_aas, x_aast, x_alen, x_new, x_newa, x_copy, x_min, x_abs, x_minl, x_oinit, x_throw, x_callS0, x_callS1, x_callS2, x_callS3, x_callS4, x_callV0, x_callV1, x_callV2, x_callV3, x_callV4, x_callV5, x_retI_v, x_callI0, x_callI1, x_callI2, x_retN_v, x_callSN1, x_callSN2, x_callT0, x_callT1, x_fn, x_sl0, x_sli, x_slr, x_sll, x_ar0, x_ari, x_arr, x_arl, ↓reduceIte, Nat.reduceAdd, Nat.reduceSub, Nat.reduceMul, Nat.reduceEqDiff, Nat.reduceLeDiff, Nat.reduceLT, if_true, if_false, Nat.le_refl, and_true, true_and, and_self, reduceCtorEq, or_false, false_or, or_true, true_or, Nat.zero_le, fa_lit, nI_add, w_mul, nI_ltI, nI_leI, nI_eq, nI_clamp, nI_toInt, if_pos, if_neg, w_div, w_rem2, zk138 hZ, zk139 hZ, zk140 hZ, zk141 hZ, zk142 hZ, zk143 hZ, zk144 hZ, zk145 hZ, zk146 hZ, zk147 hZ, zk148 hZ, zk149 hZ, zk150 hZ, zk151 hZ, zl139 hZ, zl140 hZ, zl141 hZ, zl142 hZ, zl143 hZ, zl144 hZ, zl145 hZ, zl146 hZ, zl147 hZ, zl148 hZ, zl149 hZ, zl150 hZ, zl151 hZ, zr138_0 hZ, zr138_1 hZ, zr138_2 hZ, zr138_3 hZ, zr138_4 hZ, zr138_8 hZ, zr138_9 hZ, zr138_10 hZ, zr138_12 hZ, zr138_24 hZ, zr138_25 hZ, zr138_26 hZ, zr148_0 hZ, zr148_1 hZ, zr148_2 hZ, zr148_3 hZ, zr148_4 hZ, zr148_5 hZ, zr148_6 hZ, zr148_7 hZ, zr148_8 hZ, gw, z_ck1, k1]
    · rw [if_neg c]
      rw [w_bf (fun q => c q.2)] at gw
      obtain ⟨S1, k1, k2⟩ := z_ck0 H (c := 1) (by omega) (by omega)
      have hZ1 := k2.Z
      obtain ⟨S2, k3, k4⟩ := z_adv k2
      refine ⟨S2, ?_, k4⟩
      simp (disch := omega) only [fX11_expectWord, kX11_expectWord_0, x_cs0, x_csi, x_csr, x_csn, x_csl, x_ret_v, x_ret_t, x_ret_n, x_tl_s, x_tl_n, x_lk0, x_lk, x_rem0, x_rem_i, x_rem_r, x_rem_l, x_rem2_0, x_rem2_i, x_rem2_r, x_rem2_l, x_pick0, x_pick_c, x_st1, x_st2, x_live, x_i, x_l, x_a, x_ild, x_lld, x_rld, x_ist, x_lst, x_rst, x_inc, x_ii, x_ll, x_li, x_cmp, x_ui, x_il, x_lti, x_idiv, x_irem, x_dup_i, x_dup_r, x_pop_i, x_pop_r, x_dupx_ir, x_dup2_ir, x_ifeq, x_iceq, x_iflt, x_iclt, x_ifge, x_icge, x_ifgt, x_icgt, x_ifle, x_icle, x_ifne, x_icne, x_ifnull_r, x_ifnull_n, x_ifnonnull_r, x_ifnonnull_n, x_sw, x_vret, x_iret, x_lret, x_zret, x_zret0, x_zret1, x_rf_s, x_rf_n, x_geti, x_getr, x_puti, x_putz, x_putr, x_ial, x_ias, x_lal, x_las, x_aal, x_aas, x_aast, x_alen, x_new, x_newa, x_copy, x_min, x_abs, x_minl, x_oinit, x_throw, x_callS0, x_callS1, x_callS2, x_callS3, x_callS4, x_callV0, x_callV1, x_callV2, x_callV3, x_callV4, x_callV5, x_retI_v, x_callI0, x_callI1, x_callI2, x_retN_v, x_callSN1, x_callSN2, x_callT0, x_callT1, x_fn, x_sl0, x_sli, x_slr, x_sll, x_ar0, x_ari, x_arr, x_arl, ↓reduceIte, Nat.reduceAdd, Nat.reduceSub, Nat.reduceMul, Nat.reduceEqDiff, Nat.reduceLeDiff, Nat.reduceLT, if_true, if_false, Nat.le_refl, and_true, true_and, and_self, reduceCtorEq, or_false, false_or, or_true, true_or, Nat.zero_le, fa_lit, nI_add, w_mul, nI_ltI, nI_leI, nI_eq, nI_clamp, nI_toInt, if_pos, if_neg, w_div, w_rem2, zk138 hZ, zk139 hZ, zk140 hZ, zk141 hZ, zk142 hZ, zk143 hZ, zk144 hZ, zk145 hZ, zk146 hZ, zk147 hZ, zk148 hZ, zk149 hZ, zk150 hZ, zk151 hZ, zl139 hZ, zl140 hZ, zl141 hZ, zl142 hZ, zl143 hZ, zl144 hZ, zl145 hZ, zl146 hZ, zl147 hZ, zl148 hZ, zl149 hZ, zl150 hZ, zl151 hZ, zr138_0 hZ, zr138_1 hZ, zr138_2 hZ, zr138_3 hZ, zr138_4 hZ, zr138_8 hZ, zr138_9 hZ, zr138_10 hZ, zr138_12 hZ, zr138_24 hZ, zr138_25 hZ, zr138_26 hZ, zr148_0 hZ, zr148_1 hZ, zr148_2 hZ, zr148_3 hZ, zr148_4 hZ, zr148_5 hZ, zr148_6 hZ, zr148_7 hZ, zr148_8 hZ, zk138 hZ1, zk139 hZ1, zk140 hZ1, zk141 hZ1, zk142 hZ1, zk143 hZ1, zk144 hZ1, zk145 hZ1, zk146 hZ1, zk147 hZ1, zk148 hZ1, zk149 hZ1, zk150 hZ1, zk151 hZ1, zl139 hZ1, zl140 hZ1, zl141 hZ1, zl142 hZ1, zl143 hZ1, zl144 hZ1, zl145 hZ1, zl146 hZ1, zl147 hZ1, zl148 hZ1, zl149 hZ1, zl150 hZ1, zl151 hZ1, zr138_0 hZ1, zr138_1 hZ1, zr138_2 hZ1, zr138_3 hZ1, zr138_4 hZ1, zr138_8 hZ1, zr138_9 hZ1, zr138_10 hZ1, zr138_12 hZ1, zr138_24 hZ1, zr138_25 hZ1, zr138_26 hZ1, zr148_0 hZ1, zr148_1 hZ1, zr148_2 hZ1, zr148_3 hZ1, zr148_4 hZ1, zr148_5 hZ1, zr148_6 hZ1, zr148_7 hZ1, zr148_8 hZ1, gw, k1, k3]
  have eR0 : (p_start B L).2.2 = p_R0 := by
    unfold p_start
    split
    · rfl
    · rw [p_fail_2]
      rfl
  generalize p_start B L = s at *
  have hZ1 := f2.Z
  obtain ⟨S2, g1, g2⟩ := z_nm (lo := 3) (h := 13) (hi := nI 12) f2 (by rw [nI_toInt (by omega)]; rfl) (by omega) (by omega)
  have wl := p_num_lt (B := B) (L := L) (s := s) (lo := 3) (h := 13) (m := 12) (by omega) (by omega)
  have eR1 : (p_num B L s 3 13).1.2.2 = s.2.2 := p_num_R
  unfold p_head
  dsimp only
  generalize hw : p_num B L s 3 13 = w at *
  have hZ2 := g2.Z
  have k2 : w_zo S0 (am_putI S2 140 0 (nI w.2)) L B (p_set (p_next B L w.1) (va_up s.2.2 0 (nI w.2))) x y := g2.row2 (w_I.put (P := fun b => b = 140) rfl) (fun q => by
    obtain ⟨hV, hl⟩ := g2.2.2.2.2.2.2 q
    have hl : w_lk (am_i S2 140) w.1.2.2 := hl
    rw [eR1] at hl
    refine ⟨p_V.head (i := w.2) (j := 3) (fun j a b c d => ?_) s_up_s ?_ ?_ (by omega) (by omega), ?_, ?_⟩
    · rw [s_up_n a, eR0]
      exact p_R0_0 a b c
    · rw [s_up_n (by omega), eR0]
      rfl
    · rw [s_up_n (by omega), eR0]
      rfl
    · rw [w_iA]
      exact hl.up (by rw [eR0, p_R0_0 (by omega) (by omega) (by omega), w_snI (by omega)]; omega) (by omega) (by omega) (by omega)
    · rw [s_up_n (by omega)]
      exact (congrFun eR1 3).symm)
  have k2 : w_zo S0 (am_putI S2 140 0 (nI w.2)) L B (p_next B L (p_set w.1 (va_up s.2.2 0 (nI w.2)))) x y := k2
  have hZ3 := k2.Z
  obtain ⟨S4, m1, m2⟩ := z_nm (lo := 3) (h := 13) (hi := nI 12) k2 (by rw [nI_toInt (by omega)]; rfl) (by omega) (by omega)
  rw [p_num_set] at m1 m2
  have hl2 := p_num_lt (B := B) (L := L) (s := w.1) (lo := 3) (h := 13) (m := 12) (by omega) (by omega)
  generalize hh : p_num B L w.1 3 13 = h2 at *
  dsimp only at m1 m2
  have hZ4 := m2.Z
  have n2 : w_zo S0 (am_putI S4 140 1 (nI h2.2)) L B (p_set (p_next B L (p_set h2.1 (va_up s.2.2 0 (nI w.2)))) (va_up (va_up s.2.2 0 (nI w.2)) 1 (nI h2.2))) x y := m2.row2 (w_I.put (P := fun b => b = 140) rfl) (fun q => by
    obtain ⟨hV, hl⟩ := m2.2.2.2.2.2.2 q
    have hl : w_lk (am_i S4 140) (va_up s.2.2 0 (nI w.2)) := hl
    refine ⟨p_V.head (i := w.2) (j := h2.2) (fun j a b c d => ?_) ?_ s_up_s ?_ (by omega) (by omega), ?_, ?_⟩
    · rw [s_up_n b, s_up_n a, eR0]
      exact p_R0_0 a b c
    · rw [s_up_n (by omega), s_up_s]
    · rw [s_up_n (by omega), s_up_n (by omega), eR0]
      rfl
    · rw [w_iA]
      exact hl.up (by rw [s_up_n (by omega), eR0, p_R0_0 (by omega) (by omega) (by omega), w_snI (by omega)]; omega) (by omega) (by omega) (by omega)
    · rw [s_up_n (by omega)]
      rfl)
  have n2 : w_zo S0 (am_putI S4 140 1 (nI h2.2)) L B (p_next B L (p_set h2.1 (va_up (va_up s.2.2 0 (nI w.2)) 1 (nI h2.2)))) x y := n2
  have hZ5 := n2.Z
  obtain ⟨S6, q1, q2⟩ := z_semi n2
  rw [p_semi_set] at q2
  refine ⟨S6, x, y, ?_, q2⟩
  generalize h2.2 = hv at *
  generalize w.2 = wv at *
  simp (disch := omega) only [fX11_readAll, kX11_readAll_0, kX11_readAll_39, x_cs0, x_csi, x_csr, x_csn, x_csl, x_ret_v, x_ret_t, x_ret_n, x_tl_s, x_tl_n, x_lk0, x_lk, x_rem0, x_rem_i, x_rem_r, x_rem_l, x_rem2_0, x_rem2_i, x_rem2_r, x_rem2_l, x_pick0, x_pick_c, x_st1, x_st2, x_live, x_i, x_l, x_a, x_ild, x_lld, x_rld, x_ist, x_lst, x_rst, x_inc, x_ii, x_ll, x_li, x_cmp, x_ui, x_il, x_lti, x_idiv, x_irem, x_dup_i, x_dup_r, x_pop_i, x_pop_r, x_dupx_ir, x_dup2_ir, x_ifeq, x_iceq, x_iflt, x_iclt, x_ifge, x_icge, x_ifgt, x_icgt, x_ifle, x_icle, x_ifne, x_icne, x_ifnull_r, x_ifnull_n, x_ifnonnull_r, x_ifnonnull_n, x_sw, x_vret, x_iret, x_lret, x_zret, x_zret0, x_zret1, x_rf_s, x_rf_n, x_geti, x_getr, x_puti, x_putz, x_putr, x_ial, x_ias, x_lal, x_las, x_aal, x_aas, x_aast, x_alen, x_new, x_newa, x_copy, x_min, x_abs, x_minl, x_oinit, x_throw, x_callS0, x_callS1, x_callS2, x_callS3, x_callS4, x_callV0, x_callV1, x_callV2, x_callV3, x_callV4, x_callV5, x_retI_v, x_callI0, x_callI1, x_callI2, x_retN_v, x_callSN1, x_callSN2, x_callT0, x_callT1, x_fn, x_sl0, x_sli, x_slr, x_sll, x_ar0, x_ari, x_arr, x_arl, ↓reduceIte, Nat.reduceAdd, Nat.reduceSub, Nat.reduceMul, Nat.reduceEqDiff, Nat.reduceLeDiff, Nat.reduceLT, if_true, if_false, Nat.le_refl, and_true, true_and, and_self, reduceCtorEq, or_false, false_or, or_true, true_or, Nat.zero_le, fa_lit, nI_add, w_mul, nI_ltI, nI_leI, nI_eq, nI_clamp, nI_toInt, if_pos, if_neg, w_div, w_rem2, zk138 hZ, zk139 hZ, zk140 hZ, zk141 hZ, zk142 hZ, zk143 hZ, zk144 hZ, zk145 hZ, zk146 hZ, zk147 hZ, zk148 hZ, zk149 hZ, zk150 hZ, zk151 hZ, zl139 hZ, zl140 hZ, zl141 hZ, zl142 hZ, zl143 hZ, zl144 hZ, zl145 hZ, zl146 hZ, zl147 hZ, zl148 hZ, zl149 hZ, zl150 hZ, zl151 hZ, zr138_0 hZ, zr138_1 hZ, zr138_2 hZ, zr138_3 hZ, zr138_4 hZ, zr138_8 hZ, zr138_9 hZ, zr138_10 hZ, zr138_12 hZ, zr138_24 hZ, zr138_25 hZ, zr138_26 hZ, zr148_0 hZ, zr148_1 hZ, zr148_2 hZ, zr148_3 hZ, zr148_4 hZ, zr148_5 hZ, zr148_6 hZ, zr148_7 hZ, zr148_8 hZ, zk138 hZ1, zk139 hZ1, zk140 hZ1, zk141 hZ1, zk142 hZ1, zk143 hZ1, zk144 hZ1, zk145 hZ1, zk146 hZ1, zk147 hZ1, zk148 hZ1, zk149 hZ1, zk150 hZ1, zk151 hZ1, zl139 hZ1, zl140 hZ1, zl141 hZ1, zl142 hZ1, zl143 hZ1, zl144 hZ1, zl145 hZ1, zl146 hZ1, zl147 hZ1, zl148 hZ1, zl149 hZ1, zl150 hZ1, zl151 hZ1, zr138_0 hZ1, zr138_1 hZ1, zr138_2 hZ1, zr138_3 hZ1, zr138_4 hZ1, zr138_8 hZ1, zr138_9 hZ1, zr138_10 hZ1, zr138_12 hZ1, zr138_24 hZ1, zr138_25 hZ1, zr138_26 hZ1, zr148_0 hZ1, zr148_1 hZ1, zr148_2 hZ1, zr148_3 hZ1, zr148_4 hZ1, zr148_5 hZ1, zr148_6 hZ1, zr148_7 hZ1, zr148_8 hZ1, zk138 hZ2, zk139 hZ2, zk140 hZ2, zk141 hZ2, zk142 hZ2, zk143 hZ2, zk144 hZ2, zk145 hZ2, zk146 hZ2, zk147 hZ2, zk148 hZ2, zk149 hZ2, zk150 hZ2, zk151 hZ2, zl139 hZ2, zl140 hZ2, zl141 hZ2, zl142 hZ2, zl143 hZ2, zl144 hZ2, zl145 hZ2, zl146 hZ2, zl147 hZ2, zl148 hZ2, zl149 hZ2, zl150 hZ2, zl151 hZ2, zr138_0 hZ2, zr138_1 hZ2, zr138_2 hZ2, zr138_3 hZ2, zr138_4 hZ2, zr138_8 hZ2, zr138_9 hZ2, zr138_10 hZ2, zr138_12 hZ2, zr138_24 hZ2, zr138_25 hZ2, zr138_26 hZ2, zr148_0 hZ2, zr148_1 hZ2, zr148_2 hZ2, zr148_3 hZ2, zr148_4 hZ2, zr148_5 hZ2, zr148_6 hZ2, zr148_7 hZ2, zr148_8 hZ2, zk138 hZ3, zk139 hZ3, zk140 hZ3, zk141 hZ3, zk142 hZ3, zk143 hZ3, zk144 hZ3, zk145 hZ3, zk146 hZ3, zk147 hZ3, zk148 hZ3, zk149 hZ3, zk150 hZ3, zk151 hZ3, zl139 hZ3, zl140 hZ3, zl141 hZ3, zl142 hZ3, zl143 hZ3, zl144 hZ3, zl145 hZ3, zl146 hZ3, zl147 hZ3, zl148 hZ3, zl149 hZ3, zl150 hZ3, zl151 hZ3, zr138_0 hZ3, zr138_1 hZ3, zr138_2 hZ3, zr138_3 hZ3, zr138_4 hZ3, zr138_8 hZ3, zr138_9 hZ3, zr138_10 hZ3, zr138_12 hZ3, zr138_24 hZ3, zr138_25 hZ3, zr138_26 hZ3, zr148_0 hZ3, zr148_1 hZ3, zr148_2 hZ3, zr148_3 hZ3, zr148_4 hZ3, zr148_5 hZ3, zr148_6 hZ3, zr148_7 hZ3, zr148_8 hZ3, zk138 hZ4, zk139 hZ4, zk140 hZ4, zk141 hZ4, zk142 hZ4, zk143 hZ4, zk144 hZ4, zk145 hZ4, zk146 hZ4, zk147 hZ4, zk148 hZ4, zk149 hZ4, zk150 hZ4, zk151 hZ4, zl139 hZ4, zl140 hZ4, zl141 hZ4, zl142 hZ4, zl143 hZ4, zl144 hZ4, zl145 hZ4, zl146 hZ4, zl147 hZ4, zl148 hZ4, zl149 hZ4, zl150 hZ4, zl151 hZ4, zr138_0 hZ4, zr138_1 hZ4, zr138_2 hZ4, zr138_3 hZ4, zr138_4 hZ4, zr138_8 hZ4, zr138_9 hZ4, zr138_10 hZ4, zr138_12 hZ4, zr138_24 hZ4, zr138_25 hZ4, zr138_26 hZ4, zr148_0 hZ4, zr148_1 hZ4, zr148_2 hZ4, zr148_3 hZ4, zr148_4 hZ4, zr148_5 hZ4, zr148_6 hZ4, zr148_7 hZ4, zr148_8 hZ4, zk138 hZ5, zk139 hZ5, zk140 hZ5, zk141 hZ5, zk142 hZ5, zk143 hZ5, zk144 hZ5, zk145 hZ5, zk146 hZ5, zk147 hZ5, zk148 hZ5, zk149 hZ5, zk150 hZ5, zk151 hZ5, zl139 hZ5, zl140 hZ5, zl141 hZ5, zl142 hZ5, zl143 hZ5, zl144 hZ5, zl145 hZ5, zl146 hZ5, zl147 hZ5, zl148 hZ5, zl149 hZ5, zl150 hZ5, zl151 hZ5, zr138_0 hZ5, zr138_1 hZ5, zr138_2 hZ5, zr138_3 hZ5, zr138_4 hZ5, zr138_8 hZ5, zr138_9 hZ5, zr138_10 hZ5, zr138_12 hZ5, zr138_24 hZ5, zr138_25 hZ5, zr138_26 hZ5, zr148_0 hZ5, zr148_1 hZ5, zr148_2 hZ5, zr148_3 hZ5, zr148_4 hZ5, zr148_5 hZ5, zr148_6 hZ5, zr148_7 hZ5, zr148_8 hZ5, f1, g1, m1, q1]
theorem p_start_m : (p_start B L).2.1.2.1 ≤ L := by
  have g : p_m L p_s0 (p_start B L) := by
    unfold p_start
    exact p_m.ite p_m.next (p_m.next.tr p_m.fail)
  exact (g (Nat.zero_le _)).2
theorem z_readAll (H : w_zo S0 S L B (p_next B L p_s0) x y) (hL : L ≤ 600) : ∃ S' t x' y', fX11_readAll w_N [.ref 138] S = some (.inl none, S') ∧ w_zo S0 S' L B t x' y' ∧ t.1 = (p_all B L).1 ∧ (t.1.1 = 0 → t.2.2 = (p_all B L).2.2) := by
  obtain ⟨S1, X, Y, f1, f2⟩ := z_head H
  have g : p_m L (p_start B L) (p_head B L (p_start B L)) := ((p_m.num.tr p_m.num).tr p_m.semi).tr p_m.set
  have g2 := (g p_start_m).2
  obtain ⟨S2, t, X2, Y2, q1, q2, q3, q4⟩ := z_loop 600 w_N S1 _ X Y (by omega) g2 (by show 601 < 5000; omega) f2
  exact ⟨S2, t, X2, Y2, f1.trans q1, q2, q3, q4⟩
end L41
