/-! THE REFERENCE: query, the whole -/
section L65
variable {S S' T S0 S1 T3 T4 T6 T7 : am_S} {a b p q i j k m n u t L e f κ v0 lo h op d dd l r o : Nat} {P : Nat → Prop} {B : Nat → Nat} {c x y z hi : Int32} {v v1 v2 w : Int64} {s s' s2 : p_S} {R : Nat → Int32} {C C1 C2 : List Int32} {G : Nat → p_S → q_T} {H : Nat → Bool} {M : Nat → Nat → Int32}
theorem z_fin (h : w_zt S S L B s) : ∃ S', fX11_finish w_N [.ref 138] S = some (.inl (some (.int (nI s.1.1))), S') ∧ w_I (fun b => b = 138) S S' ∧ am_i S' 138 13 = nI 0 ∧ am_i S' 138 20 = (if s.1.1 = 0 then -nI 1 else nI s.1.2) ∧ ∀ j, j ≠ 13 → j ≠ 20 → am_i S' 138 j = am_i S 138 j := by
  have hZ := h.Z
  have k18 := h.k18
  have k19 := h.2.2.2.1.2.2
  have g1 : w_I (fun b => b = 138) S (am_putI S 138 13 (nI 0)) := w_I.put (P := fun b => b = 138) rfl
  have zT5 := g1.Z hZ
  by_cases e : s.1.1 = 0
  · rw [if_pos e]
    rw [e] at k18 ⊢
    have g2 : w_I (fun b => b = 138) (am_putI S 138 13 (nI 0)) (am_putI (am_putI S 138 13 (nI 0)) 138 20 (-nI 1)) := w_I.put (P := fun b => b = 138) rfl
    have zT6 := g2.Z zT5
    have k18b : am_i (am_putI S 138 13 (nI 0)) 138 18 = nI 0 := by rw [x_i_I, if_pos rfl, if_neg (by omega)]; exact k18.1
    have k18c : am_i (am_putI (am_putI S 138 13 (nI 0)) 138 20 (-nI 1)) 138 18 = nI 0 := by rw [x_i_I, if_pos rfl, if_neg (by omega)]; exact k18b
    refine ⟨_, ?_, g1.tr g2, by rw [x_i_I, if_pos rfl, if_neg (by omega), x_i_Is], x_i_Is, fun j j1 j2 => by rw [x_i_I, if_pos rfl, if_neg j2, x_i_I, if_pos rfl, if_neg j1]⟩
    simp (disch := omega) only [fX11_finish, kX11_finish_21, kX11_finish_0, x_cs0, x_csi, x_csr, x_csn, x_csl, x_ret_v, x_ret_t, x_ret_n, x_tl_s, x_tl_n, x_lk0, x_lk, x_rem0, x_rem_i, x_rem_r, x_rem_l, x_rem2_0, x_rem2_i, x_rem2_r, x_rem2_l, x_pick0, x_pick_c, x_st1, x_st2, x_live, x_i, x_l, x_a, x_ild, x_lld, x_rld, x_ist, x_lst, x_rst, x_inc, x_ii, x_ll, x_li, x_cmp, x_ui, x_il, x_lti, x_idiv, x_irem, x_dup_i, x_dup_r, x_pop_i, x_pop_r, x_dupx_ir, x_dup2_ir, x_ifeq, x_iceq, x_iflt, x_iclt, x_ifge, x_icge, x_ifgt, x_icgt, x_ifle, x_icle, x_ifne, x_icne, x_ifnull_r, x_ifnull_n, x_ifnonnull_r, x_ifnonnull_n, x_sw, x_vret, x_iret, x_lret, x_zret, x_zret0, x_zret1, x_rf_s, x_rf_n, x_geti, x_getr, x_puti, x_putz, x_putr, x_ial, x_ias, x_lal, x_las, x_aal, x_aas, x_aast, x_alen, x_new, x_newa, x_copy, x_min, x_abs, x_minl, x_oinit, x_throw, x_callS0, x_callS1, x_callS2, x_callS3, x_callS4, x_callV0, x_callV1, x_callV2, x_callV3, x_callV4, x_callV5, x_retI_v, x_callI0, x_callI1, x_callI2, x_retN_v, x_callSN1, x_callSN2, x_callT0, x_callT1, x_fn, x_sl0, x_sli, x_slr, x_sll, x_ar0, x_ari, x_arr, x_arl, ↓reduceIte, Nat.reduceAdd, Nat.reduceSub, Nat.reduceMul, Nat.reduceEqDiff, Nat.reduceLeDiff, Nat.reduceLT, if_true, if_false, Nat.le_refl, and_true, true_and, and_self, reduceCtorEq, or_false, false_or, or_true, true_or, Nat.zero_le, fa_lit, nI_add, w_mul, nI_ltI, nI_leI, nI_eq, nI_clamp, nI_toInt, if_pos, if_neg, w_div, w_rem2, zk138 hZ, zk139 hZ, zk140 hZ, zk141 hZ, zk142 hZ, zk143 hZ, zk144 hZ, zk145 hZ, zk146 hZ, zk147 hZ, zk148 hZ, zk149 hZ, zk150 hZ, zk151 hZ, zl139 hZ, zl140 hZ, zl141 hZ, zl142 hZ, zl143 hZ, zl144 hZ, zl145 hZ, zl146 hZ, zl147 hZ, zl148 hZ, zl149 hZ, zl150 hZ, zl151 hZ, zr138_0 hZ, zr138_1 hZ, zr138_2 hZ, zr138_3 hZ, zr138_4 hZ, zr138_8 hZ, zr138_9 hZ, zr138_10 hZ, zr138_12 hZ, zr138_24 hZ, zr138_25 hZ, zr138_26 hZ, zr148_0 hZ, zr148_1 hZ, zr148_2 hZ, zr148_3 hZ, zr148_4 hZ, zr148_5 hZ, zr148_6 hZ, zr148_7 hZ, zr148_8 hZ, zk138 zT5, zk139 zT5, zk140 zT5, zk141 zT5, zk142 zT5, zk143 zT5, zk144 zT5, zk145 zT5, zk146 zT5, zk147 zT5, zk148 zT5, zk149 zT5, zk150 zT5, zk151 zT5, zl139 zT5, zl140 zT5, zl141 zT5, zl142 zT5, zl143 zT5, zl144 zT5, zl145 zT5, zl146 zT5, zl147 zT5, zl148 zT5, zl149 zT5, zl150 zT5, zl151 zT5, zr138_0 zT5, zr138_1 zT5, zr138_2 zT5, zr138_3 zT5, zr138_4 zT5, zr138_8 zT5, zr138_9 zT5, zr138_10 zT5, zr138_12 zT5, zr138_24 zT5, zr138_25 zT5, zr138_26 zT5, zr148_0 zT5, zr148_1 zT5, zr148_2 zT5, zr148_3 zT5, zr148_4 zT5, zr148_5 zT5, zr148_6 zT5, zr148_7 zT5, zr148_8 zT5, zk138 zT6, zk139 zT6, zk140 zT6, zk141 zT6, zk142 zT6, zk143 zT6, zk144 zT6, zk145 zT6, zk146 zT6, zk147 zT6, zk148 zT6, zk149 zT6, zk150 zT6, zk151 zT6, zl139 zT6, zl140 zT6, zl141 zT6, zl142 zT6, zl143 zT6, zl144 zT6, zl145 zT6, zl146 zT6, zl147 zT6, zl148 zT6, zl149 zT6, zl150 zT6, zl151 zT6, zr138_0 zT6, zr138_1 zT6, zr138_2 zT6, zr138_3 zT6, zr138_4 zT6, zr138_8 zT6, zr138_9 zT6, zr138_10 zT6, zr138_12 zT6, zr138_24 zT6, zr138_25 zT6, zr138_26 zT6, zr148_0 zT6, zr148_1 zT6, zr148_2 zT6, zr148_3 zT6, zr148_4 zT6, zr148_5 zT6, zr148_6 zT6, zr148_7 zT6, zr148_8 zT6, k18b, k18c]
  · rw [if_neg e]
    have k19b := k19 e
    generalize s.1.2 = pl at *
    generalize s.1.1 = cd at *
    have k18b : am_i (am_putI S 138 13 (nI 0)) 138 18 = nI cd := by rw [x_i_I, if_pos rfl, if_neg (by omega)]; exact k18.1
    have k19c : am_i (am_putI S 138 13 (nI 0)) 138 19 = nI pl := by rw [x_i_I, if_pos rfl, if_neg (by omega)]; exact k19b
    have g2 : w_I (fun b => b = 138) (am_putI S 138 13 (nI 0)) (am_putI (am_putI S 138 13 (nI 0)) 138 20 (nI pl)) := w_I.put (P := fun b => b = 138) rfl
    have zT6 := g2.Z zT5
    have k18c : am_i (am_putI (am_putI S 138 13 (nI 0)) 138 20 (nI pl)) 138 18 = nI cd := by rw [x_i_I, if_pos rfl, if_neg (by omega)]; exact k18b
    have hcd4 := k18.2
    refine ⟨_, ?_, g1.tr g2, by rw [x_i_I, if_pos rfl, if_neg (by omega), x_i_Is], x_i_Is, fun j j1 j2 => by rw [x_i_I, if_pos rfl, if_neg j2, x_i_I, if_pos rfl, if_neg j1]⟩
    simp (disch := omega) only [fX11_finish, kX11_finish_21, kX11_finish_0, x_cs0, x_csi, x_csr, x_csn, x_csl, x_ret_v, x_ret_t, x_ret_n, x_tl_s, x_tl_n, x_lk0, x_lk, x_rem0, x_rem_i, x_rem_r, x_rem_l, x_rem2_0, x_rem2_i, x_rem2_r, x_rem2_l, x_pick0, x_pick_c, x_st1, x_st2, x_live, x_i, x_l, x_a, x_ild, x_lld, x_rld, x_ist, x_lst, x_rst, x_inc, x_ii, x_ll, x_li, x_cmp, x_ui, x_il, x_lti, x_idiv, x_irem, x_dup_i, x_dup_r, x_pop_i, x_pop_r, x_dupx_ir, x_dup2_ir, x_ifeq, x_iceq, x_iflt, x_iclt, x_ifge, x_icge, x_ifgt, x_icgt, x_ifle, x_icle, x_ifne, x_icne, x_ifnull_r, x_ifnull_n, x_ifnonnull_r, x_ifnonnull_n, x_sw, x_vret, x_iret, x_lret, x_zret, x_zret0, x_zret1, x_rf_s, x_rf_n, x_geti, x_getr, x_puti, x_putz, x_putr, x_ial, x_ias, x_lal, x_las, x_aal, x_aas, x_aast, x_alen, x_new, x_newa, x_copy, x_min, x_abs, x_minl, x_oinit, x_throw, x_callS0, x_callS1, x_callS2, x_callS3, x_callS4, x_callV0, x_callV1, x_callV2, x_callV3, x_callV4, x_callV5, x_retI_v, x_callI0, x_callI1, x_callI2, x_retN_v, x_callSN1, x_callSN2, x_callT0, x_callT1, x_fn, x_sl0, x_sli, x_slr, x_sll, x_ar0, x_ari, x_arr, x_arl, ↓reduceIte, Nat.reduceAdd, Nat.reduceSub, Nat.reduceMul, Nat.reduceEqDiff, Nat.reduceLeDiff, Nat.reduceLT, if_true, if_false, Nat.le_refl, and_true, true_and, and_self, reduceCtorEq, or_false, false_or, or_true, true_or, Nat.zero_le, fa_lit, nI_add, w_mul, nI_ltI, nI_leI, nI_eq, nI_clamp, nI_toInt, if_pos, if_neg, w_div, w_rem2, zk138 hZ, zk139 hZ, zk140 hZ, zk141 hZ, zk142 hZ, zk143 hZ, zk144 hZ, zk145 hZ, zk146 hZ, zk147 hZ, zk148 hZ, zk149 hZ, zk150 hZ, zk151 hZ, zl139 hZ, zl140 hZ, zl141 hZ, zl142 hZ, zl143 hZ, zl144 hZ, zl145 hZ, zl146 hZ, zl147 hZ, zl148 hZ, zl149 hZ, zl150 hZ, zl151 hZ, zr138_0 hZ, zr138_1 hZ, zr138_2 hZ, zr138_3 hZ, zr138_4 hZ, zr138_8 hZ, zr138_9 hZ, zr138_10 hZ, zr138_12 hZ, zr138_24 hZ, zr138_25 hZ, zr138_26 hZ, zr148_0 hZ, zr148_1 hZ, zr148_2 hZ, zr148_3 hZ, zr148_4 hZ, zr148_5 hZ, zr148_6 hZ, zr148_7 hZ, zr148_8 hZ, zk138 zT5, zk139 zT5, zk140 zT5, zk141 zT5, zk142 zT5, zk143 zT5, zk144 zT5, zk145 zT5, zk146 zT5, zk147 zT5, zk148 zT5, zk149 zT5, zk150 zT5, zk151 zT5, zl139 zT5, zl140 zT5, zl141 zT5, zl142 zT5, zl143 zT5, zl144 zT5, zl145 zT5, zl146 zT5, zl147 zT5, zl148 zT5, zl149 zT5, zl150 zT5, zl151 zT5, zr138_0 zT5, zr138_1 zT5, zr138_2 zT5, zr138_3 zT5, zr138_4 zT5, zr138_8 zT5, zr138_9 zT5, zr138_10 zT5, zr138_12 zT5, zr138_24 zT5, zr138_25 zT5, zr138_26 zT5, zr148_0 zT5, zr148_1 zT5, zr148_2 zT5, zr148_3 zT5, zr148_4 zT5, zr148_5 zT5, zr148_6 zT5, zr148_7 zT5, zr148_8 zT5, zk138 zT6, zk139 zT6, zk140 zT6, zk141 zT6, zk142 zT6, zk143 zT6, zk144 zT6, zk145 zT6, zk146 zT6, zk147 zT6, zk148 zT6, zk149 zT6, zk150 zT6, zk151 zT6, zl139 zT6, zl140 zT6, zl141 zT6, zl142 zT6, zl143 zT6, zl144 zT6, zl145 zT6, zl146 zT6, zl147 zT6, zl148 zT6, zl149 zT6, zl150 zT6, zl151 zT6, zr138_0 zT6, zr138_1 zT6, zr138_2 zT6, zr138_3 zT6, zr138_4 zT6, zr138_8 zT6, zr138_9 zT6, zr138_10 zT6, zr138_12 zT6, zr138_24 zT6, zr138_25 zT6, zr138_26 zT6, zr148_0 zT6, zr148_1 zT6, zr148_2 zT6, zr148_3 zT6, zr148_4 zT6, zr148_5 zT6, zr148_6 zT6, zr148_7 zT6, zr148_8 zT6, k18b, k18c, k19c]
theorem zq_67 {bb fi : Int32} (hck : fX11_check w_N [.ref 138, .int bb, .int (nI 1)] T3 = some (.inl none, T4)) (hZ : w_Z T3) (H4 : w_zc S0 T4 L B s [] 0 0) (hk : s.1.1 = 0 → s.2.1.2.2 ≠ 0) : ∃ T6 bb2 T7, kX11_query_67 w_N [(0, .ref 138), (2, .int fi)] [.int bb, .ref 138] T3 = kX11_query_99 w_N [(0, .ref 138), (2, .int fi)] [.int bb2, .ref 138] T6 ∧ w_Z T6 ∧ fX11_check w_N [.ref 138, .int bb2, .int (nI 1)] T6 = some (.inl none, T7) ∧ w_zc S0 T7 L B (if (q_test R B L (q_open R B L 8) 0 (p_next B L s)).1.2.1.2.2 = 0 then (q_test R B L (q_open R B L 8) 0 (p_next B L s)).1 else p_fail (q_test R B L (q_open R B L 8) 0 (p_next B L s)).1 1) (q_test R B L (q_open R B L 8) 0 (p_next B L s)).2.1 0 0 := by
  have hZ4 := H4.Z
  obtain ⟨T5, f1, f2⟩ := zq_adv H4 hk
  have hZ5 := f2.Z
  obtain ⟨T6, g1, g2⟩ := zq_test (rF := rX11_compileFactor w_N 8) (R := R) (G := q_open R B L 8) (op := 0) (fun s => q_fw.opn 8 0 s) (fun S s C d h => zq_opn 8 0 S s C d (by omega) (by omega) h) f2
  rw [List.nil_append] at g2
  have hZ6 := g2.Z
  have k18 := g2.2.1.1.k18
  generalize q_test R B L (q_open R B L 8) 0 (p_next B L s) = X at *
  have k8 := zk138 hZ
  have k84 := zk138 hZ4
  have k85 := zk138 hZ5
  have k86 := zk138 hZ6
  have run : ∀ st, kX11_query_99 w_N [(0, .ref 138), (2, .int fi)] st T6 = kX11_query_99 w_N [(0, .ref 138), (2, .int fi)] st T6 := fun _ => rfl
  by_cases e : X.1.1.1 = 0
  · have k17 := g2.2.1.1.k17 e
    rw [e] at k18
    obtain ⟨k18, -⟩ := k18
    by_cases c0 : X.1.2.1.2.2 = 0
    · rw [if_pos c0]
      rw [c0] at k17
      obtain ⟨k17, -⟩ := k17
      refine ⟨T6, nI 1, T6, ?_, hZ6, z_ck1 _, (g2.less : w_zc S0 T6 L B X.1 X.2.1 0 0)⟩
      generalize hK : kX11_query_99 w_N = K
      generalize hF : fX11_compileTest w_N (rX11_compileFactor w_N 8) = fT at *
      generalize hC : fX11_check w_N = fC at *
      generalize hA : fX11_advance w_N = fA at *
      simp (disch := omega) only [kX11_query_67, kX11_query_94, hK, hF, hC, hA, x_cs0, x_csi, x_csr, x_csn, x_csl, x_ret_v, x_ret_t, x_ret_n, x_tl_s, x_tl_n, x_lk0, x_lk, x_rem0, x_rem_i, x_rem_r, x_rem_l, x_rem2_0, x_rem2_i, x_rem2_r, x_rem2_l, x_pick0, x_pick_c, x_st1, x_st2, x_live, x_i, x_l, x_a, x_ild, x_lld, x_rld, x_ist, x_lst, x_rst, x_inc, x_ii, x_ll, x_li, x_cmp, x_ui, x_il, x_lti, x_idiv, x_irem, x_dup_i, x_dup_r, x_pop_i, x_pop_r, x_dupx_ir, x_dup2_ir, x_ifeq, x_iceq, x_iflt, x_iclt, x_ifge, x_icge, x_ifgt, x_icgt, x_ifle, x_icle, x_ifne, x_icne, x_ifnull_r, x_ifnull_n, x_ifnonnull_r, x_ifnonnull_n, x_sw, x_vret, x_iret, x_lret, x_zret, x_zret0, x_zret1, x_rf_s, x_rf_n, x_geti, x_getr, x_puti, x_putz, x_putr, x_ial, x_ias, x_lal, x_las, x_aal, x_aas, x_aast, x_alen, x_new, x_newa, x_copy, x_min, x_abs, x_minl, x_oinit, x_throw, x_callS0, x_callS1, x_callS2, x_callS3, x_callS4, x_callV0, x_callV1, x_callV2, x_callV3, x_callV4, x_callV5, x_retI_v, x_callI0, x_callI1, x_callI2, x_retN_v, x_callSN1, x_callSN2, x_callT0, x_callT1, x_fn, x_sl0, x_sli, x_slr, x_sll, x_ar0, x_ari, x_arr, x_arl, ↓reduceIte, Nat.reduceAdd, Nat.reduceSub, Nat.reduceMul, Nat.reduceEqDiff, Nat.reduceLeDiff, Nat.reduceLT, if_true, if_false, Nat.le_refl, and_true, true_and, and_self, reduceCtorEq, or_false, false_or, or_true, true_or, Nat.zero_le, fa_lit, nI_add, w_mul, nI_ltI, nI_leI, nI_eq, nI_clamp, nI_toInt, if_pos, if_neg, w_div, w_rem2, k8, k84, k85, k86, hck, f1, g1, k18, k17]
    · rw [if_neg c0]
      obtain ⟨T7, a1, a2⟩ := zq_ck0 (g2.less : w_zc S0 T6 L B X.1 X.2.1 0 0) (c := 1) (by omega) (by omega)
      refine ⟨T6, nI 0, T7, ?_, hZ6, a1, a2⟩
      generalize X.1.2.1.2.2 = kk at *
      obtain ⟨k17, hk4⟩ := k17
      generalize hK : kX11_query_99 w_N = K
      generalize hF : fX11_compileTest w_N (rX11_compileFactor w_N 8) = fT at *
      generalize hC : fX11_check w_N = fC at *
      generalize hA : fX11_advance w_N = fA at *
      simp (disch := omega) only [kX11_query_67, kX11_query_94, hK, hF, hC, hA, x_cs0, x_csi, x_csr, x_csn, x_csl, x_ret_v, x_ret_t, x_ret_n, x_tl_s, x_tl_n, x_lk0, x_lk, x_rem0, x_rem_i, x_rem_r, x_rem_l, x_rem2_0, x_rem2_i, x_rem2_r, x_rem2_l, x_pick0, x_pick_c, x_st1, x_st2, x_live, x_i, x_l, x_a, x_ild, x_lld, x_rld, x_ist, x_lst, x_rst, x_inc, x_ii, x_ll, x_li, x_cmp, x_ui, x_il, x_lti, x_idiv, x_irem, x_dup_i, x_dup_r, x_pop_i, x_pop_r, x_dupx_ir, x_dup2_ir, x_ifeq, x_iceq, x_iflt, x_iclt, x_ifge, x_icge, x_ifgt, x_icgt, x_ifle, x_icle, x_ifne, x_icne, x_ifnull_r, x_ifnull_n, x_ifnonnull_r, x_ifnonnull_n, x_sw, x_vret, x_iret, x_lret, x_zret, x_zret0, x_zret1, x_rf_s, x_rf_n, x_geti, x_getr, x_puti, x_putz, x_putr, x_ial, x_ias, x_lal, x_las, x_aal, x_aas, x_aast, x_alen, x_new, x_newa, x_copy, x_min, x_abs, x_minl, x_oinit, x_throw, x_callS0, x_callS1, x_callS2, x_callS3, x_callS4, x_callV0, x_callV1, x_callV2, x_callV3, x_callV4, x_callV5, x_retI_v, x_callI0, x_callI1, x_callI2, x_retN_v, x_callSN1, x_callSN2, x_callT0, x_callT1, x_fn, x_sl0, x_sli, x_slr, x_sll, x_ar0, x_ari, x_arr, x_arl, ↓reduceIte, Nat.reduceAdd, Nat.reduceSub, Nat.reduceMul, Nat.reduceEqDiff, Nat.reduceLeDiff, Nat.reduceLT, if_true, if_false, Nat.le_refl, and_true, true_and, and_self, reduceCtorEq, or_false, false_or, or_true, true_or, Nat.zero_le, fa_lit, nI_add, w_mul, nI_ltI, nI_leI, nI_eq, nI_clamp, nI_toInt, if_pos, if_neg, w_div, w_rem2, k8, k84, k85, k86, hck, f1, g1, k18, k17]
  · have ef : (if X.1.2.1.2.2 = 0 then X.1 else p_fail X.1 1) = X.1 := by
      split
      · rfl
      · exact p_fail_e e
    rw [ef]
    refine ⟨T6, nI 1, T6, ?_, hZ6, z_ck1 _, (g2.less : w_zc S0 T6 L B X.1 X.2.1 0 0)⟩
    generalize X.1.1.1 = cd at *
    obtain ⟨k18, hcd⟩ := k18
    generalize hK : kX11_query_99 w_N = K
    generalize hF : fX11_compileTest w_N (rX11_compileFactor w_N 8) = fT at *
    generalize hC : fX11_check w_N = fC at *
    generalize hA : fX11_advance w_N = fA at *
    simp (disch := omega) only [kX11_query_67, kX11_query_94, hK, hF, hC, hA, x_cs0, x_csi, x_csr, x_csn, x_csl, x_ret_v, x_ret_t, x_ret_n, x_tl_s, x_tl_n, x_lk0, x_lk, x_rem0, x_rem_i, x_rem_r, x_rem_l, x_rem2_0, x_rem2_i, x_rem2_r, x_rem2_l, x_pick0, x_pick_c, x_st1, x_st2, x_live, x_i, x_l, x_a, x_ild, x_lld, x_rld, x_ist, x_lst, x_rst, x_inc, x_ii, x_ll, x_li, x_cmp, x_ui, x_il, x_lti, x_idiv, x_irem, x_dup_i, x_dup_r, x_pop_i, x_pop_r, x_dupx_ir, x_dup2_ir, x_ifeq, x_iceq, x_iflt, x_iclt, x_ifge, x_icge, x_ifgt, x_icgt, x_ifle, x_icle, x_ifne, x_icne, x_ifnull_r, x_ifnull_n, x_ifnonnull_r, x_ifnonnull_n, x_sw, x_vret, x_iret, x_lret, x_zret, x_zret0, x_zret1, x_rf_s, x_rf_n, x_geti, x_getr, x_puti, x_putz, x_putr, x_ial, x_ias, x_lal, x_las, x_aal, x_aas, x_aast, x_alen, x_new, x_newa, x_copy, x_min, x_abs, x_minl, x_oinit, x_throw, x_callS0, x_callS1, x_callS2, x_callS3, x_callS4, x_callV0, x_callV1, x_callV2, x_callV3, x_callV4, x_callV5, x_retI_v, x_callI0, x_callI1, x_callI2, x_retN_v, x_callSN1, x_callSN2, x_callT0, x_callT1, x_fn, x_sl0, x_sli, x_slr, x_sll, x_ar0, x_ari, x_arr, x_arl, ↓reduceIte, Nat.reduceAdd, Nat.reduceSub, Nat.reduceMul, Nat.reduceEqDiff, Nat.reduceLeDiff, Nat.reduceLT, if_true, if_false, Nat.le_refl, and_true, true_and, and_self, reduceCtorEq, or_false, false_or, or_true, true_or, Nat.zero_le, fa_lit, nI_add, w_mul, nI_ltI, nI_leI, nI_eq, nI_clamp, nI_toInt, if_pos, if_neg, w_div, w_rem2, k8, k84, k85, k86, hck, f1, g1, k18]
/-- behind the reading: the answer -/
theorem zq_99 {bb fi : Int32} (hck : fX11_check w_N [.ref 138, .int bb, .int (nI 1)] T6 = some (.inl none, T7)) (hZ6 : w_Z T6) (H7 : w_zc S0 T7 L B s C 0 0) (hR : am_i T7 139 = R) (h4 : R 4 = nI n) (hn : n ≤ 40) (hl : s.1.1 = 0 → C.length ≤ 200 ∧ ∀ o, o < 40 → q_run o R C (q_b (H o))) (hfi : fi = nI 0 ∨ fi = nI 1) : ∃ T8 S', kX11_query_99 w_N [(0, .ref 138), (2, .int fi)] [.int bb, .ref 138] T6 = some (.inl (some (.int (if s.1.1 = 0 then (if fi = nI 1 then q_fst H n else q_cnt H n) else -nI 1000000000 - nI s.1.1))), S') ∧ w_I (fun b => b = 138) T7 T8 ∧ am_i T8 138 13 = nI 0 ∧ am_i T8 138 20 = (if s.1.1 = 0 then -nI 1 else nI s.1.2) ∧ (∀ j, j ≠ 13 → j ≠ 20 → am_i T8 138 j = am_i T7 138 j) ∧ w_V T8 S' := by
  have hZ7 := H7.Z
  obtain ⟨T8, f1, f2, f3, f4, f5⟩ := z_fin H7.2.1.1
  have hZ8 := f2.Z hZ7
  have k86 := zk138 hZ6
  have k87 := zk138 hZ7
  have k88 := zk138 hZ8
  have k18 := (f5 18 (by omega) (by omega)).trans H7.2.1.1.k18.1
  have hc4 := H7.2.1.1.k18.2
  by_cases e : s.1.1 = 0
  · rw [if_pos e]
    obtain ⟨c1, c2, c3⟩ := H7.2.2.2.2 e
    have hcd : w_cd T8 R C H n := ⟨hZ8, by rw [f2.i (by omega)]; exact hR, h4, hn, (f5 27 (by omega) (by omega)).trans c2, (hl e).1, fun j hj => by rw [f2.i (by omega)]; exact c3 j hj, (hl e).2⟩
    rw [e] at f1
    have eo : ∀ (U : am_S), kX11_query_124 w_N [(4, .int (nI 0)), (3, .int (nI 0)), (0, .ref 138), (2, .int fi)] [] U = am_loop (bX11_query_124 w_N) w_N [(0, .ref 138), (2, .int fi), (3, .int (nI 0)), (4, .int (nI 0))] [] U := fun _ => rfl
    have fin : ∀ (r : Option (am_O × am_S)), am_loop (bX11_query_124 w_N) w_N [(0, .ref 138), (2, .int fi), (3, .int (nI 0)), (4, .int (nI 0))] [] T8 = r → kX11_query_99 w_N [(0, .ref 138), (2, .int fi)] [.int bb, .ref 138] T6 = r := fun r hr => by
      rw [← hr]
      generalize am_loop (bX11_query_124 w_N) w_N = K at *
      generalize hK : kX11_query_124 w_N = K2 at *
      generalize hC : fX11_check w_N = fC at *
      generalize hA : fX11_finish w_N = fA at *
      simp (disch := omega) only [kX11_query_99, hK, hC, hA, x_cs0, x_csi, x_csr, x_csn, x_csl, x_ret_v, x_ret_t, x_ret_n, x_tl_s, x_tl_n, x_lk0, x_lk, x_rem0, x_rem_i, x_rem_r, x_rem_l, x_rem2_0, x_rem2_i, x_rem2_r, x_rem2_l, x_pick0, x_pick_c, x_st1, x_st2, x_live, x_i, x_l, x_a, x_ild, x_lld, x_rld, x_ist, x_lst, x_rst, x_inc, x_ii, x_ll, x_li, x_cmp, x_ui, x_il, x_lti, x_idiv, x_irem, x_dup_i, x_dup_r, x_pop_i, x_pop_r, x_dupx_ir, x_dup2_ir, x_ifeq, x_iceq, x_iflt, x_iclt, x_ifge, x_icge, x_ifgt, x_icgt, x_ifle, x_icle, x_ifne, x_icne, x_ifnull_r, x_ifnull_n, x_ifnonnull_r, x_ifnonnull_n, x_sw, x_vret, x_iret, x_lret, x_zret, x_zret0, x_zret1, x_rf_s, x_rf_n, x_geti, x_getr, x_puti, x_putz, x_putr, x_ial, x_ias, x_lal, x_las, x_aal, x_aas, x_aast, x_alen, x_new, x_newa, x_copy, x_min, x_abs, x_minl, x_oinit, x_throw, x_callS0, x_callS1, x_callS2, x_callS3, x_callS4, x_callV0, x_callV1, x_callV2, x_callV3, x_callV4, x_callV5, x_retI_v, x_callI0, x_callI1, x_callI2, x_retN_v, x_callSN1, x_callSN2, x_callT0, x_callT1, x_fn, x_sl0, x_sli, x_slr, x_sll, x_ar0, x_ari, x_arr, x_arl, ↓reduceIte, Nat.reduceAdd, Nat.reduceSub, Nat.reduceMul, Nat.reduceEqDiff, Nat.reduceLeDiff, Nat.reduceLT, if_true, if_false, Nat.le_refl, and_true, true_and, and_self, reduceCtorEq, or_false, false_or, or_true, true_or, Nat.zero_le, fa_lit, nI_add, w_mul, nI_ltI, nI_leI, nI_eq, nI_clamp, nI_toInt, if_pos, if_neg, w_div, w_rem2, k86, k87, k88, hck, f1, eo]
    rcases hfi with rfl | rfl
    · rw [if_neg (by decide)]
      obtain ⟨S', g1, g2⟩ := zq_cntL n 0 (nI 0) T8 w_N (by omega) (by show n < 5000; omega) hcd
      exact ⟨T8, S', fin _ g1, f2, f3, f4, f5, g2⟩
    · rw [if_pos rfl]
      obtain ⟨S', g1, g2⟩ := zq_fstL n 0 (nI 0) T8 w_N (by omega) (by show n < 5000; omega) hcd
      exact ⟨T8, S', fin _ g1, f2, f3, f4, f5, g2⟩
  · rw [if_neg e]
    refine ⟨T8, T8, ?_, f2, f3, f4, f5, w_V.rf⟩
    clear hl f4 f5
    generalize s.1.1 = cd at *
    generalize hK : kX11_query_124 w_N = K2 at *
    generalize hC : fX11_check w_N = fC at *
    generalize hA : fX11_finish w_N = fA at *
    simp (disch := omega) only [kX11_query_99, hK, hC, hA, x_cs0, x_csi, x_csr, x_csn, x_csl, x_ret_v, x_ret_t, x_ret_n, x_tl_s, x_tl_n, x_lk0, x_lk, x_rem0, x_rem_i, x_rem_r, x_rem_l, x_rem2_0, x_rem2_i, x_rem2_r, x_rem2_l, x_pick0, x_pick_c, x_st1, x_st2, x_live, x_i, x_l, x_a, x_ild, x_lld, x_rld, x_ist, x_lst, x_rst, x_inc, x_ii, x_ll, x_li, x_cmp, x_ui, x_il, x_lti, x_idiv, x_irem, x_dup_i, x_dup_r, x_pop_i, x_pop_r, x_dupx_ir, x_dup2_ir, x_ifeq, x_iceq, x_iflt, x_iclt, x_ifge, x_icge, x_ifgt, x_icgt, x_ifle, x_icle, x_ifne, x_icne, x_ifnull_r, x_ifnull_n, x_ifnonnull_r, x_ifnonnull_n, x_sw, x_vret, x_iret, x_lret, x_zret, x_zret0, x_zret1, x_rf_s, x_rf_n, x_geti, x_getr, x_puti, x_putz, x_putr, x_ial, x_ias, x_lal, x_las, x_aal, x_aas, x_aast, x_alen, x_new, x_newa, x_copy, x_min, x_abs, x_minl, x_oinit, x_throw, x_callS0, x_callS1, x_callS2, x_callS3, x_callS4, x_callV0, x_callV1, x_callV2, x_callV3, x_callV4, x_callV5, x_retI_v, x_callI0, x_callI1, x_callI2, x_retN_v, x_callSN1, x_callSN2, x_callT0, x_callT1, x_fn, x_sl0, x_sli, x_slr, x_sll, x_ar0, x_ari, x_arr, x_arl, ↓reduceIte, Nat.reduceAdd, Nat.reduceSub, Nat.reduceMul, Nat.reduceEqDiff, Nat.reduceLeDiff, Nat.reduceLT, if_true, if_false, Nat.le_refl, and_true, true_and, and_self, reduceCtorEq, or_false, false_or, or_true, true_or, Nat.zero_le, fa_lit, nI_add, w_mul, nI_ltI, nI_leI, nI_eq, nI_clamp, nI_toInt, if_pos, if_neg, w_div, w_rem2, k86, k87, k88, hck, f1, k18]
end L65
