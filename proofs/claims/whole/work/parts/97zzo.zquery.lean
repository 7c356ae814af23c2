/-! THE REFERENCE: query -/
def w_cd (S : am_S) (R : Nat → Int32) (C : List Int32) (H : Nat → Bool) (n : Nat) : Prop := w_Z S ∧ am_i S 139 = R ∧ R 4 = nI n ∧ n ≤ 40 ∧ am_i S 138 27 = nI C.length ∧ C.length ≤ 200 ∧ (∀ j, j < C.length → am_i S 149 j = q_at C j) ∧ ∀ o, o < 40 → q_run o R C (q_b (H o))
section L64
variable {S S' T S0 S1 : am_S} {a b p q i j k m n u t L e f κ v0 lo h op d dd l r o : Nat} {P : Nat → Prop} {B : Nat → Nat} {c x y z hi : Int32} {v v1 v2 w : Int64} {s s' s2 : p_S} {R : Nat → Int32} {C C1 C2 : List Int32} {G : Nat → p_S → q_T} {H : Nat → Bool} {M : Nat → Nat → Int32}
theorem w_cd.V (h : w_cd S R C H n) (k : w_V S S') : w_cd S' R C H n := by
  obtain ⟨h1, h2, h3, h4, h5, h6, h7, h8⟩ := h
  have e := k.2.2.2.2.1
  exact ⟨k.Z h1, by rw [e]; exact h2, h3, h4, by rw [e]; exact h5, h6, fun j hj => by rw [e]; exact h7 j hj, h8⟩
theorem w_cd.holds (h : w_cd S R C H n) (ho : o < 40) : ∃ S', fX11_holdsFor w_N [.ref 138, .int (nI o)] S = some (.inl (some (.int (if H o = true then nI 1 else nI 0))), S') ∧ w_V S S' := by
  obtain ⟨h1, h2, h3, h4, h5, h6, h7, h8⟩ := h
  exact z_holds h1 h2 (h8 o ho) h5 h6 h7
theorem w_V.F (h : w_V S S') : w_F w_P7 S S' := ⟨Nat.le_of_eq h.1.symm, Nat.le_of_eq h.2.1.symm, fun b _ => by rw [h.2.2.1, h.2.2.2.1]; exact ⟨rfl, rfl⟩, fun b _ hP => by
  rw [h.2.2.2.2.1, h.2.2.2.2.2.1]
  exact ⟨rfl, h.2.2.2.2.2.2 b (fun q => hP (by rw [q]; show 138 ≤ 150 ∧ 150 ≤ 150; omega)), rfl⟩⟩
theorem zq_cntS {K : am_K} {fH : am_F} (hF : fX11_holdsFor w_N = fH) (hZ : w_Z S) (h4 : am_i S 139 4 = nI n) (hn : n ≤ 40) (hi : i < n) (g : fH [.ref 138, .int (nI i)] S = some (.inl (some (.int x)), S')) (hx : x = nI 0 ∨ x = nI 1) : bX11_query_124 w_N K [(0, .ref 138), (2, .int (nI 0)), (3, .int c), (4, .int (nI i))] [] S = K [(0, .ref 138), (2, .int (nI 0)), (3, .int (if x = nI 1 then c + nI 1 else c)), (4, .int (nI (i + 1)))] [] S' := by
  have k8 := zk138 hZ
  have k9 := zk139 hZ
  have l9 := zl139 hZ
  have r0 := zr138_0 hZ
  unfold bX11_query_124
  rw [hF]
  rcases hx with rfl | rfl
  · rw [if_neg (by decide)]
    simp (disch := omega) only [kX11_query_157, x_cs0, x_csi, x_csr, x_csn, x_csl, x_ret_v, x_ret_t, x_ret_n, x_tl_s, x_tl_n, x_lk0, x_lk, x_rem0, x_rem_i, x_rem_r, x_rem_l, x_rem2_0, x_rem2_i, x_rem2_r, x_rem2_l, x_pick0, x_pick_c, x_st1, x_st2, x_live, x_i, x_l, x_a, x_ild, x_lld, x_rld, x_ist, x_lst, x_rst, x_inc, x_ii, x_ll, x_li, x_cmp, x_ui, x_il, x_lti, x_idiv, x_irem, x_dup_i, x_dup_r, x_pop_i, x_pop_r, x_dupx_ir, x_dup2_ir, x_ifeq, x_iceq, x_iflt, x_iclt, x_ifge, x_icge, x_ifgt, x_icgt, x_ifle, x_icle, x_ifne, x_icne, x_ifnull_r, x_ifnull_n, x_ifnonnull_r, x_ifnonnull_n, x_sw, x_vret, x_iret, x_lret, x_zret, x_zret0, x_zret1, x_rf_s, x_rf_n, x_geti, x_getr, x_puti, x_putz, x_putr, x_ial, x_ias, x_lal, x_las, x_aal, x_aas, x_aast, x_alen, x_new, x_newa, x_copy, x_min, x_abs, x_minl, x_oinit, x_throw, x_callS0, x_callS1, x_callS2, x_callS3, x_callS4, x_callV0, x_callV1, x_callV2, x_callV3, x_callV4, x_callV5, x_retI_v, x_callI0, x_callI1, x_callI2, x_retN_v, x_callSN1, x_callSN2, x_callT0, x_callT1, x_fn, x_sl0, x_sli, x_slr, x_sll, x_ar0, x_ari, x_arr, x_arl, ↓reduceIte, Nat.reduceAdd, Nat.reduceSub, Nat.reduceMul, Nat.reduceEqDiff, Nat.reduceLeDiff, Nat.reduceLT, if_true, if_false, Nat.le_refl, and_true, true_and, and_self, reduceCtorEq, or_false, false_or, or_true, true_or, Nat.zero_le, fa_lit, nI_add, w_mul, nI_ltI, nI_leI, nI_eq, nI_clamp, nI_toInt, if_pos, if_neg, w_div, w_rem2, k8, k9, l9, r0, h4, g]
  · rw [if_pos rfl]
    simp (disch := omega) only [kX11_query_157, x_cs0, x_csi, x_csr, x_csn, x_csl, x_ret_v, x_ret_t, x_ret_n, x_tl_s, x_tl_n, x_lk0, x_lk, x_rem0, x_rem_i, x_rem_r, x_rem_l, x_rem2_0, x_rem2_i, x_rem2_r, x_rem2_l, x_pick0, x_pick_c, x_st1, x_st2, x_live, x_i, x_l, x_a, x_ild, x_lld, x_rld, x_ist, x_lst, x_rst, x_inc, x_ii, x_ll, x_li, x_cmp, x_ui, x_il, x_lti, x_idiv, x_irem, x_dup_i, x_dup_r, x_pop_i, x_pop_r, x_dupx_ir, x_dup2_ir, x_ifeq, x_iceq, x_iflt, x_iclt, x_ifge, x_icge, x_ifgt, x_icgt, x_ifle, x_icle, x_ifne, x_icne, x_ifnull_r, x_ifnull_n, x_ifnonnull_r, x_ifnonnull_n, x_sw, x_vret, x_iret, x_lret, x_zret, x_zret0, x_zret1, x_rf_s, x_rf_n, x_geti, x_getr, x_puti, x_putz, x_putr, x_ial, x_ias, x_lal, x_las, x_aal, x_aas, x_aast, x_alen, x_new, x_newa, x_copy, x_min, x_abs, x_minl, x_oinit, x_throw, x_callS0, x_callS1, x_callS2, x_callS3, x_callS4, x_callV0, x_callV1, x_callV2, x_callV3, x_callV4, x_callV5, x_retI_v, x_callI0, x_callI1, x_callI2, x_retN_v, x_callSN1, x_callSN2, x_callT0, x_callT1, x_fn, x_sl0, x_sli, x_slr, x_sll, x_ar0, x_ari, x_arr, x_arl, ↓reduceIte, Nat.reduceAdd, Nat.reduceSub, Nat.reduceMul, Nat.reduceEqDiff, Nat.reduceLeDiff, Nat.reduceLT, if_true, if_false, Nat.le_refl, and_true, true_and, and_self, reduceCtorEq, or_false, false_or, or_true, true_or, Nat.zero_le, fa_lit, nI_add, w_mul, nI_ltI, nI_leI, nI_eq, nI_clamp, nI_toInt, if_pos, if_neg, w_div, w_rem2, k8, k9, l9, r0, h4, g]
theorem zq_cntE {K : am_K} {fH : am_F} (hF : fX11_holdsFor w_N = fH) (hZ : w_Z S) (h4 : am_i S 139 4 = nI n) (hn : n ≤ 40) : bX11_query_124 w_N K [(0, .ref 138), (2, .int (nI 0)), (3, .int c), (4, .int (nI n))] [] S = some (.inl (some (.int c)), S) ∧ bX11_query_124 w_N K [(0, .ref 138), (2, .int (nI 1)), (3, .int c), (4, .int (nI n))] [] S = some (.inl (some (.int (-nI 1))), S) := by
  have k8 := zk138 hZ
  have k9 := zk139 hZ
  have l9 := zl139 hZ
  have r0 := zr138_0 hZ
  unfold bX11_query_124
  rw [hF]
  constructor
  · simp (disch := omega) only [kX11_query_172, x_cs0, x_csi, x_csr, x_csn, x_csl, x_ret_v, x_ret_t, x_ret_n, x_tl_s, x_tl_n, x_lk0, x_lk, x_rem0, x_rem_i, x_rem_r, x_rem_l, x_rem2_0, x_rem2_i, x_rem2_r, x_rem2_l, x_pick0, x_pick_c, x_st1, x_st2, x_live, x_i, x_l, x_a, x_ild, x_lld, x_rld, x_ist, x_lst, x_rst, x_inc, x_ii, x_ll, x_li, x_cmp, x_ui, x_il, x_lti, x_idiv, x_irem, x_dup_i, x_dup_r, x_pop_i, x_pop_r, x_dupx_ir, x_dup2_ir, x_ifeq, x_iceq, x_iflt, x_iclt, x_ifge, x_icge, x_ifgt, x_icgt, x_ifle, x_icle, x_ifne, x_icne, x_ifnull_r, x_ifnull_n, x_ifnonnull_r, x_ifnonnull_n, x_sw, x_vret, x_iret, x_lret, x_zret, x_zret0, x_zret1, x_rf_s, x_rf_n, x_geti, x_getr, x_puti, x_putz, x_putr, x_ial, x_ias, x_lal, x_las, x_aal, x_aas, x_aast, x_alen, x_new, x_newa, x_copy, x_min, x_abs, x_minl, x_oinit, x_throw, x_callS0, x_callS1, x_callS2, x_callS3, x_callS4, x_callV0, x_callV1, x_callV2, x_callV3, x_callV4, x_callV5, x_retI_v, x_callI0, x_callI1, x_callI2, x_retN_v, x_callSN1, x_callSN2, x_callT0, x_callT1, x_fn, x_sl0, x_sli, x_slr, x_sll, x_ar0, x_ari, x_arr, x_arl, ↓reduceIte, Nat.reduceAdd, Nat.reduceSub, Nat.reduceMul, Nat.reduceEqDiff, Nat.reduceLeDiff, Nat.reduceLT, if_true, if_false, Nat.le_refl, and_true, true_and, and_self, reduceCtorEq, or_false, false_or, or_true, true_or, Nat.zero_le, fa_lit, nI_add, w_mul, nI_ltI, nI_leI, nI_eq, nI_clamp, nI_toInt, if_pos, if_neg, w_div, w_rem2, k8, k9, l9, r0, h4]
  · simp (disch := omega) only [kX11_query_172, x_cs0, x_csi, x_csr, x_csn, x_csl, x_ret_v, x_ret_t, x_ret_n, x_tl_s, x_tl_n, x_lk0, x_lk, x_rem0, x_rem_i, x_rem_r, x_rem_l, x_rem2_0, x_rem2_i, x_rem2_r, x_rem2_l, x_pick0, x_pick_c, x_st1, x_st2, x_live, x_i, x_l, x_a, x_ild, x_lld, x_rld, x_ist, x_lst, x_rst, x_inc, x_ii, x_ll, x_li, x_cmp, x_ui, x_il, x_lti, x_idiv, x_irem, x_dup_i, x_dup_r, x_pop_i, x_pop_r, x_dupx_ir, x_dup2_ir, x_ifeq, x_iceq, x_iflt, x_iclt, x_ifge, x_icge, x_ifgt, x_icgt, x_ifle, x_icle, x_ifne, x_icne, x_ifnull_r, x_ifnull_n, x_ifnonnull_r, x_ifnonnull_n, x_sw, x_vret, x_iret, x_lret, x_zret, x_zret0, x_zret1, x_rf_s, x_rf_n, x_geti, x_getr, x_puti, x_putz, x_putr, x_ial, x_ias, x_lal, x_las, x_aal, x_aas, x_aast, x_alen, x_new, x_newa, x_copy, x_min, x_abs, x_minl, x_oinit, x_throw, x_callS0, x_callS1, x_callS2, x_callS3, x_callS4, x_callV0, x_callV1, x_callV2, x_callV3, x_callV4, x_callV5, x_retI_v, x_callI0, x_callI1, x_callI2, x_retN_v, x_callSN1, x_callSN2, x_callT0, x_callT1, x_fn, x_sl0, x_sli, x_slr, x_sll, x_ar0, x_ari, x_arr, x_arl, ↓reduceIte, Nat.reduceAdd, Nat.reduceSub, Nat.reduceMul, Nat.reduceEqDiff, Nat.reduceLeDiff, Nat.reduceLT, if_true, if_false, Nat.le_refl, and_true, true_and, and_self, reduceCtorEq, or_false, false_or, or_true, true_or, Nat.zero_le, fa_lit, nI_add, w_mul, nI_ltI, nI_leI, nI_eq, nI_clamp, nI_toInt, if_pos, if_neg, w_div, w_rem2, k8, k9, l9, r0, h4]
theorem zq_fstS {K : am_K} {fH : am_F} (hF : fX11_holdsFor w_N = fH) (hZ : w_Z S) (h4 : am_i S 139 4 = nI n) (hn : n ≤ 40) (hi : i < n) (g : fH [.ref 138, .int (nI i)] S = some (.inl (some (.int x)), S')) (hx : x = nI 0 ∨ x = nI 1) : bX11_query_124 w_N K [(0, .ref 138), (2, .int (nI 1)), (3, .int c), (4, .int (nI i))] [] S = if x = nI 1 then some (.inl (some (.int (nI i))), S') else K [(0, .ref 138), (2, .int (nI 1)), (3, .int c), (4, .int (nI (i + 1)))] [] S' := by
  have k8 := zk138 hZ
  have k9 := zk139 hZ
  have l9 := zl139 hZ
  have r0 := zr138_0 hZ
  unfold bX11_query_124
  rw [hF]
  rcases hx with rfl | rfl
  · rw [if_neg (by decide)]
    simp (disch := omega) only [kX11_query_157, x_cs0, x_csi, x_csr, x_csn, x_csl, x_ret_v, x_ret_t, x_ret_n, x_tl_s, x_tl_n, x_lk0, x_lk, x_rem0, x_rem_i, x_rem_r, x_rem_l, x_rem2_0, x_rem2_i, x_rem2_r, x_rem2_l, x_pick0, x_pick_c, x_st1, x_st2, x_live, x_i, x_l, x_a, x_ild, x_lld, x_rld, x_ist, x_lst, x_rst, x_inc, x_ii, x_ll, x_li, x_cmp, x_ui, x_il, x_lti, x_idiv, x_irem, x_dup_i, x_dup_r, x_pop_i, x_pop_r, x_dupx_ir, x_dup2_ir, x_ifeq, x_iceq, x_iflt, x_iclt, x_ifge, x_icge, x_ifgt, x_icgt, x_ifle, x_icle, x_ifne, x_icne, x_ifnull_r, x_ifnull_n, x_ifnonnull_r, x_ifnonnull_n, x_sw, x_vret, x_iret, x_lret, x_zret, x_zret0, x_zret1, x_rf_s, x_rf_n, x_geti, x_getr, x_puti, x_putz, x_putr, x_ial, x_ias, x_lal, x_las, x_aal, x_aas, x_aast, x_alen, x_new, x_newa, x_copy, x_min, x_abs, x_minl, x_oinit, x_throw, x_callS0, x_callS1, x_callS2, x_callS3, x_callS4, x_callV0, x_callV1, x_callV2, x_callV3, x_callV4, x_callV5, x_retI_v, x_callI0, x_callI1, x_callI2, x_retN_v, x_callSN1, x_callSN2, x_callT0, x_callT1, x_fn, x_sl0, x_sli, x_slr, x_sll, x_ar0, x_ari, x_arr, x_arl, ↓reduceIte, Nat.reduceAdd, Nat.reduceSub, Nat.reduceMul, Nat.reduceEqDiff, Nat.reduceLeDiff, Nat.reduceLT, if_true, if_false, Nat.le_refl, and_true, true_and, and_self, reduceCtorEq, or_false, false_or, or_true, true_or, Nat.zero_le, fa_lit, nI_add, w_mul, nI_ltI, nI_leI, nI_eq, nI_clamp, nI_toInt, if_pos, if_neg, w_div, w_rem2, k8, k9, l9, r0, h4, g]
  · rw [if_pos rfl]
    simp (disch := omega) only [kX11_query_157, x_cs0, x_csi, x_csr, x_csn, x_csl, x_ret_v, x_ret_t, x_ret_n, x_tl_s, x_tl_n, x_lk0, x_lk, x_rem0, x_rem_i, x_rem_r, x_rem_l, x_rem2_0, x_rem2_i, x_rem2_r, x_rem2_l, x_pick0, x_pick_c, x_st1, x_st2, x_live, x_i, x_l, x_a, x_ild, x_lld, x_rld, x_ist, x_lst, x_rst, x_inc, x_ii, x_ll, x_li, x_cmp, x_ui, x_il, x_lti, x_idiv, x_irem, x_dup_i, x_dup_r, x_pop_i, x_pop_r, x_dupx_ir, x_dup2_ir, x_ifeq, x_iceq, x_iflt, x_iclt, x_ifge, x_icge, x_ifgt, x_icgt, x_ifle, x_icle, x_ifne, x_icne, x_ifnull_r, x_ifnull_n, x_ifnonnull_r, x_ifnonnull_n, x_sw, x_vret, x_iret, x_lret, x_zret, x_zret0, x_zret1, x_rf_s, x_rf_n, x_geti, x_getr, x_puti, x_putz, x_putr, x_ial, x_ias, x_lal, x_las, x_aal, x_aas, x_aast, x_alen, x_new, x_newa, x_copy, x_min, x_abs, x_minl, x_oinit, x_throw, x_callS0, x_callS1, x_callS2, x_callS3, x_callS4, x_callV0, x_callV1, x_callV2, x_callV3, x_callV4, x_callV5, x_retI_v, x_callI0, x_callI1, x_callI2, x_retN_v, x_callSN1, x_callSN2, x_callT0, x_callT1, x_fn, x_sl0, x_sli, x_slr, x_sll, x_ar0, x_ari, x_arr, x_arl, ↓reduceIte, Nat.reduceAdd, Nat.reduceSub, Nat.reduceMul, Nat.reduceEqDiff, Nat.reduceLeDiff, Nat.reduceLT, if_true, if_false, Nat.le_refl, and_true, true_and, and_self, reduceCtorEq, or_false, false_or, or_true, true_or, Nat.zero_le, fa_lit, nI_add, w_mul, nI_ltI, nI_leI, nI_eq, nI_clamp, nI_toInt, if_pos, if_neg, w_div, w_rem2, k8, k9, l9, r0, h4, g]
theorem zq_cntL : ∀ k i (c : Int32) (S : am_S) m, i + k = n → k < m → w_cd S R C H n → ∃ S', am_loop (bX11_query_124 w_N) m [(0, .ref 138), (2, .int (nI 0)), (3, .int c), (4, .int (nI i))] [] S = some (.inl (some (.int (s_it (fun o (c : Int32) => if H o = true then c + nI 1 else c) k i c))), S') ∧ w_V S S'
  | 0, i, c, S, m, h1, h2, h => by
    obtain ⟨m, rfl⟩ : ∃ q, m = q + 1 := ⟨m - 1, by omega⟩
    have e : i = n := by omega
    subst e
    have h4 : am_i S 139 4 = nI i := by rw [h.2.1]; exact h.2.2.1
    rw [am_loop_s, s_it]
    exact ⟨S, (zq_cntE rfl h.1 h4 h.2.2.2.1).1, w_V.rf⟩
  | k + 1, i, c, S, m, h1, h2, h => by
    obtain ⟨m, rfl⟩ : ∃ q, m = q + 1 := ⟨m - 1, by omega⟩
    have hn := h.2.2.2.1
    have h4 : am_i S 139 4 = nI n := by rw [h.2.1]; exact h.2.2.1
    obtain ⟨S1, g1, g2⟩ := h.holds (o := i) (by omega)
    have st := zq_cntS (K := am_loop (bX11_query_124 w_N) m) (c := c) rfl h.1 h4 hn (by omega) g1 (by split; exact Or.inr rfl; exact Or.inl rfl)
    obtain ⟨S2, q1, q2⟩ := zq_cntL k (i + 1) (if H i = true then c + nI 1 else c) S1 m (by omega) (by omega) (h.V g2)
    rw [am_loop_s, s_it]
    refine ⟨S2, st.trans ?_, g2.tr q2⟩
    have e : (if (if H i = true then nI 1 else nI 0) = nI 1 then c + nI 1 else c) = if H i = true then c + nI 1 else c := by
      by_cases q : H i = true
      · rw [if_pos q, if_pos rfl, if_pos q]
      · rw [if_neg q, if_neg (by decide), if_neg q]
    rw [e]
    exact q1
theorem zq_fstL : ∀ k i (c : Int32) (S : am_S) m, i + k = n → k < m → w_cd S R C H n → ∃ S', am_loop (bX11_query_124 w_N) m [(0, .ref 138), (2, .int (nI 1)), (3, .int c), (4, .int (nI i))] [] S = some (.inl (some (.int (s_fst (fun o => H o = true) k i))), S') ∧ w_V S S'
  | 0, i, c, S, m, h1, h2, h => by
    obtain ⟨m, rfl⟩ : ∃ q, m = q + 1 := ⟨m - 1, by omega⟩
    have e : i = n := by omega
    subst e
    have h4 : am_i S 139 4 = nI i := by rw [h.2.1]; exact h.2.2.1
    rw [am_loop_s, s_fst]
    exact ⟨S, (zq_cntE rfl h.1 h4 h.2.2.2.1).2, w_V.rf⟩
  | k + 1, i, c, S, m, h1, h2, h => by
    obtain ⟨m, rfl⟩ : ∃ q, m = q + 1 := ⟨m - 1, by omega⟩
    have hn := h.2.2.2.1
    have h4 : am_i S 139 4 = nI n := by rw [h.2.1]; exact h.2.2.1
    obtain ⟨S1, g1, g2⟩ := h.holds (o := i) (by omega)
    have st := zq_fstS (K := am_loop (bX11_query_124 w_N) m) (c := c) rfl h.1 h4 hn (by omega) g1 (by split; exact Or.inr rfl; exact Or.inl rfl)
    rw [am_loop_s, s_fst]
    by_cases q : H i = true
    · rw [if_pos q] at st ⊢
      rw [if_pos rfl] at st
      exact ⟨S1, st, g2⟩
    · rw [if_neg q] at st ⊢
      rw [if_neg (by decide)] at st
      obtain ⟨S2, q1, q2⟩ := zq_fstL k (i + 1) c S1 m (by omega) (by omega) (h.V g2)
      exact ⟨S2, st.trans q1, g2.tr q2⟩
theorem z_start2 (hZ : w_Z S) (ht : w_tx S 147 L B) : ∃ S2 S', fX11_startText w_N [.ref 138, .int (nI L)] S = some (.inl none, S') ∧ w_I (fun b => b = 138) S S2 ∧ (∀ j, j ≠ 14 → j ≠ 15 → j ≠ 18 → j ≠ 21 → am_i S2 138 j = am_i S 138 j) ∧ am_i S2 138 21 = nI 0 ∧ w_zt S2 S' L B (p_next B L p_s0) := by
  have k1 : w_I (fun b => b = 138) S (am_putI S 138 14 (nI L)) := w_I.put (P := fun b => b = 138) rfl
  have hZ1 := k1.Z hZ
  have k2 : w_I (fun b => b = 138) (am_putI S 138 14 (nI L)) (am_putI (am_putI S 138 14 (nI L)) 138 15 (nI 0)) := w_I.put (P := fun b => b = 138) rfl
  have hZ2 := k2.Z hZ1
  have k3 : w_I (fun b => b = 138) (am_putI (am_putI S 138 14 (nI L)) 138 15 (nI 0)) (am_putI (am_putI (am_putI S 138 14 (nI L)) 138 15 (nI 0)) 138 18 (nI 0)) := w_I.put (P := fun b => b = 138) rfl
  have hZ3 := k3.Z hZ2
  have k4 : w_I (fun b => b = 138) (am_putI (am_putI (am_putI S 138 14 (nI L)) 138 15 (nI 0)) 138 18 (nI 0)) (am_putI (am_putI (am_putI (am_putI S 138 14 (nI L)) 138 15 (nI 0)) 138 18 (nI 0)) 138 21 (nI 0)) := w_I.put (P := fun b => b = 138) rfl
  have hZ4 := k4.Z hZ3
  have I4 := k1.tr (k2.tr (k3.tr k4))
  have j14 : am_i (am_putI (am_putI (am_putI (am_putI S 138 14 (nI L)) 138 15 (nI 0)) 138 18 (nI 0)) 138 21 (nI 0)) 138 14 = nI L := by simp (disch := omega) only [x_i_I, if_pos, if_neg, if_true]
  have j15 : am_i (am_putI (am_putI (am_putI (am_putI S 138 14 (nI L)) 138 15 (nI 0)) 138 18 (nI 0)) 138 21 (nI 0)) 138 15 = nI 0 := by simp (disch := omega) only [x_i_I, if_pos, if_neg, if_true]
  have j18 : am_i (am_putI (am_putI (am_putI (am_putI S 138 14 (nI L)) 138 15 (nI 0)) 138 18 (nI 0)) 138 21 (nI 0)) 138 18 = nI 0 := by simp (disch := omega) only [x_i_I, if_pos, if_neg, if_true]
  have j21 : am_i (am_putI (am_putI (am_putI (am_putI S 138 14 (nI L)) 138 15 (nI 0)) 138 18 (nI 0)) 138 21 (nI 0)) 138 21 = nI 0 := x_i_Is
  have jn : ∀ j, j ≠ 14 → j ≠ 15 → j ≠ 18 → j ≠ 21 → am_i (am_putI (am_putI (am_putI (am_putI S 138 14 (nI L)) 138 15 (nI 0)) 138 18 (nI 0)) 138 21 (nI 0)) 138 j = am_i S 138 j := fun j q1 q2 q3 q4 => by rw [x_i_I, if_pos rfl, if_neg q4, x_i_I, if_pos rfl, if_neg q3, x_i_I, if_pos rfl, if_neg q2, x_i_I, if_pos rfl, if_neg q1]
  have ht4 := ht.of I4 (by omega)
  have run : ∀ S', fX11_scan w_N [.ref 138] (am_putI (am_putI (am_putI (am_putI S 138 14 (nI L)) 138 15 (nI 0)) 138 18 (nI 0)) 138 21 (nI 0)) = some (.inl none, S') → fX11_startText w_N [.ref 138, .int (nI L)] S = some (.inl none, S') := fun S' f => by
    simp (disch := omega) only [fX11_startText, kX11_startText_0, x_cs0, x_csi, x_csr, x_csn, x_csl, x_ret_v, x_ret_t, x_ret_n, x_tl_s, x_tl_n, x_lk0, x_lk, x_rem0, x_rem_i, x_rem_r, x_rem_l, x_rem2_0, x_rem2_i, x_rem2_r, x_rem2_l, x_pick0, x_pick_c, x_st1, x_st2, x_live, x_i, x_l, x_a, x_ild, x_lld, x_rld, x_ist, x_lst, x_rst, x_inc, x_ii, x_ll, x_li, x_cmp, x_ui, x_il, x_lti, x_idiv, x_irem, x_dup_i, x_dup_r, x_pop_i, x_pop_r, x_dupx_ir, x_dup2_ir, x_ifeq, x_iceq, x_iflt, x_iclt, x_ifge, x_icge, x_ifgt, x_icgt, x_ifle, x_icle, x_ifne, x_icne, x_ifnull_r, x_ifnull_n, x_ifnonnull_r, x_ifnonnull_n, x_sw, x_vret, x_iret, x_lret, x_zret, x_zret0, x_zret1, x_rf_s, x_rf_n, x_geti, x_getr, x_puti, x_putz, x_putr, x_ial, x_ias, x_lal, x_las, x_aal, x_aas, x_aast, x_alen, x_new, x_newa, x_copy, x_min, x_abs, x_minl, x_oinit, x_throw, x_callS0, x_callS1, x_callS2, x_callS3, x_callS4, x_callV0, x_callV1, x_callV2, x_callV3, x_callV4, x_callV5, x_retI_v, x_callI0, x_callI1, x_callI2, x_retN_v, x_callSN1, x_callSN2, x_callT0, x_callT1, x_fn, x_sl0, x_sli, x_slr, x_sll, x_ar0, x_ari, x_arr, x_arl, ↓reduceIte, Nat.reduceAdd, Nat.reduceSub, Nat.reduceMul, Nat.reduceEqDiff, Nat.reduceLeDiff, Nat.reduceLT, if_true, if_false, Nat.le_refl, and_true, true_and, and_self, reduceCtorEq, or_false, false_or, or_true, true_or, Nat.zero_le, fa_lit, nI_add, w_mul, nI_ltI, nI_leI, nI_eq, nI_clamp, nI_toInt, if_pos, if_neg, w_div, w_rem2, zk138 hZ, zk139 hZ, zk140 hZ, zk141 hZ, zk142 hZ, zk143 hZ, zk144 hZ, zk145 hZ, zk146 hZ, zk147 hZ, zk148 hZ, zk149 hZ, zk150 hZ, zk151 hZ, zl139 hZ, zl140 hZ, zl141 hZ, zl142 hZ, zl143 hZ, zl144 hZ, zl145 hZ, zl146 hZ, zl147 hZ, zl148 hZ, zl149 hZ, zl150 hZ, zl151 hZ, zr138_0 hZ, zr138_1 hZ, zr138_2 hZ, zr138_3 hZ, zr138_4 hZ, zr138_8 hZ, zr138_9 hZ, zr138_10 hZ, zr138_12 hZ, zr138_24 hZ, zr138_25 hZ, zr138_26 hZ, zr148_0 hZ, zr148_1 hZ, zr148_2 hZ, zr148_3 hZ, zr148_4 hZ, zr148_5 hZ, zr148_6 hZ, zr148_7 hZ, zr148_8 hZ, zk138 hZ1, zk139 hZ1, zk140 hZ1, zk141 hZ1, zk142 hZ1, zk143 hZ1, zk144 hZ1, zk145 hZ1, zk146 hZ1, zk147 hZ1, zk148 hZ1, zk149 hZ1, zk150 hZ1, zk151 hZ1, zl139 hZ1, zl140 hZ1, zl141 hZ1, zl142 hZ1, zl143 hZ1, zl144 hZ1, zl145 hZ1, zl146 hZ1, zl147 hZ1, zl148 hZ1, zl149 hZ1, zl150 hZ1, zl151 hZ1, zr138_0 hZ1, zr138_1 hZ1, zr138_2 hZ1, zr138_3 hZ1, zr138_4 hZ1, zr138_8 hZ1, zr138_9 hZ1, zr138_10 hZ1, zr138_12 hZ1, zr138_24 hZ1, zr138_25 hZ1, zr138_26 hZ1, zr148_0 hZ1, zr148_1 hZ1, zr148_2 hZ1, zr148_3 hZ1, zr148_4 hZ1, zr148_5 hZ1, zr148_6 hZ1, zr148_7 hZ1, zr148_8 hZ1, zk138 hZ2, zk139 hZ2, zk140 hZ2, zk141 hZ2, zk142 hZ2, zk143 hZ2, zk144 hZ2, zk145 hZ2, zk146 hZ2, zk147 hZ2, zk148 hZ2, zk149 hZ2, zk150 hZ2, zk151 hZ2, zl139 hZ2, zl140 hZ2, zl141 hZ2, zl142 hZ2, zl143 hZ2, zl144 hZ2, zl145 hZ2, zl146 hZ2, zl147 hZ2, zl148 hZ2, zl149 hZ2, zl150 hZ2, zl151 hZ2, zr138_0 hZ2, zr138_1 hZ2, zr138_2 hZ2, zr138_3 hZ2, zr138_4 hZ2, zr138_8 hZ2, zr138_9 hZ2, zr138_10 hZ2, zr138_12 hZ2, zr138_24 hZ2, zr138_25 hZ2, zr138_26 hZ2, zr148_0 hZ2, zr148_1 hZ2, zr148_2 hZ2, zr148_3 hZ2, zr148_4 hZ2, zr148_5 hZ2, zr148_6 hZ2, zr148_7 hZ2, zr148_8 hZ2, zk138 hZ3, zk139 hZ3, zk140 hZ3, zk141 hZ3, zk142 hZ3, zk143 hZ3, zk144 hZ3, zk145 hZ3, zk146 hZ3, zk147 hZ3, zk148 hZ3, zk149 hZ3, zk150 hZ3, zk151 hZ3, zl139 hZ3, zl140 hZ3, zl141 hZ3, zl142 hZ3, zl143 hZ3, zl144 hZ3, zl145 hZ3, zl146 hZ3, zl147 hZ3, zl148 hZ3, zl149 hZ3, zl150 hZ3, zl151 hZ3, zr138_0 hZ3, zr138_1 hZ3, zr138_2 hZ3, zr138_3 hZ3, zr138_4 hZ3, zr138_8 hZ3, zr138_9 hZ3, zr138_10 hZ3, zr138_12 hZ3, zr138_24 hZ3, zr138_25 hZ3, zr138_26 hZ3, zr148_0 hZ3, zr148_1 hZ3, zr148_2 hZ3, zr148_3 hZ3, zr148_4 hZ3, zr148_5 hZ3, zr148_6 hZ3, zr148_7 hZ3, zr148_8 hZ3, zk138 hZ4, zk139 hZ4, zk140 hZ4, zk141 hZ4, zk142 hZ4, zk143 hZ4, zk144 hZ4, zk145 hZ4, zk146 hZ4, zk147 hZ4, zk148 hZ4, zk149 hZ4, zk150 hZ4, zk151 hZ4, zl139 hZ4, zl140 hZ4, zl141 hZ4, zl142 hZ4, zl143 hZ4, zl144 hZ4, zl145 hZ4, zl146 hZ4, zl147 hZ4, zl148 hZ4, zl149 hZ4, zl150 hZ4, zl151 hZ4, zr138_0 hZ4, zr138_1 hZ4, zr138_2 hZ4, zr138_3 hZ4, zr138_4 hZ4, zr138_8 hZ4, zr138_9 hZ4, zr138_10 hZ4, zr138_12 hZ4, zr138_24 hZ4, zr138_25 hZ4, zr138_26 hZ4, zr148_0 hZ4, zr148_1 hZ4, zr148_2 hZ4, zr148_3 hZ4, zr148_4 hZ4, zr148_5 hZ4, zr148_6 hZ4, zr148_7 hZ4, zr148_8 hZ4, f]
  generalize am_putI (am_putI (am_putI (am_putI S 138 14 (nI L)) 138 15 (nI 0)) 138 18 (nI 0)) 138 21 (nI 0) = S2 at *
  have hl : w_zl S2 S2 L 0 B := ⟨w_I.rf, hZ4, ht4, j14, j15, fun _ _ _ _ => rfl⟩
  obtain ⟨S', f1, f2, f3, f4⟩ := z_scan hl (Nat.zero_le _)
  have ij := f2.2.2.2.2.2
  refine ⟨S2, S', run S' f1, I4, jn, j21, f2.1, ⟨f2.2.1, f2.2.2.1, f2.2.2.2.1⟩, fun j hj => ij j (by omega) (by omega) (by omega), ⟨Nat.zero_le _, ?_, fun q => absurd rfl q⟩, ⟨l_nx B L 0, l_nx_ok (Nat.zero_le _), f3, f2.2.2.2.2.1, f4, fun _ => rfl⟩⟩
  rw [ij 18 (by omega) (by omega) (by omega)]
  exact j18
end L64
