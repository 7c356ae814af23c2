/-! THE LAW: each case -/
section L75
variable {S S1 S2 T : am_S} {x y z t v : Int32} {L i c : Nat} {sc : Nat → Int32} {K : am_K} {w : Int64} {f : am_F} {k : am_K} {lv : List (Nat × Value)} {r : List Value} {v1 v2 v3 v4 v5 v6 : Value} {d d2 : UInt64}
theorem x_cS3 : c_callSN 3 f k lv (v3 :: v2 :: v1 :: r) S = if am_cs r ≤ 8 then x_retN (f [v1, v2, v3] S) (fun v S2 => k lv (v.toList ++ r) S2) else none := by
  show (if 3 ≤ (v3 :: v2 :: v1 :: r).length ∧ am_cs r ≤ 8 then _ else _) = _
  simp only [List.length_cons, Nat.le_add_left, true_and]
  rfl
theorem x_cS4 : c_callSN 4 f k lv (v4 :: v3 :: v2 :: v1 :: r) S = if am_cs r ≤ 8 then x_retN (f [v1, v2, v3, v4] S) (fun v S2 => k lv (v.toList ++ r) S2) else none := by
  show (if 4 ≤ (v4 :: v3 :: v2 :: v1 :: r).length ∧ am_cs r ≤ 8 then _ else _) = _
  simp only [List.length_cons, Nat.le_add_left, true_and]
  rfl
theorem x_cS5 : c_callSN 5 f k lv (v5 :: v4 :: v3 :: v2 :: v1 :: r) S = if am_cs r ≤ 8 then x_retN (f [v1, v2, v3, v4, v5] S) (fun v S2 => k lv (v.toList ++ r) S2) else none := by
  show (if 5 ≤ (v5 :: v4 :: v3 :: v2 :: v1 :: r).length ∧ am_cs r ≤ 8 then _ else _) = _
  simp only [List.length_cons, Nat.le_add_left, true_and]
  rfl
theorem x_cS6 : c_callSN 6 f k lv (v6 :: v5 :: v4 :: v3 :: v2 :: v1 :: r) S = if am_cs r ≤ 8 then x_retN (f [v1, v2, v3, v4, v5, v6] S) (fun v S2 => k lv (v.toList ++ r) S2) else none := by
  show (if 6 ≤ (v6 :: v5 :: v4 :: v3 :: v2 :: v1 :: r).length ∧ am_cs r ≤ 8 then _ else _) = _
  simp only [List.length_cons, Nat.le_add_left, true_and]
  rfl
theorem x_dcmp {op : CmpOp} : c_dcmp op k lv (.double d2 :: .double d :: r) S = k lv (.int (Op.cmpValue (FP.dcmp d d2) op) :: r) S := rfl
theorem x_f2d {e : _} : c_f2d k lv (.float e :: r) S = if FP.f2d e &&& 0x7fffffffffffffff ≤ 0x7ff0000000000000 then k lv (.double (FP.f2d e) :: r) S else none := rfl
theorem x_dst (i : Nat) (d : _) : c_dst i k lv (.double d :: r) S = k (am_st2 lv i (.double d)) r S := rfl
theorem q_dst5 : c_dst 5 k [(0, .ref 70), (1, .ref 100), (2, .ref 138), (3, .ref 151), (4, .int (nI i))] (.double d :: r) S = k [(5, .double d), (0, .ref 70), (1, .ref 100), (2, .ref 138), (3, .ref 151), (4, .int (nI i))] r S := rfl
theorem q_dst7 : c_dst 7 k [(5, .double d2), (0, .ref 70), (1, .ref 100), (2, .ref 138), (3, .ref 151), (4, .int (nI i))] (.double d :: r) S = k [(7, .double d), (5, .double d2), (0, .ref 70), (1, .ref 100), (2, .ref 138), (3, .ref 151), (4, .int (nI i))] r S := rfl
theorem x_dld : c_dld i k lv r S = match am_lk lv i with
  | some (.double x) => k lv (.double x :: r) S
  | _ => none := rfl
theorem lg_self : lg_cmp w w = nI 0 := by
  unfold lg_cmp
  rw [if_neg (by show ¬ w < w; rw [Int64.lt_iff_toInt_lt]; omega), if_pos rfl]
  rfl
theorem z_thrown (hZ : w_Z S) (h : am_i S 138 6 = x) : fX11_thrown w_N [.ref 138] S = some (.inl (some (.int x)), S) := by
  simp (disch := omega) only [fX11_thrown, kX11_thrown_0, x_cs0, x_csi, x_csr, x_csn, x_csl, x_ret_v, x_ret_t, x_ret_n, x_tl_s, x_tl_n, x_lk0, x_lk, x_rem0, x_rem_i, x_rem_r, x_rem_l, x_rem2_0, x_rem2_i, x_rem2_r, x_rem2_l, x_pick0, x_pick_c, x_st1, x_st2, x_live, x_i, x_l, x_a, x_ild, x_lld, x_rld, x_ist, x_lst, x_rst, x_inc, x_ii, x_ll, x_li, x_cmp, x_ui, x_il, x_lti, x_idiv, x_irem, x_dup_i, x_dup_r, x_pop_i, x_pop_r, x_dupx_ir, x_dup2_ir, x_ifeq, x_iceq, x_iflt, x_iclt, x_ifge, x_icge, x_ifgt, x_icgt, x_ifle, x_icle, x_ifne, x_icne, x_ifnull_r, x_ifnull_n, x_ifnonnull_r, x_ifnonnull_n, x_sw, x_vret, x_iret, x_lret, x_zret, x_zret0, x_zret1, x_rf_s, x_rf_n, x_geti, x_getr, x_puti, x_putz, x_putr, x_ial, x_ias, x_lal, x_las, x_aal, x_aas, x_aast, x_alen, x_new, x_newa, x_copy, x_min, x_abs, x_minl, x_oinit, x_throw, x_callS0, x_callS1, x_callS2, x_callS3, x_callS4, x_callV0, x_callV1, x_callV2, x_callV3, x_callV4, x_callV5, x_retI_v, x_callI0, x_callI1, x_callI2, x_retN_v, x_callSN1, x_callSN2, x_callT0, x_callT1, x_fn, x_sl0, x_sli, x_slr, x_sll, x_ar0, x_ari, x_arr, x_arl, ↓reduceIte, Nat.reduceAdd, Nat.reduceSub, Nat.reduceMul, Nat.reduceEqDiff, Nat.reduceLeDiff, Nat.reduceLT, if_true, if_false, Nat.le_refl, and_true, true_and, and_self, reduceCtorEq, or_false, false_or, or_true, true_or, Nat.zero_le, fa_lit, nI_add, w_mul, nI_ltI, nI_leI, nI_eq, nI_clamp, nI_toInt, if_pos, if_neg, w_div, w_rem2, zk138 hZ, zk139 hZ, zk140 hZ, zk141 hZ, zk142 hZ, zk143 hZ, zk144 hZ, zk145 hZ, zk146 hZ, zk147 hZ, zk148 hZ, zk149 hZ, zk150 hZ, zk151 hZ, zl139 hZ, zl140 hZ, zl141 hZ, zl142 hZ, zl143 hZ, zl144 hZ, zl145 hZ, zl146 hZ, zl147 hZ, zl148 hZ, zl149 hZ, zl150 hZ, zl151 hZ, zr138_0 hZ, zr138_1 hZ, zr138_2 hZ, zr138_3 hZ, zr138_4 hZ, zr138_8 hZ, zr138_9 hZ, zr138_10 hZ, zr138_12 hZ, zr138_24 hZ, zr138_25 hZ, zr138_26 hZ, zr148_0 hZ, zr148_1 hZ, zr148_2 hZ, zr148_3 hZ, zr148_4 hZ, zr148_5 hZ, zr148_6 hZ, zr148_7 hZ, zr148_8 hZ, h]
theorem lc_0 (h : w_law S) (hi : i + 6 ≤ L) (hL : L ≤ 3072) : ∃ S', bLc_0 L sc K (q_LV i) [] S = K (q_LV (i + 6)) [] S' ∧ w_law S' ∧ w_le 20 4100 S S' := by
  have k100 := yk100 h.1.1.1
  obtain ⟨S1, hZ1, g1, S2, q1, q4, q5⟩ := pr_feed (a := sc (i + 1)) (b := sc (i + 2)) (c := sc (i + 3)) (d := sc (i + 4)) (e := sc (i + 5)) h
  have k8a : am_k S1 138 = 11 := zk138 hZ1
  refine ⟨S2, ?_, q4, q5⟩
  clear q4 q5 h
  generalize hF1 : fX10_feed w_N = fY at *
  generalize hF2 : fX11_feed w_N = fZ at *
  unfold bLc_0
  rw [hF1, hF2]
  simp (disch := omega) only [kL_law_2276, x_cs0, x_csi, x_csr, x_csn, x_csl, x_ret_v, x_ret_t, x_ret_n, x_tl_s, x_tl_n, x_lk0, x_lk, x_rem0, x_rem_i, x_rem_r, x_rem_l, x_rem2_0, x_rem2_i, x_rem2_r, x_rem2_l, x_pick0, x_pick_c, x_st1, x_st2, x_live, x_i, x_l, x_a, x_ild, x_lld, x_rld, x_ist, x_lst, x_rst, x_inc, x_ii, x_ll, x_li, x_cmp, x_ui, x_il, x_lti, x_idiv, x_irem, x_dup_i, x_dup_r, x_pop_i, x_pop_r, x_dupx_ir, x_dup2_ir, x_ifeq, x_iceq, x_iflt, x_iclt, x_ifge, x_icge, x_ifgt, x_icgt, x_ifle, x_icle, x_ifne, x_icne, x_ifnull_r, x_ifnull_n, x_ifnonnull_r, x_ifnonnull_n, x_sw, x_vret, x_iret, x_lret, x_zret, x_zret0, x_zret1, x_rf_s, x_rf_n, x_geti, x_getr, x_puti, x_putz, x_putr, x_ial, x_ias, x_lal, x_las, x_aal, x_aas, x_aast, x_alen, x_new, x_newa, x_copy, x_min, x_abs, x_minl, x_oinit, x_throw, x_callS0, x_callS1, x_callS2, x_callS3, x_callS4, x_callV0, x_callV1, x_callV2, x_callV3, x_callV4, x_callV5, x_retI_v, x_callI0, x_callI1, x_callI2, x_retN_v, x_callSN1, x_callSN2, x_callT0, x_callT1, x_fn, x_sl0, x_sli, x_slr, x_sll, x_ar0, x_ari, x_arr, x_arl, ↓reduceIte, Nat.reduceAdd, Nat.reduceSub, Nat.reduceMul, Nat.reduceEqDiff, Nat.reduceLeDiff, Nat.reduceLT, if_true, if_false, Nat.le_refl, and_true, true_and, and_self, reduceCtorEq, or_false, false_or, or_true, true_or, Nat.zero_le, fa_lit, nI_add, w_mul, nI_ltI, nI_leI, nI_eq, nI_clamp, nI_toInt, if_pos, if_neg, w_div, w_rem2, x_sld, x_cR5, x_retN_v, g1, q1, k100, k8a]

theorem lc_1 (h : w_law S) (hi : i + 6 ≤ L) (hL : L ≤ 3072) : ∃ S', bLc_1 L sc K (q_LV i) [] S = K (q_LV (i + 6)) [] S' ∧ w_law S' ∧ w_le 20 4100 S S' := by
  have k100 := yk100 h.1.1.1
  obtain ⟨S1, c, v, hc, hZ1, f1, f2⟩ := pr_load (x := sc (i + 1)) h
  obtain ⟨S1', g1, g2, g3⟩ := lw_load hZ1 k100 hc f1
  obtain ⟨S2, q1, q2, q3, q4, q5⟩ := f2 S1' g2
  have zb := q4.2
  have k8a := zk138 (g2.Z hZ1)
  have k8b := zk138 zb
  have k151 := zk151 zb
  have l151 := zl151 zb
  have th := z_thrown zb q2
  have hcb : c ≤ 2 := by omega
  refine ⟨S2, ?_, q4, q5⟩
  clear f1 f2 g2 q4 q5 h
  generalize hF1 : fL_load w_N = fL at *
  generalize hF2 : fX11_load w_N = fZ at *
  generalize hF3 : fX11_thrown w_N = fT at *
  unfold bLc_1
  rw [hF1, hF2, hF3]
  by_cases c0 : c = 0
  · subst c0
    have gj := (congrFun q3 0).trans (g3 rfl)
    have l0 := lg_self (w := v.toInt64)
    simp (disch := omega) only [kL_law_326, kL_law_2276, x_cs0, x_csi, x_csr, x_csn, x_csl, x_ret_v, x_ret_t, x_ret_n, x_tl_s, x_tl_n, x_lk0, x_lk, x_rem0, x_rem_i, x_rem_r, x_rem_l, x_rem2_0, x_rem2_i, x_rem2_r, x_rem2_l, x_pick0, x_pick_c, x_st1, x_st2, x_live, x_i, x_l, x_a, x_ild, x_lld, x_rld, x_ist, x_lst, x_rst, x_inc, x_ii, x_ll, x_li, x_cmp, x_ui, x_il, x_lti, x_idiv, x_irem, x_dup_i, x_dup_r, x_pop_i, x_pop_r, x_dupx_ir, x_dup2_ir, x_ifeq, x_iceq, x_iflt, x_iclt, x_ifge, x_icge, x_ifgt, x_icgt, x_ifle, x_icle, x_ifne, x_icne, x_ifnull_r, x_ifnull_n, x_ifnonnull_r, x_ifnonnull_n, x_sw, x_vret, x_iret, x_lret, x_zret, x_zret0, x_zret1, x_rf_s, x_rf_n, x_geti, x_getr, x_puti, x_putz, x_putr, x_ial, x_ias, x_lal, x_las, x_aal, x_aas, x_aast, x_alen, x_new, x_newa, x_copy, x_min, x_abs, x_minl, x_oinit, x_throw, x_callS0, x_callS1, x_callS2, x_callS3, x_callS4, x_callV0, x_callV1, x_callV2, x_callV3, x_callV4, x_callV5, x_retI_v, x_callI0, x_callI1, x_callI2, x_retN_v, x_callSN1, x_callSN2, x_callT0, x_callT1, x_fn, x_sl0, x_sli, x_slr, x_sll, x_ar0, x_ari, x_arr, x_arl, ↓reduceIte, Nat.reduceAdd, Nat.reduceSub, Nat.reduceMul, Nat.reduceEqDiff, Nat.reduceLeDiff, Nat.reduceLT, if_true, if_false, Nat.le_refl, and_true, true_and, and_self, reduceCtorEq, or_false, false_or, or_true, true_or, Nat.zero_le, fa_lit, nI_add, w_mul, nI_ltI, nI_leI, nI_eq, nI_clamp, nI_toInt, if_pos, if_neg, w_div, w_rem2, x_sld, x_cS3, x_cR1, x_cR0, x_retN_v, g1, q1, th, k8a, k8b, k151, l151, gj, l0]
  · simp (disch := omega) only [kL_law_326, kL_law_2276, x_cs0, x_csi, x_csr, x_csn, x_csl, x_ret_v, x_ret_t, x_ret_n, x_tl_s, x_tl_n, x_lk0, x_lk, x_rem0, x_rem_i, x_rem_r, x_rem_l, x_rem2_0, x_rem2_i, x_rem2_r, x_rem2_l, x_pick0, x_pick_c, x_st1, x_st2, x_live, x_i, x_l, x_a, x_ild, x_lld, x_rld, x_ist, x_lst, x_rst, x_inc, x_ii, x_ll, x_li, x_cmp, x_ui, x_il, x_lti, x_idiv, x_irem, x_dup_i, x_dup_r, x_pop_i, x_pop_r, x_dupx_ir, x_dup2_ir, x_ifeq, x_iceq, x_iflt, x_iclt, x_ifge, x_icge, x_ifgt, x_icgt, x_ifle, x_icle, x_ifne, x_icne, x_ifnull_r, x_ifnull_n, x_ifnonnull_r, x_ifnonnull_n, x_sw, x_vret, x_iret, x_lret, x_zret, x_zret0, x_zret1, x_rf_s, x_rf_n, x_geti, x_getr, x_puti, x_putz, x_putr, x_ial, x_ias, x_lal, x_las, x_aal, x_aas, x_aast, x_alen, x_new, x_newa, x_copy, x_min, x_abs, x_minl, x_oinit, x_throw, x_callS0, x_callS1, x_callS2, x_callS3, x_callS4, x_callV0, x_callV1, x_callV2, x_callV3, x_callV4, x_callV5, x_retI_v, x_callI0, x_callI1, x_callI2, x_retN_v, x_callSN1, x_callSN2, x_callT0, x_callT1, x_fn, x_sl0, x_sli, x_slr, x_sll, x_ar0, x_ari, x_arr, x_arl, ↓reduceIte, Nat.reduceAdd, Nat.reduceSub, Nat.reduceMul, Nat.reduceEqDiff, Nat.reduceLeDiff, Nat.reduceLT, if_true, if_false, Nat.le_refl, and_true, true_and, and_self, reduceCtorEq, or_false, false_or, or_true, true_or, Nat.zero_le, fa_lit, nI_add, w_mul, nI_ltI, nI_leI, nI_eq, nI_clamp, nI_toInt, if_pos, if_neg, w_div, w_rem2, x_sld, x_cS3, x_cR1, x_cR0, x_retN_v, g1, q1, th, k8a, k8b]

theorem lc_2 (h : w_law S) (hi : i + 6 ≤ L) (hL : L ≤ 3072) : ∃ S', bLc_2 L sc K (q_LV i) [] S = K (q_LV (i + 6)) [] S' ∧ w_law S' ∧ w_le 20 4100 S S' := by
  have k100 := yk100 h.1.1.1
  obtain ⟨S1, hZ1, g1, S2, q1, q4, q5⟩ := pr_errorPosition  h
  have k8a : am_k S1 138 = 11 := zk138 hZ1
  refine ⟨S2, ?_, q4, q5⟩
  clear q4 q5 h
  generalize hF1 : fX10_errorPosition w_N = fY at *
  generalize hF2 : fX11_errorPosition w_N = fZ at *
  unfold bLc_2
  rw [hF1, hF2]
  simp (disch := omega) only [kL_law_2276, x_cs0, x_csi, x_csr, x_csn, x_csl, x_ret_v, x_ret_t, x_ret_n, x_tl_s, x_tl_n, x_lk0, x_lk, x_rem0, x_rem_i, x_rem_r, x_rem_l, x_rem2_0, x_rem2_i, x_rem2_r, x_rem2_l, x_pick0, x_pick_c, x_st1, x_st2, x_live, x_i, x_l, x_a, x_ild, x_lld, x_rld, x_ist, x_lst, x_rst, x_inc, x_ii, x_ll, x_li, x_cmp, x_ui, x_il, x_lti, x_idiv, x_irem, x_dup_i, x_dup_r, x_pop_i, x_pop_r, x_dupx_ir, x_dup2_ir, x_ifeq, x_iceq, x_iflt, x_iclt, x_ifge, x_icge, x_ifgt, x_icgt, x_ifle, x_icle, x_ifne, x_icne, x_ifnull_r, x_ifnull_n, x_ifnonnull_r, x_ifnonnull_n, x_sw, x_vret, x_iret, x_lret, x_zret, x_zret0, x_zret1, x_rf_s, x_rf_n, x_geti, x_getr, x_puti, x_putz, x_putr, x_ial, x_ias, x_lal, x_las, x_aal, x_aas, x_aast, x_alen, x_new, x_newa, x_copy, x_min, x_abs, x_minl, x_oinit, x_throw, x_callS0, x_callS1, x_callS2, x_callS3, x_callS4, x_callV0, x_callV1, x_callV2, x_callV3, x_callV4, x_callV5, x_retI_v, x_callI0, x_callI1, x_callI2, x_retN_v, x_callSN1, x_callSN2, x_callT0, x_callT1, x_fn, x_sl0, x_sli, x_slr, x_sll, x_ar0, x_ari, x_arr, x_arl, ↓reduceIte, Nat.reduceAdd, Nat.reduceSub, Nat.reduceMul, Nat.reduceEqDiff, Nat.reduceLeDiff, Nat.reduceLT, if_true, if_false, Nat.le_refl, and_true, true_and, and_self, reduceCtorEq, or_false, false_or, or_true, true_or, Nat.zero_le, fa_lit, nI_add, w_mul, nI_ltI, nI_leI, nI_eq, nI_clamp, nI_toInt, if_pos, if_neg, w_div, w_rem2, x_sld, x_cR0, x_retN_v, g1, q1, k100, k8a]

theorem lc_3 (h : w_law S) (hi : i + 6 ≤ L) (hL : L ≤ 3072) : ∃ S', bLc_3 L sc K (q_LV i) [] S = K (q_LV (i + 6)) [] S' ∧ w_law S' ∧ w_le 20 4100 S S' := by
  have k100 := yk100 h.1.1.1
  obtain ⟨S1, c, v, hc, hZ1, f1, f2⟩ := pr_size (x := sc (i + 1)) h
  obtain ⟨S1', g1, g2, g3⟩ := lw_size hZ1 k100 hc f1
  obtain ⟨S2, q1, q2, q3, q4, q5⟩ := f2 S1' g2
  have zb := q4.2
  have k8a := zk138 (g2.Z hZ1)
  have k8b := zk138 zb
  have k151 := zk151 zb
  have l151 := zl151 zb
  have th := z_thrown zb q2
  have hcb : c ≤ 2 := by omega
  refine ⟨S2, ?_, q4, q5⟩
  clear f1 f2 g2 q4 q5 h
  generalize hF1 : fL_size w_N = fL at *
  generalize hF2 : fX11_size w_N = fZ at *
  generalize hF3 : fX11_thrown w_N = fT at *
  unfold bLc_3
  rw [hF1, hF2, hF3]
  by_cases c0 : c = 0
  · subst c0
    have gj := (congrFun q3 0).trans (g3 rfl)
    have l0 := lg_self (w := v.toInt64)
    simp (disch := omega) only [kL_law_395, kL_law_2276, x_cs0, x_csi, x_csr, x_csn, x_csl, x_ret_v, x_ret_t, x_ret_n, x_tl_s, x_tl_n, x_lk0, x_lk, x_rem0, x_rem_i, x_rem_r, x_rem_l, x_rem2_0, x_rem2_i, x_rem2_r, x_rem2_l, x_pick0, x_pick_c, x_st1, x_st2, x_live, x_i, x_l, x_a, x_ild, x_lld, x_rld, x_ist, x_lst, x_rst, x_inc, x_ii, x_ll, x_li, x_cmp, x_ui, x_il, x_lti, x_idiv, x_irem, x_dup_i, x_dup_r, x_pop_i, x_pop_r, x_dupx_ir, x_dup2_ir, x_ifeq, x_iceq, x_iflt, x_iclt, x_ifge, x_icge, x_ifgt, x_icgt, x_ifle, x_icle, x_ifne, x_icne, x_ifnull_r, x_ifnull_n, x_ifnonnull_r, x_ifnonnull_n, x_sw, x_vret, x_iret, x_lret, x_zret, x_zret0, x_zret1, x_rf_s, x_rf_n, x_geti, x_getr, x_puti, x_putz, x_putr, x_ial, x_ias, x_lal, x_las, x_aal, x_aas, x_aast, x_alen, x_new, x_newa, x_copy, x_min, x_abs, x_minl, x_oinit, x_throw, x_callS0, x_callS1, x_callS2, x_callS3, x_callS4, x_callV0, x_callV1, x_callV2, x_callV3, x_callV4, x_callV5, x_retI_v, x_callI0, x_callI1, x_callI2, x_retN_v, x_callSN1, x_callSN2, x_callT0, x_callT1, x_fn, x_sl0, x_sli, x_slr, x_sll, x_ar0, x_ari, x_arr, x_arl, ↓reduceIte, Nat.reduceAdd, Nat.reduceSub, Nat.reduceMul, Nat.reduceEqDiff, Nat.reduceLeDiff, Nat.reduceLT, if_true, if_false, Nat.le_refl, and_true, true_and, and_self, reduceCtorEq, or_false, false_or, or_true, true_or, Nat.zero_le, fa_lit, nI_add, w_mul, nI_ltI, nI_leI, nI_eq, nI_clamp, nI_toInt, if_pos, if_neg, w_div, w_rem2, x_sld, x_cS3, x_cR1, x_cR0, x_retN_v, g1, q1, th, k8a, k8b, k151, l151, gj, l0]
  · simp (disch := omega) only [kL_law_395, kL_law_2276, x_cs0, x_csi, x_csr, x_csn, x_csl, x_ret_v, x_ret_t, x_ret_n, x_tl_s, x_tl_n, x_lk0, x_lk, x_rem0, x_rem_i, x_rem_r, x_rem_l, x_rem2_0, x_rem2_i, x_rem2_r, x_rem2_l, x_pick0, x_pick_c, x_st1, x_st2, x_live, x_i, x_l, x_a, x_ild, x_lld, x_rld, x_ist, x_lst, x_rst, x_inc, x_ii, x_ll, x_li, x_cmp, x_ui, x_il, x_lti, x_idiv, x_irem, x_dup_i, x_dup_r, x_pop_i, x_pop_r, x_dupx_ir, x_dup2_ir, x_ifeq, x_iceq, x_iflt, x_iclt, x_ifge, x_icge, x_ifgt, x_icgt, x_ifle, x_icle, x_ifne, x_icne, x_ifnull_r, x_ifnull_n, x_ifnonnull_r, x_ifnonnull_n, x_sw, x_vret, x_iret, x_lret, x_zret, x_zret0, x_zret1, x_rf_s, x_rf_n, x_geti, x_getr, x_puti, x_putz, x_putr, x_ial, x_ias, x_lal, x_las, x_aal, x_aas, x_aast, x_alen, x_new, x_newa, x_copy, x_min, x_abs, x_minl, x_oinit, x_throw, x_callS0, x_callS1, x_callS2, x_callS3, x_callS4, x_callV0, x_callV1, x_callV2, x_callV3, x_callV4, x_callV5, x_retI_v, x_callI0, x_callI1, x_callI2, x_retN_v, x_callSN1, x_callSN2, x_callT0, x_callT1, x_fn, x_sl0, x_sli, x_slr, x_sll, x_ar0, x_ari, x_arr, x_arl, ↓reduceIte, Nat.reduceAdd, Nat.reduceSub, Nat.reduceMul, Nat.reduceEqDiff, Nat.reduceLeDiff, Nat.reduceLT, if_true, if_false, Nat.le_refl, and_true, true_and, and_self, reduceCtorEq, or_false, false_or, or_true, true_or, Nat.zero_le, fa_lit, nI_add, w_mul, nI_ltI, nI_leI, nI_eq, nI_clamp, nI_toInt, if_pos, if_neg, w_div, w_rem2, x_sld, x_cS3, x_cR1, x_cR0, x_retN_v, g1, q1, th, k8a, k8b]

theorem lc_4 (h : w_law S) (hi : i + 6 ≤ L) (hL : L ≤ 3072) : ∃ S', bLc_4 L sc K (q_LV i) [] S = K (q_LV (i + 6)) [] S' ∧ w_law S' ∧ w_le 20 4100 S S' := by
  have k100 := yk100 h.1.1.1
  obtain ⟨S1, c, v, hc, hZ1, f1, f2⟩ := pr_unit (x := sc (i + 1)) (y := sc (i + 2)) h
  obtain ⟨S1', g1, g2, g3⟩ := lw_unit hZ1 k100 hc f1
  obtain ⟨S2, q1, q2, q3, q4, q5⟩ := f2 S1' g2
  have zb := q4.2
  have k8a := zk138 (g2.Z hZ1)
  have k8b := zk138 zb
  have k151 := zk151 zb
  have l151 := zl151 zb
  have th := z_thrown zb q2
  have hcb : c ≤ 2 := by omega
  refine ⟨S2, ?_, q4, q5⟩
  clear f1 f2 g2 q4 q5 h
  generalize hF1 : fL_unit w_N = fL at *
  generalize hF2 : fX11_unit w_N = fZ at *
  generalize hF3 : fX11_thrown w_N = fT at *
  unfold bLc_4
  rw [hF1, hF2, hF3]
  by_cases c0 : c = 0
  · subst c0
    have gj := (congrFun q3 0).trans (g3 rfl)
    have l0 := lg_self (w := v.toInt64)
    simp (disch := omega) only [kL_law_463, kL_law_2276, x_cs0, x_csi, x_csr, x_csn, x_csl, x_ret_v, x_ret_t, x_ret_n, x_tl_s, x_tl_n, x_lk0, x_lk, x_rem0, x_rem_i, x_rem_r, x_rem_l, x_rem2_0, x_rem2_i, x_rem2_r, x_rem2_l, x_pick0, x_pick_c, x_st1, x_st2, x_live, x_i, x_l, x_a, x_ild, x_lld, x_rld, x_ist, x_lst, x_rst, x_inc, x_ii, x_ll, x_li, x_cmp, x_ui, x_il, x_lti, x_idiv, x_irem, x_dup_i, x_dup_r, x_pop_i, x_pop_r, x_dupx_ir, x_dup2_ir, x_ifeq, x_iceq, x_iflt, x_iclt, x_ifge, x_icge, x_ifgt, x_icgt, x_ifle, x_icle, x_ifne, x_icne, x_ifnull_r, x_ifnull_n, x_ifnonnull_r, x_ifnonnull_n, x_sw, x_vret, x_iret, x_lret, x_zret, x_zret0, x_zret1, x_rf_s, x_rf_n, x_geti, x_getr, x_puti, x_putz, x_putr, x_ial, x_ias, x_lal, x_las, x_aal, x_aas, x_aast, x_alen, x_new, x_newa, x_copy, x_min, x_abs, x_minl, x_oinit, x_throw, x_callS0, x_callS1, x_callS2, x_callS3, x_callS4, x_callV0, x_callV1, x_callV2, x_callV3, x_callV4, x_callV5, x_retI_v, x_callI0, x_callI1, x_callI2, x_retN_v, x_callSN1, x_callSN2, x_callT0, x_callT1, x_fn, x_sl0, x_sli, x_slr, x_sll, x_ar0, x_ari, x_arr, x_arl, ↓reduceIte, Nat.reduceAdd, Nat.reduceSub, Nat.reduceMul, Nat.reduceEqDiff, Nat.reduceLeDiff, Nat.reduceLT, if_true, if_false, Nat.le_refl, and_true, true_and, and_self, reduceCtorEq, or_false, false_or, or_true, true_or, Nat.zero_le, fa_lit, nI_add, w_mul, nI_ltI, nI_leI, nI_eq, nI_clamp, nI_toInt, if_pos, if_neg, w_div, w_rem2, x_sld, x_cS4, x_cR2, x_cR0, x_retN_v, g1, q1, th, k8a, k8b, k151, l151, gj, l0]
  · simp (disch := omega) only [kL_law_463, kL_law_2276, x_cs0, x_csi, x_csr, x_csn, x_csl, x_ret_v, x_ret_t, x_ret_n, x_tl_s, x_tl_n, x_lk0, x_lk, x_rem0, x_rem_i, x_rem_r, x_rem_l, x_rem2_0, x_rem2_i, x_rem2_r, x_rem2_l, x_pick0, x_pick_c, x_st1, x_st2, x_live, x_i, x_l, x_a, x_ild, x_lld, x_rld, x_ist, x_lst, x_rst, x_inc, x_ii, x_ll, x_li, x_cmp, x_ui, x_il, x_lti, x_idiv, x_irem, x_dup_i, x_dup_r, x_pop_i, x_pop_r, x_dupx_ir, x_dup2_ir, x_ifeq, x_iceq, x_iflt, x_iclt, x_ifge, x_icge, x_ifgt, x_icgt, x_ifle, x_icle, x_ifne, x_icne, x_ifnull_r, x_ifnull_n, x_ifnonnull_r, x_ifnonnull_n, x_sw, x_vret, x_iret, x_lret, x_zret, x_zret0, x_zret1, x_rf_s, x_rf_n, x_geti, x_getr, x_puti, x_putz, x_putr, x_ial, x_ias, x_lal, x_las, x_aal, x_aas, x_aast, x_alen, x_new, x_newa, x_copy, x_min, x_abs, x_minl, x_oinit, x_throw, x_callS0, x_callS1, x_callS2, x_callS3, x_callS4, x_callV0, x_callV1, x_callV2, x_callV3, x_callV4, x_callV5, x_retI_v, x_callI0, x_callI1, x_callI2, x_retN_v, x_callSN1, x_callSN2, x_callT0, x_callT1, x_fn, x_sl0, x_sli, x_slr, x_sll, x_ar0, x_ari, x_arr, x_arl, ↓reduceIte, Nat.reduceAdd, Nat.reduceSub, Nat.reduceMul, Nat.reduceEqDiff, Nat.reduceLeDiff, Nat.reduceLT, if_true, if_false, Nat.le_refl, and_true, true_and, and_self, reduceCtorEq, or_false, false_or, or_true, true_or, Nat.zero_le, fa_lit, nI_add, w_mul, nI_ltI, nI_leI, nI_eq, nI_clamp, nI_toInt, if_pos, if_neg, w_div, w_rem2, x_sld, x_cS4, x_cR2, x_cR0, x_retN_v, g1, q1, th, k8a, k8b]

theorem lc_5 (h : w_law S) (hi : i + 6 ≤ L) (hL : L ≤ 3072) : ∃ S', bLc_5 L sc K (q_LV i) [] S = K (q_LV (i + 6)) [] S' ∧ w_law S' ∧ w_le 20 4100 S S' := by
  have k100 := yk100 h.1.1.1
  obtain ⟨S1, c, v, hc, hZ1, f1, f2⟩ := pr_picket (x := sc (i + 1)) (y := sc (i + 2)) h
  obtain ⟨S1', g1, g2, g3⟩ := lw_picket hZ1 k100 hc f1
  obtain ⟨S2, q1, q2, q3, q4, q5⟩ := f2 S1' g2
  have zb := q4.2
  have k8a := zk138 (g2.Z hZ1)
  have k8b := zk138 zb
  have k151 := zk151 zb
  have l151 := zl151 zb
  have th := z_thrown zb q2
  have hcb : c ≤ 2 := by omega
  refine ⟨S2, ?_, q4, q5⟩
  clear f1 f2 g2 q4 q5 h
  generalize hF1 : fL_picket w_N = fL at *
  generalize hF2 : fX11_picket w_N = fZ at *
  generalize hF3 : fX11_thrown w_N = fT at *
  unfold bLc_5
  rw [hF1, hF2, hF3]
  by_cases c0 : c = 0
  · subst c0
    have gj := (congrFun q3 0).trans (g3 rfl)
    have l0 := lg_self (w := v.toInt64)
    simp (disch := omega) only [kL_law_531, kL_law_2276, x_cs0, x_csi, x_csr, x_csn, x_csl, x_ret_v, x_ret_t, x_ret_n, x_tl_s, x_tl_n, x_lk0, x_lk, x_rem0, x_rem_i, x_rem_r, x_rem_l, x_rem2_0, x_rem2_i, x_rem2_r, x_rem2_l, x_pick0, x_pick_c, x_st1, x_st2, x_live, x_i, x_l, x_a, x_ild, x_lld, x_rld, x_ist, x_lst, x_rst, x_inc, x_ii, x_ll, x_li, x_cmp, x_ui, x_il, x_lti, x_idiv, x_irem, x_dup_i, x_dup_r, x_pop_i, x_pop_r, x_dupx_ir, x_dup2_ir, x_ifeq, x_iceq, x_iflt, x_iclt, x_ifge, x_icge, x_ifgt, x_icgt, x_ifle, x_icle, x_ifne, x_icne, x_ifnull_r, x_ifnull_n, x_ifnonnull_r, x_ifnonnull_n, x_sw, x_vret, x_iret, x_lret, x_zret, x_zret0, x_zret1, x_rf_s, x_rf_n, x_geti, x_getr, x_puti, x_putz, x_putr, x_ial, x_ias, x_lal, x_las, x_aal, x_aas, x_aast, x_alen, x_new, x_newa, x_copy, x_min, x_abs, x_minl, x_oinit, x_throw, x_callS0, x_callS1, x_callS2, x_callS3, x_callS4, x_callV0, x_callV1, x_callV2, x_callV3, x_callV4, x_callV5, x_retI_v, x_callI0, x_callI1, x_callI2, x_retN_v, x_callSN1, x_callSN2, x_callT0, x_callT1, x_fn, x_sl0, x_sli, x_slr, x_sll, x_ar0, x_ari, x_arr, x_arl, ↓reduceIte, Nat.reduceAdd, Nat.reduceSub, Nat.reduceMul, Nat.reduceEqDiff, Nat.reduceLeDiff, Nat.reduceLT, if_true, if_false, Nat.le_refl, and_true, true_and, and_self, reduceCtorEq, or_false, false_or, or_true, true_or, Nat.zero_le, fa_lit, nI_add, w_mul, nI_ltI, nI_leI, nI_eq, nI_clamp, nI_toInt, if_pos, if_neg, w_div, w_rem2, x_sld, x_cS4, x_cR2, x_cR0, x_retN_v, g1, q1, th, k8a, k8b, k151, l151, gj, l0]
  · simp (disch := omega) only [kL_law_531, kL_law_2276, x_cs0, x_csi, x_csr, x_csn, x_csl, x_ret_v, x_ret_t, x_ret_n, x_tl_s, x_tl_n, x_lk0, x_lk, x_rem0, x_rem_i, x_rem_r, x_rem_l, x_rem2_0, x_rem2_i, x_rem2_r, x_rem2_l, x_pick0, x_pick_c, x_st1, x_st2, x_live, x_i, x_l, x_a, x_ild, x_lld, x_rld, x_ist, x_lst, x_rst, x_inc, x_ii, x_ll, x_li, x_cmp, x_ui, x_il, x_lti, x_idiv, x_irem, x_dup_i, x_dup_r, x_pop_i, x_pop_r, x_dupx_ir, x_dup2_ir, x_ifeq, x_iceq, x_iflt, x_iclt, x_ifge, x_icge, x_ifgt, x_icgt, x_ifle, x_icle, x_ifne, x_icne, x_ifnull_r, x_ifnull_n, x_ifnonnull_r, x_ifnonnull_n, x_sw, x_vret, x_iret, x_lret, x_zret, x_zret0, x_zret1, x_rf_s, x_rf_n, x_geti, x_getr, x_puti, x_putz, x_putr, x_ial, x_ias, x_lal, x_las, x_aal, x_aas, x_aast, x_alen, x_new, x_newa, x_copy, x_min, x_abs, x_minl, x_oinit, x_throw, x_callS0, x_callS1, x_callS2, x_callS3, x_callS4, x_callV0, x_callV1, x_callV2, x_callV3, x_callV4, x_callV5, x_retI_v, x_callI0, x_callI1, x_callI2, x_retN_v, x_callSN1, x_callSN2, x_callT0, x_callT1, x_fn, x_sl0, x_sli, x_slr, x_sll, x_ar0, x_ari, x_arr, x_arl, ↓reduceIte, Nat.reduceAdd, Nat.reduceSub, Nat.reduceMul, Nat.reduceEqDiff, Nat.reduceLeDiff, Nat.reduceLT, if_true, if_false, Nat.le_refl, and_true, true_and, and_self, reduceCtorEq, or_false, false_or, or_true, true_or, Nat.zero_le, fa_lit, nI_add, w_mul, nI_ltI, nI_leI, nI_eq, nI_clamp, nI_toInt, if_pos, if_neg, w_div, w_rem2, x_sld, x_cS4, x_cR2, x_cR0, x_retN_v, g1, q1, th, k8a, k8b]

theorem lc_6 (h : w_law S) (hi : i + 6 ≤ L) (hL : L ≤ 3072) : ∃ S', bLc_6 L sc K (q_LV i) [] S = K (q_LV (i + 6)) [] S' ∧ w_law S' ∧ w_le 20 4100 S S' := by
  have k100 := yk100 h.1.1.1
  obtain ⟨S1, c, v, hc, hZ1, f1, f2⟩ := pr_order (x := sc (i + 1)) (y := sc (i + 2)) h
  obtain ⟨S1', g1, g2, g3⟩ := lw_order hZ1 k100 hc f1
  obtain ⟨S2, q1, q2, q3, q4, q5⟩ := f2 S1' g2
  have zb := q4.2
  have k8a := zk138 (g2.Z hZ1)
  have k8b := zk138 zb
  have k151 := zk151 zb
  have l151 := zl151 zb
  have th := z_thrown zb q2
  have hcb : c ≤ 2 := by omega
  refine ⟨S2, ?_, q4, q5⟩
  clear f1 f2 g2 q4 q5 h
  generalize hF1 : fL_order w_N = fL at *
  generalize hF2 : fX11_order w_N = fZ at *
  generalize hF3 : fX11_thrown w_N = fT at *
  unfold bLc_6
  rw [hF1, hF2, hF3]
  by_cases c0 : c = 0
  · subst c0
    have gj := (congrFun q3 0).trans (g3 rfl)
    have l0 := lg_self (w := v.toInt64)
    simp (disch := omega) only [kL_law_599, kL_law_2276, x_cs0, x_csi, x_csr, x_csn, x_csl, x_ret_v, x_ret_t, x_ret_n, x_tl_s, x_tl_n, x_lk0, x_lk, x_rem0, x_rem_i, x_rem_r, x_rem_l, x_rem2_0, x_rem2_i, x_rem2_r, x_rem2_l, x_pick0, x_pick_c, x_st1, x_st2, x_live, x_i, x_l, x_a, x_ild, x_lld, x_rld, x_ist, x_lst, x_rst, x_inc, x_ii, x_ll, x_li, x_cmp, x_ui, x_il, x_lti, x_idiv, x_irem, x_dup_i, x_dup_r, x_pop_i, x_pop_r, x_dupx_ir, x_dup2_ir, x_ifeq, x_iceq, x_iflt, x_iclt, x_ifge, x_icge, x_ifgt, x_icgt, x_ifle, x_icle, x_ifne, x_icne, x_ifnull_r, x_ifnull_n, x_ifnonnull_r, x_ifnonnull_n, x_sw, x_vret, x_iret, x_lret, x_zret, x_zret0, x_zret1, x_rf_s, x_rf_n, x_geti, x_getr, x_puti, x_putz, x_putr, x_ial, x_ias, x_lal, x_las, x_aal, x_aas, x_aast, x_alen, x_new, x_newa, x_copy, x_min, x_abs, x_minl, x_oinit, x_throw, x_callS0, x_callS1, x_callS2, x_callS3, x_callS4, x_callV0, x_callV1, x_callV2, x_callV3, x_callV4, x_callV5, x_retI_v, x_callI0, x_callI1, x_callI2, x_retN_v, x_callSN1, x_callSN2, x_callT0, x_callT1, x_fn, x_sl0, x_sli, x_slr, x_sll, x_ar0, x_ari, x_arr, x_arl, ↓reduceIte, Nat.reduceAdd, Nat.reduceSub, Nat.reduceMul, Nat.reduceEqDiff, Nat.reduceLeDiff, Nat.reduceLT, if_true, if_false, Nat.le_refl, and_true, true_and, and_self, reduceCtorEq, or_false, false_or, or_true, true_or, Nat.zero_le, fa_lit, nI_add, w_mul, nI_ltI, nI_leI, nI_eq, nI_clamp, nI_toInt, if_pos, if_neg, w_div, w_rem2, x_sld, x_cS4, x_cR2, x_cR0, x_retN_v, g1, q1, th, k8a, k8b, k151, l151, gj, l0]
  · simp (disch := omega) only [kL_law_599, kL_law_2276, x_cs0, x_csi, x_csr, x_csn, x_csl, x_ret_v, x_ret_t, x_ret_n, x_tl_s, x_tl_n, x_lk0, x_lk, x_rem0, x_rem_i, x_rem_r, x_rem_l, x_rem2_0, x_rem2_i, x_rem2_r, x_rem2_l, x_pick0, x_pick_c, x_st1, x_st2, x_live, x_i, x_l, x_a, x_ild, x_lld, x_rld, x_ist, x_lst, x_rst, x_inc, x_ii, x_ll, x_li, x_cmp, x_ui, x_il, x_lti, x_idiv, x_irem, x_dup_i, x_dup_r, x_pop_i, x_pop_r, x_dupx_ir, x_dup2_ir, x_ifeq, x_iceq, x_iflt, x_iclt, x_ifge, x_icge, x_ifgt, x_icgt, x_ifle, x_icle, x_ifne, x_icne, x_ifnull_r, x_ifnull_n, x_ifnonnull_r, x_ifnonnull_n, x_sw, x_vret, x_iret, x_lret, x_zret, x_zret0, x_zret1, x_rf_s, x_rf_n, x_geti, x_getr, x_puti, x_putz, x_putr, x_ial, x_ias, x_lal, x_las, x_aal, x_aas, x_aast, x_alen, x_new, x_newa, x_copy, x_min, x_abs, x_minl, x_oinit, x_throw, x_callS0, x_callS1, x_callS2, x_callS3, x_callS4, x_callV0, x_callV1, x_callV2, x_callV3, x_callV4, x_callV5, x_retI_v, x_callI0, x_callI1, x_callI2, x_retN_v, x_callSN1, x_callSN2, x_callT0, x_callT1, x_fn, x_sl0, x_sli, x_slr, x_sll, x_ar0, x_ari, x_arr, x_arl, ↓reduceIte, Nat.reduceAdd, Nat.reduceSub, Nat.reduceMul, Nat.reduceEqDiff, Nat.reduceLeDiff, Nat.reduceLT, if_true, if_false, Nat.le_refl, and_true, true_and, and_self, reduceCtorEq, or_false, false_or, or_true, true_or, Nat.zero_le, fa_lit, nI_add, w_mul, nI_ltI, nI_leI, nI_eq, nI_clamp, nI_toInt, if_pos, if_neg, w_div, w_rem2, x_sld, x_cS4, x_cR2, x_cR0, x_retN_v, g1, q1, th, k8a, k8b]

theorem lc_7 (h : w_law S) (hi : i + 6 ≤ L) (hL : L ≤ 3072) : ∃ S', bLc_7 L sc K (q_LV i) [] S = K (q_LV (i + 6)) [] S' ∧ w_law S' ∧ w_le 20 4100 S S' := by
  have k100 := yk100 h.1.1.1
  obtain ⟨S1, c, v, hc, hZ1, f1, f2⟩ := pr_plan (x := sc (i + 1)) (y := sc (i + 2)) h
  obtain ⟨S1', g1, g2, g3⟩ := lw_plan hZ1 k100 hc f1
  obtain ⟨S2, q1, q2, q3, q4, q5⟩ := f2 S1' g2
  have zb := q4.2
  have k8a := zk138 (g2.Z hZ1)
  have k8b := zk138 zb
  have k151 := zk151 zb
  have l151 := zl151 zb
  have th := z_thrown zb q2
  have hcb : c ≤ 2 := by omega
  refine ⟨S2, ?_, q4, q5⟩
  clear f1 f2 g2 q4 q5 h
  generalize hF1 : fL_plan w_N = fL at *
  generalize hF2 : fX11_plan w_N = fZ at *
  generalize hF3 : fX11_thrown w_N = fT at *
  unfold bLc_7
  rw [hF1, hF2, hF3]
  by_cases c0 : c = 0
  · subst c0
    have gj := (congrFun q3 0).trans (g3 rfl)
    have l0 := lg_self (w := v.toInt64)
    simp (disch := omega) only [kL_law_667, kL_law_2276, x_cs0, x_csi, x_csr, x_csn, x_csl, x_ret_v, x_ret_t, x_ret_n, x_tl_s, x_tl_n, x_lk0, x_lk, x_rem0, x_rem_i, x_rem_r, x_rem_l, x_rem2_0, x_rem2_i, x_rem2_r, x_rem2_l, x_pick0, x_pick_c, x_st1, x_st2, x_live, x_i, x_l, x_a, x_ild, x_lld, x_rld, x_ist, x_lst, x_rst, x_inc, x_ii, x_ll, x_li, x_cmp, x_ui, x_il, x_lti, x_idiv, x_irem, x_dup_i, x_dup_r, x_pop_i, x_pop_r, x_dupx_ir, x_dup2_ir, x_ifeq, x_iceq, x_iflt, x_iclt, x_ifge, x_icge, x_ifgt, x_icgt, x_ifle, x_icle, x_ifne, x_icne, x_ifnull_r, x_ifnull_n, x_ifnonnull_r, x_ifnonnull_n, x_sw, x_vret, x_iret, x_lret, x_zret, x_zret0, x_zret1, x_rf_s, x_rf_n, x_geti, x_getr, x_puti, x_putz, x_putr, x_ial, x_ias, x_lal, x_las, x_aal, x_aas, x_aast, x_alen, x_new, x_newa, x_copy, x_min, x_abs, x_minl, x_oinit, x_throw, x_callS0, x_callS1, x_callS2, x_callS3, x_callS4, x_callV0, x_callV1, x_callV2, x_callV3, x_callV4, x_callV5, x_retI_v, x_callI0, x_callI1, x_callI2, x_retN_v, x_callSN1, x_callSN2, x_callT0, x_callT1, x_fn, x_sl0, x_sli, x_slr, x_sll, x_ar0, x_ari, x_arr, x_arl, ↓reduceIte, Nat.reduceAdd, Nat.reduceSub, Nat.reduceMul, Nat.reduceEqDiff, Nat.reduceLeDiff, Nat.reduceLT, if_true, if_false, Nat.le_refl, and_true, true_and, and_self, reduceCtorEq, or_false, false_or, or_true, true_or, Nat.zero_le, fa_lit, nI_add, w_mul, nI_ltI, nI_leI, nI_eq, nI_clamp, nI_toInt, if_pos, if_neg, w_div, w_rem2, x_sld, x_cS4, x_cR2, x_cR0, x_retN_v, g1, q1, th, k8a, k8b, k151, l151, gj, l0]
  · simp (disch := omega) only [kL_law_667, kL_law_2276, x_cs0, x_csi, x_csr, x_csn, x_csl, x_ret_v, x_ret_t, x_ret_n, x_tl_s, x_tl_n, x_lk0, x_lk, x_rem0, x_rem_i, x_rem_r, x_rem_l, x_rem2_0, x_rem2_i, x_rem2_r, x_rem2_l, x_pick0, x_pick_c, x_st1, x_st2, x_live, x_i, x_l, x_a, x_ild, x_lld, x_rld, x_ist, x_lst, x_rst, x_inc, x_ii, x_ll, x_li, x_cmp, x_ui, x_il, x_lti, x_idiv, x_irem, x_dup_i, x_dup_r, x_pop_i, x_pop_r, x_dupx_ir, x_dup2_ir, x_ifeq, x_iceq, x_iflt, x_iclt, x_ifge, x_icge, x_ifgt, x_icgt, x_ifle, x_icle, x_ifne, x_icne, x_ifnull_r, x_ifnull_n, x_ifnonnull_r, x_ifnonnull_n, x_sw, x_vret, x_iret, x_lret, x_zret, x_zret0, x_zret1, x_rf_s, x_rf_n, x_geti, x_getr, x_puti, x_putz, x_putr, x_ial, x_ias, x_lal, x_las, x_aal, x_aas, x_aast, x_alen, x_new, x_newa, x_copy, x_min, x_abs, x_minl, x_oinit, x_throw, x_callS0, x_callS1, x_callS2, x_callS3, x_callS4, x_callV0, x_callV1, x_callV2, x_callV3, x_callV4, x_callV5, x_retI_v, x_callI0, x_callI1, x_callI2, x_retN_v, x_callSN1, x_callSN2, x_callT0, x_callT1, x_fn, x_sl0, x_sli, x_slr, x_sll, x_ar0, x_ari, x_arr, x_arl, ↓reduceIte, Nat.reduceAdd, Nat.reduceSub, Nat.reduceMul, Nat.reduceEqDiff, Nat.reduceLeDiff, Nat.reduceLT, if_true, if_false, Nat.le_refl, and_true, true_and, and_self, reduceCtorEq, or_false, false_or, or_true, true_or, Nat.zero_le, fa_lit, nI_add, w_mul, nI_ltI, nI_leI, nI_eq, nI_clamp, nI_toInt, if_pos, if_neg, w_div, w_rem2, x_sld, x_cS4, x_cR2, x_cR0, x_retN_v, g1, q1, th, k8a, k8b]

theorem lc_8 (h : w_law S) (hi : i + 6 ≤ L) (hL : L ≤ 3072) : ∃ S', bLc_8 L sc K (q_LV i) [] S = K (q_LV (i + 6)) [] S' ∧ w_law S' ∧ w_le 20 4100 S S' := by
  have k100 := yk100 h.1.1.1
  obtain ⟨S1, c, v, hc, hZ1, f1, f2⟩ := pr_event (x := sc (i + 1)) (y := sc (i + 2)) h
  obtain ⟨S1', g1, g2, g3⟩ := lw_event hZ1 k100 hc f1
  obtain ⟨S2, q1, q2, q3, q4, q5⟩ := f2 S1' g2
  have zb := q4.2
  have k8a := zk138 (g2.Z hZ1)
  have k8b := zk138 zb
  have k151 := zk151 zb
  have l151 := zl151 zb
  have th := z_thrown zb q2
  have hcb : c ≤ 2 := by omega
  refine ⟨S2, ?_, q4, q5⟩
  clear f1 f2 g2 q4 q5 h
  generalize hF1 : fL_event w_N = fL at *
  generalize hF2 : fX11_event w_N = fZ at *
  generalize hF3 : fX11_thrown w_N = fT at *
  unfold bLc_8
  rw [hF1, hF2, hF3]
  by_cases c0 : c = 0
  · subst c0
    have gj := (congrFun q3 0).trans (g3 rfl)
    have l0 := lg_self (w := v.toInt64)
    simp (disch := omega) only [kL_law_735, kL_law_2276, x_cs0, x_csi, x_csr, x_csn, x_csl, x_ret_v, x_ret_t, x_ret_n, x_tl_s, x_tl_n, x_lk0, x_lk, x_rem0, x_rem_i, x_rem_r, x_rem_l, x_rem2_0, x_rem2_i, x_rem2_r, x_rem2_l, x_pick0, x_pick_c, x_st1, x_st2, x_live, x_i, x_l, x_a, x_ild, x_lld, x_rld, x_ist, x_lst, x_rst, x_inc, x_ii, x_ll, x_li, x_cmp, x_ui, x_il, x_lti, x_idiv, x_irem, x_dup_i, x_dup_r, x_pop_i, x_pop_r, x_dupx_ir, x_dup2_ir, x_ifeq, x_iceq, x_iflt, x_iclt, x_ifge, x_icge, x_ifgt, x_icgt, x_ifle, x_icle, x_ifne, x_icne, x_ifnull_r, x_ifnull_n, x_ifnonnull_r, x_ifnonnull_n, x_sw, x_vret, x_iret, x_lret, x_zret, x_zret0, x_zret1, x_rf_s, x_rf_n, x_geti, x_getr, x_puti, x_putz, x_putr, x_ial, x_ias, x_lal, x_las, x_aal, x_aas, x_aast, x_alen, x_new, x_newa, x_copy, x_min, x_abs, x_minl, x_oinit, x_throw, x_callS0, x_callS1, x_callS2, x_callS3, x_callS4, x_callV0, x_callV1, x_callV2, x_callV3, x_callV4, x_callV5, x_retI_v, x_callI0, x_callI1, x_callI2, x_retN_v, x_callSN1, x_callSN2, x_callT0, x_callT1, x_fn, x_sl0, x_sli, x_slr, x_sll, x_ar0, x_ari, x_arr, x_arl, ↓reduceIte, Nat.reduceAdd, Nat.reduceSub, Nat.reduceMul, Nat.reduceEqDiff, Nat.reduceLeDiff, Nat.reduceLT, if_true, if_false, Nat.le_refl, and_true, true_and, and_self, reduceCtorEq, or_false, false_or, or_true, true_or, Nat.zero_le, fa_lit, nI_add, w_mul, nI_ltI, nI_leI, nI_eq, nI_clamp, nI_toInt, if_pos, if_neg, w_div, w_rem2, x_sld, x_cS4, x_cR2, x_cR0, x_retN_v, g1, q1, th, k8a, k8b, k151, l151, gj, l0]
  · simp (disch := omega) only [kL_law_735, kL_law_2276, x_cs0, x_csi, x_csr, x_csn, x_csl, x_ret_v, x_ret_t, x_ret_n, x_tl_s, x_tl_n, x_lk0, x_lk, x_rem0, x_rem_i, x_rem_r, x_rem_l, x_rem2_0, x_rem2_i, x_rem2_r, x_rem2_l, x_pick0, x_pick_c, x_st1, x_st2, x_live, x_i, x_l, x_a, x_ild, x_lld, x_rld, x_ist, x_lst, x_rst, x_inc, x_ii, x_ll, x_li, x_cmp, x_ui, x_il, x_lti, x_idiv, x_irem, x_dup_i, x_dup_r, x_pop_i, x_pop_r, x_dupx_ir, x_dup2_ir, x_ifeq, x_iceq, x_iflt, x_iclt, x_ifge, x_icge, x_ifgt, x_icgt, x_ifle, x_icle, x_ifne, x_icne, x_ifnull_r, x_ifnull_n, x_ifnonnull_r, x_ifnonnull_n, x_sw, x_vret, x_iret, x_lret, x_zret, x_zret0, x_zret1, x_rf_s, x_rf_n, x_geti, x_getr, x_puti, x_putz, x_putr, x_ial, x_ias, x_lal, x_las, x_aal, x_aas, x_aast, x_alen, x_new, x_newa, x_copy, x_min, x_abs, x_minl, x_oinit, x_throw, x_callS0, x_callS1, x_callS2, x_callS3, x_callS4, x_callV0, x_callV1, x_callV2, x_callV3, x_callV4, x_callV5, x_retI_v, x_callI0, x_callI1, x_callI2, x_retN_v, x_callSN1, x_callSN2, x_callT0, x_callT1, x_fn, x_sl0, x_sli, x_slr, x_sll, x_ar0, x_ari, x_arr, x_arl, ↓reduceIte, Nat.reduceAdd, Nat.reduceSub, Nat.reduceMul, Nat.reduceEqDiff, Nat.reduceLeDiff, Nat.reduceLT, if_true, if_false, Nat.le_refl, and_true, true_and, and_self, reduceCtorEq, or_false, false_or, or_true, true_or, Nat.zero_le, fa_lit, nI_add, w_mul, nI_ltI, nI_leI, nI_eq, nI_clamp, nI_toInt, if_pos, if_neg, w_div, w_rem2, x_sld, x_cS4, x_cR2, x_cR0, x_retN_v, g1, q1, th, k8a, k8b]

theorem lc_9 (h : w_law S) (hi : i + 6 ≤ L) (hL : L ≤ 3072) : ∃ S', bLc_9 L sc K (q_LV i) [] S = K (q_LV (i + 6)) [] S' ∧ w_law S' ∧ w_le 20 4100 S S' := by
  have k100 := yk100 h.1.1.1
  obtain ⟨S1, c, v, hc, hZ1, f1, f2⟩ := pr_orders (x := sc (i + 1)) h
  obtain ⟨S1', g1, g2, g3⟩ := lw_orders hZ1 k100 hc f1
  obtain ⟨S2, q1, q2, q3, q4, q5⟩ := f2 S1' g2
  have zb := q4.2
  have k8a := zk138 (g2.Z hZ1)
  have k8b := zk138 zb
  have k151 := zk151 zb
  have l151 := zl151 zb
  have th := z_thrown zb q2
  have hcb : c ≤ 2 := by omega
  refine ⟨S2, ?_, q4, q5⟩
  clear f1 f2 g2 q4 q5 h
  generalize hF1 : fL_orders w_N = fL at *
  generalize hF2 : fX11_orders w_N = fZ at *
  generalize hF3 : fX11_thrown w_N = fT at *
  unfold bLc_9
  rw [hF1, hF2, hF3]
  by_cases c0 : c = 0
  · subst c0
    have gj := (congrFun q3 0).trans (g3 rfl)
    have l0 := lg_self (w := v.toInt64)
    simp (disch := omega) only [kL_law_791, kL_law_2276, x_cs0, x_csi, x_csr, x_csn, x_csl, x_ret_v, x_ret_t, x_ret_n, x_tl_s, x_tl_n, x_lk0, x_lk, x_rem0, x_rem_i, x_rem_r, x_rem_l, x_rem2_0, x_rem2_i, x_rem2_r, x_rem2_l, x_pick0, x_pick_c, x_st1, x_st2, x_live, x_i, x_l, x_a, x_ild, x_lld, x_rld, x_ist, x_lst, x_rst, x_inc, x_ii, x_ll, x_li, x_cmp, x_ui, x_il, x_lti, x_idiv, x_irem, x_dup_i, x_dup_r, x_pop_i, x_pop_r, x_dupx_ir, x_dup2_ir, x_ifeq, x_iceq, x_iflt, x_iclt, x_ifge, x_icge, x_ifgt, x_icgt, x_ifle, x_icle, x_ifne, x_icne, x_ifnull_r, x_ifnull_n, x_ifnonnull_r, x_ifnonnull_n, x_sw, x_vret, x_iret, x_lret, x_zret, x_zret0, x_zret1, x_rf_s, x_rf_n, x_geti, x_getr, x_puti, x_putz, x_putr, x_ial, x_ias, x_lal, x_las, x_aal, x_aas, x_aast, x_alen, x_new, x_newa, x_copy, x_min, x_abs, x_minl, x_oinit, x_throw, x_callS0, x_callS1, x_callS2, x_callS3, x_callS4, x_callV0, x_callV1, x_callV2, x_callV3, x_callV4, x_callV5, x_retI_v, x_callI0, x_callI1, x_callI2, x_retN_v, x_callSN1, x_callSN2, x_callT0, x_callT1, x_fn, x_sl0, x_sli, x_slr, x_sll, x_ar0, x_ari, x_arr, x_arl, ↓reduceIte, Nat.reduceAdd, Nat.reduceSub, Nat.reduceMul, Nat.reduceEqDiff, Nat.reduceLeDiff, Nat.reduceLT, if_true, if_false, Nat.le_refl, and_true, true_and, and_self, reduceCtorEq, or_false, false_or, or_true, true_or, Nat.zero_le, fa_lit, nI_add, w_mul, nI_ltI, nI_leI, nI_eq, nI_clamp, nI_toInt, if_pos, if_neg, w_div, w_rem2, x_sld, x_cS3, x_cR1, x_cR0, x_retN_v, g1, q1, th, k8a, k8b, k151, l151, gj, l0]
  · simp (disch := omega) only [kL_law_791, kL_law_2276, x_cs0, x_csi, x_csr, x_csn, x_csl, x_ret_v, x_ret_t, x_ret_n, x_tl_s, x_tl_n, x_lk0, x_lk, x_rem0, x_rem_i, x_rem_r, x_rem_l, x_rem2_0, x_rem2_i, x_rem2_r, x_rem2_l, x_pick0, x_pick_c, x_st1, x_st2, x_live, x_i, x_l, x_a, x_ild, x_lld, x_rld, x_ist, x_lst, x_rst, x_inc, x_ii, x_ll, x_li, x_cmp, x_ui, x_il, x_lti, x_idiv, x_irem, x_dup_i, x_dup_r, x_pop_i, x_pop_r, x_dupx_ir, x_dup2_ir, x_ifeq, x_iceq, x_iflt, x_iclt, x_ifge, x_icge, x_ifgt, x_icgt, x_ifle, x_icle, x_ifne, x_icne, x_ifnull_r, x_ifnull_n, x_ifnonnull_r, x_ifnonnull_n, x_sw, x_vret, x_iret, x_lret, x_zret, x_zret0, x_zret1, x_rf_s, x_rf_n, x_geti, x_getr, x_puti, x_putz, x_putr, x_ial, x_ias, x_lal, x_las, x_aal, x_aas, x_aast, x_alen, x_new, x_newa, x_copy, x_min, x_abs, x_minl, x_oinit, x_throw, x_callS0, x_callS1, x_callS2, x_callS3, x_callS4, x_callV0, x_callV1, x_callV2, x_callV3, x_callV4, x_callV5, x_retI_v, x_callI0, x_callI1, x_callI2, x_retN_v, x_callSN1, x_callSN2, x_callT0, x_callT1, x_fn, x_sl0, x_sli, x_slr, x_sll, x_ar0, x_ari, x_arr, x_arl, ↓reduceIte, Nat.reduceAdd, Nat.reduceSub, Nat.reduceMul, Nat.reduceEqDiff, Nat.reduceLeDiff, Nat.reduceLT, if_true, if_false, Nat.le_refl, and_true, true_and, and_self, reduceCtorEq, or_false, false_or, or_true, true_or, Nat.zero_le, fa_lit, nI_add, w_mul, nI_ltI, nI_leI, nI_eq, nI_clamp, nI_toInt, if_pos, if_neg, w_div, w_rem2, x_sld, x_cS3, x_cR1, x_cR0, x_retN_v, g1, q1, th, k8a, k8b]

theorem lc_10 (h : w_law S) (hi : i + 6 ≤ L) (hL : L ≤ 3072) : ∃ S', bLc_10 L sc K (q_LV i) [] S = K (q_LV (i + 6)) [] S' ∧ w_law S' ∧ w_le 20 4100 S S' := by
  have k100 := yk100 h.1.1.1
  obtain ⟨S1, c, v, hc, hZ1, f1, f2⟩ := pr_isWall (x := sc (i + 1)) (y := sc (i + 2)) h
  obtain ⟨S1', g1, g2, g3⟩ := lw_isWall hZ1 k100 hc f1
  obtain ⟨S2, q1, q2, q3, q4, q5⟩ := f2 S1' g2
  have zb := q4.2
  have k8a := zk138 (g2.Z hZ1)
  have k8b := zk138 zb
  have k151 := zk151 zb
  have l151 := zl151 zb
  have th := z_thrown zb q2
  have hcb : c ≤ 2 := by omega
  refine ⟨S2, ?_, q4, q5⟩
  clear f1 f2 g2 q4 q5 h
  generalize hF1 : fL_isWall w_N = fL at *
  generalize hF2 : fX11_isWall w_N = fZ at *
  generalize hF3 : fX11_thrown w_N = fT at *
  unfold bLc_10
  rw [hF1, hF2, hF3]
  by_cases c0 : c = 0
  · subst c0
    have gj := (congrFun q3 0).trans (g3 rfl)
    have l0 := lg_self (w := 0)
    have l1 := lg_self (w := 1)
    by_cases v0 : v = nI 0
    · rw [if_pos v0] at gj
      simp (disch := omega) only [kL_law_860, kL_law_866, kL_law_2276, x_cs0, x_csi, x_csr, x_csn, x_csl, x_ret_v, x_ret_t, x_ret_n, x_tl_s, x_tl_n, x_lk0, x_lk, x_rem0, x_rem_i, x_rem_r, x_rem_l, x_rem2_0, x_rem2_i, x_rem2_r, x_rem2_l, x_pick0, x_pick_c, x_st1, x_st2, x_live, x_i, x_l, x_a, x_ild, x_lld, x_rld, x_ist, x_lst, x_rst, x_inc, x_ii, x_ll, x_li, x_cmp, x_ui, x_il, x_lti, x_idiv, x_irem, x_dup_i, x_dup_r, x_pop_i, x_pop_r, x_dupx_ir, x_dup2_ir, x_ifeq, x_iceq, x_iflt, x_iclt, x_ifge, x_icge, x_ifgt, x_icgt, x_ifle, x_icle, x_ifne, x_icne, x_ifnull_r, x_ifnull_n, x_ifnonnull_r, x_ifnonnull_n, x_sw, x_vret, x_iret, x_lret, x_zret, x_zret0, x_zret1, x_rf_s, x_rf_n, x_geti, x_getr, x_puti, x_putz, x_putr, x_ial, x_ias, x_lal, x_las, x_aal, x_aas, x_aast, x_alen, x_new, x_newa, x_copy, x_min, x_abs, x_minl, x_oinit, x_throw, x_callS0, x_callS1, x_callS2, x_callS3, x_callS4, x_callV0, x_callV1, x_callV2, x_callV3, x_callV4, x_callV5, x_retI_v, x_callI0, x_callI1, x_callI2, x_retN_v, x_callSN1, x_callSN2, x_callT0, x_callT1, x_fn, x_sl0, x_sli, x_slr, x_sll, x_ar0, x_ari, x_arr, x_arl, ↓reduceIte, Nat.reduceAdd, Nat.reduceSub, Nat.reduceMul, Nat.reduceEqDiff, Nat.reduceLeDiff, Nat.reduceLT, if_true, if_false, Nat.le_refl, and_true, true_and, and_self, reduceCtorEq, or_false, false_or, or_true, true_or, Nat.zero_le, fa_lit, nI_add, w_mul, nI_ltI, nI_leI, nI_eq, nI_clamp, nI_toInt, if_pos, if_neg, w_div, w_rem2, x_sld, x_cS4, x_cR2, x_cR0, x_retN_v, g1, q1, th, k8a, k8b, k151, l151, gj, l0, l1, v0]
    · rw [if_neg v0] at gj
      simp (disch := omega) only [kL_law_860, kL_law_866, kL_law_2276, x_cs0, x_csi, x_csr, x_csn, x_csl, x_ret_v, x_ret_t, x_ret_n, x_tl_s, x_tl_n, x_lk0, x_lk, x_rem0, x_rem_i, x_rem_r, x_rem_l, x_rem2_0, x_rem2_i, x_rem2_r, x_rem2_l, x_pick0, x_pick_c, x_st1, x_st2, x_live, x_i, x_l, x_a, x_ild, x_lld, x_rld, x_ist, x_lst, x_rst, x_inc, x_ii, x_ll, x_li, x_cmp, x_ui, x_il, x_lti, x_idiv, x_irem, x_dup_i, x_dup_r, x_pop_i, x_pop_r, x_dupx_ir, x_dup2_ir, x_ifeq, x_iceq, x_iflt, x_iclt, x_ifge, x_icge, x_ifgt, x_icgt, x_ifle, x_icle, x_ifne, x_icne, x_ifnull_r, x_ifnull_n, x_ifnonnull_r, x_ifnonnull_n, x_sw, x_vret, x_iret, x_lret, x_zret, x_zret0, x_zret1, x_rf_s, x_rf_n, x_geti, x_getr, x_puti, x_putz, x_putr, x_ial, x_ias, x_lal, x_las, x_aal, x_aas, x_aast, x_alen, x_new, x_newa, x_copy, x_min, x_abs, x_minl, x_oinit, x_throw, x_callS0, x_callS1, x_callS2, x_callS3, x_callS4, x_callV0, x_callV1, x_callV2, x_callV3, x_callV4, x_callV5, x_retI_v, x_callI0, x_callI1, x_callI2, x_retN_v, x_callSN1, x_callSN2, x_callT0, x_callT1, x_fn, x_sl0, x_sli, x_slr, x_sll, x_ar0, x_ari, x_arr, x_arl, ↓reduceIte, Nat.reduceAdd, Nat.reduceSub, Nat.reduceMul, Nat.reduceEqDiff, Nat.reduceLeDiff, Nat.reduceLT, if_true, if_false, Nat.le_refl, and_true, true_and, and_self, reduceCtorEq, or_false, false_or, or_true, true_or, Nat.zero_le, fa_lit, nI_add, w_mul, nI_ltI, nI_leI, nI_eq, nI_clamp, nI_toInt, if_pos, if_neg, w_div, w_rem2, x_sld, x_cS4, x_cR2, x_cR0, x_retN_v, g1, q1, th, k8a, k8b, k151, l151, gj, l0, l1, v0]
  · simp (disch := omega) only [kL_law_860, kL_law_866, kL_law_2276, x_cs0, x_csi, x_csr, x_csn, x_csl, x_ret_v, x_ret_t, x_ret_n, x_tl_s, x_tl_n, x_lk0, x_lk, x_rem0, x_rem_i, x_rem_r, x_rem_l, x_rem2_0, x_rem2_i, x_rem2_r, x_rem2_l, x_pick0, x_pick_c, x_st1, x_st2, x_live, x_i, x_l, x_a, x_ild, x_lld, x_rld, x_ist, x_lst, x_rst, x_inc, x_ii, x_ll, x_li, x_cmp, x_ui, x_il, x_lti, x_idiv, x_irem, x_dup_i, x_dup_r, x_pop_i, x_pop_r, x_dupx_ir, x_dup2_ir, x_ifeq, x_iceq, x_iflt, x_iclt, x_ifge, x_icge, x_ifgt, x_icgt, x_ifle, x_icle, x_ifne, x_icne, x_ifnull_r, x_ifnull_n, x_ifnonnull_r, x_ifnonnull_n, x_sw, x_vret, x_iret, x_lret, x_zret, x_zret0, x_zret1, x_rf_s, x_rf_n, x_geti, x_getr, x_puti, x_putz, x_putr, x_ial, x_ias, x_lal, x_las, x_aal, x_aas, x_aast, x_alen, x_new, x_newa, x_copy, x_min, x_abs, x_minl, x_oinit, x_throw, x_callS0, x_callS1, x_callS2, x_callS3, x_callS4, x_callV0, x_callV1, x_callV2, x_callV3, x_callV4, x_callV5, x_retI_v, x_callI0, x_callI1, x_callI2, x_retN_v, x_callSN1, x_callSN2, x_callT0, x_callT1, x_fn, x_sl0, x_sli, x_slr, x_sll, x_ar0, x_ari, x_arr, x_arl, ↓reduceIte, Nat.reduceAdd, Nat.reduceSub, Nat.reduceMul, Nat.reduceEqDiff, Nat.reduceLeDiff, Nat.reduceLT, if_true, if_false, Nat.le_refl, and_true, true_and, and_self, reduceCtorEq, or_false, false_or, or_true, true_or, Nat.zero_le, fa_lit, nI_add, w_mul, nI_ltI, nI_leI, nI_eq, nI_clamp, nI_toInt, if_pos, if_neg, w_div, w_rem2, x_sld, x_cS4, x_cR2, x_cR0, x_retN_v, g1, q1, th, k8a, k8b]

theorem lc_11 (h : w_law S) (hi : i + 6 ≤ L) (hL : L ≤ 3072) : ∃ S', bLc_11 L sc K (q_LV i) [] S = K (q_LV (i + 6)) [] S' ∧ w_law S' ∧ w_le 20 4100 S S' := by
  have k100 := yk100 h.1.1.1
  obtain ⟨S1, c, v, hc, hZ1, f1, f2⟩ := pr_isWatched (x := sc (i + 1)) (y := sc (i + 2)) (z := sc (i + 3)) h
  obtain ⟨S1', g1, g2, g3⟩ := lw_isWatched hZ1 k100 hc f1
  obtain ⟨S2, q1, q2, q3, q4, q5⟩ := f2 S1' g2
  have zb := q4.2
  have k8a := zk138 (g2.Z hZ1)
  have k8b := zk138 zb
  have k151 := zk151 zb
  have l151 := zl151 zb
  have th := z_thrown zb q2
  have hcb : c ≤ 2 := by omega
  refine ⟨S2, ?_, q4, q5⟩
  clear f1 f2 g2 q4 q5 h
  generalize hF1 : fL_isWatched w_N = fL at *
  generalize hF2 : fX11_isWatched w_N = fZ at *
  generalize hF3 : fX11_thrown w_N = fT at *
  unfold bLc_11
  rw [hF1, hF2, hF3]
  by_cases c0 : c = 0
  · subst c0
    have gj := (congrFun q3 0).trans (g3 rfl)
    have l0 := lg_self (w := 0)
    have l1 := lg_self (w := 1)
    by_cases v0 : v = nI 0
    · rw [if_pos v0] at gj
      simp (disch := omega) only [kL_law_947, kL_law_953, kL_law_2276, x_cs0, x_csi, x_csr, x_csn, x_csl, x_ret_v, x_ret_t, x_ret_n, x_tl_s, x_tl_n, x_lk0, x_lk, x_rem0, x_rem_i, x_rem_r, x_rem_l, x_rem2_0, x_rem2_i, x_rem2_r, x_rem2_l, x_pick0, x_pick_c, x_st1, x_st2, x_live, x_i, x_l, x_a, x_ild, x_lld, x_rld, x_ist, x_lst, x_rst, x_inc, x_ii, x_ll, x_li, x_cmp, x_ui, x_il, x_lti, x_idiv, x_irem, x_dup_i, x_dup_r, x_pop_i, x_pop_r, x_dupx_ir, x_dup2_ir, x_ifeq, x_iceq, x_iflt, x_iclt, x_ifge, x_icge, x_ifgt, x_icgt, x_ifle, x_icle, x_ifne, x_icne, x_ifnull_r, x_ifnull_n, x_ifnonnull_r, x_ifnonnull_n, x_sw, x_vret, x_iret, x_lret, x_zret, x_zret0, x_zret1, x_rf_s, x_rf_n, x_geti, x_getr, x_puti, x_putz, x_putr, x_ial, x_ias, x_lal, x_las, x_aal, x_aas, x_aast, x_alen, x_new, x_newa, x_copy, x_min, x_abs, x_minl, x_oinit, x_throw, x_callS0, x_callS1, x_callS2, x_callS3, x_callS4, x_callV0, x_callV1, x_callV2, x_callV3, x_callV4, x_callV5, x_retI_v, x_callI0, x_callI1, x_callI2, x_retN_v, x_callSN1, x_callSN2, x_callT0, x_callT1, x_fn, x_sl0, x_sli, x_slr, x_sll, x_ar0, x_ari, x_arr, x_arl, ↓reduceIte, Nat.reduceAdd, Nat.reduceSub, Nat.reduceMul, Nat.reduceEqDiff, Nat.reduceLeDiff, Nat.reduceLT, if_true, if_false, Nat.le_refl, and_true, true_and, and_self, reduceCtorEq, or_false, false_or, or_true, true_or, Nat.zero_le, fa_lit, nI_add, w_mul, nI_ltI, nI_leI, nI_eq, nI_clamp, nI_toInt, if_pos, if_neg, w_div, w_rem2, x_sld, x_cS5, x_cR3, x_cR0, x_retN_v, g1, q1, th, k8a, k8b, k151, l151, gj, l0, l1, v0]
    · rw [if_neg v0] at gj
      simp (disch := omega) only [kL_law_947, kL_law_953, kL_law_2276, x_cs0, x_csi, x_csr, x_csn, x_csl, x_ret_v, x_ret_t, x_ret_n, x_tl_s, x_tl_n, x_lk0, x_lk, x_rem0, x_rem_i, x_rem_r, x_rem_l, x_rem2_0, x_rem2_i, x_rem2_r, x_rem2_l, x_pick0, x_pick_c, x_st1, x_st2, x_live, x_i, x_l, x_a, x_ild, x_lld, x_rld, x_ist, x_lst, x_rst, x_inc, x_ii, x_ll, x_li, x_cmp, x_ui, x_il, x_lti, x_idiv, x_irem, x_dup_i, x_dup_r, x_pop_i, x_pop_r, x_dupx_ir, x_dup2_ir, x_ifeq, x_iceq, x_iflt, x_iclt, x_ifge, x_icge, x_ifgt, x_icgt, x_ifle, x_icle, x_ifne, x_icne, x_ifnull_r, x_ifnull_n, x_ifnonnull_r, x_ifnonnull_n, x_sw, x_vret, x_iret, x_lret, x_zret, x_zret0, x_zret1, x_rf_s, x_rf_n, x_geti, x_getr, x_puti, x_putz, x_putr, x_ial, x_ias, x_lal, x_las, x_aal, x_aas, x_aast, x_alen, x_new, x_newa, x_copy, x_min, x_abs, x_minl, x_oinit, x_throw, x_callS0, x_callS1, x_callS2, x_callS3, x_callS4, x_callV0, x_callV1, x_callV2, x_callV3, x_callV4, x_callV5, x_retI_v, x_callI0, x_callI1, x_callI2, x_retN_v, x_callSN1, x_callSN2, x_callT0, x_callT1, x_fn, x_sl0, x_sli, x_slr, x_sll, x_ar0, x_ari, x_arr, x_arl, ↓reduceIte, Nat.reduceAdd, Nat.reduceSub, Nat.reduceMul, Nat.reduceEqDiff, Nat.reduceLeDiff, Nat.reduceLT, if_true, if_false, Nat.le_refl, and_true, true_and, and_self, reduceCtorEq, or_false, false_or, or_true, true_or, Nat.zero_le, fa_lit, nI_add, w_mul, nI_ltI, nI_leI, nI_eq, nI_clamp, nI_toInt, if_pos, if_neg, w_div, w_rem2, x_sld, x_cS5, x_cR3, x_cR0, x_retN_v, g1, q1, th, k8a, k8b, k151, l151, gj, l0, l1, v0]
  · simp (disch := omega) only [kL_law_947, kL_law_953, kL_law_2276, x_cs0, x_csi, x_csr, x_csn, x_csl, x_ret_v, x_ret_t, x_ret_n, x_tl_s, x_tl_n, x_lk0, x_lk, x_rem0, x_rem_i, x_rem_r, x_rem_l, x_rem2_0, x_rem2_i, x_rem2_r, x_rem2_l, x_pick0, x_pick_c, x_st1, x_st2, x_live, x_i, x_l, x_a, x_ild, x_lld, x_rld, x_ist, x_lst, x_rst, x_inc, x_ii, x_ll, x_li, x_cmp, x_ui, x_il, x_lti, x_idiv, x_irem, x_dup_i, x_dup_r, x_pop_i, x_pop_r, x_dupx_ir, x_dup2_ir, x_ifeq, x_iceq, x_iflt, x_iclt, x_ifge, x_icge, x_ifgt, x_icgt, x_ifle, x_icle, x_ifne, x_icne, x_ifnull_r, x_ifnull_n, x_ifnonnull_r, x_ifnonnull_n, x_sw, x_vret, x_iret, x_lret, x_zret, x_zret0, x_zret1, x_rf_s, x_rf_n, x_geti, x_getr, x_puti, x_putz, x_putr, x_ial, x_ias, x_lal, x_las, x_aal, x_aas, x_aast, x_alen, x_new, x_newa, x_copy, x_min, x_abs, x_minl, x_oinit, x_throw, x_callS0, x_callS1, x_callS2, x_callS3, x_callS4, x_callV0, x_callV1, x_callV2, x_callV3, x_callV4, x_callV5, x_retI_v, x_callI0, x_callI1, x_callI2, x_retN_v, x_callSN1, x_callSN2, x_callT0, x_callT1, x_fn, x_sl0, x_sli, x_slr, x_sll, x_ar0, x_ari, x_arr, x_arl, ↓reduceIte, Nat.reduceAdd, Nat.reduceSub, Nat.reduceMul, Nat.reduceEqDiff, Nat.reduceLeDiff, Nat.reduceLT, if_true, if_false, Nat.le_refl, and_true, true_and, and_self, reduceCtorEq, or_false, false_or, or_true, true_or, Nat.zero_le, fa_lit, nI_add, w_mul, nI_ltI, nI_leI, nI_eq, nI_clamp, nI_toInt, if_pos, if_neg, w_div, w_rem2, x_sld, x_cS5, x_cR3, x_cR0, x_retN_v, g1, q1, th, k8a, k8b]

theorem lc_12 (h : w_law S) (hi : i + 6 ≤ L) (hL : L ≤ 3072) : ∃ S', bLc_12 L sc K (q_LV i) [] S = K (q_LV (i + 6)) [] S' ∧ w_law S' ∧ w_le 20 4100 S S' := by
  have k100 := yk100 h.1.1.1
  obtain ⟨S1, c, v, hc, hZ1, f1, f2⟩ := pr_distance (x := sc (i + 1)) (y := sc (i + 2)) (z := sc (i + 3)) (t := sc (i + 4)) h
  obtain ⟨S1', g1, g2, g3⟩ := lw_distance hZ1 k100 hc f1
  obtain ⟨S2, q1, q2, q3, q4, q5⟩ := f2 S1' g2
  have zb := q4.2
  have k8a := zk138 (g2.Z hZ1)
  have k8b := zk138 zb
  have k151 := zk151 zb
  have l151 := zl151 zb
  have th := z_thrown zb q2
  have hcb : c ≤ 2 := by omega
  refine ⟨S2, ?_, q4, q5⟩
  clear f1 f2 g2 q4 q5 h
  generalize hF1 : fL_distance w_N = fL at *
  generalize hF2 : fX11_distance w_N = fZ at *
  generalize hF3 : fX11_thrown w_N = fT at *
  unfold bLc_12
  rw [hF1, hF2, hF3]
  by_cases c0 : c = 0
  · subst c0
    have gj := (congrFun q3 0).trans (g3 rfl)
    have l0 := lg_self (w := v.toInt64)
    simp (disch := omega) only [kL_law_1045, kL_law_2276, x_cs0, x_csi, x_csr, x_csn, x_csl, x_ret_v, x_ret_t, x_ret_n, x_tl_s, x_tl_n, x_lk0, x_lk, x_rem0, x_rem_i, x_rem_r, x_rem_l, x_rem2_0, x_rem2_i, x_rem2_r, x_rem2_l, x_pick0, x_pick_c, x_st1, x_st2, x_live, x_i, x_l, x_a, x_ild, x_lld, x_rld, x_ist, x_lst, x_rst, x_inc, x_ii, x_ll, x_li, x_cmp, x_ui, x_il, x_lti, x_idiv, x_irem, x_dup_i, x_dup_r, x_pop_i, x_pop_r, x_dupx_ir, x_dup2_ir, x_ifeq, x_iceq, x_iflt, x_iclt, x_ifge, x_icge, x_ifgt, x_icgt, x_ifle, x_icle, x_ifne, x_icne, x_ifnull_r, x_ifnull_n, x_ifnonnull_r, x_ifnonnull_n, x_sw, x_vret, x_iret, x_lret, x_zret, x_zret0, x_zret1, x_rf_s, x_rf_n, x_geti, x_getr, x_puti, x_putz, x_putr, x_ial, x_ias, x_lal, x_las, x_aal, x_aas, x_aast, x_alen, x_new, x_newa, x_copy, x_min, x_abs, x_minl, x_oinit, x_throw, x_callS0, x_callS1, x_callS2, x_callS3, x_callS4, x_callV0, x_callV1, x_callV2, x_callV3, x_callV4, x_callV5, x_retI_v, x_callI0, x_callI1, x_callI2, x_retN_v, x_callSN1, x_callSN2, x_callT0, x_callT1, x_fn, x_sl0, x_sli, x_slr, x_sll, x_ar0, x_ari, x_arr, x_arl, ↓reduceIte, Nat.reduceAdd, Nat.reduceSub, Nat.reduceMul, Nat.reduceEqDiff, Nat.reduceLeDiff, Nat.reduceLT, if_true, if_false, Nat.le_refl, and_true, true_and, and_self, reduceCtorEq, or_false, false_or, or_true, true_or, Nat.zero_le, fa_lit, nI_add, w_mul, nI_ltI, nI_leI, nI_eq, nI_clamp, nI_toInt, if_pos, if_neg, w_div, w_rem2, x_sld, x_cS6, x_cR4, x_cR0, x_retN_v, g1, q1, th, k8a, k8b, k151, l151, gj, l0]
  · simp (disch := omega) only [kL_law_1045, kL_law_2276, x_cs0, x_csi, x_csr, x_csn, x_csl, x_ret_v, x_ret_t, x_ret_n, x_tl_s, x_tl_n, x_lk0, x_lk, x_rem0, x_rem_i, x_rem_r, x_rem_l, x_rem2_0, x_rem2_i, x_rem2_r, x_rem2_l, x_pick0, x_pick_c, x_st1, x_st2, x_live, x_i, x_l, x_a, x_ild, x_lld, x_rld, x_ist, x_lst, x_rst, x_inc, x_ii, x_ll, x_li, x_cmp, x_ui, x_il, x_lti, x_idiv, x_irem, x_dup_i, x_dup_r, x_pop_i, x_pop_r, x_dupx_ir, x_dup2_ir, x_ifeq, x_iceq, x_iflt, x_iclt, x_ifge, x_icge, x_ifgt, x_icgt, x_ifle, x_icle, x_ifne, x_icne, x_ifnull_r, x_ifnull_n, x_ifnonnull_r, x_ifnonnull_n, x_sw, x_vret, x_iret, x_lret, x_zret, x_zret0, x_zret1, x_rf_s, x_rf_n, x_geti, x_getr, x_puti, x_putz, x_putr, x_ial, x_ias, x_lal, x_las, x_aal, x_aas, x_aast, x_alen, x_new, x_newa, x_copy, x_min, x_abs, x_minl, x_oinit, x_throw, x_callS0, x_callS1, x_callS2, x_callS3, x_callS4, x_callV0, x_callV1, x_callV2, x_callV3, x_callV4, x_callV5, x_retI_v, x_callI0, x_callI1, x_callI2, x_retN_v, x_callSN1, x_callSN2, x_callT0, x_callT1, x_fn, x_sl0, x_sli, x_slr, x_sll, x_ar0, x_ari, x_arr, x_arl, ↓reduceIte, Nat.reduceAdd, Nat.reduceSub, Nat.reduceMul, Nat.reduceEqDiff, Nat.reduceLeDiff, Nat.reduceLT, if_true, if_false, Nat.le_refl, and_true, true_and, and_self, reduceCtorEq, or_false, false_or, or_true, true_or, Nat.zero_le, fa_lit, nI_add, w_mul, nI_ltI, nI_leI, nI_eq, nI_clamp, nI_toInt, if_pos, if_neg, w_div, w_rem2, x_sld, x_cS6, x_cR4, x_cR0, x_retN_v, g1, q1, th, k8a, k8b]

theorem lc_13 (h : w_law S) (hi : i + 6 ≤ L) (hL : L ≤ 3072) : ∃ S', bLc_13 L sc K (q_LV i) [] S = K (q_LV (i + 6)) [] S' ∧ w_law S' ∧ w_le 20 4100 S S' := by
  have k100 := yk100 h.1.1.1
  obtain ⟨S1, c, v, hc, hZ1, f1, f2⟩ := pr_step (x := sc (i + 1)) (y := sc (i + 2)) (z := sc (i + 3)) (t := sc (i + 4)) h
  obtain ⟨S1', g1, g2, g3⟩ := lw_step hZ1 k100 hc f1
  obtain ⟨S2, q1, q2, q3, q4, q5⟩ := f2 S1' g2
  have zb := q4.2
  have k8a := zk138 (g2.Z hZ1)
  have k8b := zk138 zb
  have k151 := zk151 zb
  have l151 := zl151 zb
  have th := z_thrown zb q2
  have hcb : c ≤ 2 := by omega
  refine ⟨S2, ?_, q4, q5⟩
  clear f1 f2 g2 q4 q5 h
  generalize hF1 : fL_step w_N = fL at *
  generalize hF2 : fX11_step w_N = fZ at *
  generalize hF3 : fX11_thrown w_N = fT at *
  unfold bLc_13
  rw [hF1, hF2, hF3]
  by_cases c0 : c = 0
  · subst c0
    have gj := (congrFun q3 0).trans (g3 rfl)
    have l0 := lg_self (w := v.toInt64)
    simp (disch := omega) only [kL_law_1137, kL_law_2276, x_cs0, x_csi, x_csr, x_csn, x_csl, x_ret_v, x_ret_t, x_ret_n, x_tl_s, x_tl_n, x_lk0, x_lk, x_rem0, x_rem_i, x_rem_r, x_rem_l, x_rem2_0, x_rem2_i, x_rem2_r, x_rem2_l, x_pick0, x_pick_c, x_st1, x_st2, x_live, x_i, x_l, x_a, x_ild, x_lld, x_rld, x_ist, x_lst, x_rst, x_inc, x_ii, x_ll, x_li, x_cmp, x_ui, x_il, x_lti, x_idiv, x_irem, x_dup_i, x_dup_r, x_pop_i, x_pop_r, x_dupx_ir, x_dup2_ir, x_ifeq, x_iceq, x_iflt, x_iclt, x_ifge, x_icge, x_ifgt, x_icgt, x_ifle, x_icle, x_ifne, x_icne, x_ifnull_r, x_ifnull_n, x_ifnonnull_r, x_ifnonnull_n, x_sw, x_vret, x_iret, x_lret, x_zret, x_zret0, x_zret1, x_rf_s, x_rf_n, x_geti, x_getr, x_puti, x_putz, x_putr, x_ial, x_ias, x_lal, x_las, x_aal, x_aas, x_aast, x_alen, x_new, x_newa, x_copy, x_min, x_abs, x_minl, x_oinit, x_throw, x_callS0, x_callS1, x_callS2, x_callS3, x_callS4, x_callV0, x_callV1, x_callV2, x_callV3, x_callV4, x_callV5, x_retI_v, x_callI0, x_callI1, x_callI2, x_retN_v, x_callSN1, x_callSN2, x_callT0, x_callT1, x_fn, x_sl0, x_sli, x_slr, x_sll, x_ar0, x_ari, x_arr, x_arl, ↓reduceIte, Nat.reduceAdd, Nat.reduceSub, Nat.reduceMul, Nat.reduceEqDiff, Nat.reduceLeDiff, Nat.reduceLT, if_true, if_false, Nat.le_refl, and_true, true_and, and_self, reduceCtorEq, or_false, false_or, or_true, true_or, Nat.zero_le, fa_lit, nI_add, w_mul, nI_ltI, nI_leI, nI_eq, nI_clamp, nI_toInt, if_pos, if_neg, w_div, w_rem2, x_sld, x_cS6, x_cR4, x_cR0, x_retN_v, g1, q1, th, k8a, k8b, k151, l151, gj, l0]
  · simp (disch := omega) only [kL_law_1137, kL_law_2276, x_cs0, x_csi, x_csr, x_csn, x_csl, x_ret_v, x_ret_t, x_ret_n, x_tl_s, x_tl_n, x_lk0, x_lk, x_rem0, x_rem_i, x_rem_r, x_rem_l, x_rem2_0, x_rem2_i, x_rem2_r, x_rem2_l, x_pick0, x_pick_c, x_st1, x_st2, x_live, x_i, x_l, x_a, x_ild, x_lld, x_rld, x_ist, x_lst, x_rst, x_inc, x_ii, x_ll, x_li, x_cmp, x_ui, x_il, x_lti, x_idiv, x_irem, x_dup_i, x_dup_r, x_pop_i, x_pop_r, x_dupx_ir, x_dup2_ir, x_ifeq, x_iceq, x_iflt, x_iclt, x_ifge, x_icge, x_ifgt, x_icgt, x_ifle, x_icle, x_ifne, x_icne, x_ifnull_r, x_ifnull_n, x_ifnonnull_r, x_ifnonnull_n, x_sw, x_vret, x_iret, x_lret, x_zret, x_zret0, x_zret1, x_rf_s, x_rf_n, x_geti, x_getr, x_puti, x_putz, x_putr, x_ial, x_ias, x_lal, x_las, x_aal, x_aas, x_aast, x_alen, x_new, x_newa, x_copy, x_min, x_abs, x_minl, x_oinit, x_throw, x_callS0, x_callS1, x_callS2, x_callS3, x_callS4, x_callV0, x_callV1, x_callV2, x_callV3, x_callV4, x_callV5, x_retI_v, x_callI0, x_callI1, x_callI2, x_retN_v, x_callSN1, x_callSN2, x_callT0, x_callT1, x_fn, x_sl0, x_sli, x_slr, x_sll, x_ar0, x_ari, x_arr, x_arl, ↓reduceIte, Nat.reduceAdd, Nat.reduceSub, Nat.reduceMul, Nat.reduceEqDiff, Nat.reduceLeDiff, Nat.reduceLT, if_true, if_false, Nat.le_refl, and_true, true_and, and_self, reduceCtorEq, or_false, false_or, or_true, true_or, Nat.zero_le, fa_lit, nI_add, w_mul, nI_ltI, nI_leI, nI_eq, nI_clamp, nI_toInt, if_pos, if_neg, w_div, w_rem2, x_sld, x_cS6, x_cR4, x_cR0, x_retN_v, g1, q1, th, k8a, k8b]

theorem lc_14 (h : w_law S) (hi : i + 6 ≤ L) (hL : L ≤ 3072) : ∃ S', bLc_14 L sc K (q_LV i) [] S = K (q_LV (i + 6)) [] S' ∧ w_law S' ∧ w_le 20 4100 S S' := by
  have k100 := yk100 h.1.1.1
  obtain ⟨S1, c, v, hc, hZ1, f1, f2⟩ := pr_wasAt (x := sc (i + 1)) (y := sc (i + 2)) h
  obtain ⟨S1', g1, g2, g3⟩ := lw_wasAt hZ1 k100 hc f1
  obtain ⟨S2, q1, q2, q3, q4, q5⟩ := f2 S1' g2
  have zb := q4.2
  have k8a := zk138 (g2.Z hZ1)
  have k8b := zk138 zb
  have k151 := zk151 zb
  have l151 := zl151 zb
  have th := z_thrown zb q2
  have hcb : c ≤ 2 := by omega
  refine ⟨S2, ?_, q4, q5⟩
  clear f1 f2 g2 q4 q5 h
  generalize hF1 : fL_wasAt w_N = fL at *
  generalize hF2 : fX11_wasAt w_N = fZ at *
  generalize hF3 : fX11_thrown w_N = fT at *
  unfold bLc_14
  rw [hF1, hF2, hF3]
  by_cases c0 : c = 0
  · subst c0
    have gj := (congrFun q3 0).trans (g3 rfl)
    have l0 := lg_self (w := v.toInt64)
    simp (disch := omega) only [kL_law_1205, kL_law_2276, x_cs0, x_csi, x_csr, x_csn, x_csl, x_ret_v, x_ret_t, x_ret_n, x_tl_s, x_tl_n, x_lk0, x_lk, x_rem0, x_rem_i, x_rem_r, x_rem_l, x_rem2_0, x_rem2_i, x_rem2_r, x_rem2_l, x_pick0, x_pick_c, x_st1, x_st2, x_live, x_i, x_l, x_a, x_ild, x_lld, x_rld, x_ist, x_lst, x_rst, x_inc, x_ii, x_ll, x_li, x_cmp, x_ui, x_il, x_lti, x_idiv, x_irem, x_dup_i, x_dup_r, x_pop_i, x_pop_r, x_dupx_ir, x_dup2_ir, x_ifeq, x_iceq, x_iflt, x_iclt, x_ifge, x_icge, x_ifgt, x_icgt, x_ifle, x_icle, x_ifne, x_icne, x_ifnull_r, x_ifnull_n, x_ifnonnull_r, x_ifnonnull_n, x_sw, x_vret, x_iret, x_lret, x_zret, x_zret0, x_zret1, x_rf_s, x_rf_n, x_geti, x_getr, x_puti, x_putz, x_putr, x_ial, x_ias, x_lal, x_las, x_aal, x_aas, x_aast, x_alen, x_new, x_newa, x_copy, x_min, x_abs, x_minl, x_oinit, x_throw, x_callS0, x_callS1, x_callS2, x_callS3, x_callS4, x_callV0, x_callV1, x_callV2, x_callV3, x_callV4, x_callV5, x_retI_v, x_callI0, x_callI1, x_callI2, x_retN_v, x_callSN1, x_callSN2, x_callT0, x_callT1, x_fn, x_sl0, x_sli, x_slr, x_sll, x_ar0, x_ari, x_arr, x_arl, ↓reduceIte, Nat.reduceAdd, Nat.reduceSub, Nat.reduceMul, Nat.reduceEqDiff, Nat.reduceLeDiff, Nat.reduceLT, if_true, if_false, Nat.le_refl, and_true, true_and, and_self, reduceCtorEq, or_false, false_or, or_true, true_or, Nat.zero_le, fa_lit, nI_add, w_mul, nI_ltI, nI_leI, nI_eq, nI_clamp, nI_toInt, if_pos, if_neg, w_div, w_rem2, x_sld, x_cS4, x_cR2, x_cR0, x_retN_v, g1, q1, th, k8a, k8b, k151, l151, gj, l0]
  · simp (disch := omega) only [kL_law_1205, kL_law_2276, x_cs0, x_csi, x_csr, x_csn, x_csl, x_ret_v, x_ret_t, x_ret_n, x_tl_s, x_tl_n, x_lk0, x_lk, x_rem0, x_rem_i, x_rem_r, x_rem_l, x_rem2_0, x_rem2_i, x_rem2_r, x_rem2_l, x_pick0, x_pick_c, x_st1, x_st2, x_live, x_i, x_l, x_a, x_ild, x_lld, x_rld, x_ist, x_lst, x_rst, x_inc, x_ii, x_ll, x_li, x_cmp, x_ui, x_il, x_lti, x_idiv, x_irem, x_dup_i, x_dup_r, x_pop_i, x_pop_r, x_dupx_ir, x_dup2_ir, x_ifeq, x_iceq, x_iflt, x_iclt, x_ifge, x_icge, x_ifgt, x_icgt, x_ifle, x_icle, x_ifne, x_icne, x_ifnull_r, x_ifnull_n, x_ifnonnull_r, x_ifnonnull_n, x_sw, x_vret, x_iret, x_lret, x_zret, x_zret0, x_zret1, x_rf_s, x_rf_n, x_geti, x_getr, x_puti, x_putz, x_putr, x_ial, x_ias, x_lal, x_las, x_aal, x_aas, x_aast, x_alen, x_new, x_newa, x_copy, x_min, x_abs, x_minl, x_oinit, x_throw, x_callS0, x_callS1, x_callS2, x_callS3, x_callS4, x_callV0, x_callV1, x_callV2, x_callV3, x_callV4, x_callV5, x_retI_v, x_callI0, x_callI1, x_callI2, x_retN_v, x_callSN1, x_callSN2, x_callT0, x_callT1, x_fn, x_sl0, x_sli, x_slr, x_sll, x_ar0, x_ari, x_arr, x_arl, ↓reduceIte, Nat.reduceAdd, Nat.reduceSub, Nat.reduceMul, Nat.reduceEqDiff, Nat.reduceLeDiff, Nat.reduceLT, if_true, if_false, Nat.le_refl, and_true, true_and, and_self, reduceCtorEq, or_false, false_or, or_true, true_or, Nat.zero_le, fa_lit, nI_add, w_mul, nI_ltI, nI_leI, nI_eq, nI_clamp, nI_toInt, if_pos, if_neg, w_div, w_rem2, x_sld, x_cS4, x_cR2, x_cR0, x_retN_v, g1, q1, th, k8a, k8b]

theorem lc_15 (h : w_law S) (hi : i + 6 ≤ L) (hL : L ≤ 3072) : ∃ S', bLc_15 L sc K (q_LV i) [] S = K (q_LV (i + 6)) [] S' ∧ w_law S' ∧ w_le 20 4100 S S' := by
  have k100 := yk100 h.1.1.1
  obtain ⟨S1, c, v, hc, hZ1, f1, f2⟩ := pr_stateAt (x := sc (i + 1)) (y := sc (i + 2)) h
  obtain ⟨S1', g1, g2, g3⟩ := lw_stateAt hZ1 k100 hc f1
  obtain ⟨S2, q1, q2, q3, q4, q5⟩ := f2 S1' g2
  have zb := q4.2
  have k8a := zk138 (g2.Z hZ1)
  have k8b := zk138 zb
  have k151 := zk151 zb
  have l151 := zl151 zb
  have th := z_thrown zb q2
  have hcb : c ≤ 2 := by omega
  refine ⟨S2, ?_, q4, q5⟩
  clear f1 f2 g2 q4 q5 h
  generalize hF1 : fL_stateAt w_N = fL at *
  generalize hF2 : fX11_stateAt w_N = fZ at *
  generalize hF3 : fX11_thrown w_N = fT at *
  unfold bLc_15
  rw [hF1, hF2, hF3]
  by_cases c0 : c = 0
  · subst c0
    have gj := (congrFun q3 0).trans (g3 rfl)
    have l0 := lg_self (w := v.toInt64)
    simp (disch := omega) only [kL_law_1273, kL_law_2276, x_cs0, x_csi, x_csr, x_csn, x_csl, x_ret_v, x_ret_t, x_ret_n, x_tl_s, x_tl_n, x_lk0, x_lk, x_rem0, x_rem_i, x_rem_r, x_rem_l, x_rem2_0, x_rem2_i, x_rem2_r, x_rem2_l, x_pick0, x_pick_c, x_st1, x_st2, x_live, x_i, x_l, x_a, x_ild, x_lld, x_rld, x_ist, x_lst, x_rst, x_inc, x_ii, x_ll, x_li, x_cmp, x_ui, x_il, x_lti, x_idiv, x_irem, x_dup_i, x_dup_r, x_pop_i, x_pop_r, x_dupx_ir, x_dup2_ir, x_ifeq, x_iceq, x_iflt, x_iclt, x_ifge, x_icge, x_ifgt, x_icgt, x_ifle, x_icle, x_ifne, x_icne, x_ifnull_r, x_ifnull_n, x_ifnonnull_r, x_ifnonnull_n, x_sw, x_vret, x_iret, x_lret, x_zret, x_zret0, x_zret1, x_rf_s, x_rf_n, x_geti, x_getr, x_puti, x_putz, x_putr, x_ial, x_ias, x_lal, x_las, x_aal, x_aas, x_aast, x_alen, x_new, x_newa, x_copy, x_min, x_abs, x_minl, x_oinit, x_throw, x_callS0, x_callS1, x_callS2, x_callS3, x_callS4, x_callV0, x_callV1, x_callV2, x_callV3, x_callV4, x_callV5, x_retI_v, x_callI0, x_callI1, x_callI2, x_retN_v, x_callSN1, x_callSN2, x_callT0, x_callT1, x_fn, x_sl0, x_sli, x_slr, x_sll, x_ar0, x_ari, x_arr, x_arl, ↓reduceIte, Nat.reduceAdd, Nat.reduceSub, Nat.reduceMul, Nat.reduceEqDiff, Nat.reduceLeDiff, Nat.reduceLT, if_true, if_false, Nat.le_refl, and_true, true_and, and_self, reduceCtorEq, or_false, false_or, or_true, true_or, Nat.zero_le, fa_lit, nI_add, w_mul, nI_ltI, nI_leI, nI_eq, nI_clamp, nI_toInt, if_pos, if_neg, w_div, w_rem2, x_sld, x_cS4, x_cR2, x_cR0, x_retN_v, g1, q1, th, k8a, k8b, k151, l151, gj, l0]
  · simp (disch := omega) only [kL_law_1273, kL_law_2276, x_cs0, x_csi, x_csr, x_csn, x_csl, x_ret_v, x_ret_t, x_ret_n, x_tl_s, x_tl_n, x_lk0, x_lk, x_rem0, x_rem_i, x_rem_r, x_rem_l, x_rem2_0, x_rem2_i, x_rem2_r, x_rem2_l, x_pick0, x_pick_c, x_st1, x_st2, x_live, x_i, x_l, x_a, x_ild, x_lld, x_rld, x_ist, x_lst, x_rst, x_inc, x_ii, x_ll, x_li, x_cmp, x_ui, x_il, x_lti, x_idiv, x_irem, x_dup_i, x_dup_r, x_pop_i, x_pop_r, x_dupx_ir, x_dup2_ir, x_ifeq, x_iceq, x_iflt, x_iclt, x_ifge, x_icge, x_ifgt, x_icgt, x_ifle, x_icle, x_ifne, x_icne, x_ifnull_r, x_ifnull_n, x_ifnonnull_r, x_ifnonnull_n, x_sw, x_vret, x_iret, x_lret, x_zret, x_zret0, x_zret1, x_rf_s, x_rf_n, x_geti, x_getr, x_puti, x_putz, x_putr, x_ial, x_ias, x_lal, x_las, x_aal, x_aas, x_aast, x_alen, x_new, x_newa, x_copy, x_min, x_abs, x_minl, x_oinit, x_throw, x_callS0, x_callS1, x_callS2, x_callS3, x_callS4, x_callV0, x_callV1, x_callV2, x_callV3, x_callV4, x_callV5, x_retI_v, x_callI0, x_callI1, x_callI2, x_retN_v, x_callSN1, x_callSN2, x_callT0, x_callT1, x_fn, x_sl0, x_sli, x_slr, x_sll, x_ar0, x_ari, x_arr, x_arl, ↓reduceIte, Nat.reduceAdd, Nat.reduceSub, Nat.reduceMul, Nat.reduceEqDiff, Nat.reduceLeDiff, Nat.reduceLT, if_true, if_false, Nat.le_refl, and_true, true_and, and_self, reduceCtorEq, or_false, false_or, or_true, true_or, Nat.zero_le, fa_lit, nI_add, w_mul, nI_ltI, nI_leI, nI_eq, nI_clamp, nI_toInt, if_pos, if_neg, w_div, w_rem2, x_sld, x_cS4, x_cR2, x_cR0, x_retN_v, g1, q1, th, k8a, k8b]

theorem lc_16 (h : w_law S) (hi : i + 6 ≤ L) (hL : L ≤ 3072) : ∃ S', bLc_16 L sc K (q_LV i) [] S = K (q_LV (i + 6)) [] S' ∧ w_law S' ∧ w_le 20 4100 S S' := by
  have k100 := yk100 h.1.1.1
  obtain ⟨S1, hZ1, g1, S2, q1, q4, q5⟩ := pr_crossed  h
  have k8a : am_k S1 138 = 11 := zk138 hZ1
  refine ⟨S2, ?_, q4, q5⟩
  clear q4 q5 h
  generalize hF1 : fX10_crossed w_N = fY at *
  generalize hF2 : fX11_crossed w_N = fZ at *
  unfold bLc_16
  rw [hF1, hF2]
  simp (disch := omega) only [kL_law_2276, x_cs0, x_csi, x_csr, x_csn, x_csl, x_ret_v, x_ret_t, x_ret_n, x_tl_s, x_tl_n, x_lk0, x_lk, x_rem0, x_rem_i, x_rem_r, x_rem_l, x_rem2_0, x_rem2_i, x_rem2_r, x_rem2_l, x_pick0, x_pick_c, x_st1, x_st2, x_live, x_i, x_l, x_a, x_ild, x_lld, x_rld, x_ist, x_lst, x_rst, x_inc, x_ii, x_ll, x_li, x_cmp, x_ui, x_il, x_lti, x_idiv, x_irem, x_dup_i, x_dup_r, x_pop_i, x_pop_r, x_dupx_ir, x_dup2_ir, x_ifeq, x_iceq, x_iflt, x_iclt, x_ifge, x_icge, x_ifgt, x_icgt, x_ifle, x_icle, x_ifne, x_icne, x_ifnull_r, x_ifnull_n, x_ifnonnull_r, x_ifnonnull_n, x_sw, x_vret, x_iret, x_lret, x_zret, x_zret0, x_zret1, x_rf_s, x_rf_n, x_geti, x_getr, x_puti, x_putz, x_putr, x_ial, x_ias, x_lal, x_las, x_aal, x_aas, x_aast, x_alen, x_new, x_newa, x_copy, x_min, x_abs, x_minl, x_oinit, x_throw, x_callS0, x_callS1, x_callS2, x_callS3, x_callS4, x_callV0, x_callV1, x_callV2, x_callV3, x_callV4, x_callV5, x_retI_v, x_callI0, x_callI1, x_callI2, x_retN_v, x_callSN1, x_callSN2, x_callT0, x_callT1, x_fn, x_sl0, x_sli, x_slr, x_sll, x_ar0, x_ari, x_arr, x_arl, ↓reduceIte, Nat.reduceAdd, Nat.reduceSub, Nat.reduceMul, Nat.reduceEqDiff, Nat.reduceLeDiff, Nat.reduceLT, if_true, if_false, Nat.le_refl, and_true, true_and, and_self, reduceCtorEq, or_false, false_or, or_true, true_or, Nat.zero_le, fa_lit, nI_add, w_mul, nI_ltI, nI_leI, nI_eq, nI_clamp, nI_toInt, if_pos, if_neg, w_div, w_rem2, x_sld, x_cR0, x_retN_v, g1, q1, k100, k8a]

theorem lc_17 (h : w_law S) (hi : i + 6 ≤ L) (hL : L ≤ 3072) : ∃ S', bLc_17 L sc K (q_LV i) [] S = K (q_LV (i + 6)) [] S' ∧ w_law S' ∧ w_le 20 4100 S S' := by
  have k100 := yk100 h.1.1.1
  obtain ⟨S1, c, v, hc, hZ1, f1, f2⟩ := pr_wouldBe (x := sc (i + 1)) (y := sc (i + 2)) (z := sc (i + 3)) (t := sc (i + 4)) h
  obtain ⟨S1', g1, g2, g3⟩ := lw_wouldBe hZ1 k100 hc f1
  obtain ⟨S2, q1, q2, q3, q4, q5⟩ := f2 S1' g2
  have zb := q4.2
  have k8a := zk138 (g2.Z hZ1)
  have k8b := zk138 zb
  have k151 := zk151 zb
  have l151 := zl151 zb
  have th := z_thrown zb q2
  have hcb : c ≤ 2 := by omega
  refine ⟨S2, ?_, q4, q5⟩
  clear f1 f2 g2 q4 q5 h
  generalize hF1 : fL_wouldBe w_N = fL at *
  generalize hF2 : fX11_wouldBe w_N = fZ at *
  generalize hF3 : fX11_thrown w_N = fT at *
  unfold bLc_17
  rw [hF1, hF2, hF3]
  by_cases c0 : c = 0
  · subst c0
    have gj := (congrFun q3 0).trans (g3 rfl)
    have l0 := lg_self (w := v.toInt64)
    simp (disch := omega) only [kL_law_1378, kL_law_2276, x_cs0, x_csi, x_csr, x_csn, x_csl, x_ret_v, x_ret_t, x_ret_n, x_tl_s, x_tl_n, x_lk0, x_lk, x_rem0, x_rem_i, x_rem_r, x_rem_l, x_rem2_0, x_rem2_i, x_rem2_r, x_rem2_l, x_pick0, x_pick_c, x_st1, x_st2, x_live, x_i, x_l, x_a, x_ild, x_lld, x_rld, x_ist, x_lst, x_rst, x_inc, x_ii, x_ll, x_li, x_cmp, x_ui, x_il, x_lti, x_idiv, x_irem, x_dup_i, x_dup_r, x_pop_i, x_pop_r, x_dupx_ir, x_dup2_ir, x_ifeq, x_iceq, x_iflt, x_iclt, x_ifge, x_icge, x_ifgt, x_icgt, x_ifle, x_icle, x_ifne, x_icne, x_ifnull_r, x_ifnull_n, x_ifnonnull_r, x_ifnonnull_n, x_sw, x_vret, x_iret, x_lret, x_zret, x_zret0, x_zret1, x_rf_s, x_rf_n, x_geti, x_getr, x_puti, x_putz, x_putr, x_ial, x_ias, x_lal, x_las, x_aal, x_aas, x_aast, x_alen, x_new, x_newa, x_copy, x_min, x_abs, x_minl, x_oinit, x_throw, x_callS0, x_callS1, x_callS2, x_callS3, x_callS4, x_callV0, x_callV1, x_callV2, x_callV3, x_callV4, x_callV5, x_retI_v, x_callI0, x_callI1, x_callI2, x_retN_v, x_callSN1, x_callSN2, x_callT0, x_callT1, x_fn, x_sl0, x_sli, x_slr, x_sll, x_ar0, x_ari, x_arr, x_arl, ↓reduceIte, Nat.reduceAdd, Nat.reduceSub, Nat.reduceMul, Nat.reduceEqDiff, Nat.reduceLeDiff, Nat.reduceLT, if_true, if_false, Nat.le_refl, and_true, true_and, and_self, reduceCtorEq, or_false, false_or, or_true, true_or, Nat.zero_le, fa_lit, nI_add, w_mul, nI_ltI, nI_leI, nI_eq, nI_clamp, nI_toInt, if_pos, if_neg, w_div, w_rem2, x_sld, x_cS6, x_cR4, x_cR0, x_retN_v, g1, q1, th, k8a, k8b, k151, l151, gj, l0]
  · simp (disch := omega) only [kL_law_1378, kL_law_2276, x_cs0, x_csi, x_csr, x_csn, x_csl, x_ret_v, x_ret_t, x_ret_n, x_tl_s, x_tl_n, x_lk0, x_lk, x_rem0, x_rem_i, x_rem_r, x_rem_l, x_rem2_0, x_rem2_i, x_rem2_r, x_rem2_l, x_pick0, x_pick_c, x_st1, x_st2, x_live, x_i, x_l, x_a, x_ild, x_lld, x_rld, x_ist, x_lst, x_rst, x_inc, x_ii, x_ll, x_li, x_cmp, x_ui, x_il, x_lti, x_idiv, x_irem, x_dup_i, x_dup_r, x_pop_i, x_pop_r, x_dupx_ir, x_dup2_ir, x_ifeq, x_iceq, x_iflt, x_iclt, x_ifge, x_icge, x_ifgt, x_icgt, x_ifle, x_icle, x_ifne, x_icne, x_ifnull_r, x_ifnull_n, x_ifnonnull_r, x_ifnonnull_n, x_sw, x_vret, x_iret, x_lret, x_zret, x_zret0, x_zret1, x_rf_s, x_rf_n, x_geti, x_getr, x_puti, x_putz, x_putr, x_ial, x_ias, x_lal, x_las, x_aal, x_aas, x_aast, x_alen, x_new, x_newa, x_copy, x_min, x_abs, x_minl, x_oinit, x_throw, x_callS0, x_callS1, x_callS2, x_callS3, x_callS4, x_callV0, x_callV1, x_callV2, x_callV3, x_callV4, x_callV5, x_retI_v, x_callI0, x_callI1, x_callI2, x_retN_v, x_callSN1, x_callSN2, x_callT0, x_callT1, x_fn, x_sl0, x_sli, x_slr, x_sll, x_ar0, x_ari, x_arr, x_arl, ↓reduceIte, Nat.reduceAdd, Nat.reduceSub, Nat.reduceMul, Nat.reduceEqDiff, Nat.reduceLeDiff, Nat.reduceLT, if_true, if_false, Nat.le_refl, and_true, true_and, and_self, reduceCtorEq, or_false, false_or, or_true, true_or, Nat.zero_le, fa_lit, nI_add, w_mul, nI_ltI, nI_leI, nI_eq, nI_clamp, nI_toInt, if_pos, if_neg, w_div, w_rem2, x_sld, x_cS6, x_cR4, x_cR0, x_retN_v, g1, q1, th, k8a, k8b]

theorem lc_18 (h : w_law S) (hi : i + 6 ≤ L) (hL : L ≤ 3072) : ∃ S', bLc_18 L sc K (q_LV i) [] S = K (q_LV (i + 6)) [] S' ∧ w_law S' ∧ w_le 20 4100 S S' := by
  have k100 := yk100 h.1.1.1
  obtain ⟨S1, c, v, hc, hZ1, f1, f2⟩ := pr_wouldArrive (x := sc (i + 1)) (y := sc (i + 2)) (z := sc (i + 3)) h
  obtain ⟨S1', g1, g2, g3⟩ := lw_wouldArrive hZ1 k100 hc f1
  obtain ⟨S2, q1, q2, q3, q4, q5⟩ := f2 S1' g2
  have zb := q4.2
  have k8a := zk138 (g2.Z hZ1)
  have k8b := zk138 zb
  have k151 := zk151 zb
  have l151 := zl151 zb
  have th := z_thrown zb q2
  have hcb : c ≤ 2 := by omega
  refine ⟨S2, ?_, q4, q5⟩
  clear f1 f2 g2 q4 q5 h
  generalize hF1 : fL_wouldArrive w_N = fL at *
  generalize hF2 : fX11_wouldArrive w_N = fZ at *
  generalize hF3 : fX11_thrown w_N = fT at *
  unfold bLc_18
  rw [hF1, hF2, hF3]
  by_cases c0 : c = 0
  · subst c0
    have gj := (congrFun q3 0).trans (g3 rfl)
    have l0 := lg_self (w := v.toInt64)
    simp (disch := omega) only [kL_law_1458, kL_law_2276, x_cs0, x_csi, x_csr, x_csn, x_csl, x_ret_v, x_ret_t, x_ret_n, x_tl_s, x_tl_n, x_lk0, x_lk, x_rem0, x_rem_i, x_rem_r, x_rem_l, x_rem2_0, x_rem2_i, x_rem2_r, x_rem2_l, x_pick0, x_pick_c, x_st1, x_st2, x_live, x_i, x_l, x_a, x_ild, x_lld, x_rld, x_ist, x_lst, x_rst, x_inc, x_ii, x_ll, x_li, x_cmp, x_ui, x_il, x_lti, x_idiv, x_irem, x_dup_i, x_dup_r, x_pop_i, x_pop_r, x_dupx_ir, x_dup2_ir, x_ifeq, x_iceq, x_iflt, x_iclt, x_ifge, x_icge, x_ifgt, x_icgt, x_ifle, x_icle, x_ifne, x_icne, x_ifnull_r, x_ifnull_n, x_ifnonnull_r, x_ifnonnull_n, x_sw, x_vret, x_iret, x_lret, x_zret, x_zret0, x_zret1, x_rf_s, x_rf_n, x_geti, x_getr, x_puti, x_putz, x_putr, x_ial, x_ias, x_lal, x_las, x_aal, x_aas, x_aast, x_alen, x_new, x_newa, x_copy, x_min, x_abs, x_minl, x_oinit, x_throw, x_callS0, x_callS1, x_callS2, x_callS3, x_callS4, x_callV0, x_callV1, x_callV2, x_callV3, x_callV4, x_callV5, x_retI_v, x_callI0, x_callI1, x_callI2, x_retN_v, x_callSN1, x_callSN2, x_callT0, x_callT1, x_fn, x_sl0, x_sli, x_slr, x_sll, x_ar0, x_ari, x_arr, x_arl, ↓reduceIte, Nat.reduceAdd, Nat.reduceSub, Nat.reduceMul, Nat.reduceEqDiff, Nat.reduceLeDiff, Nat.reduceLT, if_true, if_false, Nat.le_refl, and_true, true_and, and_self, reduceCtorEq, or_false, false_or, or_true, true_or, Nat.zero_le, fa_lit, nI_add, w_mul, nI_ltI, nI_leI, nI_eq, nI_clamp, nI_toInt, if_pos, if_neg, w_div, w_rem2, x_sld, x_cS5, x_cR3, x_cR0, x_retN_v, g1, q1, th, k8a, k8b, k151, l151, gj, l0]
  · simp (disch := omega) only [kL_law_1458, kL_law_2276, x_cs0, x_csi, x_csr, x_csn, x_csl, x_ret_v, x_ret_t, x_ret_n, x_tl_s, x_tl_n, x_lk0, x_lk, x_rem0, x_rem_i, x_rem_r, x_rem_l, x_rem2_0, x_rem2_i, x_rem2_r, x_rem2_l, x_pick0, x_pick_c, x_st1, x_st2, x_live, x_i, x_l, x_a, x_ild, x_lld, x_rld, x_ist, x_lst, x_rst, x_inc, x_ii, x_ll, x_li, x_cmp, x_ui, x_il, x_lti, x_idiv, x_irem, x_dup_i, x_dup_r, x_pop_i, x_pop_r, x_dupx_ir, x_dup2_ir, x_ifeq, x_iceq, x_iflt, x_iclt, x_ifge, x_icge, x_ifgt, x_icgt, x_ifle, x_icle, x_ifne, x_icne, x_ifnull_r, x_ifnull_n, x_ifnonnull_r, x_ifnonnull_n, x_sw, x_vret, x_iret, x_lret, x_zret, x_zret0, x_zret1, x_rf_s, x_rf_n, x_geti, x_getr, x_puti, x_putz, x_putr, x_ial, x_ias, x_lal, x_las, x_aal, x_aas, x_aast, x_alen, x_new, x_newa, x_copy, x_min, x_abs, x_minl, x_oinit, x_throw, x_callS0, x_callS1, x_callS2, x_callS3, x_callS4, x_callV0, x_callV1, x_callV2, x_callV3, x_callV4, x_callV5, x_retI_v, x_callI0, x_callI1, x_callI2, x_retN_v, x_callSN1, x_callSN2, x_callT0, x_callT1, x_fn, x_sl0, x_sli, x_slr, x_sll, x_ar0, x_ari, x_arr, x_arl, ↓reduceIte, Nat.reduceAdd, Nat.reduceSub, Nat.reduceMul, Nat.reduceEqDiff, Nat.reduceLeDiff, Nat.reduceLT, if_true, if_false, Nat.le_refl, and_true, true_and, and_self, reduceCtorEq, or_false, false_or, or_true, true_or, Nat.zero_le, fa_lit, nI_add, w_mul, nI_ltI, nI_leI, nI_eq, nI_clamp, nI_toInt, if_pos, if_neg, w_div, w_rem2, x_sld, x_cS5, x_cR3, x_cR0, x_retN_v, g1, q1, th, k8a, k8b]

theorem lc_19 (h : w_law S) (hi : i + 6 ≤ L) (hL : L ≤ 3072) : ∃ S', bLc_19 L sc K (q_LV i) [] S = K (q_LV (i + 6)) [] S' ∧ w_law S' ∧ w_le 20 4100 S S' := by
  have k100 := yk100 h.1.1.1
  obtain ⟨S1, c, v, hc, hZ1, f1, f2⟩ := pr_bestDelay (x := sc (i + 1)) (y := sc (i + 2)) (z := sc (i + 3)) h
  obtain ⟨S1', g1, g2, g3⟩ := lw_bestDelay hZ1 k100 hc f1
  obtain ⟨S2, q1, q2, q3, q4, q5⟩ := f2 S1' g2
  have zb := q4.2
  have k8a := zk138 (g2.Z hZ1)
  have k8b := zk138 zb
  have k151 := zk151 zb
  have l151 := zl151 zb
  have th := z_thrown zb q2
  have hcb : c ≤ 2 := by omega
  refine ⟨S2, ?_, q4, q5⟩
  clear f1 f2 g2 q4 q5 h
  generalize hF1 : fL_bestDelay w_N = fL at *
  generalize hF2 : fX11_bestDelay w_N = fZ at *
  generalize hF3 : fX11_thrown w_N = fT at *
  unfold bLc_19
  rw [hF1, hF2, hF3]
  by_cases c0 : c = 0
  · subst c0
    have gj := (congrFun q3 0).trans (g3 rfl)
    have l0 := lg_self (w := v.toInt64)
    simp (disch := omega) only [kL_law_1538, kL_law_2276, x_cs0, x_csi, x_csr, x_csn, x_csl, x_ret_v, x_ret_t, x_ret_n, x_tl_s, x_tl_n, x_lk0, x_lk, x_rem0, x_rem_i, x_rem_r, x_rem_l, x_rem2_0, x_rem2_i, x_rem2_r, x_rem2_l, x_pick0, x_pick_c, x_st1, x_st2, x_live, x_i, x_l, x_a, x_ild, x_lld, x_rld, x_ist, x_lst, x_rst, x_inc, x_ii, x_ll, x_li, x_cmp, x_ui, x_il, x_lti, x_idiv, x_irem, x_dup_i, x_dup_r, x_pop_i, x_pop_r, x_dupx_ir, x_dup2_ir, x_ifeq, x_iceq, x_iflt, x_iclt, x_ifge, x_icge, x_ifgt, x_icgt, x_ifle, x_icle, x_ifne, x_icne, x_ifnull_r, x_ifnull_n, x_ifnonnull_r, x_ifnonnull_n, x_sw, x_vret, x_iret, x_lret, x_zret, x_zret0, x_zret1, x_rf_s, x_rf_n, x_geti, x_getr, x_puti, x_putz, x_putr, x_ial, x_ias, x_lal, x_las, x_aal, x_aas, x_aast, x_alen, x_new, x_newa, x_copy, x_min, x_abs, x_minl, x_oinit, x_throw, x_callS0, x_callS1, x_callS2, x_callS3, x_callS4, x_callV0, x_callV1, x_callV2, x_callV3, x_callV4, x_callV5, x_retI_v, x_callI0, x_callI1, x_callI2, x_retN_v, x_callSN1, x_callSN2, x_callT0, x_callT1, x_fn, x_sl0, x_sli, x_slr, x_sll, x_ar0, x_ari, x_arr, x_arl, ↓reduceIte, Nat.reduceAdd, Nat.reduceSub, Nat.reduceMul, Nat.reduceEqDiff, Nat.reduceLeDiff, Nat.reduceLT, if_true, if_false, Nat.le_refl, and_true, true_and, and_self, reduceCtorEq, or_false, false_or, or_true, true_or, Nat.zero_le, fa_lit, nI_add, w_mul, nI_ltI, nI_leI, nI_eq, nI_clamp, nI_toInt, if_pos, if_neg, w_div, w_rem2, x_sld, x_cS5, x_cR3, x_cR0, x_retN_v, g1, q1, th, k8a, k8b, k151, l151, gj, l0]
  · simp (disch := omega) only [kL_law_1538, kL_law_2276, x_cs0, x_csi, x_csr, x_csn, x_csl, x_ret_v, x_ret_t, x_ret_n, x_tl_s, x_tl_n, x_lk0, x_lk, x_rem0, x_rem_i, x_rem_r, x_rem_l, x_rem2_0, x_rem2_i, x_rem2_r, x_rem2_l, x_pick0, x_pick_c, x_st1, x_st2, x_live, x_i, x_l, x_a, x_ild, x_lld, x_rld, x_ist, x_lst, x_rst, x_inc, x_ii, x_ll, x_li, x_cmp, x_ui, x_il, x_lti, x_idiv, x_irem, x_dup_i, x_dup_r, x_pop_i, x_pop_r, x_dupx_ir, x_dup2_ir, x_ifeq, x_iceq, x_iflt, x_iclt, x_ifge, x_icge, x_ifgt, x_icgt, x_ifle, x_icle, x_ifne, x_icne, x_ifnull_r, x_ifnull_n, x_ifnonnull_r, x_ifnonnull_n, x_sw, x_vret, x_iret, x_lret, x_zret, x_zret0, x_zret1, x_rf_s, x_rf_n, x_geti, x_getr, x_puti, x_putz, x_putr, x_ial, x_ias, x_lal, x_las, x_aal, x_aas, x_aast, x_alen, x_new, x_newa, x_copy, x_min, x_abs, x_minl, x_oinit, x_throw, x_callS0, x_callS1, x_callS2, x_callS3, x_callS4, x_callV0, x_callV1, x_callV2, x_callV3, x_callV4, x_callV5, x_retI_v, x_callI0, x_callI1, x_callI2, x_retN_v, x_callSN1, x_callSN2, x_callT0, x_callT1, x_fn, x_sl0, x_sli, x_slr, x_sll, x_ar0, x_ari, x_arr, x_arl, ↓reduceIte, Nat.reduceAdd, Nat.reduceSub, Nat.reduceMul, Nat.reduceEqDiff, Nat.reduceLeDiff, Nat.reduceLT, if_true, if_false, Nat.le_refl, and_true, true_and, and_self, reduceCtorEq, or_false, false_or, or_true, true_or, Nat.zero_le, fa_lit, nI_add, w_mul, nI_ltI, nI_leI, nI_eq, nI_clamp, nI_toInt, if_pos, if_neg, w_div, w_rem2, x_sld, x_cS5, x_cR3, x_cR0, x_retN_v, g1, q1, th, k8a, k8b]

theorem lc_20 (h : w_law S) (hi : i + 6 ≤ L) (hL : L ≤ 3072) : ∃ S', bLc_20 L sc K (q_LV i) [] S = K (q_LV (i + 6)) [] S' ∧ w_law S' ∧ w_le 20 4100 S S' := by
  have k100 := yk100 h.1.1.1
  obtain ⟨S1, c, v, hc, hZ1, f1, f2⟩ := pr_failing (x := sc (i + 1)) h
  obtain ⟨S1', g1, g2, g3⟩ := lw_failing hZ1 k100 hc f1
  obtain ⟨S2, q1, q2, q3, q4, q5⟩ := f2 S1' g2
  have zb := q4.2
  have k8a := zk138 (g2.Z hZ1)
  have k8b := zk138 zb
  have k151 := zk151 zb
  have l151 := zl151 zb
  have th := z_thrown zb q2
  have hcb : c ≤ 2 := by omega
  refine ⟨S2, ?_, q4, q5⟩
  clear f1 f2 g2 q4 q5 h
  generalize hF1 : fL_failing w_N = fL at *
  generalize hF2 : fX11_failing w_N = fZ at *
  generalize hF3 : fX11_thrown w_N = fT at *
  unfold bLc_20
  rw [hF1, hF2, hF3]
  by_cases c0 : c = 0
  · subst c0
    have gj := (congrFun q3 0).trans (g3 rfl)
    have l0 := lg_self (w := v.toInt64)
    simp (disch := omega) only [kL_law_1594, kL_law_2276, x_cs0, x_csi, x_csr, x_csn, x_csl, x_ret_v, x_ret_t, x_ret_n, x_tl_s, x_tl_n, x_lk0, x_lk, x_rem0, x_rem_i, x_rem_r, x_rem_l, x_rem2_0, x_rem2_i, x_rem2_r, x_rem2_l, x_pick0, x_pick_c, x_st1, x_st2, x_live, x_i, x_l, x_a, x_ild, x_lld, x_rld, x_ist, x_lst, x_rst, x_inc, x_ii, x_ll, x_li, x_cmp, x_ui, x_il, x_lti, x_idiv, x_irem, x_dup_i, x_dup_r, x_pop_i, x_pop_r, x_dupx_ir, x_dup2_ir, x_ifeq, x_iceq, x_iflt, x_iclt, x_ifge, x_icge, x_ifgt, x_icgt, x_ifle, x_icle, x_ifne, x_icne, x_ifnull_r, x_ifnull_n, x_ifnonnull_r, x_ifnonnull_n, x_sw, x_vret, x_iret, x_lret, x_zret, x_zret0, x_zret1, x_rf_s, x_rf_n, x_geti, x_getr, x_puti, x_putz, x_putr, x_ial, x_ias, x_lal, x_las, x_aal, x_aas, x_aast, x_alen, x_new, x_newa, x_copy, x_min, x_abs, x_minl, x_oinit, x_throw, x_callS0, x_callS1, x_callS2, x_callS3, x_callS4, x_callV0, x_callV1, x_callV2, x_callV3, x_callV4, x_callV5, x_retI_v, x_callI0, x_callI1, x_callI2, x_retN_v, x_callSN1, x_callSN2, x_callT0, x_callT1, x_fn, x_sl0, x_sli, x_slr, x_sll, x_ar0, x_ari, x_arr, x_arl, ↓reduceIte, Nat.reduceAdd, Nat.reduceSub, Nat.reduceMul, Nat.reduceEqDiff, Nat.reduceLeDiff, Nat.reduceLT, if_true, if_false, Nat.le_refl, and_true, true_and, and_self, reduceCtorEq, or_false, false_or, or_true, true_or, Nat.zero_le, fa_lit, nI_add, w_mul, nI_ltI, nI_leI, nI_eq, nI_clamp, nI_toInt, if_pos, if_neg, w_div, w_rem2, x_sld, x_cS3, x_cR1, x_cR0, x_retN_v, g1, q1, th, k8a, k8b, k151, l151, gj, l0]
  · simp (disch := omega) only [kL_law_1594, kL_law_2276, x_cs0, x_csi, x_csr, x_csn, x_csl, x_ret_v, x_ret_t, x_ret_n, x_tl_s, x_tl_n, x_lk0, x_lk, x_rem0, x_rem_i, x_rem_r, x_rem_l, x_rem2_0, x_rem2_i, x_rem2_r, x_rem2_l, x_pick0, x_pick_c, x_st1, x_st2, x_live, x_i, x_l, x_a, x_ild, x_lld, x_rld, x_ist, x_lst, x_rst, x_inc, x_ii, x_ll, x_li, x_cmp, x_ui, x_il, x_lti, x_idiv, x_irem, x_dup_i, x_dup_r, x_pop_i, x_pop_r, x_dupx_ir, x_dup2_ir, x_ifeq, x_iceq, x_iflt, x_iclt, x_ifge, x_icge, x_ifgt, x_icgt, x_ifle, x_icle, x_ifne, x_icne, x_ifnull_r, x_ifnull_n, x_ifnonnull_r, x_ifnonnull_n, x_sw, x_vret, x_iret, x_lret, x_zret, x_zret0, x_zret1, x_rf_s, x_rf_n, x_geti, x_getr, x_puti, x_putz, x_putr, x_ial, x_ias, x_lal, x_las, x_aal, x_aas, x_aast, x_alen, x_new, x_newa, x_copy, x_min, x_abs, x_minl, x_oinit, x_throw, x_callS0, x_callS1, x_callS2, x_callS3, x_callS4, x_callV0, x_callV1, x_callV2, x_callV3, x_callV4, x_callV5, x_retI_v, x_callI0, x_callI1, x_callI2, x_retN_v, x_callSN1, x_callSN2, x_callT0, x_callT1, x_fn, x_sl0, x_sli, x_slr, x_sll, x_ar0, x_ari, x_arr, x_arl, ↓reduceIte, Nat.reduceAdd, Nat.reduceSub, Nat.reduceMul, Nat.reduceEqDiff, Nat.reduceLeDiff, Nat.reduceLT, if_true, if_false, Nat.le_refl, and_true, true_and, and_self, reduceCtorEq, or_false, false_or, or_true, true_or, Nat.zero_le, fa_lit, nI_add, w_mul, nI_ltI, nI_leI, nI_eq, nI_clamp, nI_toInt, if_pos, if_neg, w_div, w_rem2, x_sld, x_cS3, x_cR1, x_cR0, x_retN_v, g1, q1, th, k8a, k8b]

noncomputable def bLt_21 (L : Nat) (sc : Nat → Int32) (r23 : am_K) : am_K :=
  c_dld 5 <|
  c_dld 5 <|
  c_dcmp .l <|
  c_ifeq (
  kL_law_1633 w_N L sc) <|
  c_dld 7 <|
  c_dld 7 <|
  c_dcmp .l <|
  c_ifne (
  kL_law_1635 w_N L sc r23) <|
  kL_law_1633 w_N L sc
theorem bLt_21_e : bLc_21 L sc K = (c_rld 1 <|
  c_callR 10 0 (fX10_meanDelay w_N) <|
  c_dst 5 <|
  c_rld 2 <|
  c_callR 11 0 (fX11_meanDelay w_N) <|
  c_dst 7 <|
  c_dld 5 <|
  c_dld 7 <|
  c_dcmp .l <|
  c_ifeq (
  kL_law_1635 w_N L sc K) <|
  bLt_21 L sc K) := rfl
theorem lc_21 (h : w_law S) (hi : i + 6 ≤ L) (hL : L ≤ 3072) : ∃ S', bLc_21 L sc K (q_LV i) [] S = K (q_LV (i + 6)) [] S' ∧ w_law S' ∧ w_le 20 4100 S S' := by
  have k100 := yk100 h.1.1.1
  obtain ⟨S1, hZ1, g1, S2, q1, q4, q5⟩ := pr_meanDelay  h
  have k8a : am_k S1 138 = 11 := zk138 hZ1
  refine ⟨S2, ?_, q4, q5⟩
  have hV := h.1.2.1.2.1.1
  have cm := u_mean_cmp hV
  have op : Op.cmpValue (some .eq) .l = nI 0 := rfl
  clear q4 q5 h
  generalize hF1 : fX10_meanDelay w_N = fY at *
  generalize hF2 : fX11_meanDelay w_N = fZ at *
  rw [bLt_21_e, hF1, hF2]
  generalize bLt_21 L sc K = KB
  generalize u_mean (am_i S 139) = dd at *
  simp (disch := omega) only [kL_law_1635, kL_law_2276, x_cs0, x_csi, x_csr, x_csn, x_csl, x_ret_v, x_ret_t, x_ret_n, x_tl_s, x_tl_n, x_lk0, x_lk, x_rem0, x_rem_i, x_rem_r, x_rem_l, x_rem2_0, x_rem2_i, x_rem2_r, x_rem2_l, x_pick0, x_pick_c, x_st1, x_st2, x_live, x_i, x_l, x_a, x_ild, x_lld, x_rld, x_ist, x_lst, x_rst, x_inc, x_ii, x_ll, x_li, x_cmp, x_ui, x_il, x_lti, x_idiv, x_irem, x_dup_i, x_dup_r, x_pop_i, x_pop_r, x_dupx_ir, x_dup2_ir, x_ifeq, x_iceq, x_iflt, x_iclt, x_ifge, x_icge, x_ifgt, x_icgt, x_ifle, x_icle, x_ifne, x_icne, x_ifnull_r, x_ifnull_n, x_ifnonnull_r, x_ifnonnull_n, x_sw, x_vret, x_iret, x_lret, x_zret, x_zret0, x_zret1, x_rf_s, x_rf_n, x_geti, x_getr, x_puti, x_putz, x_putr, x_ial, x_ias, x_lal, x_las, x_aal, x_aas, x_aast, x_alen, x_new, x_newa, x_copy, x_min, x_abs, x_minl, x_oinit, x_throw, x_callS0, x_callS1, x_callS2, x_callS3, x_callS4, x_callV0, x_callV1, x_callV2, x_callV3, x_callV4, x_callV5, x_retI_v, x_callI0, x_callI1, x_callI2, x_retN_v, x_callSN1, x_callSN2, x_callT0, x_callT1, x_fn, x_sl0, x_sli, x_slr, x_sll, x_ar0, x_ari, x_arr, x_arl, ↓reduceIte, Nat.reduceAdd, Nat.reduceSub, Nat.reduceMul, Nat.reduceEqDiff, Nat.reduceLeDiff, Nat.reduceLT, if_true, if_false, Nat.le_refl, and_true, true_and, and_self, reduceCtorEq, or_false, false_or, or_true, true_or, Nat.zero_le, fa_lit, nI_add, w_mul, nI_ltI, nI_leI, nI_eq, nI_clamp, nI_toInt, if_pos, if_neg, w_div, w_rem2, x_sld, x_cR0, x_retN_v, g1, q1, k100, k8a, q_dst5, q_dst7, x_dld, x_dcmp, cm, op]

noncomputable def bLt_22 (L : Nat) (sc : Nat → Int32) (r23 : am_K) : am_K :=
  c_dld 5 <|
  c_dld 5 <|
  c_dcmp .l <|
  c_ifeq (
  kL_law_1676 w_N L sc) <|
  c_dld 7 <|
  c_dld 7 <|
  c_dcmp .l <|
  c_ifne (
  kL_law_1678 w_N L sc r23) <|
  kL_law_1676 w_N L sc
theorem bLt_22_e : bLc_22 L sc K = (c_rld 1 <|
  c_callR 10 0 (fX10_success w_N) <|
  c_f2d <|
  c_dst 5 <|
  c_rld 2 <|
  c_callR 11 0 (fX11_success w_N) <|
  c_f2d <|
  c_dst 7 <|
  c_dld 5 <|
  c_dld 7 <|
  c_dcmp .l <|
  c_ifeq (
  kL_law_1678 w_N L sc K) <|
  bLt_22 L sc K) := rfl
theorem lc_22 (h : w_law S) (hi : i + 6 ≤ L) (hL : L ≤ 3072) : ∃ S', bLc_22 L sc K (q_LV i) [] S = K (q_LV (i + 6)) [] S' ∧ w_law S' ∧ w_le 20 4100 S S' := by
  have k100 := yk100 h.1.1.1
  obtain ⟨S1, hZ1, g1, S2, q1, q4, q5⟩ := pr_success  h
  have k8a : am_k S1 138 = 11 := zk138 hZ1
  refine ⟨S2, ?_, q4, q5⟩
  have hV := h.1.2.1.2.1.1
  obtain ⟨cf, cm⟩ := u_succ_cmp hV
  have op : Op.cmpValue (some .eq) .l = nI 0 := rfl
  clear q4 q5 h
  generalize hF1 : fX10_success w_N = fY at *
  generalize hF2 : fX11_success w_N = fZ at *
  rw [bLt_22_e, hF1, hF2]
  generalize bLt_22 L sc K = KB
  generalize u_succ (am_i S 139) = dd at *
  simp (disch := omega) only [kL_law_1678, kL_law_2276, x_cs0, x_csi, x_csr, x_csn, x_csl, x_ret_v, x_ret_t, x_ret_n, x_tl_s, x_tl_n, x_lk0, x_lk, x_rem0, x_rem_i, x_rem_r, x_rem_l, x_rem2_0, x_rem2_i, x_rem2_r, x_rem2_l, x_pick0, x_pick_c, x_st1, x_st2, x_live, x_i, x_l, x_a, x_ild, x_lld, x_rld, x_ist, x_lst, x_rst, x_inc, x_ii, x_ll, x_li, x_cmp, x_ui, x_il, x_lti, x_idiv, x_irem, x_dup_i, x_dup_r, x_pop_i, x_pop_r, x_dupx_ir, x_dup2_ir, x_ifeq, x_iceq, x_iflt, x_iclt, x_ifge, x_icge, x_ifgt, x_icgt, x_ifle, x_icle, x_ifne, x_icne, x_ifnull_r, x_ifnull_n, x_ifnonnull_r, x_ifnonnull_n, x_sw, x_vret, x_iret, x_lret, x_zret, x_zret0, x_zret1, x_rf_s, x_rf_n, x_geti, x_getr, x_puti, x_putz, x_putr, x_ial, x_ias, x_lal, x_las, x_aal, x_aas, x_aast, x_alen, x_new, x_newa, x_copy, x_min, x_abs, x_minl, x_oinit, x_throw, x_callS0, x_callS1, x_callS2, x_callS3, x_callS4, x_callV0, x_callV1, x_callV2, x_callV3, x_callV4, x_callV5, x_retI_v, x_callI0, x_callI1, x_callI2, x_retN_v, x_callSN1, x_callSN2, x_callT0, x_callT1, x_fn, x_sl0, x_sli, x_slr, x_sll, x_ar0, x_ari, x_arr, x_arl, ↓reduceIte, Nat.reduceAdd, Nat.reduceSub, Nat.reduceMul, Nat.reduceEqDiff, Nat.reduceLeDiff, Nat.reduceLT, if_true, if_false, Nat.le_refl, and_true, true_and, and_self, reduceCtorEq, or_false, false_or, or_true, true_or, Nat.zero_le, fa_lit, nI_add, w_mul, nI_ltI, nI_leI, nI_eq, nI_clamp, nI_toInt, if_pos, if_neg, w_div, w_rem2, x_sld, x_cR0, x_retN_v, g1, q1, k100, k8a, q_dst5, q_dst7, x_dld, x_dcmp, x_f2d, cf, cm, op]

theorem lc_23 (h : w_law S) (hi : i + 6 ≤ L) (hL : L ≤ 3072) : ∃ S', bLc_23 L sc K (q_LV i) [] S = K (q_LV (i + 6)) [] S' ∧ w_law S' ∧ w_le 20 4100 S S' := by
  have k100 := yk100 h.1.1.1
  obtain ⟨S1, c, v, hc, hZ1, f1, f2⟩ := pr_pass (x := sc (i + 1)) h
  obtain ⟨S1', g1, g2, g3⟩ := lw_pass hZ1 k100 hc f1
  obtain ⟨S2, q1, q2, q3, q4, q5⟩ := f2 S1' g2
  have zb := q4.2
  have k8a := zk138 (g2.Z hZ1)
  have k8b := zk138 zb
  have k151 := zk151 zb
  have l151 := zl151 zb
  have th := z_thrown zb q2
  have hcb : c ≤ 2 := by omega
  refine ⟨S2, ?_, q4, q5⟩
  clear f1 f2 g2 q4 q5 h
  generalize hF1 : fL_pass w_N = fL at *
  generalize hF2 : fX11_pass w_N = fZ at *
  generalize hF3 : fX11_thrown w_N = fT at *
  unfold bLc_23
  rw [hF1, hF2, hF3]
  by_cases c0 : c = 0
  · subst c0
    have gj := (congrFun q3 0).trans (g3 rfl)
    have l0 := lg_self (w := v.toInt64)
    simp (disch := omega) only [kL_law_1734, kL_law_2276, x_cs0, x_csi, x_csr, x_csn, x_csl, x_ret_v, x_ret_t, x_ret_n, x_tl_s, x_tl_n, x_lk0, x_lk, x_rem0, x_rem_i, x_rem_r, x_rem_l, x_rem2_0, x_rem2_i, x_rem2_r, x_rem2_l, x_pick0, x_pick_c, x_st1, x_st2, x_live, x_i, x_l, x_a, x_ild, x_lld, x_rld, x_ist, x_lst, x_rst, x_inc, x_ii, x_ll, x_li, x_cmp, x_ui, x_il, x_lti, x_idiv, x_irem, x_dup_i, x_dup_r, x_pop_i, x_pop_r, x_dupx_ir, x_dup2_ir, x_ifeq, x_iceq, x_iflt, x_iclt, x_ifge, x_icge, x_ifgt, x_icgt, x_ifle, x_icle, x_ifne, x_icne, x_ifnull_r, x_ifnull_n, x_ifnonnull_r, x_ifnonnull_n, x_sw, x_vret, x_iret, x_lret, x_zret, x_zret0, x_zret1, x_rf_s, x_rf_n, x_geti, x_getr, x_puti, x_putz, x_putr, x_ial, x_ias, x_lal, x_las, x_aal, x_aas, x_aast, x_alen, x_new, x_newa, x_copy, x_min, x_abs, x_minl, x_oinit, x_throw, x_callS0, x_callS1, x_callS2, x_callS3, x_callS4, x_callV0, x_callV1, x_callV2, x_callV3, x_callV4, x_callV5, x_retI_v, x_callI0, x_callI1, x_callI2, x_retN_v, x_callSN1, x_callSN2, x_callT0, x_callT1, x_fn, x_sl0, x_sli, x_slr, x_sll, x_ar0, x_ari, x_arr, x_arl, ↓reduceIte, Nat.reduceAdd, Nat.reduceSub, Nat.reduceMul, Nat.reduceEqDiff, Nat.reduceLeDiff, Nat.reduceLT, if_true, if_false, Nat.le_refl, and_true, true_and, and_self, reduceCtorEq, or_false, false_or, or_true, true_or, Nat.zero_le, fa_lit, nI_add, w_mul, nI_ltI, nI_leI, nI_eq, nI_clamp, nI_toInt, if_pos, if_neg, w_div, w_rem2, x_sld, x_cS3, x_cR1, x_cR0, x_retN_v, g1, q1, th, k8a, k8b, k151, l151, gj, l0]
  · simp (disch := omega) only [kL_law_1734, kL_law_2276, x_cs0, x_csi, x_csr, x_csn, x_csl, x_ret_v, x_ret_t, x_ret_n, x_tl_s, x_tl_n, x_lk0, x_lk, x_rem0, x_rem_i, x_rem_r, x_rem_l, x_rem2_0, x_rem2_i, x_rem2_r, x_rem2_l, x_pick0, x_pick_c, x_st1, x_st2, x_live, x_i, x_l, x_a, x_ild, x_lld, x_rld, x_ist, x_lst, x_rst, x_inc, x_ii, x_ll, x_li, x_cmp, x_ui, x_il, x_lti, x_idiv, x_irem, x_dup_i, x_dup_r, x_pop_i, x_pop_r, x_dupx_ir, x_dup2_ir, x_ifeq, x_iceq, x_iflt, x_iclt, x_ifge, x_icge, x_ifgt, x_icgt, x_ifle, x_icle, x_ifne, x_icne, x_ifnull_r, x_ifnull_n, x_ifnonnull_r, x_ifnonnull_n, x_sw, x_vret, x_iret, x_lret, x_zret, x_zret0, x_zret1, x_rf_s, x_rf_n, x_geti, x_getr, x_puti, x_putz, x_putr, x_ial, x_ias, x_lal, x_las, x_aal, x_aas, x_aast, x_alen, x_new, x_newa, x_copy, x_min, x_abs, x_minl, x_oinit, x_throw, x_callS0, x_callS1, x_callS2, x_callS3, x_callS4, x_callV0, x_callV1, x_callV2, x_callV3, x_callV4, x_callV5, x_retI_v, x_callI0, x_callI1, x_callI2, x_retN_v, x_callSN1, x_callSN2, x_callT0, x_callT1, x_fn, x_sl0, x_sli, x_slr, x_sll, x_ar0, x_ari, x_arr, x_arl, ↓reduceIte, Nat.reduceAdd, Nat.reduceSub, Nat.reduceMul, Nat.reduceEqDiff, Nat.reduceLeDiff, Nat.reduceLT, if_true, if_false, Nat.le_refl, and_true, true_and, and_self, reduceCtorEq, or_false, false_or, or_true, true_or, Nat.zero_le, fa_lit, nI_add, w_mul, nI_ltI, nI_leI, nI_eq, nI_clamp, nI_toInt, if_pos, if_neg, w_div, w_rem2, x_sld, x_cS3, x_cR1, x_cR0, x_retN_v, g1, q1, th, k8a, k8b]

theorem lc_24 (h : w_law S) (hi : i + 6 ≤ L) (hL : L ≤ 3072) : ∃ S', bLc_24 L sc K (q_LV i) [] S = K (q_LV (i + 6)) [] S' ∧ w_law S' ∧ w_le 20 4100 S S' := by
  have k100 := yk100 h.1.1.1
  obtain ⟨S1, c, v, hc, hZ1, f1, f2⟩ := pr_send (x := sc (i + 1)) (y := sc (i + 2)) (z := sc (i + 3)) h
  obtain ⟨S1', g1, g2, g3⟩ := lw_send hZ1 k100 hc f1
  obtain ⟨S2, q1, q2, q3, q4, q5⟩ := f2 S1' g2
  have zb := q4.2
  have k8a := zk138 (g2.Z hZ1)
  have k8b := zk138 zb
  have k151 := zk151 zb
  have l151 := zl151 zb
  have th := z_thrown zb q2
  have hcb : c ≤ 2 := by omega
  refine ⟨S2, ?_, q4, q5⟩
  clear f1 f2 g2 q4 q5 h
  generalize hF1 : fL_send w_N = fL at *
  generalize hF2 : fX11_send w_N = fZ at *
  generalize hF3 : fX11_thrown w_N = fT at *
  unfold bLc_24
  rw [hF1, hF2, hF3]
  by_cases c0 : c = 0
  · subst c0
    have gj := (congrFun q3 0).trans (g3 rfl)
    have l0 := lg_self (w := v.toInt64)
    simp (disch := omega) only [kL_law_1814, kL_law_2276, x_cs0, x_csi, x_csr, x_csn, x_csl, x_ret_v, x_ret_t, x_ret_n, x_tl_s, x_tl_n, x_lk0, x_lk, x_rem0, x_rem_i, x_rem_r, x_rem_l, x_rem2_0, x_rem2_i, x_rem2_r, x_rem2_l, x_pick0, x_pick_c, x_st1, x_st2, x_live, x_i, x_l, x_a, x_ild, x_lld, x_rld, x_ist, x_lst, x_rst, x_inc, x_ii, x_ll, x_li, x_cmp, x_ui, x_il, x_lti, x_idiv, x_irem, x_dup_i, x_dup_r, x_pop_i, x_pop_r, x_dupx_ir, x_dup2_ir, x_ifeq, x_iceq, x_iflt, x_iclt, x_ifge, x_icge, x_ifgt, x_icgt, x_ifle, x_icle, x_ifne, x_icne, x_ifnull_r, x_ifnull_n, x_ifnonnull_r, x_ifnonnull_n, x_sw, x_vret, x_iret, x_lret, x_zret, x_zret0, x_zret1, x_rf_s, x_rf_n, x_geti, x_getr, x_puti, x_putz, x_putr, x_ial, x_ias, x_lal, x_las, x_aal, x_aas, x_aast, x_alen, x_new, x_newa, x_copy, x_min, x_abs, x_minl, x_oinit, x_throw, x_callS0, x_callS1, x_callS2, x_callS3, x_callS4, x_callV0, x_callV1, x_callV2, x_callV3, x_callV4, x_callV5, x_retI_v, x_callI0, x_callI1, x_callI2, x_retN_v, x_callSN1, x_callSN2, x_callT0, x_callT1, x_fn, x_sl0, x_sli, x_slr, x_sll, x_ar0, x_ari, x_arr, x_arl, ↓reduceIte, Nat.reduceAdd, Nat.reduceSub, Nat.reduceMul, Nat.reduceEqDiff, Nat.reduceLeDiff, Nat.reduceLT, if_true, if_false, Nat.le_refl, and_true, true_and, and_self, reduceCtorEq, or_false, false_or, or_true, true_or, Nat.zero_le, fa_lit, nI_add, w_mul, nI_ltI, nI_leI, nI_eq, nI_clamp, nI_toInt, if_pos, if_neg, w_div, w_rem2, x_sld, x_cS5, x_cR3, x_cR0, x_retN_v, g1, q1, th, k8a, k8b, k151, l151, gj, l0]
  · simp (disch := omega) only [kL_law_1814, kL_law_2276, x_cs0, x_csi, x_csr, x_csn, x_csl, x_ret_v, x_ret_t, x_ret_n, x_tl_s, x_tl_n, x_lk0, x_lk, x_rem0, x_rem_i, x_rem_r, x_rem_l, x_rem2_0, x_rem2_i, x_rem2_r, x_rem2_l, x_pick0, x_pick_c, x_st1, x_st2, x_live, x_i, x_l, x_a, x_ild, x_lld, x_rld, x_ist, x_lst, x_rst, x_inc, x_ii, x_ll, x_li, x_cmp, x_ui, x_il, x_lti, x_idiv, x_irem, x_dup_i, x_dup_r, x_pop_i, x_pop_r, x_dupx_ir, x_dup2_ir, x_ifeq, x_iceq, x_iflt, x_iclt, x_ifge, x_icge, x_ifgt, x_icgt, x_ifle, x_icle, x_ifne, x_icne, x_ifnull_r, x_ifnull_n, x_ifnonnull_r, x_ifnonnull_n, x_sw, x_vret, x_iret, x_lret, x_zret, x_zret0, x_zret1, x_rf_s, x_rf_n, x_geti, x_getr, x_puti, x_putz, x_putr, x_ial, x_ias, x_lal, x_las, x_aal, x_aas, x_aast, x_alen, x_new, x_newa, x_copy, x_min, x_abs, x_minl, x_oinit, x_throw, x_callS0, x_callS1, x_callS2, x_callS3, x_callS4, x_callV0, x_callV1, x_callV2, x_callV3, x_callV4, x_callV5, x_retI_v, x_callI0, x_callI1, x_callI2, x_retN_v, x_callSN1, x_callSN2, x_callT0, x_callT1, x_fn, x_sl0, x_sli, x_slr, x_sll, x_ar0, x_ari, x_arr, x_arl, ↓reduceIte, Nat.reduceAdd, Nat.reduceSub, Nat.reduceMul, Nat.reduceEqDiff, Nat.reduceLeDiff, Nat.reduceLT, if_true, if_false, Nat.le_refl, and_true, true_and, and_self, reduceCtorEq, or_false, false_or, or_true, true_or, Nat.zero_le, fa_lit, nI_add, w_mul, nI_ltI, nI_leI, nI_eq, nI_clamp, nI_toInt, if_pos, if_neg, w_div, w_rem2, x_sld, x_cS5, x_cR3, x_cR0, x_retN_v, g1, q1, th, k8a, k8b]

theorem lc_25 (h : w_law S) (hi : i + 6 ≤ L) (hL : L ≤ 3072) : ∃ S', bLc_25 L sc K (q_LV i) [] S = K (q_LV (i + 6)) [] S' ∧ w_law S' ∧ w_le 20 4100 S S' := by
  have k100 := yk100 h.1.1.1
  obtain ⟨S1, c, v, hc, hZ1, f1, f2⟩ := pr_wall (x := sc (i + 1)) (y := sc (i + 2)) h
  obtain ⟨S1', g1, g2, g3⟩ := lw_wall hZ1 k100 hc f1
  obtain ⟨S2, q1, q2, q3, q4, q5⟩ := f2 S1' g2
  have zb := q4.2
  have k8a := zk138 (g2.Z hZ1)
  have k8b := zk138 zb
  have k151 := zk151 zb
  have l151 := zl151 zb
  have th := z_thrown zb q2
  have hcb : c ≤ 2 := by omega
  refine ⟨S2, ?_, q4, q5⟩
  clear f1 f2 g2 q4 q5 h
  generalize hF1 : fL_wall w_N = fL at *
  generalize hF2 : fX11_wall w_N = fZ at *
  generalize hF3 : fX11_thrown w_N = fT at *
  unfold bLc_25
  rw [hF1, hF2, hF3]
  by_cases c0 : c = 0
  · subst c0
    have gj := (congrFun q3 0).trans (g3 rfl)
    have l0 := lg_self (w := v.toInt64)
    simp (disch := omega) only [kL_law_1882, kL_law_2276, x_cs0, x_csi, x_csr, x_csn, x_csl, x_ret_v, x_ret_t, x_ret_n, x_tl_s, x_tl_n, x_lk0, x_lk, x_rem0, x_rem_i, x_rem_r, x_rem_l, x_rem2_0, x_rem2_i, x_rem2_r, x_rem2_l, x_pick0, x_pick_c, x_st1, x_st2, x_live, x_i, x_l, x_a, x_ild, x_lld, x_rld, x_ist, x_lst, x_rst, x_inc, x_ii, x_ll, x_li, x_cmp, x_ui, x_il, x_lti, x_idiv, x_irem, x_dup_i, x_dup_r, x_pop_i, x_pop_r, x_dupx_ir, x_dup2_ir, x_ifeq, x_iceq, x_iflt, x_iclt, x_ifge, x_icge, x_ifgt, x_icgt, x_ifle, x_icle, x_ifne, x_icne, x_ifnull_r, x_ifnull_n, x_ifnonnull_r, x_ifnonnull_n, x_sw, x_vret, x_iret, x_lret, x_zret, x_zret0, x_zret1, x_rf_s, x_rf_n, x_geti, x_getr, x_puti, x_putz, x_putr, x_ial, x_ias, x_lal, x_las, x_aal, x_aas, x_aast, x_alen, x_new, x_newa, x_copy, x_min, x_abs, x_minl, x_oinit, x_throw, x_callS0, x_callS1, x_callS2, x_callS3, x_callS4, x_callV0, x_callV1, x_callV2, x_callV3, x_callV4, x_callV5, x_retI_v, x_callI0, x_callI1, x_callI2, x_retN_v, x_callSN1, x_callSN2, x_callT0, x_callT1, x_fn, x_sl0, x_sli, x_slr, x_sll, x_ar0, x_ari, x_arr, x_arl, ↓reduceIte, Nat.reduceAdd, Nat.reduceSub, Nat.reduceMul, Nat.reduceEqDiff, Nat.reduceLeDiff, Nat.reduceLT, if_true, if_false, Nat.le_refl, and_true, true_and, and_self, reduceCtorEq, or_false, false_or, or_true, true_or, Nat.zero_le, fa_lit, nI_add, w_mul, nI_ltI, nI_leI, nI_eq, nI_clamp, nI_toInt, if_pos, if_neg, w_div, w_rem2, x_sld, x_cS4, x_cR2, x_cR0, x_retN_v, g1, q1, th, k8a, k8b, k151, l151, gj, l0]
  · simp (disch := omega) only [kL_law_1882, kL_law_2276, x_cs0, x_csi, x_csr, x_csn, x_csl, x_ret_v, x_ret_t, x_ret_n, x_tl_s, x_tl_n, x_lk0, x_lk, x_rem0, x_rem_i, x_rem_r, x_rem_l, x_rem2_0, x_rem2_i, x_rem2_r, x_rem2_l, x_pick0, x_pick_c, x_st1, x_st2, x_live, x_i, x_l, x_a, x_ild, x_lld, x_rld, x_ist, x_lst, x_rst, x_inc, x_ii, x_ll, x_li, x_cmp, x_ui, x_il, x_lti, x_idiv, x_irem, x_dup_i, x_dup_r, x_pop_i, x_pop_r, x_dupx_ir, x_dup2_ir, x_ifeq, x_iceq, x_iflt, x_iclt, x_ifge, x_icge, x_ifgt, x_icgt, x_ifle, x_icle, x_ifne, x_icne, x_ifnull_r, x_ifnull_n, x_ifnonnull_r, x_ifnonnull_n, x_sw, x_vret, x_iret, x_lret, x_zret, x_zret0, x_zret1, x_rf_s, x_rf_n, x_geti, x_getr, x_puti, x_putz, x_putr, x_ial, x_ias, x_lal, x_las, x_aal, x_aas, x_aast, x_alen, x_new, x_newa, x_copy, x_min, x_abs, x_minl, x_oinit, x_throw, x_callS0, x_callS1, x_callS2, x_callS3, x_callS4, x_callV0, x_callV1, x_callV2, x_callV3, x_callV4, x_callV5, x_retI_v, x_callI0, x_callI1, x_callI2, x_retN_v, x_callSN1, x_callSN2, x_callT0, x_callT1, x_fn, x_sl0, x_sli, x_slr, x_sll, x_ar0, x_ari, x_arr, x_arl, ↓reduceIte, Nat.reduceAdd, Nat.reduceSub, Nat.reduceMul, Nat.reduceEqDiff, Nat.reduceLeDiff, Nat.reduceLT, if_true, if_false, Nat.le_refl, and_true, true_and, and_self, reduceCtorEq, or_false, false_or, or_true, true_or, Nat.zero_le, fa_lit, nI_add, w_mul, nI_ltI, nI_leI, nI_eq, nI_clamp, nI_toInt, if_pos, if_neg, w_div, w_rem2, x_sld, x_cS4, x_cR2, x_cR0, x_retN_v, g1, q1, th, k8a, k8b]

theorem lc_26 (h : w_law S) (hi : i + 6 ≤ L) (hL : L ≤ 3072) : ∃ S', bLc_26 L sc K (q_LV i) [] S = K (q_LV (i + 6)) [] S' ∧ w_law S' ∧ w_le 20 4100 S S' := by
  have k100 := yk100 h.1.1.1
  obtain ⟨S1, c, v, hc, hZ1, f1, f2⟩ := pr_movePicket (x := sc (i + 1)) (y := sc (i + 2)) (z := sc (i + 3)) h
  obtain ⟨S1', g1, g2, g3⟩ := lw_movePicket hZ1 k100 hc f1
  obtain ⟨S2, q1, q2, q3, q4, q5⟩ := f2 S1' g2
  have zb := q4.2
  have k8a := zk138 (g2.Z hZ1)
  have k8b := zk138 zb
  have k151 := zk151 zb
  have l151 := zl151 zb
  have th := z_thrown zb q2
  have hcb : c ≤ 2 := by omega
  refine ⟨S2, ?_, q4, q5⟩
  clear f1 f2 g2 q4 q5 h
  generalize hF1 : fL_movePicket w_N = fL at *
  generalize hF2 : fX11_movePicket w_N = fZ at *
  generalize hF3 : fX11_thrown w_N = fT at *
  unfold bLc_26
  rw [hF1, hF2, hF3]
  by_cases c0 : c = 0
  · subst c0
    have gj := (congrFun q3 0).trans (g3 rfl)
    have l0 := lg_self (w := v.toInt64)
    simp (disch := omega) only [kL_law_1962, kL_law_2276, x_cs0, x_csi, x_csr, x_csn, x_csl, x_ret_v, x_ret_t, x_ret_n, x_tl_s, x_tl_n, x_lk0, x_lk, x_rem0, x_rem_i, x_rem_r, x_rem_l, x_rem2_0, x_rem2_i, x_rem2_r, x_rem2_l, x_pick0, x_pick_c, x_st1, x_st2, x_live, x_i, x_l, x_a, x_ild, x_lld, x_rld, x_ist, x_lst, x_rst, x_inc, x_ii, x_ll, x_li, x_cmp, x_ui, x_il, x_lti, x_idiv, x_irem, x_dup_i, x_dup_r, x_pop_i, x_pop_r, x_dupx_ir, x_dup2_ir, x_ifeq, x_iceq, x_iflt, x_iclt, x_ifge, x_icge, x_ifgt, x_icgt, x_ifle, x_icle, x_ifne, x_icne, x_ifnull_r, x_ifnull_n, x_ifnonnull_r, x_ifnonnull_n, x_sw, x_vret, x_iret, x_lret, x_zret, x_zret0, x_zret1, x_rf_s, x_rf_n, x_geti, x_getr, x_puti, x_putz, x_putr, x_ial, x_ias, x_lal, x_las, x_aal, x_aas, x_aast, x_alen, x_new, x_newa, x_copy, x_min, x_abs, x_minl, x_oinit, x_throw, x_callS0, x_callS1, x_callS2, x_callS3, x_callS4, x_callV0, x_callV1, x_callV2, x_callV3, x_callV4, x_callV5, x_retI_v, x_callI0, x_callI1, x_callI2, x_retN_v, x_callSN1, x_callSN2, x_callT0, x_callT1, x_fn, x_sl0, x_sli, x_slr, x_sll, x_ar0, x_ari, x_arr, x_arl, ↓reduceIte, Nat.reduceAdd, Nat.reduceSub, Nat.reduceMul, Nat.reduceEqDiff, Nat.reduceLeDiff, Nat.reduceLT, if_true, if_false, Nat.le_refl, and_true, true_and, and_self, reduceCtorEq, or_false, false_or, or_true, true_or, Nat.zero_le, fa_lit, nI_add, w_mul, nI_ltI, nI_leI, nI_eq, nI_clamp, nI_toInt, if_pos, if_neg, w_div, w_rem2, x_sld, x_cS5, x_cR3, x_cR0, x_retN_v, g1, q1, th, k8a, k8b, k151, l151, gj, l0]
  · simp (disch := omega) only [kL_law_1962, kL_law_2276, x_cs0, x_csi, x_csr, x_csn, x_csl, x_ret_v, x_ret_t, x_ret_n, x_tl_s, x_tl_n, x_lk0, x_lk, x_rem0, x_rem_i, x_rem_r, x_rem_l, x_rem2_0, x_rem2_i, x_rem2_r, x_rem2_l, x_pick0, x_pick_c, x_st1, x_st2, x_live, x_i, x_l, x_a, x_ild, x_lld, x_rld, x_ist, x_lst, x_rst, x_inc, x_ii, x_ll, x_li, x_cmp, x_ui, x_il, x_lti, x_idiv, x_irem, x_dup_i, x_dup_r, x_pop_i, x_pop_r, x_dupx_ir, x_dup2_ir, x_ifeq, x_iceq, x_iflt, x_iclt, x_ifge, x_icge, x_ifgt, x_icgt, x_ifle, x_icle, x_ifne, x_icne, x_ifnull_r, x_ifnull_n, x_ifnonnull_r, x_ifnonnull_n, x_sw, x_vret, x_iret, x_lret, x_zret, x_zret0, x_zret1, x_rf_s, x_rf_n, x_geti, x_getr, x_puti, x_putz, x_putr, x_ial, x_ias, x_lal, x_las, x_aal, x_aas, x_aast, x_alen, x_new, x_newa, x_copy, x_min, x_abs, x_minl, x_oinit, x_throw, x_callS0, x_callS1, x_callS2, x_callS3, x_callS4, x_callV0, x_callV1, x_callV2, x_callV3, x_callV4, x_callV5, x_retI_v, x_callI0, x_callI1, x_callI2, x_retN_v, x_callSN1, x_callSN2, x_callT0, x_callT1, x_fn, x_sl0, x_sli, x_slr, x_sll, x_ar0, x_ari, x_arr, x_arl, ↓reduceIte, Nat.reduceAdd, Nat.reduceSub, Nat.reduceMul, Nat.reduceEqDiff, Nat.reduceLeDiff, Nat.reduceLT, if_true, if_false, Nat.le_refl, and_true, true_and, and_self, reduceCtorEq, or_false, false_or, or_true, true_or, Nat.zero_le, fa_lit, nI_add, w_mul, nI_ltI, nI_leI, nI_eq, nI_clamp, nI_toInt, if_pos, if_neg, w_div, w_rem2, x_sld, x_cS5, x_cR3, x_cR0, x_retN_v, g1, q1, th, k8a, k8b]

theorem lc_27 (h : w_law S) (hi : i + 6 ≤ L) (hL : L ≤ 3072) : ∃ S', bLc_27 L sc K (q_LV i) [] S = K (q_LV (i + 6)) [] S' ∧ w_law S' ∧ w_le 20 4100 S S' := by
  have k100 := yk100 h.1.1.1
  obtain ⟨S1, c, v, hc, hZ1, f1, f2⟩ := pr_movePlan (x := sc (i + 1)) (y := sc (i + 2)) h
  obtain ⟨S1', g1, g2, g3⟩ := lw_movePlan hZ1 k100 hc f1
  obtain ⟨S2, q1, q2, q3, q4, q5⟩ := f2 S1' g2
  have zb := q4.2
  have k8a := zk138 (g2.Z hZ1)
  have k8b := zk138 zb
  have k151 := zk151 zb
  have l151 := zl151 zb
  have th := z_thrown zb q2
  have hcb : c ≤ 2 := by omega
  refine ⟨S2, ?_, q4, q5⟩
  clear f1 f2 g2 q4 q5 h
  generalize hF1 : fL_movePlan w_N = fL at *
  generalize hF2 : fX11_movePlan w_N = fZ at *
  generalize hF3 : fX11_thrown w_N = fT at *
  unfold bLc_27
  rw [hF1, hF2, hF3]
  by_cases c0 : c = 0
  · subst c0
    have gj := (congrFun q3 0).trans (g3 rfl)
    have l0 := lg_self (w := v.toInt64)
    simp (disch := omega) only [kL_law_2030, kL_law_2276, x_cs0, x_csi, x_csr, x_csn, x_csl, x_ret_v, x_ret_t, x_ret_n, x_tl_s, x_tl_n, x_lk0, x_lk, x_rem0, x_rem_i, x_rem_r, x_rem_l, x_rem2_0, x_rem2_i, x_rem2_r, x_rem2_l, x_pick0, x_pick_c, x_st1, x_st2, x_live, x_i, x_l, x_a, x_ild, x_lld, x_rld, x_ist, x_lst, x_rst, x_inc, x_ii, x_ll, x_li, x_cmp, x_ui, x_il, x_lti, x_idiv, x_irem, x_dup_i, x_dup_r, x_pop_i, x_pop_r, x_dupx_ir, x_dup2_ir, x_ifeq, x_iceq, x_iflt, x_iclt, x_ifge, x_icge, x_ifgt, x_icgt, x_ifle, x_icle, x_ifne, x_icne, x_ifnull_r, x_ifnull_n, x_ifnonnull_r, x_ifnonnull_n, x_sw, x_vret, x_iret, x_lret, x_zret, x_zret0, x_zret1, x_rf_s, x_rf_n, x_geti, x_getr, x_puti, x_putz, x_putr, x_ial, x_ias, x_lal, x_las, x_aal, x_aas, x_aast, x_alen, x_new, x_newa, x_copy, x_min, x_abs, x_minl, x_oinit, x_throw, x_callS0, x_callS1, x_callS2, x_callS3, x_callS4, x_callV0, x_callV1, x_callV2, x_callV3, x_callV4, x_callV5, x_retI_v, x_callI0, x_callI1, x_callI2, x_retN_v, x_callSN1, x_callSN2, x_callT0, x_callT1, x_fn, x_sl0, x_sli, x_slr, x_sll, x_ar0, x_ari, x_arr, x_arl, ↓reduceIte, Nat.reduceAdd, Nat.reduceSub, Nat.reduceMul, Nat.reduceEqDiff, Nat.reduceLeDiff, Nat.reduceLT, if_true, if_false, Nat.le_refl, and_true, true_and, and_self, reduceCtorEq, or_false, false_or, or_true, true_or, Nat.zero_le, fa_lit, nI_add, w_mul, nI_ltI, nI_leI, nI_eq, nI_clamp, nI_toInt, if_pos, if_neg, w_div, w_rem2, x_sld, x_cS4, x_cR2, x_cR0, x_retN_v, g1, q1, th, k8a, k8b, k151, l151, gj, l0]
  · simp (disch := omega) only [kL_law_2030, kL_law_2276, x_cs0, x_csi, x_csr, x_csn, x_csl, x_ret_v, x_ret_t, x_ret_n, x_tl_s, x_tl_n, x_lk0, x_lk, x_rem0, x_rem_i, x_rem_r, x_rem_l, x_rem2_0, x_rem2_i, x_rem2_r, x_rem2_l, x_pick0, x_pick_c, x_st1, x_st2, x_live, x_i, x_l, x_a, x_ild, x_lld, x_rld, x_ist, x_lst, x_rst, x_inc, x_ii, x_ll, x_li, x_cmp, x_ui, x_il, x_lti, x_idiv, x_irem, x_dup_i, x_dup_r, x_pop_i, x_pop_r, x_dupx_ir, x_dup2_ir, x_ifeq, x_iceq, x_iflt, x_iclt, x_ifge, x_icge, x_ifgt, x_icgt, x_ifle, x_icle, x_ifne, x_icne, x_ifnull_r, x_ifnull_n, x_ifnonnull_r, x_ifnonnull_n, x_sw, x_vret, x_iret, x_lret, x_zret, x_zret0, x_zret1, x_rf_s, x_rf_n, x_geti, x_getr, x_puti, x_putz, x_putr, x_ial, x_ias, x_lal, x_las, x_aal, x_aas, x_aast, x_alen, x_new, x_newa, x_copy, x_min, x_abs, x_minl, x_oinit, x_throw, x_callS0, x_callS1, x_callS2, x_callS3, x_callS4, x_callV0, x_callV1, x_callV2, x_callV3, x_callV4, x_callV5, x_retI_v, x_callI0, x_callI1, x_callI2, x_retN_v, x_callSN1, x_callSN2, x_callT0, x_callT1, x_fn, x_sl0, x_sli, x_slr, x_sll, x_ar0, x_ari, x_arr, x_arl, ↓reduceIte, Nat.reduceAdd, Nat.reduceSub, Nat.reduceMul, Nat.reduceEqDiff, Nat.reduceLeDiff, Nat.reduceLT, if_true, if_false, Nat.le_refl, and_true, true_and, and_self, reduceCtorEq, or_false, false_or, or_true, true_or, Nat.zero_le, fa_lit, nI_add, w_mul, nI_ltI, nI_leI, nI_eq, nI_clamp, nI_toInt, if_pos, if_neg, w_div, w_rem2, x_sld, x_cS4, x_cR2, x_cR0, x_retN_v, g1, q1, th, k8a, k8b]

theorem lc_28 (h : w_law S) (hi : i + 6 ≤ L) (hL : L ≤ 3072) : ∃ S', bLc_28 L sc K (q_LV i) [] S = K (q_LV (i + 6)) [] S' ∧ w_law S' ∧ w_le 20 4100 S S' := by
  have k100 := yk100 h.1.1.1
  obtain ⟨S1, c, v, hc, hZ1, f1, f2⟩ := pr_setPatience (x := sc (i + 1)) h
  obtain ⟨S1', g1, g2, g3⟩ := lw_setPatience hZ1 k100 hc f1
  obtain ⟨S2, q1, q2, q3, q4, q5⟩ := f2 S1' g2
  have zb := q4.2
  have k8a := zk138 (g2.Z hZ1)
  have k8b := zk138 zb
  have k151 := zk151 zb
  have l151 := zl151 zb
  have th := z_thrown zb q2
  have hcb : c ≤ 2 := by omega
  refine ⟨S2, ?_, q4, q5⟩
  clear f1 f2 g2 q4 q5 h
  generalize hF1 : fL_setPatience w_N = fL at *
  generalize hF2 : fX11_setPatience w_N = fZ at *
  generalize hF3 : fX11_thrown w_N = fT at *
  unfold bLc_28
  rw [hF1, hF2, hF3]
  by_cases c0 : c = 0
  · subst c0
    have gj := (congrFun q3 0).trans (g3 rfl)
    have l0 := lg_self (w := v.toInt64)
    simp (disch := omega) only [kL_law_2086, kL_law_2276, x_cs0, x_csi, x_csr, x_csn, x_csl, x_ret_v, x_ret_t, x_ret_n, x_tl_s, x_tl_n, x_lk0, x_lk, x_rem0, x_rem_i, x_rem_r, x_rem_l, x_rem2_0, x_rem2_i, x_rem2_r, x_rem2_l, x_pick0, x_pick_c, x_st1, x_st2, x_live, x_i, x_l, x_a, x_ild, x_lld, x_rld, x_ist, x_lst, x_rst, x_inc, x_ii, x_ll, x_li, x_cmp, x_ui, x_il, x_lti, x_idiv, x_irem, x_dup_i, x_dup_r, x_pop_i, x_pop_r, x_dupx_ir, x_dup2_ir, x_ifeq, x_iceq, x_iflt, x_iclt, x_ifge, x_icge, x_ifgt, x_icgt, x_ifle, x_icle, x_ifne, x_icne, x_ifnull_r, x_ifnull_n, x_ifnonnull_r, x_ifnonnull_n, x_sw, x_vret, x_iret, x_lret, x_zret, x_zret0, x_zret1, x_rf_s, x_rf_n, x_geti, x_getr, x_puti, x_putz, x_putr, x_ial, x_ias, x_lal, x_las, x_aal, x_aas, x_aast, x_alen, x_new, x_newa, x_copy, x_min, x_abs, x_minl, x_oinit, x_throw, x_callS0, x_callS1, x_callS2, x_callS3, x_callS4, x_callV0, x_callV1, x_callV2, x_callV3, x_callV4, x_callV5, x_retI_v, x_callI0, x_callI1, x_callI2, x_retN_v, x_callSN1, x_callSN2, x_callT0, x_callT1, x_fn, x_sl0, x_sli, x_slr, x_sll, x_ar0, x_ari, x_arr, x_arl, ↓reduceIte, Nat.reduceAdd, Nat.reduceSub, Nat.reduceMul, Nat.reduceEqDiff, Nat.reduceLeDiff, Nat.reduceLT, if_true, if_false, Nat.le_refl, and_true, true_and, and_self, reduceCtorEq, or_false, false_or, or_true, true_or, Nat.zero_le, fa_lit, nI_add, w_mul, nI_ltI, nI_leI, nI_eq, nI_clamp, nI_toInt, if_pos, if_neg, w_div, w_rem2, x_sld, x_cS3, x_cR1, x_cR0, x_retN_v, g1, q1, th, k8a, k8b, k151, l151, gj, l0]
  · simp (disch := omega) only [kL_law_2086, kL_law_2276, x_cs0, x_csi, x_csr, x_csn, x_csl, x_ret_v, x_ret_t, x_ret_n, x_tl_s, x_tl_n, x_lk0, x_lk, x_rem0, x_rem_i, x_rem_r, x_rem_l, x_rem2_0, x_rem2_i, x_rem2_r, x_rem2_l, x_pick0, x_pick_c, x_st1, x_st2, x_live, x_i, x_l, x_a, x_ild, x_lld, x_rld, x_ist, x_lst, x_rst, x_inc, x_ii, x_ll, x_li, x_cmp, x_ui, x_il, x_lti, x_idiv, x_irem, x_dup_i, x_dup_r, x_pop_i, x_pop_r, x_dupx_ir, x_dup2_ir, x_ifeq, x_iceq, x_iflt, x_iclt, x_ifge, x_icge, x_ifgt, x_icgt, x_ifle, x_icle, x_ifne, x_icne, x_ifnull_r, x_ifnull_n, x_ifnonnull_r, x_ifnonnull_n, x_sw, x_vret, x_iret, x_lret, x_zret, x_zret0, x_zret1, x_rf_s, x_rf_n, x_geti, x_getr, x_puti, x_putz, x_putr, x_ial, x_ias, x_lal, x_las, x_aal, x_aas, x_aast, x_alen, x_new, x_newa, x_copy, x_min, x_abs, x_minl, x_oinit, x_throw, x_callS0, x_callS1, x_callS2, x_callS3, x_callS4, x_callV0, x_callV1, x_callV2, x_callV3, x_callV4, x_callV5, x_retI_v, x_callI0, x_callI1, x_callI2, x_retN_v, x_callSN1, x_callSN2, x_callT0, x_callT1, x_fn, x_sl0, x_sli, x_slr, x_sll, x_ar0, x_ari, x_arr, x_arl, ↓reduceIte, Nat.reduceAdd, Nat.reduceSub, Nat.reduceMul, Nat.reduceEqDiff, Nat.reduceLeDiff, Nat.reduceLT, if_true, if_false, Nat.le_refl, and_true, true_and, and_self, reduceCtorEq, or_false, false_or, or_true, true_or, Nat.zero_le, fa_lit, nI_add, w_mul, nI_ltI, nI_leI, nI_eq, nI_clamp, nI_toInt, if_pos, if_neg, w_div, w_rem2, x_sld, x_cS3, x_cR1, x_cR0, x_retN_v, g1, q1, th, k8a, k8b]

theorem lc_29 (h : w_law S) (hi : i + 6 ≤ L) (hL : L ≤ 3072) : ∃ S', bLc_29 L sc K (q_LV i) [] S = K (q_LV (i + 6)) [] S' ∧ w_law S' ∧ w_le 20 4100 S S' := by
  have k100 := yk100 h.1.1.1
  obtain ⟨S1, c, v, hc, hZ1, f1, f2⟩ := pr_format (x := sc (i + 1)) h
  obtain ⟨S1', g1, g2, g3⟩ := lw_format hZ1 k100 hc f1
  obtain ⟨S2, q1, q2, q3, q4, q5⟩ := f2 S1' g2
  have zb := q4.2
  have k8a := zk138 (g2.Z hZ1)
  have k8b := zk138 zb
  have k151 := zk151 zb
  have l151 := zl151 zb
  have th := z_thrown zb q2
  have hcb : c ≤ 2 := by omega
  refine ⟨S2, ?_, q4, q5⟩
  clear f1 f2 g2 q4 q5 h
  generalize hF1 : fL_format w_N = fL at *
  generalize hF2 : fX11_format w_N = fZ at *
  generalize hF3 : fX11_thrown w_N = fT at *
  unfold bLc_29
  rw [hF1, hF2, hF3]
  by_cases c0 : c = 0
  · subst c0
    have gj := (congrFun q3 0).trans (g3 rfl)
    have l0 := lg_self (w := v.toInt64)
    simp (disch := omega) only [kL_law_2142, kL_law_2276, x_cs0, x_csi, x_csr, x_csn, x_csl, x_ret_v, x_ret_t, x_ret_n, x_tl_s, x_tl_n, x_lk0, x_lk, x_rem0, x_rem_i, x_rem_r, x_rem_l, x_rem2_0, x_rem2_i, x_rem2_r, x_rem2_l, x_pick0, x_pick_c, x_st1, x_st2, x_live, x_i, x_l, x_a, x_ild, x_lld, x_rld, x_ist, x_lst, x_rst, x_inc, x_ii, x_ll, x_li, x_cmp, x_ui, x_il, x_lti, x_idiv, x_irem, x_dup_i, x_dup_r, x_pop_i, x_pop_r, x_dupx_ir, x_dup2_ir, x_ifeq, x_iceq, x_iflt, x_iclt, x_ifge, x_icge, x_ifgt, x_icgt, x_ifle, x_icle, x_ifne, x_icne, x_ifnull_r, x_ifnull_n, x_ifnonnull_r, x_ifnonnull_n, x_sw, x_vret, x_iret, x_lret, x_zret, x_zret0, x_zret1, x_rf_s, x_rf_n, x_geti, x_getr, x_puti, x_putz, x_putr, x_ial, x_ias, x_lal, x_las, x_aal, x_aas, x_aast, x_alen, x_new, x_newa, x_copy, x_min, x_abs, x_minl, x_oinit, x_throw, x_callS0, x_callS1, x_callS2, x_callS3, x_callS4, x_callV0, x_callV1, x_callV2, x_callV3, x_callV4, x_callV5, x_retI_v, x_callI0, x_callI1, x_callI2, x_retN_v, x_callSN1, x_callSN2, x_callT0, x_callT1, x_fn, x_sl0, x_sli, x_slr, x_sll, x_ar0, x_ari, x_arr, x_arl, ↓reduceIte, Nat.reduceAdd, Nat.reduceSub, Nat.reduceMul, Nat.reduceEqDiff, Nat.reduceLeDiff, Nat.reduceLT, if_true, if_false, Nat.le_refl, and_true, true_and, and_self, reduceCtorEq, or_false, false_or, or_true, true_or, Nat.zero_le, fa_lit, nI_add, w_mul, nI_ltI, nI_leI, nI_eq, nI_clamp, nI_toInt, if_pos, if_neg, w_div, w_rem2, x_sld, x_cS3, x_cR1, x_cR0, x_retN_v, g1, q1, th, k8a, k8b, k151, l151, gj, l0]
  · simp (disch := omega) only [kL_law_2142, kL_law_2276, x_cs0, x_csi, x_csr, x_csn, x_csl, x_ret_v, x_ret_t, x_ret_n, x_tl_s, x_tl_n, x_lk0, x_lk, x_rem0, x_rem_i, x_rem_r, x_rem_l, x_rem2_0, x_rem2_i, x_rem2_r, x_rem2_l, x_pick0, x_pick_c, x_st1, x_st2, x_live, x_i, x_l, x_a, x_ild, x_lld, x_rld, x_ist, x_lst, x_rst, x_inc, x_ii, x_ll, x_li, x_cmp, x_ui, x_il, x_lti, x_idiv, x_irem, x_dup_i, x_dup_r, x_pop_i, x_pop_r, x_dupx_ir, x_dup2_ir, x_ifeq, x_iceq, x_iflt, x_iclt, x_ifge, x_icge, x_ifgt, x_icgt, x_ifle, x_icle, x_ifne, x_icne, x_ifnull_r, x_ifnull_n, x_ifnonnull_r, x_ifnonnull_n, x_sw, x_vret, x_iret, x_lret, x_zret, x_zret0, x_zret1, x_rf_s, x_rf_n, x_geti, x_getr, x_puti, x_putz, x_putr, x_ial, x_ias, x_lal, x_las, x_aal, x_aas, x_aast, x_alen, x_new, x_newa, x_copy, x_min, x_abs, x_minl, x_oinit, x_throw, x_callS0, x_callS1, x_callS2, x_callS3, x_callS4, x_callV0, x_callV1, x_callV2, x_callV3, x_callV4, x_callV5, x_retI_v, x_callI0, x_callI1, x_callI2, x_retN_v, x_callSN1, x_callSN2, x_callT0, x_callT1, x_fn, x_sl0, x_sli, x_slr, x_sll, x_ar0, x_ari, x_arr, x_arl, ↓reduceIte, Nat.reduceAdd, Nat.reduceSub, Nat.reduceMul, Nat.reduceEqDiff, Nat.reduceLeDiff, Nat.reduceLT, if_true, if_false, Nat.le_refl, and_true, true_and, and_self, reduceCtorEq, or_false, false_or, or_true, true_or, Nat.zero_le, fa_lit, nI_add, w_mul, nI_ltI, nI_leI, nI_eq, nI_clamp, nI_toInt, if_pos, if_neg, w_div, w_rem2, x_sld, x_cS3, x_cR1, x_cR0, x_retN_v, g1, q1, th, k8a, k8b]

theorem lc_30 (h : w_law S) (hi : i + 6 ≤ L) (hL : L ≤ 3072) : ∃ S', bLc_30 L sc K (q_LV i) [] S = K (q_LV (i + 6)) [] S' ∧ w_law S' ∧ w_le 20 4100 S S' := by
  have k100 := yk100 h.1.1.1
  obtain ⟨S1, hZ1, g1, S2, q1, q4, q5⟩ := pr_formattedByte (x := sc (i + 1)) h
  have k8a : am_k S1 138 = 11 := zk138 hZ1
  refine ⟨S2, ?_, q4, q5⟩
  clear q4 q5 h
  generalize hF1 : fX10_formattedByte w_N = fY at *
  generalize hF2 : fX11_formattedByte w_N = fZ at *
  unfold bLc_30
  rw [hF1, hF2]
  simp (disch := omega) only [kL_law_2276, x_cs0, x_csi, x_csr, x_csn, x_csl, x_ret_v, x_ret_t, x_ret_n, x_tl_s, x_tl_n, x_lk0, x_lk, x_rem0, x_rem_i, x_rem_r, x_rem_l, x_rem2_0, x_rem2_i, x_rem2_r, x_rem2_l, x_pick0, x_pick_c, x_st1, x_st2, x_live, x_i, x_l, x_a, x_ild, x_lld, x_rld, x_ist, x_lst, x_rst, x_inc, x_ii, x_ll, x_li, x_cmp, x_ui, x_il, x_lti, x_idiv, x_irem, x_dup_i, x_dup_r, x_pop_i, x_pop_r, x_dupx_ir, x_dup2_ir, x_ifeq, x_iceq, x_iflt, x_iclt, x_ifge, x_icge, x_ifgt, x_icgt, x_ifle, x_icle, x_ifne, x_icne, x_ifnull_r, x_ifnull_n, x_ifnonnull_r, x_ifnonnull_n, x_sw, x_vret, x_iret, x_lret, x_zret, x_zret0, x_zret1, x_rf_s, x_rf_n, x_geti, x_getr, x_puti, x_putz, x_putr, x_ial, x_ias, x_lal, x_las, x_aal, x_aas, x_aast, x_alen, x_new, x_newa, x_copy, x_min, x_abs, x_minl, x_oinit, x_throw, x_callS0, x_callS1, x_callS2, x_callS3, x_callS4, x_callV0, x_callV1, x_callV2, x_callV3, x_callV4, x_callV5, x_retI_v, x_callI0, x_callI1, x_callI2, x_retN_v, x_callSN1, x_callSN2, x_callT0, x_callT1, x_fn, x_sl0, x_sli, x_slr, x_sll, x_ar0, x_ari, x_arr, x_arl, ↓reduceIte, Nat.reduceAdd, Nat.reduceSub, Nat.reduceMul, Nat.reduceEqDiff, Nat.reduceLeDiff, Nat.reduceLT, if_true, if_false, Nat.le_refl, and_true, true_and, and_self, reduceCtorEq, or_false, false_or, or_true, true_or, Nat.zero_le, fa_lit, nI_add, w_mul, nI_ltI, nI_leI, nI_eq, nI_clamp, nI_toInt, if_pos, if_neg, w_div, w_rem2, x_sld, x_cR1, x_retN_v, g1, q1, k100, k8a]

theorem lc_31 (h : w_law S) (hi : i + 6 ≤ L) (hL : L ≤ 3072) : ∃ S', bLc_31 L sc K (q_LV i) [] S = K (q_LV (i + 6)) [] S' ∧ w_law S' ∧ w_le 20 4100 S S' := by
  have k100 := yk100 h.1.1.1
  obtain ⟨S1, hZ1, g1, S2, q1, q4, q5⟩ := pr_undoCount  h
  have k8a : am_k S1 138 = 11 := zk138 hZ1
  refine ⟨S2, ?_, q4, q5⟩
  clear q4 q5 h
  generalize hF1 : fX10_undoCount w_N = fY at *
  generalize hF2 : fX11_undoCount w_N = fZ at *
  unfold bLc_31
  rw [hF1, hF2]
  simp (disch := omega) only [kL_law_2276, x_cs0, x_csi, x_csr, x_csn, x_csl, x_ret_v, x_ret_t, x_ret_n, x_tl_s, x_tl_n, x_lk0, x_lk, x_rem0, x_rem_i, x_rem_r, x_rem_l, x_rem2_0, x_rem2_i, x_rem2_r, x_rem2_l, x_pick0, x_pick_c, x_st1, x_st2, x_live, x_i, x_l, x_a, x_ild, x_lld, x_rld, x_ist, x_lst, x_rst, x_inc, x_ii, x_ll, x_li, x_cmp, x_ui, x_il, x_lti, x_idiv, x_irem, x_dup_i, x_dup_r, x_pop_i, x_pop_r, x_dupx_ir, x_dup2_ir, x_ifeq, x_iceq, x_iflt, x_iclt, x_ifge, x_icge, x_ifgt, x_icgt, x_ifle, x_icle, x_ifne, x_icne, x_ifnull_r, x_ifnull_n, x_ifnonnull_r, x_ifnonnull_n, x_sw, x_vret, x_iret, x_lret, x_zret, x_zret0, x_zret1, x_rf_s, x_rf_n, x_geti, x_getr, x_puti, x_putz, x_putr, x_ial, x_ias, x_lal, x_las, x_aal, x_aas, x_aast, x_alen, x_new, x_newa, x_copy, x_min, x_abs, x_minl, x_oinit, x_throw, x_callS0, x_callS1, x_callS2, x_callS3, x_callS4, x_callV0, x_callV1, x_callV2, x_callV3, x_callV4, x_callV5, x_retI_v, x_callI0, x_callI1, x_callI2, x_retN_v, x_callSN1, x_callSN2, x_callT0, x_callT1, x_fn, x_sl0, x_sli, x_slr, x_sll, x_ar0, x_ari, x_arr, x_arl, ↓reduceIte, Nat.reduceAdd, Nat.reduceSub, Nat.reduceMul, Nat.reduceEqDiff, Nat.reduceLeDiff, Nat.reduceLT, if_true, if_false, Nat.le_refl, and_true, true_and, and_self, reduceCtorEq, or_false, false_or, or_true, true_or, Nat.zero_le, fa_lit, nI_add, w_mul, nI_ltI, nI_leI, nI_eq, nI_clamp, nI_toInt, if_pos, if_neg, w_div, w_rem2, x_sld, x_cR0, x_retN_v, g1, q1, k100, k8a]

theorem lc_32 (h : w_law S) (hi : i + 6 ≤ L) (hL : L ≤ 3072) : ∃ S', bLc_32 L sc K (q_LV i) [] S = K (q_LV (i + 6)) [] S' ∧ w_law S' ∧ w_le 20 4100 S S' := by
  have k100 := yk100 h.1.1.1
  obtain ⟨S1, hZ1, g1, S2, q1, q4, q5⟩ := pr_undo  h
  have k8a : am_k S1 138 = 11 := zk138 hZ1
  refine ⟨S2, ?_, q4, q5⟩
  clear q4 q5 h
  generalize hF1 : fX10_undo w_N = fY at *
  generalize hF2 : fX11_undo w_N = fZ at *
  unfold bLc_32
  rw [hF1, hF2]
  simp (disch := omega) only [kL_law_2276, x_cs0, x_csi, x_csr, x_csn, x_csl, x_ret_v, x_ret_t, x_ret_n, x_tl_s, x_tl_n, x_lk0, x_lk, x_rem0, x_rem_i, x_rem_r, x_rem_l, x_rem2_0, x_rem2_i, x_rem2_r, x_rem2_l, x_pick0, x_pick_c, x_st1, x_st2, x_live, x_i, x_l, x_a, x_ild, x_lld, x_rld, x_ist, x_lst, x_rst, x_inc, x_ii, x_ll, x_li, x_cmp, x_ui, x_il, x_lti, x_idiv, x_irem, x_dup_i, x_dup_r, x_pop_i, x_pop_r, x_dupx_ir, x_dup2_ir, x_ifeq, x_iceq, x_iflt, x_iclt, x_ifge, x_icge, x_ifgt, x_icgt, x_ifle, x_icle, x_ifne, x_icne, x_ifnull_r, x_ifnull_n, x_ifnonnull_r, x_ifnonnull_n, x_sw, x_vret, x_iret, x_lret, x_zret, x_zret0, x_zret1, x_rf_s, x_rf_n, x_geti, x_getr, x_puti, x_putz, x_putr, x_ial, x_ias, x_lal, x_las, x_aal, x_aas, x_aast, x_alen, x_new, x_newa, x_copy, x_min, x_abs, x_minl, x_oinit, x_throw, x_callS0, x_callS1, x_callS2, x_callS3, x_callS4, x_callV0, x_callV1, x_callV2, x_callV3, x_callV4, x_callV5, x_retI_v, x_callI0, x_callI1, x_callI2, x_retN_v, x_callSN1, x_callSN2, x_callT0, x_callT1, x_fn, x_sl0, x_sli, x_slr, x_sll, x_ar0, x_ari, x_arr, x_arl, ↓reduceIte, Nat.reduceAdd, Nat.reduceSub, Nat.reduceMul, Nat.reduceEqDiff, Nat.reduceLeDiff, Nat.reduceLT, if_true, if_false, Nat.le_refl, and_true, true_and, and_self, reduceCtorEq, or_false, false_or, or_true, true_or, Nat.zero_le, fa_lit, nI_add, w_mul, nI_ltI, nI_leI, nI_eq, nI_clamp, nI_toInt, if_pos, if_neg, w_div, w_rem2, x_sld, x_cR0, x_retN_v, g1, q1, k100, k8a]

theorem lc_33 (h : w_law S) (hi : i + 6 ≤ L) (hL : L ≤ 3072) : ∃ S', bLc_33 L sc K (q_LV i) [] S = K (q_LV (i + 6)) [] S' ∧ w_law S' ∧ w_le 20 4100 S S' := by
  have k100 := yk100 h.1.1.1
  obtain ⟨S1, hZ1, g1, S2, q1, q4, q5⟩ := pr_saveSnapshot  h
  have k8a : am_k S1 138 = 11 := zk138 hZ1
  refine ⟨S2, ?_, q4, q5⟩
  clear q4 q5 h
  generalize hF1 : fX10_saveSnapshot w_N = fY at *
  generalize hF2 : fX11_saveSnapshot w_N = fZ at *
  unfold bLc_33
  rw [hF1, hF2]
  simp (disch := omega) only [kL_law_2276, x_cs0, x_csi, x_csr, x_csn, x_csl, x_ret_v, x_ret_t, x_ret_n, x_tl_s, x_tl_n, x_lk0, x_lk, x_rem0, x_rem_i, x_rem_r, x_rem_l, x_rem2_0, x_rem2_i, x_rem2_r, x_rem2_l, x_pick0, x_pick_c, x_st1, x_st2, x_live, x_i, x_l, x_a, x_ild, x_lld, x_rld, x_ist, x_lst, x_rst, x_inc, x_ii, x_ll, x_li, x_cmp, x_ui, x_il, x_lti, x_idiv, x_irem, x_dup_i, x_dup_r, x_pop_i, x_pop_r, x_dupx_ir, x_dup2_ir, x_ifeq, x_iceq, x_iflt, x_iclt, x_ifge, x_icge, x_ifgt, x_icgt, x_ifle, x_icle, x_ifne, x_icne, x_ifnull_r, x_ifnull_n, x_ifnonnull_r, x_ifnonnull_n, x_sw, x_vret, x_iret, x_lret, x_zret, x_zret0, x_zret1, x_rf_s, x_rf_n, x_geti, x_getr, x_puti, x_putz, x_putr, x_ial, x_ias, x_lal, x_las, x_aal, x_aas, x_aast, x_alen, x_new, x_newa, x_copy, x_min, x_abs, x_minl, x_oinit, x_throw, x_callS0, x_callS1, x_callS2, x_callS3, x_callS4, x_callV0, x_callV1, x_callV2, x_callV3, x_callV4, x_callV5, x_retI_v, x_callI0, x_callI1, x_callI2, x_retN_v, x_callSN1, x_callSN2, x_callT0, x_callT1, x_fn, x_sl0, x_sli, x_slr, x_sll, x_ar0, x_ari, x_arr, x_arl, ↓reduceIte, Nat.reduceAdd, Nat.reduceSub, Nat.reduceMul, Nat.reduceEqDiff, Nat.reduceLeDiff, Nat.reduceLT, if_true, if_false, Nat.le_refl, and_true, true_and, and_self, reduceCtorEq, or_false, false_or, or_true, true_or, Nat.zero_le, fa_lit, nI_add, w_mul, nI_ltI, nI_leI, nI_eq, nI_clamp, nI_toInt, if_pos, if_neg, w_div, w_rem2, x_sld, x_cR0, x_retN_v, g1, q1, k100, k8a]

theorem lc_34 (h : w_law S) (hi : i + 6 ≤ L) (hL : L ≤ 3072) : ∃ S', bLc_34 L sc K (q_LV i) [] S = K (q_LV (i + 6)) [] S' ∧ w_law S' ∧ w_le 20 4100 S S' := by
  have k100 := yk100 h.1.1.1
  obtain ⟨S1, hZ1, g1, S2, q1, q4, q5⟩ := pr_restoreSnapshot  h
  have k8a : am_k S1 138 = 11 := zk138 hZ1
  refine ⟨S2, ?_, q4, q5⟩
  clear q4 q5 h
  generalize hF1 : fX10_restoreSnapshot w_N = fY at *
  generalize hF2 : fX11_restoreSnapshot w_N = fZ at *
  unfold bLc_34
  rw [hF1, hF2]
  simp (disch := omega) only [kL_law_2276, x_cs0, x_csi, x_csr, x_csn, x_csl, x_ret_v, x_ret_t, x_ret_n, x_tl_s, x_tl_n, x_lk0, x_lk, x_rem0, x_rem_i, x_rem_r, x_rem_l, x_rem2_0, x_rem2_i, x_rem2_r, x_rem2_l, x_pick0, x_pick_c, x_st1, x_st2, x_live, x_i, x_l, x_a, x_ild, x_lld, x_rld, x_ist, x_lst, x_rst, x_inc, x_ii, x_ll, x_li, x_cmp, x_ui, x_il, x_lti, x_idiv, x_irem, x_dup_i, x_dup_r, x_pop_i, x_pop_r, x_dupx_ir, x_dup2_ir, x_ifeq, x_iceq, x_iflt, x_iclt, x_ifge, x_icge, x_ifgt, x_icgt, x_ifle, x_icle, x_ifne, x_icne, x_ifnull_r, x_ifnull_n, x_ifnonnull_r, x_ifnonnull_n, x_sw, x_vret, x_iret, x_lret, x_zret, x_zret0, x_zret1, x_rf_s, x_rf_n, x_geti, x_getr, x_puti, x_putz, x_putr, x_ial, x_ias, x_lal, x_las, x_aal, x_aas, x_aast, x_alen, x_new, x_newa, x_copy, x_min, x_abs, x_minl, x_oinit, x_throw, x_callS0, x_callS1, x_callS2, x_callS3, x_callS4, x_callV0, x_callV1, x_callV2, x_callV3, x_callV4, x_callV5, x_retI_v, x_callI0, x_callI1, x_callI2, x_retN_v, x_callSN1, x_callSN2, x_callT0, x_callT1, x_fn, x_sl0, x_sli, x_slr, x_sll, x_ar0, x_ari, x_arr, x_arl, ↓reduceIte, Nat.reduceAdd, Nat.reduceSub, Nat.reduceMul, Nat.reduceEqDiff, Nat.reduceLeDiff, Nat.reduceLT, if_true, if_false, Nat.le_refl, and_true, true_and, and_self, reduceCtorEq, or_false, false_or, or_true, true_or, Nat.zero_le, fa_lit, nI_add, w_mul, nI_ltI, nI_leI, nI_eq, nI_clamp, nI_toInt, if_pos, if_neg, w_div, w_rem2, x_sld, x_cR0, x_retN_v, g1, q1, k100, k8a]

theorem lc_35 (h : w_law S) (hi : i + 6 ≤ L) (hL : L ≤ 3072) : ∃ S', bLc_35 L sc K (q_LV i) [] S = K (q_LV (i + 6)) [] S' ∧ w_law S' ∧ w_le 20 4100 S S' := by
  have k100 := yk100 h.1.1.1
  obtain ⟨S1, c, v, hc, hZ1, f1, f2⟩ := pr_query (x := sc (i + 1)) h
  obtain ⟨S1', g1, g2, g3⟩ := lw_query hZ1 k100 hc f1
  obtain ⟨S2, q1, q2, q3, q4, q5⟩ := f2 S1' g2
  have zb := q4.2
  have k8a := zk138 (g2.Z hZ1)
  have k8b := zk138 zb
  have k151 := zk151 zb
  have l151 := zl151 zb
  have th := z_thrown zb q2
  have hcb : c ≤ 2 := by omega
  refine ⟨S2, ?_, q4, q5⟩
  clear f1 f2 g2 q4 q5 h
  generalize hF1 : fL_query w_N = fL at *
  generalize hF2 : fX11_query w_N = fZ at *
  generalize hF3 : fX11_thrown w_N = fT at *
  unfold bLc_35
  rw [hF1, hF2, hF3]
  by_cases c0 : c = 0
  · subst c0
    have gj := (congrFun q3 0).trans (g3 rfl)
    have l0 := lg_self (w := v.toInt64)
    simp (disch := omega) only [kL_law_2273, kL_law_2276, x_cs0, x_csi, x_csr, x_csn, x_csl, x_ret_v, x_ret_t, x_ret_n, x_tl_s, x_tl_n, x_lk0, x_lk, x_rem0, x_rem_i, x_rem_r, x_rem_l, x_rem2_0, x_rem2_i, x_rem2_r, x_rem2_l, x_pick0, x_pick_c, x_st1, x_st2, x_live, x_i, x_l, x_a, x_ild, x_lld, x_rld, x_ist, x_lst, x_rst, x_inc, x_ii, x_ll, x_li, x_cmp, x_ui, x_il, x_lti, x_idiv, x_irem, x_dup_i, x_dup_r, x_pop_i, x_pop_r, x_dupx_ir, x_dup2_ir, x_ifeq, x_iceq, x_iflt, x_iclt, x_ifge, x_icge, x_ifgt, x_icgt, x_ifle, x_icle, x_ifne, x_icne, x_ifnull_r, x_ifnull_n, x_ifnonnull_r, x_ifnonnull_n, x_sw, x_vret, x_iret, x_lret, x_zret, x_zret0, x_zret1, x_rf_s, x_rf_n, x_geti, x_getr, x_puti, x_putz, x_putr, x_ial, x_ias, x_lal, x_las, x_aal, x_aas, x_aast, x_alen, x_new, x_newa, x_copy, x_min, x_abs, x_minl, x_oinit, x_throw, x_callS0, x_callS1, x_callS2, x_callS3, x_callS4, x_callV0, x_callV1, x_callV2, x_callV3, x_callV4, x_callV5, x_retI_v, x_callI0, x_callI1, x_callI2, x_retN_v, x_callSN1, x_callSN2, x_callT0, x_callT1, x_fn, x_sl0, x_sli, x_slr, x_sll, x_ar0, x_ari, x_arr, x_arl, ↓reduceIte, Nat.reduceAdd, Nat.reduceSub, Nat.reduceMul, Nat.reduceEqDiff, Nat.reduceLeDiff, Nat.reduceLT, if_true, if_false, Nat.le_refl, and_true, true_and, and_self, reduceCtorEq, or_false, false_or, or_true, true_or, Nat.zero_le, fa_lit, nI_add, w_mul, nI_ltI, nI_leI, nI_eq, nI_clamp, nI_toInt, if_pos, if_neg, w_div, w_rem2, x_sld, x_cS3, x_cR1, x_cR0, x_retN_v, g1, q1, th, k8a, k8b, k151, l151, gj, l0]
  · simp (disch := omega) only [kL_law_2273, kL_law_2276, x_cs0, x_csi, x_csr, x_csn, x_csl, x_ret_v, x_ret_t, x_ret_n, x_tl_s, x_tl_n, x_lk0, x_lk, x_rem0, x_rem_i, x_rem_r, x_rem_l, x_rem2_0, x_rem2_i, x_rem2_r, x_rem2_l, x_pick0, x_pick_c, x_st1, x_st2, x_live, x_i, x_l, x_a, x_ild, x_lld, x_rld, x_ist, x_lst, x_rst, x_inc, x_ii, x_ll, x_li, x_cmp, x_ui, x_il, x_lti, x_idiv, x_irem, x_dup_i, x_dup_r, x_pop_i, x_pop_r, x_dupx_ir, x_dup2_ir, x_ifeq, x_iceq, x_iflt, x_iclt, x_ifge, x_icge, x_ifgt, x_icgt, x_ifle, x_icle, x_ifne, x_icne, x_ifnull_r, x_ifnull_n, x_ifnonnull_r, x_ifnonnull_n, x_sw, x_vret, x_iret, x_lret, x_zret, x_zret0, x_zret1, x_rf_s, x_rf_n, x_geti, x_getr, x_puti, x_putz, x_putr, x_ial, x_ias, x_lal, x_las, x_aal, x_aas, x_aast, x_alen, x_new, x_newa, x_copy, x_min, x_abs, x_minl, x_oinit, x_throw, x_callS0, x_callS1, x_callS2, x_callS3, x_callS4, x_callV0, x_callV1, x_callV2, x_callV3, x_callV4, x_callV5, x_retI_v, x_callI0, x_callI1, x_callI2, x_retN_v, x_callSN1, x_callSN2, x_callT0, x_callT1, x_fn, x_sl0, x_sli, x_slr, x_sll, x_ar0, x_ari, x_arr, x_arl, ↓reduceIte, Nat.reduceAdd, Nat.reduceSub, Nat.reduceMul, Nat.reduceEqDiff, Nat.reduceLeDiff, Nat.reduceLT, if_true, if_false, Nat.le_refl, and_true, true_and, and_self, reduceCtorEq, or_false, false_or, or_true, true_or, Nat.zero_le, fa_lit, nI_add, w_mul, nI_ltI, nI_leI, nI_eq, nI_clamp, nI_toInt, if_pos, if_neg, w_div, w_rem2, x_sld, x_cS3, x_cR1, x_cR0, x_retN_v, g1, q1, th, k8a, k8b]

end L75
