/-! THE CLASS: the search -/
def s_cv (x : Int32) : Int32 := if x = 1000 then -nI 1 else x
theorem s_cv_n {m : Nat} (h : m < 1000) : s_cv (nI m) = nI m := if_neg (s_thou h)
theorem s_cv_t : s_cv 1000 = -nI 1 := if_pos rfl
/-- a row of distances: the object D, its numbers E -/
abbrev w_D (S : am_S) (D E : Nat) : Prop := am_k S D = 2 ∧ am_r S D 0 = some E ∧ am_k S E = 20 ∧ am_l S E = 144
abbrev w_P5 (E b : Nat) : Prop := b = E ∨ b = 131
def w_qc (S : am_S) (E : Nat) (q : s_Q) : Prop := (∀ k, k < 144 → am_i S E k = s_cv (q.1 k)) ∧ ∀ k, k < q.2.2 → am_i S 131 k = q.2.1 k
theorem w_I.C {P : Nat → Prop} {S T : am_S} (h : w_I P S T) (z : w_C S) : w_C T := by
  unfold w_C
  rw [h.2.2.1, h.2.2.2.1, h.2.2.2.2.2.1]
  exact z
theorem w_I.D {P : Nat → Prop} {S T : am_S} {D E : Nat} (h : w_I P S T) (z : w_D S D E) : w_D T D E := by
  unfold w_D
  rw [h.2.2.1, h.2.2.2.1, h.2.2.2.2.2.1]
  exact z
theorem w_I.Aa {P : Nat → Prop} {S T : am_S} {a : Nat} (h : w_I P S T) (z : w_A S a) (hP : ∀ b, a ≤ b → b < a + 12 → ¬ P b) : w_A T a := by
  unfold w_A
  rw [h.2.2.1, h.2.2.2.1, h.2.2.2.2.2.1, h.i (hP (a + 2) (by omega) (by omega)), h.i (hP (a + 4) (by omega) (by omega)), h.i (hP (a + 6) (by omega) (by omega)), h.i (hP (a + 8) (by omega) (by omega)), h.i (hP (a + 10) (by omega) (by omega))]
  exact z
theorem w_I.Ra {P : Nat → Prop} {S T : am_S} {a : Nat} {R : Nat → Int32} (h : w_I P S T) (z : w_R S a R) (hP : ∀ b, a ≤ b → b < a + 12 → ¬ P b) : w_R T a R := by
  unfold w_R
  rw [h.i (hP a (by omega) (by omega)), h.i (hP (a + 1) (by omega) (by omega)), h.i (hP (a + 2) (by omega) (by omega)), h.i (hP (a + 3) (by omega) (by omega)), h.i (hP (a + 4) (by omega) (by omega)), h.i (hP (a + 5) (by omega) (by omega)), h.i (hP (a + 6) (by omega) (by omega)), h.i (hP (a + 7) (by omega) (by omega)), h.i (hP (a + 8) (by omega) (by omega)), h.i (hP (a + 9) (by omega) (by omega)), h.i (hP (a + 10) (by omega) (by omega)), h.i (hP (a + 11) (by omega) (by omega))]
  exact z
section Y5
variable {S S' : am_S} {x y z v : Int32} {i j o u n w hh c d b m t p np ne no a T P Q C L f k D E hd j0 m0 : Nat} {R R' F : Nat → Int32} {q : s_Q} {r r4 : am_K}
theorem y_from (h : w_D S D E) (hc : c < 144) : fX2_from w_N [.ref D, .int (nI c)] S = some (.inl (some (.int (am_i S E c))), S) := by
  obtain ⟨h1, h2, h3, h4⟩ := h
  simp (disch := omega) only [fX2_from, kX2_from_23, kX2_from_22, kX2_from_0, x_cs0, x_csi, x_csr, x_csn, x_csl, x_ret_v, x_ret_t, x_ret_n, x_tl_s, x_tl_n, x_lk0, x_lk, x_rem0, x_rem_i, x_rem_r, x_rem_l, x_rem2_0, x_rem2_i, x_rem2_r, x_rem2_l, x_pick0, x_pick_c, x_st1, x_st2, x_live, x_i, x_l, x_a, x_ild, x_lld, x_rld, x_ist, x_lst, x_rst, x_inc, x_ii, x_ll, x_li, x_cmp, x_ui, x_il, x_lti, x_idiv, x_irem, x_dup_i, x_dup_r, x_pop_i, x_pop_r, x_dupx_ir, x_dup2_ir, x_ifeq, x_iceq, x_iflt, x_iclt, x_ifge, x_icge, x_ifgt, x_icgt, x_ifle, x_icle, x_ifne, x_icne, x_ifnull_r, x_ifnull_n, x_ifnonnull_r, x_ifnonnull_n, x_sw, x_vret, x_iret, x_lret, x_zret, x_zret0, x_zret1, x_rf_s, x_rf_n, x_geti, x_getr, x_puti, x_putz, x_putr, x_ial, x_ias, x_lal, x_las, x_aal, x_aas, x_aast, x_alen, x_new, x_newa, x_copy, x_min, x_abs, x_minl, x_oinit, x_throw, x_callS0, x_callS1, x_callS2, x_callS3, x_callS4, x_callV0, x_callV1, x_callV2, x_callV3, x_callV4, x_callV5, x_retI_v, x_callI0, x_callI1, x_callI2, x_retN_v, x_callSN1, x_callSN2, x_callT0, x_callT1, x_fn, x_sl0, x_sli, x_slr, x_sll, x_ar0, x_ari, x_arr, x_arl, ↓reduceIte, Nat.reduceAdd, Nat.reduceSub, Nat.reduceMul, Nat.reduceEqDiff, Nat.reduceLeDiff, Nat.reduceLT, if_true, if_false, Nat.le_refl, and_true, true_and, and_self, reduceCtorEq, or_false, false_or, or_true, true_or, Nat.zero_le, fa_lit, nI_add, w_mul, nI_ltI, nI_leI, nI_eq, nI_clamp, nI_toInt, if_pos, if_neg, w_div, w_rem2, h1, h2, h3, h4]
theorem y_fromm (h : w_D S D E) : fX2_from w_N [.ref D, .int (-nI 1)] S = some (.inl (some (.int (-nI 1))), S) := by
  obtain ⟨h1, h2, h3, h4⟩ := h
  simp (disch := omega) only [fX2_from, kX2_from_23, kX2_from_22, kX2_from_0, x_cs0, x_csi, x_csr, x_csn, x_csl, x_ret_v, x_ret_t, x_ret_n, x_tl_s, x_tl_n, x_lk0, x_lk, x_rem0, x_rem_i, x_rem_r, x_rem_l, x_rem2_0, x_rem2_i, x_rem2_r, x_rem2_l, x_pick0, x_pick_c, x_st1, x_st2, x_live, x_i, x_l, x_a, x_ild, x_lld, x_rld, x_ist, x_lst, x_rst, x_inc, x_ii, x_ll, x_li, x_cmp, x_ui, x_il, x_lti, x_idiv, x_irem, x_dup_i, x_dup_r, x_pop_i, x_pop_r, x_dupx_ir, x_dup2_ir, x_ifeq, x_iceq, x_iflt, x_iclt, x_ifge, x_icge, x_ifgt, x_icgt, x_ifle, x_icle, x_ifne, x_icne, x_ifnull_r, x_ifnull_n, x_ifnonnull_r, x_ifnonnull_n, x_sw, x_vret, x_iret, x_lret, x_zret, x_zret0, x_zret1, x_rf_s, x_rf_n, x_geti, x_getr, x_puti, x_putz, x_putr, x_ial, x_ias, x_lal, x_las, x_aal, x_aas, x_aast, x_alen, x_new, x_newa, x_copy, x_min, x_abs, x_minl, x_oinit, x_throw, x_callS0, x_callS1, x_callS2, x_callS3, x_callS4, x_callV0, x_callV1, x_callV2, x_callV3, x_callV4, x_callV5, x_retI_v, x_callI0, x_callI1, x_callI2, x_retN_v, x_callSN1, x_callSN2, x_callT0, x_callT1, x_fn, x_sl0, x_sli, x_slr, x_sll, x_ar0, x_ari, x_arr, x_arl, ↓reduceIte, Nat.reduceAdd, Nat.reduceSub, Nat.reduceMul, Nat.reduceEqDiff, Nat.reduceLeDiff, Nat.reduceLT, if_true, if_false, Nat.le_refl, and_true, true_and, and_self, reduceCtorEq, or_false, false_or, or_true, true_or, Nat.zero_le, fa_lit, nI_add, w_mul, nI_ltI, nI_leI, nI_eq, nI_clamp, nI_toInt, if_pos, if_neg, w_div, w_rem2, h1, h2, h3, h4, w_lt0]
theorem y_set (h : w_D S D E) (hc : c < 144) : fX2_set w_N [.ref D, .int (nI c), .int v] S = some (.inl none, am_putI S E c v) := by
  obtain ⟨h1, h2, h3, h4⟩ := h
  simp (disch := omega) only [fX2_set, kX2_set_20, kX2_set_0, x_cs0, x_csi, x_csr, x_csn, x_csl, x_ret_v, x_ret_t, x_ret_n, x_tl_s, x_tl_n, x_lk0, x_lk, x_rem0, x_rem_i, x_rem_r, x_rem_l, x_rem2_0, x_rem2_i, x_rem2_r, x_rem2_l, x_pick0, x_pick_c, x_st1, x_st2, x_live, x_i, x_l, x_a, x_ild, x_lld, x_rld, x_ist, x_lst, x_rst, x_inc, x_ii, x_ll, x_li, x_cmp, x_ui, x_il, x_lti, x_idiv, x_irem, x_dup_i, x_dup_r, x_pop_i, x_pop_r, x_dupx_ir, x_dup2_ir, x_ifeq, x_iceq, x_iflt, x_iclt, x_ifge, x_icge, x_ifgt, x_icgt, x_ifle, x_icle, x_ifne, x_icne, x_ifnull_r, x_ifnull_n, x_ifnonnull_r, x_ifnonnull_n, x_sw, x_vret, x_iret, x_lret, x_zret, x_zret0, x_zret1, x_rf_s, x_rf_n, x_geti, x_getr, x_puti, x_putz, x_putr, x_ial, x_ias, x_lal, x_las, x_aal, x_aas, x_aast, x_alen, x_new, x_newa, x_copy, x_min, x_abs, x_minl, x_oinit, x_throw, x_callS0, x_callS1, x_callS2, x_callS3, x_callS4, x_callV0, x_callV1, x_callV2, x_callV3, x_callV4, x_callV5, x_retI_v, x_callI0, x_callI1, x_callI2, x_retN_v, x_callSN1, x_callSN2, x_callT0, x_callT1, x_fn, x_sl0, x_sli, x_slr, x_sll, x_ar0, x_ari, x_arr, x_arl, ↓reduceIte, Nat.reduceAdd, Nat.reduceSub, Nat.reduceMul, Nat.reduceEqDiff, Nat.reduceLeDiff, Nat.reduceLT, if_true, if_false, Nat.le_refl, and_true, true_and, and_self, reduceCtorEq, or_false, false_or, or_true, true_or, Nat.zero_le, fa_lit, nI_add, w_mul, nI_ltI, nI_leI, nI_eq, nI_clamp, nI_toInt, if_pos, if_neg, w_div, w_rem2, h1, h2, h3, h4]
abbrev lvT (D qn hd c d : Nat) : List (Nat × Value) := [(0, .ref 129), (2, .ref D), (3, .int (nI qn)), (4, .int (nI hd)), (5, .int (nI c)), (6, .int (nI d))]
theorem y_sp1 (hC : w_C S) (hA : w_A S 101) (hR : w_R S 101 R) (hB : s_VB R) (hD : w_D S D E) (hE : 151 < E) (hd4 : d < 4) (hc : s_ok R c) (hJ : s_J R q) (hJ2 : (s_sp1 R c d q).2.2 ≤ 144) (hcm : q.1 c = nI m0) (hm : m0 < 144) (hq : w_qc S E q) :
    ∃ S', bX4_toward_132 w_N r4 r (lvT D q.2.2 hd c d) [] S = r (lvT D (s_sp1 R c d q).2.2 hd c (d + 1)) [] S' ∧ w_qc S' E (s_sp1 R c d q) ∧ w_I (w_P5 E) S S' := by
  have hfb := y_freeBeside hA hR hB hd4 hc
  have hc3 : c < 144 := s_ok_lt (s_BWH hB.WH) hc
  have hk6 : am_k S 101 = 6 := xk0 hA
  unfold s_sp1 at hJ2 ⊢
  cases hnb : s_nb R c d with
  | none =>
    rw [hnb] at hfb
    have hfb : fX6_freeBeside w_N [.ref 101, .int (nI c), .int (nI d)] S = some (.inl (some (.int (-nI 1))), S) := hfb
    refine ⟨S, ?_, hq, w_I.rf⟩
    simp (disch := omega) only [bX4_toward_132, kX4_toward_201, lvT, x_cs0, x_csi, x_csr, x_csn, x_csl, x_ret_v, x_ret_t, x_ret_n, x_tl_s, x_tl_n, x_lk0, x_lk, x_rem0, x_rem_i, x_rem_r, x_rem_l, x_rem2_0, x_rem2_i, x_rem2_r, x_rem2_l, x_pick0, x_pick_c, x_st1, x_st2, x_live, x_i, x_l, x_a, x_ild, x_lld, x_rld, x_ist, x_lst, x_rst, x_inc, x_ii, x_ll, x_li, x_cmp, x_ui, x_il, x_lti, x_idiv, x_irem, x_dup_i, x_dup_r, x_pop_i, x_pop_r, x_dupx_ir, x_dup2_ir, x_ifeq, x_iceq, x_iflt, x_iclt, x_ifge, x_icge, x_ifgt, x_icgt, x_ifle, x_icle, x_ifne, x_icne, x_ifnull_r, x_ifnull_n, x_ifnonnull_r, x_ifnonnull_n, x_sw, x_vret, x_iret, x_lret, x_zret, x_zret0, x_zret1, x_rf_s, x_rf_n, x_geti, x_getr, x_puti, x_putz, x_putr, x_ial, x_ias, x_lal, x_las, x_aal, x_aas, x_aast, x_alen, x_new, x_newa, x_copy, x_min, x_abs, x_minl, x_oinit, x_throw, x_callS0, x_callS1, x_callS2, x_callS3, x_callS4, x_callV0, x_callV1, x_callV2, x_callV3, x_callV4, x_callV5, x_retI_v, x_callI0, x_callI1, x_callI2, x_retN_v, x_callSN1, x_callSN2, x_callT0, x_callT1, x_fn, x_sl0, x_sli, x_slr, x_sll, x_ar0, x_ari, x_arr, x_arl, ↓reduceIte, Nat.reduceAdd, Nat.reduceSub, Nat.reduceMul, Nat.reduceEqDiff, Nat.reduceLeDiff, Nat.reduceLT, if_true, if_false, Nat.le_refl, and_true, true_and, and_self, reduceCtorEq, or_false, false_or, or_true, true_or, Nat.zero_le, fa_lit, nI_add, w_mul, nI_ltI, nI_leI, nI_eq, nI_clamp, nI_toInt, if_pos, if_neg, w_div, w_rem2, yk100 hC, yk125 hC, yk126 hC, yk127 hC, yk128 hC, yk129 hC, yk130 hC, yk131 hC, yk132 hC, yk133 hC, yk134 hC, yk135 hC, yk136 hC, yk137 hC, yl126 hC, yl128 hC, yl130 hC, yl131 hC, yl133 hC, yl137 hC, yr100_0 hC, yr100_1 hC, yr100_2 hC, yr100_3 hC, yr100_4 hC, yr100_5 hC, yr100_6 hC, yr100_7 hC, yr100_8 hC, yr100_9 hC, yr100_10 hC, yr125_0 hC, yr127_0 hC, yr129_0 hC, yr129_1 hC, yr129_2 hC, yr132_0 hC, yr134_0 hC, yr135_0 hC, yr135_1 hC, yr136_0 hC, yr136_1 hC, hk6, hfb]
  | some b =>
    rw [hnb] at hfb hJ2
    dsimp only at hJ2 ⊢
    have hfb : fX6_freeBeside w_N [.ref 101, .int (nI c), .int (nI d)] S = some (.inl (some (.int (nI b))), S) := hfb
    have hb3 : b < 144 := s_ok_lt (s_BWH hB.WH) (s_nb_fr hnb).1
    have nb1 := nI_nm1 (n := b) (by omega)
    have gf := y_from (c := b) hD hb3
    have gc := y_from (c := c) hD hc3
    rw [hq.1 b hb3] at gf
    rw [hq.1 c hc3, hcm, s_cv_n (by omega)] at gc
    by_cases h1 : q.1 b = 1000
    · rw [if_pos h1] at hJ2 ⊢
      rw [h1, s_cv_t] at gf
      have hJ3 : q.2.2 + 1 ≤ 144 := hJ2
      have gs := y_set (c := b) (v := nI (m0 + 1)) hD hb3
      refine ⟨am_putI (am_putI S E b (nI (m0 + 1))) 131 q.2.2 (nI b), ?_, ⟨fun k hk => ?_, fun k hk => ?_⟩, (w_I.put (Or.inl rfl)).tr (w_I.put (Or.inr rfl))⟩
      · simp (disch := omega) only [bX4_toward_132, kX4_toward_201, lvT, x_cs0, x_csi, x_csr, x_csn, x_csl, x_ret_v, x_ret_t, x_ret_n, x_tl_s, x_tl_n, x_lk0, x_lk, x_rem0, x_rem_i, x_rem_r, x_rem_l, x_rem2_0, x_rem2_i, x_rem2_r, x_rem2_l, x_pick0, x_pick_c, x_st1, x_st2, x_live, x_i, x_l, x_a, x_ild, x_lld, x_rld, x_ist, x_lst, x_rst, x_inc, x_ii, x_ll, x_li, x_cmp, x_ui, x_il, x_lti, x_idiv, x_irem, x_dup_i, x_dup_r, x_pop_i, x_pop_r, x_dupx_ir, x_dup2_ir, x_ifeq, x_iceq, x_iflt, x_iclt, x_ifge, x_icge, x_ifgt, x_icgt, x_ifle, x_icle, x_ifne, x_icne, x_ifnull_r, x_ifnull_n, x_ifnonnull_r, x_ifnonnull_n, x_sw, x_vret, x_iret, x_lret, x_zret, x_zret0, x_zret1, x_rf_s, x_rf_n, x_geti, x_getr, x_puti, x_putz, x_putr, x_ial, x_ias, x_lal, x_las, x_aal, x_aas, x_aast, x_alen, x_new, x_newa, x_copy, x_min, x_abs, x_minl, x_oinit, x_throw, x_callS0, x_callS1, x_callS2, x_callS3, x_callS4, x_callV0, x_callV1, x_callV2, x_callV3, x_callV4, x_callV5, x_retI_v, x_callI0, x_callI1, x_callI2, x_retN_v, x_callSN1, x_callSN2, x_callT0, x_callT1, x_fn, x_sl0, x_sli, x_slr, x_sll, x_ar0, x_ari, x_arr, x_arl, ↓reduceIte, Nat.reduceAdd, Nat.reduceSub, Nat.reduceMul, Nat.reduceEqDiff, Nat.reduceLeDiff, Nat.reduceLT, if_true, if_false, Nat.le_refl, and_true, true_and, and_self, reduceCtorEq, or_false, false_or, or_true, true_or, Nat.zero_le, fa_lit, nI_add, w_mul, nI_ltI, nI_leI, nI_eq, nI_clamp, nI_toInt, if_pos, if_neg, w_div, w_rem2, yk100 hC, yk125 hC, yk126 hC, yk127 hC, yk128 hC, yk129 hC, yk130 hC, yk131 hC, yk132 hC, yk133 hC, yk134 hC, yk135 hC, yk136 hC, yk137 hC, yl126 hC, yl128 hC, yl130 hC, yl131 hC, yl133 hC, yl137 hC, yr100_0 hC, yr100_1 hC, yr100_2 hC, yr100_3 hC, yr100_4 hC, yr100_5 hC, yr100_6 hC, yr100_7 hC, yr100_8 hC, yr100_9 hC, yr100_10 hC, yr125_0 hC, yr127_0 hC, yr129_0 hC, yr129_1 hC, yr129_2 hC, yr132_0 hC, yr134_0 hC, yr135_0 hC, yr135_1 hC, yr136_0 hC, yr136_1 hC, x_k_I, x_l_I, x_r_I, x_j_I, x_n_I, x_z_I, x_i_Is, x_k_W, x_l_W, x_r_W, x_j_W, x_n_W, x_z_W, x_k_J, x_l_J, x_r_J, x_i_J, x_n_J, x_z_J, x_k_R, x_l_R, x_j_R, x_i_R, x_n_R, x_z_R, x_n_N, x_z_N, x_k_N, x_l_N, x_i_N, x_j_N, x_r_N, hk6, hfb, nb1, gf, gc, gs]
      · dsimp only
        rw [x_i_I, if_neg (by omega), x_i_I, if_pos rfl, s_up]
        by_cases e : k = b
        · rw [if_pos e, if_pos e, hcm, nI_1, s_cv_n (by omega)]
        · rw [if_neg e, if_neg e]
          exact hq.1 k hk
      · have hk' : k < q.2.2 + 1 := hk
        dsimp only
        rw [x_i_I, if_pos rfl, s_up]
        by_cases e : k = q.2.2
        · rw [if_pos e, if_pos e]
        · rw [if_neg e, if_neg e, x_i_I, if_neg (by omega)]
          exact hq.2 k (by omega)
    · rw [if_neg h1]
      obtain ⟨j, hj1, hj2⟩ := hJ.2.2 b hb3 h1
      obtain ⟨c', e1, hc', -, m, e2, e3⟩ := hJ.1 j hj1
      have hmany := hJ.many
      rw [hj2, nI_eq (by omega) (by omega)] at e1
      subst e1
      rw [e2, s_cv_n (by omega)] at gf
      have nm1 := nI_nm1 (n := m) (by omega)
      refine ⟨S, ?_, hq, w_I.rf⟩
      simp (disch := omega) only [bX4_toward_132, kX4_toward_201, lvT, x_cs0, x_csi, x_csr, x_csn, x_csl, x_ret_v, x_ret_t, x_ret_n, x_tl_s, x_tl_n, x_lk0, x_lk, x_rem0, x_rem_i, x_rem_r, x_rem_l, x_rem2_0, x_rem2_i, x_rem2_r, x_rem2_l, x_pick0, x_pick_c, x_st1, x_st2, x_live, x_i, x_l, x_a, x_ild, x_lld, x_rld, x_ist, x_lst, x_rst, x_inc, x_ii, x_ll, x_li, x_cmp, x_ui, x_il, x_lti, x_idiv, x_irem, x_dup_i, x_dup_r, x_pop_i, x_pop_r, x_dupx_ir, x_dup2_ir, x_ifeq, x_iceq, x_iflt, x_iclt, x_ifge, x_icge, x_ifgt, x_icgt, x_ifle, x_icle, x_ifne, x_icne, x_ifnull_r, x_ifnull_n, x_ifnonnull_r, x_ifnonnull_n, x_sw, x_vret, x_iret, x_lret, x_zret, x_zret0, x_zret1, x_rf_s, x_rf_n, x_geti, x_getr, x_puti, x_putz, x_putr, x_ial, x_ias, x_lal, x_las, x_aal, x_aas, x_aast, x_alen, x_new, x_newa, x_copy, x_min, x_abs, x_minl, x_oinit, x_throw, x_callS0, x_callS1, x_callS2, x_callS3, x_callS4, x_callV0, x_callV1, x_callV2, x_callV3, x_callV4, x_callV5, x_retI_v, x_callI0, x_callI1, x_callI2, x_retN_v, x_callSN1, x_callSN2, x_callT0, x_callT1, x_fn, x_sl0, x_sli, x_slr, x_sll, x_ar0, x_ari, x_arr, x_arl, ↓reduceIte, Nat.reduceAdd, Nat.reduceSub, Nat.reduceMul, Nat.reduceEqDiff, Nat.reduceLeDiff, Nat.reduceLT, if_true, if_false, Nat.le_refl, and_true, true_and, and_self, reduceCtorEq, or_false, false_or, or_true, true_or, Nat.zero_le, fa_lit, nI_add, w_mul, nI_ltI, nI_leI, nI_eq, nI_clamp, nI_toInt, if_pos, if_neg, w_div, w_rem2, yk100 hC, yk125 hC, yk126 hC, yk127 hC, yk128 hC, yk129 hC, yk130 hC, yk131 hC, yk132 hC, yk133 hC, yk134 hC, yk135 hC, yk136 hC, yk137 hC, yl126 hC, yl128 hC, yl130 hC, yl131 hC, yl133 hC, yl137 hC, yr100_0 hC, yr100_1 hC, yr100_2 hC, yr100_3 hC, yr100_4 hC, yr100_5 hC, yr100_6 hC, yr100_7 hC, yr100_8 hC, yr100_9 hC, yr100_10 hC, yr125_0 hC, yr127_0 hC, yr129_0 hC, yr129_1 hC, yr129_2 hC, yr132_0 hC, yr134_0 hC, yr135_0 hC, yr135_1 hC, yr136_0 hC, yr136_1 hC, hk6, hfb, nb1, gf, nm1]
theorem y_spL (hC : w_C S) (hA : w_A S 101) (hR : w_R S 101 R) (hB : s_VB R) (hD : w_D S D E) (hE : 151 < E) (hc : s_ok R c) (hJ : s_J R q) (hj : j0 < q.2.2) (hqj : q.2.1 j0 = nI c) (hcm : q.1 c = nI m0) (hm : m0 ≤ j0) : ∀ k m, k ≤ 4 → k < m → ∀ S, w_C S → w_A S 101 → w_R S 101 R → w_D S D E → w_qc S E (s_sp R c (4 - k) q) → hd < 144 →
    ∃ S', am_loop (bX4_toward_132 w_N r4) m (lvT D (s_sp R c (4 - k) q).2.2 hd c (4 - k)) [] S = r4 [(0, .ref 129), (2, .ref D), (3, .int (nI (s_sp R c 4 q).2.2)), (4, .int (nI (hd + 1)))] [] S' ∧ w_qc S' E (s_sp R c 4 q) ∧ w_I (w_P5 E) S S' := by
  have hq2 := hJ.many
  intro k
  induction k with
  | zero =>
    intro m hk hmm S hC hA hR hD hw hhd
    obtain ⟨m', rfl⟩ : ∃ m', m = m' + 1 := ⟨m - 1, by omega⟩
    refine ⟨S, ?_, hw, w_I.rf⟩
    rw [am_loop_s]
    simp (disch := omega) only [bX4_toward_132, lvT, x_cs0, x_csi, x_csr, x_csn, x_csl, x_ret_v, x_ret_t, x_ret_n, x_tl_s, x_tl_n, x_lk0, x_lk, x_rem0, x_rem_i, x_rem_r, x_rem_l, x_rem2_0, x_rem2_i, x_rem2_r, x_rem2_l, x_pick0, x_pick_c, x_st1, x_st2, x_live, x_i, x_l, x_a, x_ild, x_lld, x_rld, x_ist, x_lst, x_rst, x_inc, x_ii, x_ll, x_li, x_cmp, x_ui, x_il, x_lti, x_idiv, x_irem, x_dup_i, x_dup_r, x_pop_i, x_pop_r, x_dupx_ir, x_dup2_ir, x_ifeq, x_iceq, x_iflt, x_iclt, x_ifge, x_icge, x_ifgt, x_icgt, x_ifle, x_icle, x_ifne, x_icne, x_ifnull_r, x_ifnull_n, x_ifnonnull_r, x_ifnonnull_n, x_sw, x_vret, x_iret, x_lret, x_zret, x_zret0, x_zret1, x_rf_s, x_rf_n, x_geti, x_getr, x_puti, x_putz, x_putr, x_ial, x_ias, x_lal, x_las, x_aal, x_aas, x_aast, x_alen, x_new, x_newa, x_copy, x_min, x_abs, x_minl, x_oinit, x_throw, x_callS0, x_callS1, x_callS2, x_callS3, x_callS4, x_callV0, x_callV1, x_callV2, x_callV3, x_callV4, x_callV5, x_retI_v, x_callI0, x_callI1, x_callI2, x_retN_v, x_callSN1, x_callSN2, x_callT0, x_callT1, x_fn, x_sl0, x_sli, x_slr, x_sll, x_ar0, x_ari, x_arr, x_arl, ↓reduceIte, Nat.reduceAdd, Nat.reduceSub, Nat.reduceMul, Nat.reduceEqDiff, Nat.reduceLeDiff, Nat.reduceLT, if_true, if_false, Nat.le_refl, and_true, true_and, and_self, reduceCtorEq, or_false, false_or, or_true, true_or, Nat.zero_le, fa_lit, nI_add, w_mul, nI_ltI, nI_leI, nI_eq, nI_clamp, nI_toInt, if_pos, if_neg, w_div, w_rem2, Nat.sub_zero]
  | succ k ih =>
    intro m hk hmm S hC hA hR hD hw hhd
    obtain ⟨m', rfl⟩ : ∃ m', m = m' + 1 := ⟨m - 1, by omega⟩
    rw [am_loop_s]
    obtain ⟨g1, g2, g3, g4, g5⟩ := s_J.sp (s_BWH hB.WH) hJ hj hqj hcm hm (4 - (k + 1))
    obtain ⟨k1, -⟩ := s_J.sp (s_BWH hB.WH) hJ hj hqj hcm hm (4 - k)
    have e : s_sp1 R c (4 - (k + 1)) (s_sp R c (4 - (k + 1)) q) = s_sp R c (4 - k) q := by
      rw [show 4 - k = (4 - (k + 1)) + 1 by omega]
      rfl
    have hcm2 : (s_sp R c (4 - (k + 1)) q).1 c = nI m0 := by
      rw [g4 c (by rw [hcm]; exact s_thou (by omega))]
      exact hcm
    obtain ⟨S1, f1, f2, f3⟩ := y_sp1 (d := 4 - (k + 1)) (hd := hd) (r4 := r4) (r := am_loop (bX4_toward_132 w_N r4) m') hC hA hR hB hD hE (by omega) hc g1 (by rw [e]; exact k1.many) hcm2 (by omega) hw
    rw [e] at f1 f2
    rw [show 4 - (k + 1) + 1 = 4 - k by omega] at f1
    have hP : ∀ b, 101 ≤ b → b < 101 + 12 → ¬ w_P5 E b := fun b h1 h2 q => by
      rcases q with q | q <;> omega
    obtain ⟨S2, f4, f5, f6⟩ := ih m' (by omega) (by omega) S1 (f3.C hC) (f3.Aa hA hP) (f3.Ra hR hP) (f3.D hD) f2 hhd
    exact ⟨S2, f1.trans f4, f5, f3.tr f6⟩
/-- the class's search is the pure one -/
theorem y_bfsL (hB : s_VB R) (hE : 151 < E) : ∀ (f k m : Nat) (q : s_Q) (S : am_S), f < m → w_C S → w_A S 101 → w_R S 101 R → w_D S D E → w_qc S E q → s_J R q → k ≤ q.2.2 → 144 < f + k →
    ∃ S', am_loop (bX4_toward_104 w_N) m [(0, .ref 129), (2, .ref D), (3, .int (nI q.2.2)), (4, .int (nI k))] [] S = some (.inl (some (.ref D)), S') ∧ w_qc S' E (s_bfs R f k q) ∧ w_I (w_P5 E) S S' := by
  intro f
  induction f with
  | zero =>
    intro k m q S hm hC hA hR hD hw hJ hk hf
    have := hJ.many
    omega
  | succ f ih =>
    intro k m q S hm hC hA hR hD hw hJ hk hf
    obtain ⟨m', rfl⟩ : ∃ m', m = m' + 1 := ⟨m - 1, by omega⟩
    have hmany := hJ.many
    rw [am_loop_s]
    unfold s_bfs
    by_cases hlt : k < q.2.2
    · rw [if_pos hlt]
      obtain ⟨c, e1, e2, e3, m0, e4, e5⟩ := hJ.1 k hlt
      have e6 : s_n (q.2.1 k) = c := by
        rw [e1]
        exact nI_clamp (by omega)
      rw [e6]
      have e7 : am_i S 131 k = nI c := by rw [hw.2 k hlt, e1]
      obtain ⟨S1, f1, f2, f3⟩ := y_spL (hd := k) (r4 := am_loop (bX4_toward_104 w_N) m') hC hA hR hB hD hE e3.1 hJ hlt e1 e4 e5 4 w_N (Nat.le_refl _) (by show 4 < 5000; omega) S hC hA hR hD hw (by omega)
      obtain ⟨g1, g2, -⟩ := s_J.sp (s_BWH hB.WH) hJ hlt e1 e4 e5 4
      have hP : ∀ b, 101 ≤ b → b < 101 + 12 → ¬ w_P5 E b := fun b h1 h2 q => by
        rcases q with q | q <;> omega
      obtain ⟨S2, f4, f5, f6⟩ := ih (k + 1) m' (s_sp R c 4 q) S1 (by omega) (f3.C hC) (f3.Aa hA hP) (f3.Ra hR hP) (f3.D hD) f2 g1 (by omega) (by omega)
      refine ⟨S2, ?_, f5, f3.tr f6⟩
      have f1 : am_loop (bX4_toward_132 w_N (am_loop (bX4_toward_104 w_N) m')) w_N [(0, .ref 129), (2, .ref D), (3, .int (nI q.2.2)), (4, .int (nI k)), (5, .int (nI c)), (6, .int (nI 0))] [] S = _ := f1
      simp (disch := omega) only [bX4_toward_104, kX4_toward_132, x_cs0, x_csi, x_csr, x_csn, x_csl, x_ret_v, x_ret_t, x_ret_n, x_tl_s, x_tl_n, x_lk0, x_lk, x_rem0, x_rem_i, x_rem_r, x_rem_l, x_rem2_0, x_rem2_i, x_rem2_r, x_rem2_l, x_pick0, x_pick_c, x_st1, x_st2, x_live, x_i, x_l, x_a, x_ild, x_lld, x_rld, x_ist, x_lst, x_rst, x_inc, x_ii, x_ll, x_li, x_cmp, x_ui, x_il, x_lti, x_idiv, x_irem, x_dup_i, x_dup_r, x_pop_i, x_pop_r, x_dupx_ir, x_dup2_ir, x_ifeq, x_iceq, x_iflt, x_iclt, x_ifge, x_icge, x_ifgt, x_icgt, x_ifle, x_icle, x_ifne, x_icne, x_ifnull_r, x_ifnull_n, x_ifnonnull_r, x_ifnonnull_n, x_sw, x_vret, x_iret, x_lret, x_zret, x_zret0, x_zret1, x_rf_s, x_rf_n, x_geti, x_getr, x_puti, x_putz, x_putr, x_ial, x_ias, x_lal, x_las, x_aal, x_aas, x_aast, x_alen, x_new, x_newa, x_copy, x_min, x_abs, x_minl, x_oinit, x_throw, x_callS0, x_callS1, x_callS2, x_callS3, x_callS4, x_callV0, x_callV1, x_callV2, x_callV3, x_callV4, x_callV5, x_retI_v, x_callI0, x_callI1, x_callI2, x_retN_v, x_callSN1, x_callSN2, x_callT0, x_callT1, x_fn, x_sl0, x_sli, x_slr, x_sll, x_ar0, x_ari, x_arr, x_arl, ↓reduceIte, Nat.reduceAdd, Nat.reduceSub, Nat.reduceMul, Nat.reduceEqDiff, Nat.reduceLeDiff, Nat.reduceLT, if_true, if_false, Nat.le_refl, and_true, true_and, and_self, reduceCtorEq, or_false, false_or, or_true, true_or, Nat.zero_le, fa_lit, nI_add, w_mul, nI_ltI, nI_leI, nI_eq, nI_clamp, nI_toInt, if_pos, if_neg, w_div, w_rem2, yk100 hC, yk125 hC, yk126 hC, yk127 hC, yk128 hC, yk129 hC, yk130 hC, yk131 hC, yk132 hC, yk133 hC, yk134 hC, yk135 hC, yk136 hC, yk137 hC, yl126 hC, yl128 hC, yl130 hC, yl131 hC, yl133 hC, yl137 hC, yr100_0 hC, yr100_1 hC, yr100_2 hC, yr100_3 hC, yr100_4 hC, yr100_5 hC, yr100_6 hC, yr100_7 hC, yr100_8 hC, yr100_9 hC, yr100_10 hC, yr125_0 hC, yr127_0 hC, yr129_0 hC, yr129_1 hC, yr129_2 hC, yr132_0 hC, yr134_0 hC, yr135_0 hC, yr135_1 hC, yr136_0 hC, yr136_1 hC, e7, f1, f4]
    · rw [if_neg hlt]
      refine ⟨S, ?_, hw, w_I.rf⟩
      simp (disch := omega) only [bX4_toward_104, kX4_toward_213, x_rret, x_cs0, x_csi, x_csr, x_csn, x_csl, x_ret_v, x_ret_t, x_ret_n, x_tl_s, x_tl_n, x_lk0, x_lk, x_rem0, x_rem_i, x_rem_r, x_rem_l, x_rem2_0, x_rem2_i, x_rem2_r, x_rem2_l, x_pick0, x_pick_c, x_st1, x_st2, x_live, x_i, x_l, x_a, x_ild, x_lld, x_rld, x_ist, x_lst, x_rst, x_inc, x_ii, x_ll, x_li, x_cmp, x_ui, x_il, x_lti, x_idiv, x_irem, x_dup_i, x_dup_r, x_pop_i, x_pop_r, x_dupx_ir, x_dup2_ir, x_ifeq, x_iceq, x_iflt, x_iclt, x_ifge, x_icge, x_ifgt, x_icgt, x_ifle, x_icle, x_ifne, x_icne, x_ifnull_r, x_ifnull_n, x_ifnonnull_r, x_ifnonnull_n, x_sw, x_vret, x_iret, x_lret, x_zret, x_zret0, x_zret1, x_rf_s, x_rf_n, x_geti, x_getr, x_puti, x_putz, x_putr, x_ial, x_ias, x_lal, x_las, x_aal, x_aas, x_aast, x_alen, x_new, x_newa, x_copy, x_min, x_abs, x_minl, x_oinit, x_throw, x_callS0, x_callS1, x_callS2, x_callS3, x_callS4, x_callV0, x_callV1, x_callV2, x_callV3, x_callV4, x_callV5, x_retI_v, x_callI0, x_callI1, x_callI2, x_retN_v, x_callSN1, x_callSN2, x_callT0, x_callT1, x_fn, x_sl0, x_sli, x_slr, x_sll, x_ar0, x_ari, x_arr, x_arl, ↓reduceIte, Nat.reduceAdd, Nat.reduceSub, Nat.reduceMul, Nat.reduceEqDiff, Nat.reduceLeDiff, Nat.reduceLT, if_true, if_false, Nat.le_refl, and_true, true_and, and_self, reduceCtorEq, or_false, false_or, or_true, true_or, Nat.zero_le, fa_lit, nI_add, w_mul, nI_ltI, nI_leI, nI_eq, nI_clamp, nI_toInt, if_pos, if_neg, w_div, w_rem2]
end Y5
