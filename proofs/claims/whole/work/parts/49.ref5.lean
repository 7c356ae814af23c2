/-! THE REFERENCE: a turn -/
def s_dir : Option (Nat × Nat) → Int32
  | some (d, _) => nI d
  | none => -1
theorem s_fst_sp {p : Nat → Prop} [DecidablePred p] : ∀ k i, (s_fst p k i = -1 ∧ ∀ j, i ≤ j → j < i + k → ¬ p j) ∨ ∃ j, i ≤ j ∧ j < i + k ∧ p j ∧ s_fst p k i = nI j
  | 0, i => Or.inl ⟨rfl, fun j h1 h2 => by omega⟩
  | k + 1, i => by
    rw [s_fst]
    by_cases h : p i
    · rw [if_pos h]
      exact Or.inr ⟨i, Nat.le_refl _, by omega, h, rfl⟩
    · rw [if_neg h]
      rcases s_fst_sp (p := p) k (i + 1) with ⟨h1, h2⟩ | ⟨j, h1, h2, h3, h4⟩
      · refine Or.inl ⟨h1, fun j j1 j2 => ?_⟩
        rcases Nat.eq_or_lt_of_le j1 with e | e
        · subst e
          exact h
        · exact h2 j (by omega) (by omega)
      · exact Or.inr ⟨j, by omega, by omega, h3, h4⟩
theorem s_fst_cong {p q : Nat → Prop} [DecidablePred p] [DecidablePred q] : ∀ k i, (∀ j, i ≤ j → j < i + k → (p j ↔ q j)) → s_fst p k i = s_fst q k i
  | 0, i, _ => rfl
  | k + 1, i, h => by
    have e := h i (Nat.le_refl _) (by omega)
    rw [s_fst, s_fst, s_fst_cong k (i + 1) (fun j h1 h2 => h j (by omega) (by omega))]
    by_cases c : q i
    · rw [if_pos c, if_pos (e.mpr c)]
    · rw [if_neg c, if_neg (fun w => c (e.mp w))]
theorem s_st_sp {R F : Nat → Int32} {c d b : Nat} : ∀ k i, s_st R F c k i = some (d, b) → i ≤ d ∧ d < i + k ∧ s_nb R c d = some b ∧ F b < F c
  | 0, i, h => by cases h
  | k + 1, i, h => by
    rw [s_st] at h
    cases e : s_nb R c i with
    | none =>
      rw [e] at h
      obtain ⟨h1, h2, h3⟩ := s_st_sp k (i + 1) h
      exact ⟨by omega, by omega, h3⟩
    | some b' =>
      rw [e] at h
      dsimp only at h
      by_cases hF : F b' < F c
      · rw [if_pos hF] at h
        cases h
        exact ⟨Nat.le_refl _, by omega, e, hF⟩
      · rw [if_neg hF] at h
        obtain ⟨h1, h2, h3⟩ := s_st_sp k (i + 1) h
        exact ⟨by omega, by omega, h3⟩
/-- what a turn leaves as it is, the clock and the row of the past aside -/
def s_K (R R' : Nat → Int32) : Prop := ∀ j, (j < 12 ∧ j ≠ 7 ∨ 464 ≤ j ∧ j < 544 ∨ 784 ≤ j) → R' j = R j
theorem s_K.rf {R : Nat → Int32} : s_K R R := fun _ _ => rfl
theorem s_K.tr {R Q T : Nat → Int32} (h : s_K R Q) (k : s_K Q T) : s_K R T := fun j hj => (k j hj).trans (h j hj)
theorem s_K.up {R : Nat → Int32} {j : Nat} {v : Int32} (h : 12 ≤ j ∧ j < 464) : s_K R (va_up R j v) := fun k hk => s_up_n (by omega)
theorem s_K.bec {R : Nat → Int32} {ne o : Nat} {v : Int32} (h : ne < 80) (ho : o < 40) : s_K R (s_bec R ne o v) := fun k hk => s_bec_n (by omega) (by omega) (by omega) (by omega)
section Z9
variable {S : am_S} {x y z X Y : Int32} {i j o u n w hh c d b m t p np ne no : Nat} {R F : Nat → Int32}
theorem z_stepL (hZ : w_Z S) (hR : am_i S 139 = R) (H : w_WH R w hh) (hc : s_ok R c) (hF : ∀ k, k < 144 → am_i S 144 k = F k) : ∀ k m, k ≤ 4 → k < m → am_loop (bX11_stepFrom_2 w_N) m [(0, .ref 138), (1, .int (nI (c % 12))), (2, .int (nI (c / 12))), (3, .int (nI (4 - k)))] [] S = some (.inl (some (.int (s_dir (s_st R F c k (4 - k))))), S) := by
  obtain ⟨c1, c2, c3⟩ := s_ok_144 H hc
  have a1 := H.2.2.1.2
  have a2 := H.2.2.2.2
  have HS : w_WH (am_i S 139) w hh := by rw [hR]; exact H
  intro k
  induction k with
  | zero =>
    intro m hk hm
    obtain ⟨m', rfl⟩ : ∃ m', m = m' + 1 := ⟨m - 1, by omega⟩
    rw [am_loop_s]
    simp (disch := omega) only [bX11_stepFrom_2, x_cs0, x_csi, x_csr, x_csn, x_csl, x_ret_v, x_ret_t, x_ret_n, x_tl_s, x_tl_n, x_lk0, x_lk, x_rem0, x_rem_i, x_rem_r, x_rem_l, x_rem2_0, x_rem2_i, x_rem2_r, x_rem2_l, x_pick0, x_pick_c, x_st1, x_st2, x_live, x_i, x_l, x_a, x_ild, x_lld, x_rld, x_ist, x_lst, x_rst, x_inc, x_ii, x_ll, x_li, x_cmp, x_ui, x_il, x_lti, x_idiv, x_irem, x_dup_i, x_dup_r, x_pop_i, x_pop_r, x_dupx_ir, x_dup2_ir, x_ifeq, x_iceq, x_iflt, x_iclt, x_ifge, x_icge, x_ifgt, x_icgt, x_ifle, x_icle, x_ifne, x_icne, x_ifnull_r, x_ifnull_n, x_ifnonnull_r, x_ifnonnull_n, x_sw, x_vret, x_iret, x_lret, x_zret, x_zret0, x_zret1, x_rf_s, x_rf_n, x_geti, x_getr, x_puti, x_putz, x_putr, x_ial, x_ias, x_lal, x_las, x_aal, x_aas, x_aast, x_alen, x_new, x_newa, x_copy, x_min, x_abs, x_minl, x_oinit, x_throw, x_callS0, x_callS1, x_callS2, x_callS3, x_callS4, x_callV0, x_callV1, x_callV2, x_callV3, x_callV4, x_callV5, x_retI_v, x_callI0, x_callI1, x_callI2, x_retN_v, x_callSN1, x_callSN2, x_callT0, x_callT1, x_fn, x_sl0, x_sli, x_slr, x_sll, x_ar0, x_ari, x_arr, x_arl, ↓reduceIte, Nat.reduceAdd, Nat.reduceSub, Nat.reduceMul, Nat.reduceEqDiff, Nat.reduceLeDiff, Nat.reduceLT, if_true, if_false, Nat.le_refl, and_true, true_and, and_self, reduceCtorEq, or_false, false_or, or_true, true_or, Nat.zero_le, fa_lit, nI_add, w_mul, nI_ltI, nI_leI, nI_eq, nI_clamp, nI_toInt, if_pos, if_neg, w_div, w_rem2, Nat.sub_zero, s_st, s_dir]
  | succ k ih =>
    intro m hk hm
    obtain ⟨m', rfl⟩ : ∃ m', m = m' + 1 := ⟨m - 1, by omega⟩
    rw [am_loop_s, s_st]
    have ih2 := ih m' (by omega) (by omega)
    have ed : 4 - (k + 1) + 1 = 4 - k := by omega
    rw [ed]
    have fc := hF c c3
    have ec : 12 * (c / 12) + c % 12 = c := by omega
    obtain ⟨bx, bz, e1, e2, ⟨hn, hnb⟩ | ⟨i, j, ex, ey, hi, hj, hnb⟩⟩ := z_besid (d := 4 - (k + 1)) H (by omega) hc
    · have hf := z_isFree_no hZ HS hn
      rw [hnb]
      simp (disch := omega) only [bX11_stepFrom_2, kX11_stepFrom_65, x_cs0, x_csi, x_csr, x_csn, x_csl, x_ret_v, x_ret_t, x_ret_n, x_tl_s, x_tl_n, x_lk0, x_lk, x_rem0, x_rem_i, x_rem_r, x_rem_l, x_rem2_0, x_rem2_i, x_rem2_r, x_rem2_l, x_pick0, x_pick_c, x_st1, x_st2, x_live, x_i, x_l, x_a, x_ild, x_lld, x_rld, x_ist, x_lst, x_rst, x_inc, x_ii, x_ll, x_li, x_cmp, x_ui, x_il, x_lti, x_idiv, x_irem, x_dup_i, x_dup_r, x_pop_i, x_pop_r, x_dupx_ir, x_dup2_ir, x_ifeq, x_iceq, x_iflt, x_iclt, x_ifge, x_icge, x_ifgt, x_icgt, x_ifle, x_icle, x_ifne, x_icne, x_ifnull_r, x_ifnull_n, x_ifnonnull_r, x_ifnonnull_n, x_sw, x_vret, x_iret, x_lret, x_zret, x_zret0, x_zret1, x_rf_s, x_rf_n, x_geti, x_getr, x_puti, x_putz, x_putr, x_ial, x_ias, x_lal, x_las, x_aal, x_aas, x_aast, x_alen, x_new, x_newa, x_copy, x_min, x_abs, x_minl, x_oinit, x_throw, x_callS0, x_callS1, x_callS2, x_callS3, x_callS4, x_callV0, x_callV1, x_callV2, x_callV3, x_callV4, x_callV5, x_retI_v, x_callI0, x_callI1, x_callI2, x_retN_v, x_callSN1, x_callSN2, x_callT0, x_callT1, x_fn, x_sl0, x_sli, x_slr, x_sll, x_ar0, x_ari, x_arr, x_arl, ↓reduceIte, Nat.reduceAdd, Nat.reduceSub, Nat.reduceMul, Nat.reduceEqDiff, Nat.reduceLeDiff, Nat.reduceLT, if_true, if_false, Nat.le_refl, and_true, true_and, and_self, reduceCtorEq, or_false, false_or, or_true, true_or, Nat.zero_le, fa_lit, nI_add, w_mul, nI_ltI, nI_leI, nI_eq, nI_clamp, nI_toInt, if_pos, if_neg, w_div, w_rem2, zk138 hZ, zk139 hZ, zk140 hZ, zk141 hZ, zk142 hZ, zk143 hZ, zk144 hZ, zk145 hZ, zk146 hZ, zk147 hZ, zk148 hZ, zk149 hZ, zk150 hZ, zk151 hZ, zl139 hZ, zl140 hZ, zl141 hZ, zl142 hZ, zl143 hZ, zl144 hZ, zl145 hZ, zl146 hZ, zl147 hZ, zl148 hZ, zl149 hZ, zl150 hZ, zl151 hZ, zr138_0 hZ, zr138_1 hZ, zr138_2 hZ, zr138_3 hZ, zr138_4 hZ, zr138_8 hZ, zr138_9 hZ, zr138_10 hZ, zr138_12 hZ, zr138_24 hZ, zr138_25 hZ, zr138_26 hZ, zr148_0 hZ, zr148_1 hZ, zr148_2 hZ, zr148_3 hZ, zr148_4 hZ, zr148_5 hZ, zr148_6 hZ, zr148_7 hZ, zr148_8 hZ, e1, e2, hf, ed, ih2]
    · have hf := z_isFree (S := S) hZ HS hi hj
      rw [hR, show 784 + 12 * j + i = 784 + (12 * j + i) by omega] at hf
      have fb := hF (12 * j + i) (by omega)
      by_cases hz : R (784 + (12 * j + i)) = 0
      · rw [hnb, if_pos hz]
        rw [w_bt hz] at hf
        dsimp only
        by_cases hl : F (12 * j + i) < F c
        · have hl1 : ¬ F c ≤ F (12 * j + i) := fun q => by
            rw [fa_le] at q
            rw [fa_lt] at hl
            omega
          rw [if_pos hl]
          simp (disch := omega) only [bX11_stepFrom_2, kX11_stepFrom_65, x_cs0, x_csi, x_csr, x_csn, x_csl, x_ret_v, x_ret_t, x_ret_n, x_tl_s, x_tl_n, x_lk0, x_lk, x_rem0, x_rem_i, x_rem_r, x_rem_l, x_rem2_0, x_rem2_i, x_rem2_r, x_rem2_l, x_pick0, x_pick_c, x_st1, x_st2, x_live, x_i, x_l, x_a, x_ild, x_lld, x_rld, x_ist, x_lst, x_rst, x_inc, x_ii, x_ll, x_li, x_cmp, x_ui, x_il, x_lti, x_idiv, x_irem, x_dup_i, x_dup_r, x_pop_i, x_pop_r, x_dupx_ir, x_dup2_ir, x_ifeq, x_iceq, x_iflt, x_iclt, x_ifge, x_icge, x_ifgt, x_icgt, x_ifle, x_icle, x_ifne, x_icne, x_ifnull_r, x_ifnull_n, x_ifnonnull_r, x_ifnonnull_n, x_sw, x_vret, x_iret, x_lret, x_zret, x_zret0, x_zret1, x_rf_s, x_rf_n, x_geti, x_getr, x_puti, x_putz, x_putr, x_ial, x_ias, x_lal, x_las, x_aal, x_aas, x_aast, x_alen, x_new, x_newa, x_copy, x_min, x_abs, x_minl, x_oinit, x_throw, x_callS0, x_callS1, x_callS2, x_callS3, x_callS4, x_callV0, x_callV1, x_callV2, x_callV3, x_callV4, x_callV5, x_retI_v, x_callI0, x_callI1, x_callI2, x_retN_v, x_callSN1, x_callSN2, x_callT0, x_callT1, x_fn, x_sl0, x_sli, x_slr, x_sll, x_ar0, x_ari, x_arr, x_arl, ↓reduceIte, Nat.reduceAdd, Nat.reduceSub, Nat.reduceMul, Nat.reduceEqDiff, Nat.reduceLeDiff, Nat.reduceLT, if_true, if_false, Nat.le_refl, and_true, true_and, and_self, reduceCtorEq, or_false, false_or, or_true, true_or, Nat.zero_le, fa_lit, nI_add, w_mul, nI_ltI, nI_leI, nI_eq, nI_clamp, nI_toInt, if_pos, if_neg, w_div, w_rem2, zk138 hZ, zk139 hZ, zk140 hZ, zk141 hZ, zk142 hZ, zk143 hZ, zk144 hZ, zk145 hZ, zk146 hZ, zk147 hZ, zk148 hZ, zk149 hZ, zk150 hZ, zk151 hZ, zl139 hZ, zl140 hZ, zl141 hZ, zl142 hZ, zl143 hZ, zl144 hZ, zl145 hZ, zl146 hZ, zl147 hZ, zl148 hZ, zl149 hZ, zl150 hZ, zl151 hZ, zr138_0 hZ, zr138_1 hZ, zr138_2 hZ, zr138_3 hZ, zr138_4 hZ, zr138_8 hZ, zr138_9 hZ, zr138_10 hZ, zr138_12 hZ, zr138_24 hZ, zr138_25 hZ, zr138_26 hZ, zr148_0 hZ, zr148_1 hZ, zr148_2 hZ, zr148_3 hZ, zr148_4 hZ, zr148_5 hZ, zr148_6 hZ, zr148_7 hZ, zr148_8 hZ, e1, e2, ex, ey, hf, fb, fc, ec, hl1, s_dir]
        · have hl1 := fa_of_nlt hl
          rw [if_neg hl]
          simp (disch := omega) only [bX11_stepFrom_2, kX11_stepFrom_65, x_cs0, x_csi, x_csr, x_csn, x_csl, x_ret_v, x_ret_t, x_ret_n, x_tl_s, x_tl_n, x_lk0, x_lk, x_rem0, x_rem_i, x_rem_r, x_rem_l, x_rem2_0, x_rem2_i, x_rem2_r, x_rem2_l, x_pick0, x_pick_c, x_st1, x_st2, x_live, x_i, x_l, x_a, x_ild, x_lld, x_rld, x_ist, x_lst, x_rst, x_inc, x_ii, x_ll, x_li, x_cmp, x_ui, x_il, x_lti, x_idiv, x_irem, x_dup_i, x_dup_r, x_pop_i, x_pop_r, x_dupx_ir, x_dup2_ir, x_ifeq, x_iceq, x_iflt, x_iclt, x_ifge, x_icge, x_ifgt, x_icgt, x_ifle, x_icle, x_ifne, x_icne, x_ifnull_r, x_ifnull_n, x_ifnonnull_r, x_ifnonnull_n, x_sw, x_vret, x_iret, x_lret, x_zret, x_zret0, x_zret1, x_rf_s, x_rf_n, x_geti, x_getr, x_puti, x_putz, x_putr, x_ial, x_ias, x_lal, x_las, x_aal, x_aas, x_aast, x_alen, x_new, x_newa, x_copy, x_min, x_abs, x_minl, x_oinit, x_throw, x_callS0, x_callS1, x_callS2, x_callS3, x_callS4, x_callV0, x_callV1, x_callV2, x_callV3, x_callV4, x_callV5, x_retI_v, x_callI0, x_callI1, x_callI2, x_retN_v, x_callSN1, x_callSN2, x_callT0, x_callT1, x_fn, x_sl0, x_sli, x_slr, x_sll, x_ar0, x_ari, x_arr, x_arl, ↓reduceIte, Nat.reduceAdd, Nat.reduceSub, Nat.reduceMul, Nat.reduceEqDiff, Nat.reduceLeDiff, Nat.reduceLT, if_true, if_false, Nat.le_refl, and_true, true_and, and_self, reduceCtorEq, or_false, false_or, or_true, true_or, Nat.zero_le, fa_lit, nI_add, w_mul, nI_ltI, nI_leI, nI_eq, nI_clamp, nI_toInt, if_pos, if_neg, w_div, w_rem2, zk138 hZ, zk139 hZ, zk140 hZ, zk141 hZ, zk142 hZ, zk143 hZ, zk144 hZ, zk145 hZ, zk146 hZ, zk147 hZ, zk148 hZ, zk149 hZ, zk150 hZ, zk151 hZ, zl139 hZ, zl140 hZ, zl141 hZ, zl142 hZ, zl143 hZ, zl144 hZ, zl145 hZ, zl146 hZ, zl147 hZ, zl148 hZ, zl149 hZ, zl150 hZ, zl151 hZ, zr138_0 hZ, zr138_1 hZ, zr138_2 hZ, zr138_3 hZ, zr138_4 hZ, zr138_8 hZ, zr138_9 hZ, zr138_10 hZ, zr138_12 hZ, zr138_24 hZ, zr138_25 hZ, zr138_26 hZ, zr148_0 hZ, zr148_1 hZ, zr148_2 hZ, zr148_3 hZ, zr148_4 hZ, zr148_5 hZ, zr148_6 hZ, zr148_7 hZ, zr148_8 hZ, e1, e2, ex, ey, hf, fb, fc, ec, hl1, ed, ih2]
      · rw [hnb, if_neg hz]
        rw [w_bf hz] at hf
        simp (disch := omega) only [bX11_stepFrom_2, kX11_stepFrom_65, x_cs0, x_csi, x_csr, x_csn, x_csl, x_ret_v, x_ret_t, x_ret_n, x_tl_s, x_tl_n, x_lk0, x_lk, x_rem0, x_rem_i, x_rem_r, x_rem_l, x_rem2_0, x_rem2_i, x_rem2_r, x_rem2_l, x_pick0, x_pick_c, x_st1, x_st2, x_live, x_i, x_l, x_a, x_ild, x_lld, x_rld, x_ist, x_lst, x_rst, x_inc, x_ii, x_ll, x_li, x_cmp, x_ui, x_il, x_lti, x_idiv, x_irem, x_dup_i, x_dup_r, x_pop_i, x_pop_r, x_dupx_ir, x_dup2_ir, x_ifeq, x_iceq, x_iflt, x_iclt, x_ifge, x_icge, x_ifgt, x_icgt, x_ifle, x_icle, x_ifne, x_icne, x_ifnull_r, x_ifnull_n, x_ifnonnull_r, x_ifnonnull_n, x_sw, x_vret, x_iret, x_lret, x_zret, x_zret0, x_zret1, x_rf_s, x_rf_n, x_geti, x_getr, x_puti, x_putz, x_putr, x_ial, x_ias, x_lal, x_las, x_aal, x_aas, x_aast, x_alen, x_new, x_newa, x_copy, x_min, x_abs, x_minl, x_oinit, x_throw, x_callS0, x_callS1, x_callS2, x_callS3, x_callS4, x_callV0, x_callV1, x_callV2, x_callV3, x_callV4, x_callV5, x_retI_v, x_callI0, x_callI1, x_callI2, x_retN_v, x_callSN1, x_callSN2, x_callT0, x_callT1, x_fn, x_sl0, x_sli, x_slr, x_sll, x_ar0, x_ari, x_arr, x_arl, ↓reduceIte, Nat.reduceAdd, Nat.reduceSub, Nat.reduceMul, Nat.reduceEqDiff, Nat.reduceLeDiff, Nat.reduceLT, if_true, if_false, Nat.le_refl, and_true, true_and, and_self, reduceCtorEq, or_false, false_or, or_true, true_or, Nat.zero_le, fa_lit, nI_add, w_mul, nI_ltI, nI_leI, nI_eq, nI_clamp, nI_toInt, if_pos, if_neg, w_div, w_rem2, zk138 hZ, zk139 hZ, zk140 hZ, zk141 hZ, zk142 hZ, zk143 hZ, zk144 hZ, zk145 hZ, zk146 hZ, zk147 hZ, zk148 hZ, zk149 hZ, zk150 hZ, zk151 hZ, zl139 hZ, zl140 hZ, zl141 hZ, zl142 hZ, zl143 hZ, zl144 hZ, zl145 hZ, zl146 hZ, zl147 hZ, zl148 hZ, zl149 hZ, zl150 hZ, zl151 hZ, zr138_0 hZ, zr138_1 hZ, zr138_2 hZ, zr138_3 hZ, zr138_4 hZ, zr138_8 hZ, zr138_9 hZ, zr138_10 hZ, zr138_12 hZ, zr138_24 hZ, zr138_25 hZ, zr138_26 hZ, zr148_0 hZ, zr148_1 hZ, zr148_2 hZ, zr148_3 hZ, zr148_4 hZ, zr148_5 hZ, zr148_6 hZ, zr148_7 hZ, zr148_8 hZ, e1, e2, ex, ey, hf, ed, ih2]
theorem z_stepFrom (hZ : w_Z S) (hR : am_i S 139 = R) (H : w_WH R w hh) (hc : s_ok R c) (hF : ∀ k, k < 144 → am_i S 144 k = F k) : fX11_stepFrom w_N [.ref 138, .int (nI (c % 12)), .int (nI (c / 12))] S = some (.inl (some (.int (s_dir (s_st R F c 4 0)))), S) := by
  have L := z_stepL hZ hR H hc hF 4 w_N (Nat.le_refl _) (by show 4 < 5000; omega)
  rw [show 4 - 4 = 0 from rfl] at L
  simp (disch := omega) only [fX11_stepFrom, kX11_stepFrom_65, kX11_stepFrom_0, kX11_stepFrom_2, x_cs0, x_csi, x_csr, x_csn, x_csl, x_ret_v, x_ret_t, x_ret_n, x_tl_s, x_tl_n, x_lk0, x_lk, x_rem0, x_rem_i, x_rem_r, x_rem_l, x_rem2_0, x_rem2_i, x_rem2_r, x_rem2_l, x_pick0, x_pick_c, x_st1, x_st2, x_live, x_i, x_l, x_a, x_ild, x_lld, x_rld, x_ist, x_lst, x_rst, x_inc, x_ii, x_ll, x_li, x_cmp, x_ui, x_il, x_lti, x_idiv, x_irem, x_dup_i, x_dup_r, x_pop_i, x_pop_r, x_dupx_ir, x_dup2_ir, x_ifeq, x_iceq, x_iflt, x_iclt, x_ifge, x_icge, x_ifgt, x_icgt, x_ifle, x_icle, x_ifne, x_icne, x_ifnull_r, x_ifnull_n, x_ifnonnull_r, x_ifnonnull_n, x_sw, x_vret, x_iret, x_lret, x_zret, x_zret0, x_zret1, x_rf_s, x_rf_n, x_geti, x_getr, x_puti, x_putz, x_putr, x_ial, x_ias, x_lal, x_las, x_aal, x_aas, x_aast, x_alen, x_new, x_newa, x_copy, x_min, x_abs, x_minl, x_oinit, x_throw, x_callS0, x_callS1, x_callS2, x_callS3, x_callS4, x_callV0, x_callV1, x_callV2, x_callV3, x_callV4, x_callV5, x_retI_v, x_callI0, x_callI1, x_callI2, x_retN_v, x_callSN1, x_callSN2, x_callT0, x_callT1, x_fn, x_sl0, x_sli, x_slr, x_sll, x_ar0, x_ari, x_arr, x_arl, ↓reduceIte, Nat.reduceAdd, Nat.reduceSub, Nat.reduceMul, Nat.reduceEqDiff, Nat.reduceLeDiff, Nat.reduceLT, if_true, if_false, Nat.le_refl, and_true, true_and, and_self, reduceCtorEq, or_false, false_or, or_true, true_or, Nat.zero_le, fa_lit, nI_add, w_mul, nI_ltI, nI_leI, nI_eq, nI_clamp, nI_toInt, if_pos, if_neg, w_div, w_rem2, L]
theorem z_isThere (hZ : w_Z S) (hR : am_i S 139 = R) (ho : o < 40) (hu : R (64 + 10 * o + 0) = nI (s_n (R (64 + 10 * o + 0)))) (hu2 : s_n (R (64 + 10 * o + 0)) < 6) : fX11_isThere w_N [.ref 138, .int (nI o)] S = some (.inl (some (.int (w_b (s_there R o)))), S) := by
  have e0 := z_ofOrder (S := S) (u := o) (j := 0) hZ (by omega)
  have e7 := z_ofOrder (S := S) (u := o) (j := 7) hZ (by omega)
  have e8 := z_ofOrder (S := S) (u := o) (j := 8) hZ (by omega)
  rw [hR] at e0 e7 e8
  rw [hu] at e0
  unfold s_there
  revert hu2 e0
  generalize s_n (R (64 + 10 * o + 0)) = u
  intro hu2 e0
  have f0 := z_ofUnit (S := S) (u := u) (j := 0) hZ (by omega)
  have f1 := z_ofUnit (S := S) (u := u) (j := 1) hZ (by omega)
  rw [hR] at f0 f1
  by_cases c1 : R (64 + 10 * o + 7) = R (12 + 4 * u + 0)
  · by_cases c2 : R (64 + 10 * o + 8) = R (12 + 4 * u + 1)
    · simp (disch := omega) only [fX11_isThere, kX11_isThere_44, kX11_isThere_43, kX11_isThere_0, x_cs0, x_csi, x_csr, x_csn, x_csl, x_ret_v, x_ret_t, x_ret_n, x_tl_s, x_tl_n, x_lk0, x_lk, x_rem0, x_rem_i, x_rem_r, x_rem_l, x_rem2_0, x_rem2_i, x_rem2_r, x_rem2_l, x_pick0, x_pick_c, x_st1, x_st2, x_live, x_i, x_l, x_a, x_ild, x_lld, x_rld, x_ist, x_lst, x_rst, x_inc, x_ii, x_ll, x_li, x_cmp, x_ui, x_il, x_lti, x_idiv, x_irem, x_dup_i, x_dup_r, x_pop_i, x_pop_r, x_dupx_ir, x_dup2_ir, x_ifeq, x_iceq, x_iflt, x_iclt, x_ifge, x_icge, x_ifgt, x_icgt, x_ifle, x_icle, x_ifne, x_icne, x_ifnull_r, x_ifnull_n, x_ifnonnull_r, x_ifnonnull_n, x_sw, x_vret, x_iret, x_lret, x_zret, x_zret0, x_zret1, x_rf_s, x_rf_n, x_geti, x_getr, x_puti, x_putz, x_putr, x_ial, x_ias, x_lal, x_las, x_aal, x_aas, x_aast, x_alen, x_new, x_newa, x_copy, x_min, x_abs, x_minl, x_oinit, x_throw, x_callS0, x_callS1, x_callS2, x_callS3, x_callS4, x_callV0, x_callV1, x_callV2, x_callV3, x_callV4, x_callV5, x_retI_v, x_callI0, x_callI1, x_callI2, x_retN_v, x_callSN1, x_callSN2, x_callT0, x_callT1, x_fn, x_sl0, x_sli, x_slr, x_sll, x_ar0, x_ari, x_arr, x_arl, ↓reduceIte, Nat.reduceAdd, Nat.reduceSub, Nat.reduceMul, Nat.reduceEqDiff, Nat.reduceLeDiff, Nat.reduceLT, if_true, if_false, Nat.le_refl, and_true, true_and, and_self, reduceCtorEq, or_false, false_or, or_true, true_or, Nat.zero_le, fa_lit, nI_add, w_mul, nI_ltI, nI_leI, nI_eq, nI_clamp, nI_toInt, if_pos, if_neg, w_div, w_rem2, zk138 hZ, zk139 hZ, zk140 hZ, zk141 hZ, zk142 hZ, zk143 hZ, zk144 hZ, zk145 hZ, zk146 hZ, zk147 hZ, zk148 hZ, zk149 hZ, zk150 hZ, zk151 hZ, zl139 hZ, zl140 hZ, zl141 hZ, zl142 hZ, zl143 hZ, zl144 hZ, zl145 hZ, zl146 hZ, zl147 hZ, zl148 hZ, zl149 hZ, zl150 hZ, zl151 hZ, zr138_0 hZ, zr138_1 hZ, zr138_2 hZ, zr138_3 hZ, zr138_4 hZ, zr138_8 hZ, zr138_9 hZ, zr138_10 hZ, zr138_12 hZ, zr138_24 hZ, zr138_25 hZ, zr138_26 hZ, zr148_0 hZ, zr148_1 hZ, zr148_2 hZ, zr148_3 hZ, zr148_4 hZ, zr148_5 hZ, zr148_6 hZ, zr148_7 hZ, zr148_8 hZ, e0, e7, e8, f0, f1, c1, c2, w_b]
    · simp (disch := omega) only [fX11_isThere, kX11_isThere_44, kX11_isThere_43, kX11_isThere_0, x_cs0, x_csi, x_csr, x_csn, x_csl, x_ret_v, x_ret_t, x_ret_n, x_tl_s, x_tl_n, x_lk0, x_lk, x_rem0, x_rem_i, x_rem_r, x_rem_l, x_rem2_0, x_rem2_i, x_rem2_r, x_rem2_l, x_pick0, x_pick_c, x_st1, x_st2, x_live, x_i, x_l, x_a, x_ild, x_lld, x_rld, x_ist, x_lst, x_rst, x_inc, x_ii, x_ll, x_li, x_cmp, x_ui, x_il, x_lti, x_idiv, x_irem, x_dup_i, x_dup_r, x_pop_i, x_pop_r, x_dupx_ir, x_dup2_ir, x_ifeq, x_iceq, x_iflt, x_iclt, x_ifge, x_icge, x_ifgt, x_icgt, x_ifle, x_icle, x_ifne, x_icne, x_ifnull_r, x_ifnull_n, x_ifnonnull_r, x_ifnonnull_n, x_sw, x_vret, x_iret, x_lret, x_zret, x_zret0, x_zret1, x_rf_s, x_rf_n, x_geti, x_getr, x_puti, x_putz, x_putr, x_ial, x_ias, x_lal, x_las, x_aal, x_aas, x_aast, x_alen, x_new, x_newa, x_copy, x_min, x_abs, x_minl, x_oinit, x_throw, x_callS0, x_callS1, x_callS2, x_callS3, x_callS4, x_callV0, x_callV1, x_callV2, x_callV3, x_callV4, x_callV5, x_retI_v, x_callI0, x_callI1, x_callI2, x_retN_v, x_callSN1, x_callSN2, x_callT0, x_callT1, x_fn, x_sl0, x_sli, x_slr, x_sll, x_ar0, x_ari, x_arr, x_arl, ↓reduceIte, Nat.reduceAdd, Nat.reduceSub, Nat.reduceMul, Nat.reduceEqDiff, Nat.reduceLeDiff, Nat.reduceLT, if_true, if_false, Nat.le_refl, and_true, true_and, and_self, reduceCtorEq, or_false, false_or, or_true, true_or, Nat.zero_le, fa_lit, nI_add, w_mul, nI_ltI, nI_leI, nI_eq, nI_clamp, nI_toInt, if_pos, if_neg, w_div, w_rem2, zk138 hZ, zk139 hZ, zk140 hZ, zk141 hZ, zk142 hZ, zk143 hZ, zk144 hZ, zk145 hZ, zk146 hZ, zk147 hZ, zk148 hZ, zk149 hZ, zk150 hZ, zk151 hZ, zl139 hZ, zl140 hZ, zl141 hZ, zl142 hZ, zl143 hZ, zl144 hZ, zl145 hZ, zl146 hZ, zl147 hZ, zl148 hZ, zl149 hZ, zl150 hZ, zl151 hZ, zr138_0 hZ, zr138_1 hZ, zr138_2 hZ, zr138_3 hZ, zr138_4 hZ, zr138_8 hZ, zr138_9 hZ, zr138_10 hZ, zr138_12 hZ, zr138_24 hZ, zr138_25 hZ, zr138_26 hZ, zr148_0 hZ, zr148_1 hZ, zr148_2 hZ, zr148_3 hZ, zr148_4 hZ, zr148_5 hZ, zr148_6 hZ, zr148_7 hZ, zr148_8 hZ, e0, e7, e8, f0, f1, c1, c2, w_b]
  · simp (disch := omega) only [fX11_isThere, kX11_isThere_44, kX11_isThere_43, kX11_isThere_0, x_cs0, x_csi, x_csr, x_csn, x_csl, x_ret_v, x_ret_t, x_ret_n, x_tl_s, x_tl_n, x_lk0, x_lk, x_rem0, x_rem_i, x_rem_r, x_rem_l, x_rem2_0, x_rem2_i, x_rem2_r, x_rem2_l, x_pick0, x_pick_c, x_st1, x_st2, x_live, x_i, x_l, x_a, x_ild, x_lld, x_rld, x_ist, x_lst, x_rst, x_inc, x_ii, x_ll, x_li, x_cmp, x_ui, x_il, x_lti, x_idiv, x_irem, x_dup_i, x_dup_r, x_pop_i, x_pop_r, x_dupx_ir, x_dup2_ir, x_ifeq, x_iceq, x_iflt, x_iclt, x_ifge, x_icge, x_ifgt, x_icgt, x_ifle, x_icle, x_ifne, x_icne, x_ifnull_r, x_ifnull_n, x_ifnonnull_r, x_ifnonnull_n, x_sw, x_vret, x_iret, x_lret, x_zret, x_zret0, x_zret1, x_rf_s, x_rf_n, x_geti, x_getr, x_puti, x_putz, x_putr, x_ial, x_ias, x_lal, x_las, x_aal, x_aas, x_aast, x_alen, x_new, x_newa, x_copy, x_min, x_abs, x_minl, x_oinit, x_throw, x_callS0, x_callS1, x_callS2, x_callS3, x_callS4, x_callV0, x_callV1, x_callV2, x_callV3, x_callV4, x_callV5, x_retI_v, x_callI0, x_callI1, x_callI2, x_retN_v, x_callSN1, x_callSN2, x_callT0, x_callT1, x_fn, x_sl0, x_sli, x_slr, x_sll, x_ar0, x_ari, x_arr, x_arl, ↓reduceIte, Nat.reduceAdd, Nat.reduceSub, Nat.reduceMul, Nat.reduceEqDiff, Nat.reduceLeDiff, Nat.reduceLT, if_true, if_false, Nat.le_refl, and_true, true_and, and_self, reduceCtorEq, or_false, false_or, or_true, true_or, Nat.zero_le, fa_lit, nI_add, w_mul, nI_ltI, nI_leI, nI_eq, nI_clamp, nI_toInt, if_pos, if_neg, w_div, w_rem2, zk138 hZ, zk139 hZ, zk140 hZ, zk141 hZ, zk142 hZ, zk143 hZ, zk144 hZ, zk145 hZ, zk146 hZ, zk147 hZ, zk148 hZ, zk149 hZ, zk150 hZ, zk151 hZ, zl139 hZ, zl140 hZ, zl141 hZ, zl142 hZ, zl143 hZ, zl144 hZ, zl145 hZ, zl146 hZ, zl147 hZ, zl148 hZ, zl149 hZ, zl150 hZ, zl151 hZ, zr138_0 hZ, zr138_1 hZ, zr138_2 hZ, zr138_3 hZ, zr138_4 hZ, zr138_8 hZ, zr138_9 hZ, zr138_10 hZ, zr138_12 hZ, zr138_24 hZ, zr138_25 hZ, zr138_26 hZ, zr148_0 hZ, zr148_1 hZ, zr148_2 hZ, zr148_3 hZ, zr148_4 hZ, zr148_5 hZ, zr148_6 hZ, zr148_7 hZ, zr148_8 hZ, e0, e7, e8, f0, f1, c1, false_and, w_b]
theorem s_ob_sp : (s_ob R x = -nI 1 ∧ ∀ p, p < s_n (R 4) → R (64 + 10 * p + 0) = x → R (64 + 10 * p + 3) ≠ nI 1) ∨ ∃ p, p < s_n (R 4) ∧ R (64 + 10 * p + 0) = x ∧ R (64 + 10 * p + 3) = nI 1 ∧ s_ob R x = nI p := by
  unfold s_ob
  rcases s_fst_sp (p := fun o => R (64 + 10 * o + 0) = x ∧ R (64 + 10 * o + 3) = nI 1) (s_n (R 4)) 0 with ⟨h1, h2⟩ | ⟨j, h1, h2, h3, h4⟩
  · exact Or.inl ⟨h1, fun p hp a b => h2 p (Nat.zero_le _) (by omega) ⟨a, b⟩⟩
  · exact Or.inr ⟨j, by omega, h3.1, h3.2, h4⟩
theorem s_ob_cong {R' : Nat → Int32} (h4 : R' 4 = R 4) (hc : ∀ p, p < s_n (R 4) → R' (64 + 10 * p + 0) = R (64 + 10 * p + 0) ∧ R' (64 + 10 * p + 3) = R (64 + 10 * p + 3)) : s_ob R' x = s_ob R x := by
  unfold s_ob
  rw [h4]
  exact s_fst_cong _ _ (fun j _ h => by rw [(hc j (by omega)).1, (hc j (by omega)).2])
/-- only one order of a unit is obeyed -/
theorem s_V.one (h : s_V R) (hp : p < s_n (R 4)) (hq : o < s_n (R 4)) (e1 : R (64 + 10 * p + 3) = nI 1) (e2 : R (64 + 10 * o + 3) = nI 1) (e : R (64 + 10 * p + 0) = R (64 + 10 * o + 0)) : p = o := by
  have a4 := h.B.2.2.2.1.2
  have k1 := (h.O p hp).2.2.1 e1
  have k2 := (h.O o hq).2.2.1 e2
  rw [e] at k1
  rw [k1, nI_eq (by omega) (by omega)] at k2
  exact k2
theorem nI_ne01 : (nI 0 : Int32) ≠ nI 1 := by decide
theorem s_V.arrive (h : s_V R) (ho : o < s_n (R 4)) (hs : R (64 + 10 * o + 3) = nI 0) : s_V (s_arrive R o) ∧ s_K R (s_arrive R o) := by
  have a4 := h.B.2.2.2.1.2
  have h1 := h.arr5 ho
  have e0 : va_up R (64 + 10 * o + 5) (R 5) (64 + 10 * o + 0) = R (64 + 10 * o + 0) := s_up_n (by omega)
  have e3 : va_up R (64 + 10 * o + 5) (R 5) (64 + 10 * o + 3) = nI 0 := by rw [s_up_n (by omega), hs]
  have e4 : va_up R (64 + 10 * o + 5) (R 5) 4 = R 4 := s_up_n (by omega)
  have eP : ∀ p, va_up R (64 + 10 * o + 5) (R 5) (64 + 10 * p + 0) = R (64 + 10 * p + 0) ∧ va_up R (64 + 10 * o + 5) (R 5) (64 + 10 * p + 3) = R (64 + 10 * p + 3) := fun p => ⟨s_up_n (by omega), s_up_n (by omega)⟩
  have kk : s_K R (va_up R (64 + 10 * o + 5) (R 5)) := s_K.up (by omega)
  have hr := h1.room (o := o) (by rw [e4]; exact ho) (by rw [e3, s_wg_0]; omega)
  have hu := (h.O o ho).1.1.2
  have a2 := h.B.2.1.2
  unfold s_arrive
  dsimp only
  generalize hR1 : va_up R (64 + 10 * o + 5) (R 5) = R1 at *
  have ho1 : o < s_n (R1 4) := by rw [e4]; exact ho
  have hwh := (h.O o ho).1.1.1
  by_cases c1 : nI o < R (12 + 4 * s_n (R (64 + 10 * o + 0)) + 3)
  · rw [if_pos c1]
    exact ⟨h1.fin ho1 (by rw [e3, s_wg_0]; omega) (by omega) (by omega), kk.tr (s_K.bec hr (by omega))⟩
  · rw [if_neg c1]
    rcases s_ob_sp (R := R) (x := nI (s_n (R (64 + 10 * o + 0)))) with ⟨k1, k2⟩ | ⟨p, k1, k2, k3, k4⟩
    · rw [if_pos k1]
      refine ⟨?_, kk.tr ((s_K.bec hr (by omega)).tr (s_K.up (by omega)))⟩
      exact h1.obey ho1 e3 (by rw [e0]) (fun p hp q => by
        rw [e4] at hp
        rw [(eP p).1] at q
        rw [(eP p).2]
        exact k2 p hp q)
    · have m1 : ¬ (nI p : Int32) = -nI 1 := fun q => by
        have := congrArg Int32.toInt q
        rw [nI_toInt (by omega), w_m1] at this
        omega
      rw [k4, if_neg m1, w_snI (by omega)]
      have po : p ≠ o := fun q => by
        rw [q, hs] at k3
        exact nI_ne01 k3
      have h7 := h1.room (o := p) (by rw [e4]; exact k1) (by rw [(eP p).2, k3, s_wg_1]; omega)
      have h2 := h1.fin (o := p) (k := 6) (by rw [e4]; exact k1) (by rw [(eP p).2, k3, s_wg_1]; omega) (by omega) (by omega)
      have hb : ∀ j, j ≠ 7 → j ≠ 64 + 10 * p + 3 → j ≠ 64 + 10 * p + 6 → j < 544 → s_bec R1 (s_n (R1 7)) p (nI 6) j = R1 j := fun j j1 j2 j3 j4 => s_bec_n j1 j2 j3 (by omega)
      unfold s_become
      have hr2 := h2.room (o := o) (by rw [hb 4 (by omega) (by omega) (by omega) (by omega)]; exact ho1) (by rw [hb _ (by omega) (by omega) (by omega) (by omega), e3, s_wg_0]; omega)
      refine ⟨?_, kk.tr ((s_K.bec h7 (by omega)).tr ((s_K.bec hr2 (by omega)).tr (s_K.up (by omega))))⟩
      refine s_V.obey h2 ?_ ?_ ?_ ?_
      · rw [hb 4 (by omega) (by omega) (by omega) (by omega)]
        exact ho1
      · rw [hb _ (by omega) (by omega) (by omega) (by omega)]
        exact e3
      · rw [hb _ (by omega) (by omega) (by omega) (by omega), e0]
      · intro q hq e1 e2
        rw [hb 4 (by omega) (by omega) (by omega) (by omega), e4] at hq
        by_cases eq : q = p
        · rw [eq, s_bec_3, nI_eq (by omega) (by omega)] at e2
          omega
        · rw [hb _ (by omega) (by omega) (by omega) (by omega), (eP q).2] at e2
          rw [hb _ (by omega) (by omega) (by omega) (by omega), (eP q).1] at e1
          exact eq (h.one hq k1 e2 k3 (by rw [e1, k2]))
theorem z_arrive (hZ : w_Z S) (hR : am_i S 139 = R) (h : s_V R) (ho : o < s_n (R 4)) (hs : R (64 + 10 * o + 3) = nI 0) : fX11_arrive w_N [.ref 138, .int (nI o)] S = some (.inl none, am_row S 139 (s_arrive R o)) := by
  have a2 := h.B.2.1.2
  have a4 := h.B.2.2.2.1.2
  have hu := (h.O o ho).1.1.1
  have hu2 := (h.O o ho).1.1.2
  have e0 := z_ofOrder (S := S) (u := o) (j := 0) hZ (by omega)
  rw [hR, hu] at e0
  unfold s_arrive
  have h1 := h.arr5 ho
  have e4 : va_up R (64 + 10 * o + 5) (R 5) 4 = R 4 := s_up_n (by omega)
  have e3 : va_up R (64 + 10 * o + 5) (R 5) (64 + 10 * o + 3) = nI 0 := by rw [s_up_n (by omega), hs]
  have eP : ∀ p, va_up R (64 + 10 * o + 5) (R 5) (64 + 10 * p + 0) = R (64 + 10 * p + 0) ∧ va_up R (64 + 10 * o + 5) (R 5) (64 + 10 * p + 3) = R (64 + 10 * p + 3) := fun p => ⟨s_up_n (by omega), s_up_n (by omega)⟩
  have eob := s_ob_cong (R := R) (x := nI (s_n (R (64 + 10 * o + 0)))) e4 (fun p _ => eP p)
  have eg : va_up R (64 + 10 * o + 5) (R 5) (12 + 4 * s_n (R (64 + 10 * o + 0)) + 3) = R (12 + 4 * s_n (R (64 + 10 * o + 0)) + 3) := s_up_n (by omega)
  dsimp only
  revert hu2 e0 eob eg
  generalize s_n (R (64 + 10 * o + 0)) = u
  intro hu2 e0 eob eg
  have hn1 : va_up R (64 + 10 * o + 5) (R 5) 4 = nI (s_n (R 4)) := by rw [e4]; exact h.B.2.2.2.1.1
  have hr0 := h1.room (o := o) (by rw [e4]; exact ho) (by rw [e3, s_wg_0]; omega)
  have g3 := z_ofUnit (S := am_row S 139 (va_up R (64 + 10 * o + 5) (R 5))) (u := u) (j := 3) hZ (by omega)
  rw [x_rows, eg] at g3
  have gob := z_obeyedBy (S := am_row S 139 (va_up R (64 + 10 * o + 5) (R 5))) (x := nI u) (n := s_n (R 4)) hZ (by rw [x_rows]; exact hn1) (by omega)
  rw [x_rows] at gob
  have gob : fX11_obeyedBy w_N [.ref 138, .int (nI u)] (am_row S 139 (va_up R (64 + 10 * o + 5) (R 5))) = some (.inl (some (.int (s_ob R (nI u)))), am_row S 139 (va_up R (64 + 10 * o + 5) (R 5))) := by
    rw [gob, ← eob]
    unfold s_ob
    rw [e4]
  have gb3 := z_become (S := am_row S 139 (va_up R (64 + 10 * o + 5) (R 5))) (o := o) (x := nI 3) (ne := s_n (va_up R (64 + 10 * o + 5) (R 5) 7)) hZ (by rw [x_rows]; exact h1.B.2.2.2.2.1.1) hr0 (by omega)
  rw [x_rows, x_rr] at gb3
  have gb1 := z_become (S := am_row S 139 (va_up R (64 + 10 * o + 5) (R 5))) (o := o) (x := nI 1) (ne := s_n (va_up R (64 + 10 * o + 5) (R 5) 7)) hZ (by rw [x_rows]; exact h1.B.2.2.2.2.1.1) hr0 (by omega)
  rw [x_rows, x_rr] at gb1
  by_cases c1 : nI o < R (12 + 4 * u + 3)
  · have c2 : ¬ R (12 + 4 * u + 3) ≤ nI o := fun q => by
      rw [fa_le] at q
      rw [fa_lt] at c1
      omega
    rw [if_pos c1]
    unfold s_become
    simp (disch := omega) only [fX11_arrive, kX11_arrive_56, kX11_arrive_0, fX11_turnNow, kX11_turnNow_0, x_cs0, x_csi, x_csr, x_csn, x_csl, x_ret_v, x_ret_t, x_ret_n, x_tl_s, x_tl_n, x_lk0, x_lk, x_rem0, x_rem_i, x_rem_r, x_rem_l, x_rem2_0, x_rem2_i, x_rem2_r, x_rem2_l, x_pick0, x_pick_c, x_st1, x_st2, x_live, x_i, x_l, x_a, x_ild, x_lld, x_rld, x_ist, x_lst, x_rst, x_inc, x_ii, x_ll, x_li, x_cmp, x_ui, x_il, x_lti, x_idiv, x_irem, x_dup_i, x_dup_r, x_pop_i, x_pop_r, x_dupx_ir, x_dup2_ir, x_ifeq, x_iceq, x_iflt, x_iclt, x_ifge, x_icge, x_ifgt, x_icgt, x_ifle, x_icle, x_ifne, x_icne, x_ifnull_r, x_ifnull_n, x_ifnonnull_r, x_ifnonnull_n, x_sw, x_vret, x_iret, x_lret, x_zret, x_zret0, x_zret1, x_rf_s, x_rf_n, x_geti, x_getr, x_puti, x_putz, x_putr, x_ial, x_ias, x_lal, x_las, x_aal, x_aas, x_aast, x_alen, x_new, x_newa, x_copy, x_min, x_abs, x_minl, x_oinit, x_throw, x_callS0, x_callS1, x_callS2, x_callS3, x_callS4, x_callV0, x_callV1, x_callV2, x_callV3, x_callV4, x_callV5, x_retI_v, x_callI0, x_callI1, x_callI2, x_retN_v, x_callSN1, x_callSN2, x_callT0, x_callT1, x_fn, x_sl0, x_sli, x_slr, x_sll, x_ar0, x_ari, x_arr, x_arl, ↓reduceIte, Nat.reduceAdd, Nat.reduceSub, Nat.reduceMul, Nat.reduceEqDiff, Nat.reduceLeDiff, Nat.reduceLT, if_true, if_false, Nat.le_refl, and_true, true_and, and_self, reduceCtorEq, or_false, false_or, or_true, true_or, Nat.zero_le, fa_lit, nI_add, w_mul, nI_ltI, nI_leI, nI_eq, nI_clamp, nI_toInt, if_pos, if_neg, w_div, w_rem2, zk138 hZ, zk139 hZ, zk140 hZ, zk141 hZ, zk142 hZ, zk143 hZ, zk144 hZ, zk145 hZ, zk146 hZ, zk147 hZ, zk148 hZ, zk149 hZ, zk150 hZ, zk151 hZ, zl139 hZ, zl140 hZ, zl141 hZ, zl142 hZ, zl143 hZ, zl144 hZ, zl145 hZ, zl146 hZ, zl147 hZ, zl148 hZ, zl149 hZ, zl150 hZ, zl151 hZ, zr138_0 hZ, zr138_1 hZ, zr138_2 hZ, zr138_3 hZ, zr138_4 hZ, zr138_8 hZ, zr138_9 hZ, zr138_10 hZ, zr138_12 hZ, zr138_24 hZ, zr138_25 hZ, zr138_26 hZ, zr148_0 hZ, zr148_1 hZ, zr148_2 hZ, zr148_3 hZ, zr148_4 hZ, zr148_5 hZ, zr148_6 hZ, zr148_7 hZ, zr148_8 hZ, x_k_I, x_l_I, x_r_I, x_j_I, x_n_I, x_z_I, x_i_Is, x_k_W, x_l_W, x_r_W, x_j_W, x_n_W, x_z_W, x_k_J, x_l_J, x_r_J, x_i_J, x_n_J, x_z_J, x_k_R, x_l_R, x_j_R, x_i_R, x_n_R, x_z_R, x_n_N, x_z_N, x_k_N, x_l_N, x_i_N, x_j_N, x_r_N, x_rowput, x_rr, x_rows, x_rown, s_up_s, s_up_n, hR, e0, z_orderAt, z_unitAt, g3, c2, gb3]
  · have c2 := fa_of_nlt c1
    rw [if_neg c1]
    rcases s_ob_sp (R := R) (x := nI u) with ⟨k1, k2⟩ | ⟨p, k1, k2, k3, k4⟩
    · rw [if_pos k1]
      rw [k1] at gob
      unfold s_become
      simp (disch := omega) only [fX11_arrive, kX11_arrive_56, kX11_arrive_0, fX11_turnNow, kX11_turnNow_0, x_cs0, x_csi, x_csr, x_csn, x_csl, x_ret_v, x_ret_t, x_ret_n, x_tl_s, x_tl_n, x_lk0, x_lk, x_rem0, x_rem_i, x_rem_r, x_rem_l, x_rem2_0, x_rem2_i, x_rem2_r, x_rem2_l, x_pick0, x_pick_c, x_st1, x_st2, x_live, x_i, x_l, x_a, x_ild, x_lld, x_rld, x_ist, x_lst, x_rst, x_inc, x_ii, x_ll, x_li, x_cmp, x_ui, x_il, x_lti, x_idiv, x_irem, x_dup_i, x_dup_r, x_pop_i, x_pop_r, x_dupx_ir, x_dup2_ir, x_ifeq, x_iceq, x_iflt, x_iclt, x_ifge, x_icge, x_ifgt, x_icgt, x_ifle, x_icle, x_ifne, x_icne, x_ifnull_r, x_ifnull_n, x_ifnonnull_r, x_ifnonnull_n, x_sw, x_vret, x_iret, x_lret, x_zret, x_zret0, x_zret1, x_rf_s, x_rf_n, x_geti, x_getr, x_puti, x_putz, x_putr, x_ial, x_ias, x_lal, x_las, x_aal, x_aas, x_aast, x_alen, x_new, x_newa, x_copy, x_min, x_abs, x_minl, x_oinit, x_throw, x_callS0, x_callS1, x_callS2, x_callS3, x_callS4, x_callV0, x_callV1, x_callV2, x_callV3, x_callV4, x_callV5, x_retI_v, x_callI0, x_callI1, x_callI2, x_retN_v, x_callSN1, x_callSN2, x_callT0, x_callT1, x_fn, x_sl0, x_sli, x_slr, x_sll, x_ar0, x_ari, x_arr, x_arl, ↓reduceIte, Nat.reduceAdd, Nat.reduceSub, Nat.reduceMul, Nat.reduceEqDiff, Nat.reduceLeDiff, Nat.reduceLT, if_true, if_false, Nat.le_refl, and_true, true_and, and_self, reduceCtorEq, or_false, false_or, or_true, true_or, Nat.zero_le, fa_lit, nI_add, w_mul, nI_ltI, nI_leI, nI_eq, nI_clamp, nI_toInt, if_pos, if_neg, w_div, w_rem2, zk138 hZ, zk139 hZ, zk140 hZ, zk141 hZ, zk142 hZ, zk143 hZ, zk144 hZ, zk145 hZ, zk146 hZ, zk147 hZ, zk148 hZ, zk149 hZ, zk150 hZ, zk151 hZ, zl139 hZ, zl140 hZ, zl141 hZ, zl142 hZ, zl143 hZ, zl144 hZ, zl145 hZ, zl146 hZ, zl147 hZ, zl148 hZ, zl149 hZ, zl150 hZ, zl151 hZ, zr138_0 hZ, zr138_1 hZ, zr138_2 hZ, zr138_3 hZ, zr138_4 hZ, zr138_8 hZ, zr138_9 hZ, zr138_10 hZ, zr138_12 hZ, zr138_24 hZ, zr138_25 hZ, zr138_26 hZ, zr148_0 hZ, zr148_1 hZ, zr148_2 hZ, zr148_3 hZ, zr148_4 hZ, zr148_5 hZ, zr148_6 hZ, zr148_7 hZ, zr148_8 hZ, x_k_I, x_l_I, x_r_I, x_j_I, x_n_I, x_z_I, x_i_Is, x_k_W, x_l_W, x_r_W, x_j_W, x_n_W, x_z_W, x_k_J, x_l_J, x_r_J, x_i_J, x_n_J, x_z_J, x_k_R, x_l_R, x_j_R, x_i_R, x_n_R, x_z_R, x_n_N, x_z_N, x_k_N, x_l_N, x_i_N, x_j_N, x_r_N, x_rowput, x_rr, x_rows, x_rown, s_up_s, s_up_n, hR, e0, z_orderAt, z_unitAt, g3, c2, gb1, gob]
    · have m1 : ¬ (nI p : Int32) = -nI 1 := fun q => by
        have := congrArg Int32.toInt q
        rw [nI_toInt (by omega), w_m1] at this
        omega
      rw [k4] at gob ⊢
      rw [if_neg m1, w_snI (by omega)]
      have h2 := h1.fin (o := p) (k := 6) (by rw [e4]; exact k1) (by rw [(eP p).2, k3, s_wg_1]; omega) (by omega) (by omega)
      have gp := h1.room (o := p) (by rw [e4]; exact k1) (by rw [(eP p).2, k3, s_wg_1]; omega)
      have po : p ≠ o := fun q => by
        rw [q, hs] at k3
        exact nI_ne01 k3
      have hb : ∀ j, j ≠ 7 → j ≠ 64 + 10 * p + 3 → j ≠ 64 + 10 * p + 6 → j < 544 → s_bec (va_up R (64 + 10 * o + 5) (R 5)) (s_n (va_up R (64 + 10 * o + 5) (R 5) 7)) p (nI 6) j = va_up R (64 + 10 * o + 5) (R 5) j := fun j j1 j2 j3 j4 => s_bec_n j1 j2 j3 (by omega)
      have gb6 := z_become (S := am_row S 139 (va_up R (64 + 10 * o + 5) (R 5))) (o := p) (x := nI 6) (ne := s_n (va_up R (64 + 10 * o + 5) (R 5) 7)) hZ (by rw [x_rows]; exact h1.B.2.2.2.2.1.1) gp (by omega)
      rw [x_rows, x_rr] at gb6
      unfold s_become
      generalize hR2 : s_bec (va_up R (64 + 10 * o + 5) (R 5)) (s_n (va_up R (64 + 10 * o + 5) (R 5) 7)) p (nI 6) = R2 at *
      have hr2 := h2.room (o := o) (by rw [hb 4 (by omega) (by omega) (by omega) (by omega), e4]; exact ho) (by rw [hb _ (by omega) (by omega) (by omega) (by omega), e3, s_wg_0]; omega)
      have gb7 := z_become (S := am_row S 139 R2) (o := o) (x := nI 1) (ne := s_n (R2 7)) hZ (by rw [x_rows]; exact h2.B.2.2.2.2.1.1) hr2 (by omega)
      rw [x_rows, x_rr] at gb7
      simp (disch := omega) only [fX11_arrive, kX11_arrive_56, kX11_arrive_0, fX11_turnNow, kX11_turnNow_0, x_cs0, x_csi, x_csr, x_csn, x_csl, x_ret_v, x_ret_t, x_ret_n, x_tl_s, x_tl_n, x_lk0, x_lk, x_rem0, x_rem_i, x_rem_r, x_rem_l, x_rem2_0, x_rem2_i, x_rem2_r, x_rem2_l, x_pick0, x_pick_c, x_st1, x_st2, x_live, x_i, x_l, x_a, x_ild, x_lld, x_rld, x_ist, x_lst, x_rst, x_inc, x_ii, x_ll, x_li, x_cmp, x_ui, x_il, x_lti, x_idiv, x_irem, x_dup_i, x_dup_r, x_pop_i, x_pop_r, x_dupx_ir, x_dup2_ir, x_ifeq, x_iceq, x_iflt, x_iclt, x_ifge, x_icge, x_ifgt, x_icgt, x_ifle, x_icle, x_ifne, x_icne, x_ifnull_r, x_ifnull_n, x_ifnonnull_r, x_ifnonnull_n, x_sw, x_vret, x_iret, x_lret, x_zret, x_zret0, x_zret1, x_rf_s, x_rf_n, x_geti, x_getr, x_puti, x_putz, x_putr, x_ial, x_ias, x_lal, x_las, x_aal, x_aas, x_aast, x_alen, x_new, x_newa, x_copy, x_min, x_abs, x_minl, x_oinit, x_throw, x_callS0, x_callS1, x_callS2, x_callS3, x_callS4, x_callV0, x_callV1, x_callV2, x_callV3, x_callV4, x_callV5, x_retI_v, x_callI0, x_callI1, x_callI2, x_retN_v, x_callSN1, x_callSN2, x_callT0, x_callT1, x_fn, x_sl0, x_sli, x_slr, x_sll, x_ar0, x_ari, x_arr, x_arl, ↓reduceIte, Nat.reduceAdd, Nat.reduceSub, Nat.reduceMul, Nat.reduceEqDiff, Nat.reduceLeDiff, Nat.reduceLT, if_true, if_false, Nat.le_refl, and_true, true_and, and_self, reduceCtorEq, or_false, false_or, or_true, true_or, Nat.zero_le, fa_lit, nI_add, w_mul, nI_ltI, nI_leI, nI_eq, nI_clamp, nI_toInt, if_pos, if_neg, w_div, w_rem2, zk138 hZ, zk139 hZ, zk140 hZ, zk141 hZ, zk142 hZ, zk143 hZ, zk144 hZ, zk145 hZ, zk146 hZ, zk147 hZ, zk148 hZ, zk149 hZ, zk150 hZ, zk151 hZ, zl139 hZ, zl140 hZ, zl141 hZ, zl142 hZ, zl143 hZ, zl144 hZ, zl145 hZ, zl146 hZ, zl147 hZ, zl148 hZ, zl149 hZ, zl150 hZ, zl151 hZ, zr138_0 hZ, zr138_1 hZ, zr138_2 hZ, zr138_3 hZ, zr138_4 hZ, zr138_8 hZ, zr138_9 hZ, zr138_10 hZ, zr138_12 hZ, zr138_24 hZ, zr138_25 hZ, zr138_26 hZ, zr148_0 hZ, zr148_1 hZ, zr148_2 hZ, zr148_3 hZ, zr148_4 hZ, zr148_5 hZ, zr148_6 hZ, zr148_7 hZ, zr148_8 hZ, x_k_I, x_l_I, x_r_I, x_j_I, x_n_I, x_z_I, x_i_Is, x_k_W, x_l_W, x_r_W, x_j_W, x_n_W, x_z_W, x_k_J, x_l_J, x_r_J, x_i_J, x_n_J, x_z_J, x_k_R, x_l_R, x_j_R, x_i_R, x_n_R, x_z_R, x_n_N, x_z_N, x_k_N, x_l_N, x_i_N, x_j_N, x_r_N, x_rowput, x_rr, x_rows, x_rown, s_up_s, s_up_n, hR, e0, z_orderAt, z_unitAt, g3, c2, gob, m1, gb6, gb7]
end Z9
