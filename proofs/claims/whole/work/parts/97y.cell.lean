/-! THE CLASS READS: cells, headquarters, patience -/
def p_col (B : Nat → Nat) (L : Nat) (s : p_S) : p_S × Nat := p_num B L s 0 (s_n (s.2.2 0))
def p_row (B : Nat → Nat) (L : Nat) (s : p_S) : p_S × Nat := p_num B L s 0 (s_n (s.2.2 1))
def p_free (B : Nat → Nat) (L : Nat) (s : p_S) (x : Nat) : p_S × Nat := if s.2.2 (784 + (12 * (p_row B L s).2 + x)) = 0 then p_row B L s else (p_fail (p_row B L s).1 4, (p_row B L s).2)
def p_set (s : p_S) (R : Nat → Int32) : p_S := (s.1, s.2.1, R)
def p_hq (B : Nat → Nat) (L : Nat) (s : p_S) : p_S := p_set (p_free B L (p_col B L s).1 (p_col B L s).2).1 (va_up (va_up s.2.2 10 (nI (p_col B L s).2)) 11 (nI (p_free B L (p_col B L s).1 (p_col B L s).2).2))
def p_pat (B : Nat → Nat) (L : Nat) (s : p_S) : p_S := p_set (p_num B L s 1 31).1 (va_up s.2.2 9 (nI (p_num B L s 1 31).2))
section L10
variable {S S' T : am_S} {a b c o p q i j k m n u t L e f κ v0 lo h : Nat} {P : Nat → Prop} {B : Nat → Nat} {x y z v hi : Int32} {s s' : p_S} {Q : Nat → Int32}
theorem p_fail_2 : (p_fail s c).2 = s.2 := by
  unfold p_fail
  split <;> rfl
theorem p_num_R : (p_num B L s lo h).1.2.2 = s.2.2 := by
  unfold p_num
  split
  · split
    · split
      · rfl
      · rw [p_fail_2]
        rfl
    · rw [p_fail_2]
      rfl
  · rfl
theorem p_num_lt (h1 : lo ≤ m) (h2 : h ≤ m + 1) : (p_num B L s lo h).2 ≤ m ∧ lo ≤ (p_num B L s lo h).2 := by
  unfold p_num
  split
  · split
    · split
      · next q =>
        dsimp only
        omega
      · exact ⟨h1, Nat.le_refl _⟩
    · exact ⟨h1, Nat.le_refl _⟩
  · exact ⟨h1, Nat.le_refl _⟩
theorem p_free_R : (p_free B L s n).1.2.2 = s.2.2 := by
  unfold p_free
  split
  · exact p_num_R
  · show (p_fail (p_row B L s).1 4).2.2 = s.2.2
    rw [p_fail_2]
    exact p_num_R
theorem p_free_2 : (p_free B L s n).2 = (p_row B L s).2 := by
  unfold p_free
  split <;> rfl
theorem w_pc.row {S0 : am_S} (H : w_pc S0 S L B s) (hJ : w_J 113 S S') (hR : w_R S' 113 Q) (hQ : s_VC Q) : w_pc S0 S' L B (p_set s Q) := by
  obtain ⟨⟨a1, a2, a3, a4⟩, ⟨k1, k2, k3, k4, k5⟩, ⟨m1, m2, m3⟩, a7, a8, a9⟩ := H
  have hI := hJ.1
  have i4 : am_i S' 134 = am_i S 134 := hI.i (by omega)
  refine ⟨⟨a1.tr (hI.mono (fun b hb => Or.inr (by omega))), hI.C a2, a3.of hI (by omega), by rw [i4]; exact a4⟩, ⟨k1, by rw [i4]; exact k2, by rw [i4]; exact k3, by rw [i4]; exact k4, by rw [i4]; exact k5⟩, ⟨m1, by rw [i4]; exact m2, by rw [i4]; exact m3⟩, hJ.A a7, hR, hQ⟩
theorem s_VC.w (hC : s_VC Q) : Q 0 = nI (s_n (Q 0)) ∧ s_n (Q 0) ≤ 12 ∧ 3 ≤ s_n (Q 0) ∧ Q 1 = nI (s_n (Q 1)) ∧ s_n (Q 1) ≤ 12 ∧ 3 ≤ s_n (Q 1) := by
  obtain ⟨⟨⟨a, b⟩, c, ⟨d, e⟩, f⟩, -⟩ := hC
  exact ⟨a, by omega, c, d, by omega, f⟩
theorem y_col {S0 : am_S} (H : w_pc S0 S L B s) : ∃ S', fX0_readColumn w_N [.ref 135] S = some (.inl (some (.int (nI (p_col B L s).2))), S') ∧ w_pc S0 S' L B (p_col B L s).1 ∧ (p_col B L s).2 < 12 := by
  have hC := H.1.2.1
  have hA := H.2.2.2.1
  have hR := H.2.2.2.2.1
  obtain ⟨w1, w2, w3, w4, w5, w6⟩ := H.2.2.2.2.2.w
  have e0 : am_i S 113 0 = nI (s_n (s.2.2 0)) := hR.1.1.trans w1
  have es := w_subN (k := 1) (m := s_n (s.2.2 0)) (by omega)
  have hh : (nI (s_n (s.2.2 0) - 1)).toInt = (s_n (s.2.2 0) : Int) - 1 := by rw [nI_toInt (by omega)]; omega
  obtain ⟨S', f1, f2⟩ := y_num (lo := 0) H hh (by omega) (by omega)
  refine ⟨S', ?_, f2, by have := (p_num_lt (B := B) (L := L) (s := s) (lo := 0) (h := s_n (s.2.2 0)) (m := 11) (by omega) (by omega)).1; unfold p_col; omega⟩
  unfold p_col
  simp (disch := omega) only [fX0_readColumn, kX0_readColumn_0, x_cs0, x_csi, x_csr, x_csn, x_csl, x_ret_v, x_ret_t, x_ret_n, x_tl_s, x_tl_n, x_lk0, x_lk, x_rem0, x_rem_i, x_rem_r, x_rem_l, x_rem2_0, x_rem2_i, x_rem2_r, x_rem2_l, x_pick0, x_pick_c, x_st1, x_st2, x_live, x_i, x_l, x_a, x_ild, x_lld, x_rld, x_ist, x_lst, x_rst, x_inc, x_ii, x_ll, x_li, x_cmp, x_ui, x_il, x_lti, x_idiv, x_irem, x_dup_i, x_dup_r, x_pop_i, x_pop_r, x_dupx_ir, x_dup2_ir, x_ifeq, x_iceq, x_iflt, x_iclt, x_ifge, x_icge, x_ifgt, x_icgt, x_ifle, x_icle, x_ifne, x_icne, x_ifnull_r, x_ifnull_n, x_ifnonnull_r, x_ifnonnull_n, x_sw, x_vret, x_iret, x_lret, x_zret, x_zret0, x_zret1, x_rf_s, x_rf_n, x_geti, x_getr, x_puti, x_putz, x_putr, x_ial, x_ias, x_lal, x_las, x_aal, x_aas, x_aast, x_alen, x_new, x_newa, x_copy, x_min, x_abs, x_minl, x_oinit, x_throw, x_callS0, x_callS1, x_callS2, x_callS3, x_callS4, x_callV0, x_callV1, x_callV2, x_callV3, x_callV4, x_callV5, x_retI_v, x_callI0, x_callI1, x_callI2, x_retN_v, x_callSN1, x_callSN2, x_callT0, x_callT1, x_fn, x_sl0, x_sli, x_slr, x_sll, x_ar0, x_ari, x_arr, x_arl, ↓reduceIte, Nat.reduceAdd, Nat.reduceSub, Nat.reduceMul, Nat.reduceEqDiff, Nat.reduceLeDiff, Nat.reduceLT, if_true, if_false, Nat.le_refl, and_true, true_and, and_self, reduceCtorEq, or_false, false_or, or_true, true_or, Nat.zero_le, fa_lit, nI_add, w_mul, nI_ltI, nI_leI, nI_eq, nI_clamp, nI_toInt, if_pos, if_neg, w_div, w_rem2, yk100 hC, yk125 hC, yk126 hC, yk127 hC, yk128 hC, yk129 hC, yk130 hC, yk131 hC, yk132 hC, yk133 hC, yk134 hC, yk135 hC, yk136 hC, yk137 hC, yl126 hC, yl128 hC, yl130 hC, yl131 hC, yl133 hC, yl137 hC, yr100_0 hC, yr100_1 hC, yr100_2 hC, yr100_3 hC, yr100_4 hC, yr100_5 hC, yr100_6 hC, yr100_7 hC, yr100_8 hC, yr100_9 hC, yr100_10 hC, yr125_0 hC, yr127_0 hC, yr129_0 hC, yr129_1 hC, yr129_2 hC, yr132_0 hC, yr134_0 hC, yr135_0 hC, yr135_1 hC, yr136_0 hC, yr136_1 hC, xk0 hA, xk1 hA, xl1 hA, xk2 hA, xk3 hA, xl3 hA, xr2_2 hA, xi2_0 hA, xi2_1 hA, xk4 hA, xk5 hA, xl5 hA, xr4_2 hA, xi4_0 hA, xi4_1 hA, xk6 hA, xk7 hA, xl7 hA, xr6_2 hA, xi6_0 hA, xi6_1 hA, xk8 hA, xk9 hA, xl9 hA, xr8_2 hA, xi8_0 hA, xi8_1 hA, xk10 hA, xk11 hA, xl11 hA, xr10_2 hA, xi10_0 hA, xi10_1 hA, xr0_7 hA, xr0_8 hA, xr0_9 hA, xr0_10 hA, xr0_11 hA, xr0_12 hA, e0, es, f1]
theorem y_row {S0 : am_S} (H : w_pc S0 S L B s) : ∃ S', fX0_readRow w_N [.ref 135] S = some (.inl (some (.int (nI (p_row B L s).2))), S') ∧ w_pc S0 S' L B (p_row B L s).1 ∧ (p_row B L s).2 < 12 := by
  have hC := H.1.2.1
  have hA := H.2.2.2.1
  have hR := H.2.2.2.2.1
  obtain ⟨w1, w2, w3, w4, w5, w6⟩ := H.2.2.2.2.2.w
  have e0 : am_i S 113 1 = nI (s_n (s.2.2 1)) := hR.1.2.1.trans w4
  have es := w_subN (k := 1) (m := s_n (s.2.2 1)) (by omega)
  have hh : (nI (s_n (s.2.2 1) - 1)).toInt = (s_n (s.2.2 1) : Int) - 1 := by rw [nI_toInt (by omega)]; omega
  obtain ⟨S', f1, f2⟩ := y_num (lo := 0) H hh (by omega) (by omega)
  refine ⟨S', ?_, f2, by have := (p_num_lt (B := B) (L := L) (s := s) (lo := 0) (h := s_n (s.2.2 1)) (m := 11) (by omega) (by omega)).1; unfold p_row; omega⟩
  unfold p_row
  simp (disch := omega) only [fX0_readRow, kX0_readRow_0, x_cs0, x_csi, x_csr, x_csn, x_csl, x_ret_v, x_ret_t, x_ret_n, x_tl_s, x_tl_n, x_lk0, x_lk, x_rem0, x_rem_i, x_rem_r, x_rem_l, x_rem2_0, x_rem2_i, x_rem2_r, x_rem2_l, x_pick0, x_pick_c, x_st1, x_st2, x_live, x_i, x_l, x_a, x_ild, x_lld, x_rld, x_ist, x_lst, x_rst, x_inc, x_ii, x_ll, x_li, x_cmp, x_ui, x_il, x_lti, x_idiv, x_irem, x_dup_i, x_dup_r, x_pop_i, x_pop_r, x_dupx_ir, x_dup2_ir, x_ifeq, x_iceq, x_iflt, x_iclt, x_ifge, x_icge, x_ifgt, x_icgt, x_ifle, x_icle, x_ifne, x_icne, x_ifnull_r, x_ifnull_n, x_ifnonnull_r, x_ifnonnull_n, x_sw, x_vret, x_iret, x_lret, x_zret, x_zret0, x_zret1, x_rf_s, x_rf_n, x_geti, x_getr, x_puti, x_putz, x_putr, x_ial, x_ias, x_lal, x_las, x_aal, x_aas, x_aast, x_alen, x_new, x_newa, x_copy, x_min, x_abs, x_minl, x_oinit, x_throw, x_callS0, x_callS1, x_callS2, x_callS3, x_callS4, x_callV0, x_callV1, x_callV2, x_callV3, x_callV4, x_callV5, x_retI_v, x_callI0, x_callI1, x_callI2, x_retN_v, x_callSN1, x_callSN2, x_callT0, x_callT1, x_fn, x_sl0, x_sli, x_slr, x_sll, x_ar0, x_ari, x_arr, x_arl, ↓reduceIte, Nat.reduceAdd, Nat.reduceSub, Nat.reduceMul, Nat.reduceEqDiff, Nat.reduceLeDiff, Nat.reduceLT, if_true, if_false, Nat.le_refl, and_true, true_and, and_self, reduceCtorEq, or_false, false_or, or_true, true_or, Nat.zero_le, fa_lit, nI_add, w_mul, nI_ltI, nI_leI, nI_eq, nI_clamp, nI_toInt, if_pos, if_neg, w_div, w_rem2, yk100 hC, yk125 hC, yk126 hC, yk127 hC, yk128 hC, yk129 hC, yk130 hC, yk131 hC, yk132 hC, yk133 hC, yk134 hC, yk135 hC, yk136 hC, yk137 hC, yl126 hC, yl128 hC, yl130 hC, yl131 hC, yl133 hC, yl137 hC, yr100_0 hC, yr100_1 hC, yr100_2 hC, yr100_3 hC, yr100_4 hC, yr100_5 hC, yr100_6 hC, yr100_7 hC, yr100_8 hC, yr100_9 hC, yr100_10 hC, yr125_0 hC, yr127_0 hC, yr129_0 hC, yr129_1 hC, yr129_2 hC, yr132_0 hC, yr134_0 hC, yr135_0 hC, yr135_1 hC, yr136_0 hC, yr136_1 hC, xk0 hA, xk1 hA, xl1 hA, xk2 hA, xk3 hA, xl3 hA, xr2_2 hA, xi2_0 hA, xi2_1 hA, xk4 hA, xk5 hA, xl5 hA, xr4_2 hA, xi4_0 hA, xi4_1 hA, xk6 hA, xk7 hA, xl7 hA, xr6_2 hA, xi6_0 hA, xi6_1 hA, xk8 hA, xk9 hA, xl9 hA, xr8_2 hA, xi8_0 hA, xi8_1 hA, xk10 hA, xk11 hA, xl11 hA, xr10_2 hA, xi10_0 hA, xi10_1 hA, xr0_7 hA, xr0_8 hA, xr0_9 hA, xr0_10 hA, xr0_11 hA, xr0_12 hA, e0, es, f1]
theorem y_free {S0 : am_S} (H : w_pc S0 S L B s) (hn : n < 12) : ∃ S', fX0_readFreeRow w_N [.ref 135, .int (nI n)] S = some (.inl (some (.int (nI (p_free B L s n).2))), S') ∧ w_pc S0 S' L B (p_free B L s n).1 := by
  have hC := H.1.2.1
  have hA := H.2.2.2.1
  have hR := H.2.2.2.2.1
  obtain ⟨w1, w2, w3, w4, w5, w6⟩ := H.2.2.2.2.2.w
  have e0 : am_i S 113 1 = nI (s_n (s.2.2 1)) := hR.1.2.1.trans w4
  have es := w_subN (k := 1) (m := s_n (s.2.2 1)) (by omega)
  have hh : (nI (s_n (s.2.2 1) - 1)).toInt = (s_n (s.2.2 1) : Int) - 1 := by rw [nI_toInt (by omega)]; omega
  obtain ⟨S1, f1, f2⟩ := y_num (lo := 0) H hh (by omega) (by omega)
  have hv := (p_num_lt (B := B) (L := L) (s := s) (lo := 0) (h := s_n (s.2.2 1)) (m := 11) (by omega) (by omega)).1
  have er : p_num B L s 0 (s_n (s.2.2 1)) = p_row B L s := rfl
  rw [er] at f1 f2 hv
  have eR : (p_row B L s).1.2.2 = s.2.2 := p_num_R
  have hC1 := f2.1.2.1
  have hA1 := f2.2.2.2.1
  have gw := y_walled (i := n) (j := (p_row B L s).2) f2.2.2.2.1 f2.2.2.2.2.1 hn (by omega)
  rw [eR] at gw
  unfold p_free
  by_cases c : s.2.2 (784 + (12 * (p_row B L s).2 + n)) = 0
  · rw [if_pos c]
    rw [w_bf (fun q => q c)] at gw
    refine ⟨S1, ?_, f2⟩
    simp (disch := omega) only [fX0_readFreeRow, kX0_readFreeRow_35, kX0_readFreeRow_0, x_cs0, x_csi, x_csr, x_csn, x_csl, x_ret_v, x_ret_t, x_ret_n, x_tl_s, x_tl_n, x_lk0, x_lk, x_rem0, x_rem_i, x_rem_r, x_rem_l, x_rem2_0, x_rem2_i, x_rem2_r, x_rem2_l, x_pick0, x_pick_c, x_st1, x_st2, x_live, x_i, x_l, x_a, x_ild, x_lld, x_rld, x_ist, x_lst, x_rst, x_inc, x_ii, x_ll, x_li, x_cmp, x_ui, x_il, x_lti, x_idiv, x_irem, x_dup_i, x_dup_r, x_pop_i, x_pop_r, x_dupx_ir, x_dup2_ir, x_ifeq, x_iceq, x_iflt, x_iclt, x_ifge, x_icge, x_ifgt, x_icgt, x_ifle, x_icle, x_ifne, x_icne, x_ifnull_r, x_ifnull_n, x_ifnonnull_r, x_ifnonnull_n, x_sw, x_vret, x_iret, x_lret, x_zret, x_zret0, x_zret1, x_rf_s, x_rf_n, x_geti, x_getr, x_puti, x_putz, x_putr, x_ial, x_ias, x_lal, x_las, x_aal, x_aas, x_aast, x_alen, x_new, x_newa, x_copy, x_min, x_abs, x_minl, x_oinit, x_throw, x_callS0, x_callS1, x_callS2, x_callS3, x_callS4, x_callV0, x_callV1, x_callV2, x_callV3, x_callV4, x_callV5, x_retI_v, x_callI0, x_callI1, x_callI2, x_retN_v, x_callSN1, x_callSN2, x_callT0, x_callT1, x_fn, x_sl0, x_sli, x_slr, x_sll, x_ar0, x_ari, x_arr, x_arl, ↓reduceIte, Nat.reduceAdd, Nat.reduceSub, Nat.reduceMul, Nat.reduceEqDiff, Nat.reduceLeDiff, Nat.reduceLT, if_true, if_false, Nat.le_refl, and_true, true_and, and_self, reduceCtorEq, or_false, false_or, or_true, true_or, Nat.zero_le, fa_lit, nI_add, w_mul, nI_ltI, nI_leI, nI_eq, nI_clamp, nI_toInt, if_pos, if_neg, w_div, w_rem2, yk100 hC, yk125 hC, yk126 hC, yk127 hC, yk128 hC, yk129 hC, yk130 hC, yk131 hC, yk132 hC, yk133 hC, yk134 hC, yk135 hC, yk136 hC, yk137 hC, yl126 hC, yl128 hC, yl130 hC, yl131 hC, yl133 hC, yl137 hC, yr100_0 hC, yr100_1 hC, yr100_2 hC, yr100_3 hC, yr100_4 hC, yr100_5 hC, yr100_6 hC, yr100_7 hC, yr100_8 hC, yr100_9 hC, yr100_10 hC, yr125_0 hC, yr127_0 hC, yr129_0 hC, yr129_1 hC, yr129_2 hC, yr132_0 hC, yr134_0 hC, yr135_0 hC, yr135_1 hC, yr136_0 hC, yr136_1 hC, xk0 hA, xk1 hA, xl1 hA, xk2 hA, xk3 hA, xl3 hA, xr2_2 hA, xi2_0 hA, xi2_1 hA, xk4 hA, xk5 hA, xl5 hA, xr4_2 hA, xi4_0 hA, xi4_1 hA, xk6 hA, xk7 hA, xl7 hA, xr6_2 hA, xi6_0 hA, xi6_1 hA, xk8 hA, xk9 hA, xl9 hA, xr8_2 hA, xi8_0 hA, xi8_1 hA, xk10 hA, xk11 hA, xl11 hA, xr10_2 hA, xi10_0 hA, xi10_1 hA, xr0_7 hA, xr0_8 hA, xr0_9 hA, xr0_10 hA, xr0_11 hA, xr0_12 hA, yk100 hC1, yk125 hC1, yk126 hC1, yk127 hC1, yk128 hC1, yk129 hC1, yk130 hC1, yk131 hC1, yk132 hC1, yk133 hC1, yk134 hC1, yk135 hC1, yk136 hC1, yk137 hC1, yl126 hC1, yl128 hC1, yl130 hC1, yl131 hC1, yl133 hC1, yl137 hC1, yr100_0 hC1, yr100_1 hC1, yr100_2 hC1, yr100_3 hC1, yr100_4 hC1, yr100_5 hC1, yr100_6 hC1, yr100_7 hC1, yr100_8 hC1, yr100_9 hC1, yr100_10 hC1, yr125_0 hC1, yr127_0 hC1, yr129_0 hC1, yr129_1 hC1, yr129_2 hC1, yr132_0 hC1, yr134_0 hC1, yr135_0 hC1, yr135_1 hC1, yr136_0 hC1, yr136_1 hC1, xk0 hA1, xk1 hA1, xl1 hA1, xk2 hA1, xk3 hA1, xl3 hA1, xr2_2 hA1, xi2_0 hA1, xi2_1 hA1, xk4 hA1, xk5 hA1, xl5 hA1, xr4_2 hA1, xi4_0 hA1, xi4_1 hA1, xk6 hA1, xk7 hA1, xl7 hA1, xr6_2 hA1, xi6_0 hA1, xi6_1 hA1, xk8 hA1, xk9 hA1, xl9 hA1, xr8_2 hA1, xi8_0 hA1, xi8_1 hA1, xk10 hA1, xk11 hA1, xl11 hA1, xr10_2 hA1, xi10_0 hA1, xi10_1 hA1, xr0_7 hA1, xr0_8 hA1, xr0_9 hA1, xr0_10 hA1, xr0_11 hA1, xr0_12 hA1, e0, es, f1, gw]
  · rw [if_neg c]
    rw [w_bt c] at gw
    obtain ⟨S2, k1, k2⟩ := y_fail f2 (c := 4) (by omega) (by omega)
    refine ⟨S2, ?_, k2⟩
    simp (disch := omega) only [fX0_readFreeRow, kX0_readFreeRow_35, kX0_readFreeRow_0, x_cs0, x_csi, x_csr, x_csn, x_csl, x_ret_v, x_ret_t, x_ret_n, x_tl_s, x_tl_n, x_lk0, x_lk, x_rem0, x_rem_i, x_rem_r, x_rem_l, x_rem2_0, x_rem2_i, x_rem2_r, x_rem2_l, x_pick0, x_pick_c, x_st1, x_st2, x_live, x_i, x_l, x_a, x_ild, x_lld, x_rld, x_ist, x_lst, x_rst, x_inc, x_ii, x_ll, x_li, x_cmp, x_ui, x_il, x_lti, x_idiv, x_irem, x_dup_i, x_dup_r, x_pop_i, x_pop_r, x_dupx_ir, x_dup2_ir, x_ifeq, x_iceq, x_iflt, x_iclt, x_ifge, x_icge, x_ifgt, x_icgt, x_ifle, x_icle, x_ifne, x_icne, x_ifnull_r, x_ifnull_n, x_ifnonnull_r, x_ifnonnull_n, x_sw, x_vret, x_iret, x_lret, x_zret, x_zret0, x_zret1, x_rf_s, x_rf_n, x_geti, x_getr, x_puti, x_putz, x_putr, x_ial, x_ias, x_lal, x_las, x_aal, x_aas, x_aast, x_alen, x_new, x_newa, x_copy, x_min, x_abs, x_minl, x_oinit, x_throw, x_callS0, x_callS1, x_callS2, x_callS3, x_callS4, x_callV0, x_callV1, x_callV2, x_callV3, x_callV4, x_callV5, x_retI_v, x_callI0, x_callI1, x_callI2, x_retN_v, x_callSN1, x_callSN2, x_callT0, x_callT1, x_fn, x_sl0, x_sli, x_slr, x_sll, x_ar0, x_ari, x_arr, x_arl, ↓reduceIte, Nat.reduceAdd, Nat.reduceSub, Nat.reduceMul, Nat.reduceEqDiff, Nat.reduceLeDiff, Nat.reduceLT, if_true, if_false, Nat.le_refl, and_true, true_and, and_self, reduceCtorEq, or_false, false_or, or_true, true_or, Nat.zero_le, fa_lit, nI_add, w_mul, nI_ltI, nI_leI, nI_eq, nI_clamp, nI_toInt, if_pos, if_neg, w_div, w_rem2, yk100 hC, yk125 hC, yk126 hC, yk127 hC, yk128 hC, yk129 hC, yk130 hC, yk131 hC, yk132 hC, yk133 hC, yk134 hC, yk135 hC, yk136 hC, yk137 hC, yl126 hC, yl128 hC, yl130 hC, yl131 hC, yl133 hC, yl137 hC, yr100_0 hC, yr100_1 hC, yr100_2 hC, yr100_3 hC, yr100_4 hC, yr100_5 hC, yr100_6 hC, yr100_7 hC, yr100_8 hC, yr100_9 hC, yr100_10 hC, yr125_0 hC, yr127_0 hC, yr129_0 hC, yr129_1 hC, yr129_2 hC, yr132_0 hC, yr134_0 hC, yr135_0 hC, yr135_1 hC, yr136_0 hC, yr136_1 hC, xk0 hA, xk1 hA, xl1 hA, xk2 hA, xk3 hA, xl3 hA, xr2_2 hA, xi2_0 hA, xi2_1 hA, xk4 hA, xk5 hA, xl5 hA, xr4_2 hA, xi4_0 hA, xi4_1 hA, xk6 hA, xk7 hA, xl7 hA, xr6_2 hA, xi6_0 hA, xi6_1 hA, xk8 hA, xk9 hA, xl9 hA, xr8_2 hA, xi8_0 hA, xi8_1 hA, xk10 hA, xk11 hA, xl11 hA, xr10_2 hA, xi10_0 hA, xi10_1 hA, xr0_7 hA, xr0_8 hA, xr0_9 hA, xr0_10 hA, xr0_11 hA, xr0_12 hA, yk100 hC1, yk125 hC1, yk126 hC1, yk127 hC1, yk128 hC1, yk129 hC1, yk130 hC1, yk131 hC1, yk132 hC1, yk133 hC1, yk134 hC1, yk135 hC1, yk136 hC1, yk137 hC1, yl126 hC1, yl128 hC1, yl130 hC1, yl131 hC1, yl133 hC1, yl137 hC1, yr100_0 hC1, yr100_1 hC1, yr100_2 hC1, yr100_3 hC1, yr100_4 hC1, yr100_5 hC1, yr100_6 hC1, yr100_7 hC1, yr100_8 hC1, yr100_9 hC1, yr100_10 hC1, yr125_0 hC1, yr127_0 hC1, yr129_0 hC1, yr129_1 hC1, yr129_2 hC1, yr132_0 hC1, yr134_0 hC1, yr135_0 hC1, yr135_1 hC1, yr136_0 hC1, yr136_1 hC1, xk0 hA1, xk1 hA1, xl1 hA1, xk2 hA1, xk3 hA1, xl3 hA1, xr2_2 hA1, xi2_0 hA1, xi2_1 hA1, xk4 hA1, xk5 hA1, xl5 hA1, xr4_2 hA1, xi4_0 hA1, xi4_1 hA1, xk6 hA1, xk7 hA1, xl7 hA1, xr6_2 hA1, xi6_0 hA1, xi6_1 hA1, xk8 hA1, xk9 hA1, xl9 hA1, xr8_2 hA1, xi8_0 hA1, xi8_1 hA1, xk10 hA1, xk11 hA1, xl11 hA1, xr10_2 hA1, xi10_0 hA1, xi10_1 hA1, xr0_7 hA1, xr0_8 hA1, xr0_9 hA1, xr0_10 hA1, xr0_11 hA1, xr0_12 hA1, e0, es, f1, gw, k1]
theorem y_hqR {S0 : am_S} (H : w_pc S0 S L B s) : ∃ S', fX0_readHeadquarters w_N [.ref 135] S = some (.inl none, S') ∧ w_pc S0 S' L B (p_hq B L s) := by
  have hC := H.1.2.1
  obtain ⟨S1, f1, f2, f3⟩ := y_col H
  obtain ⟨S2, g1, g2⟩ := y_free f2 f3
  have hC1 := f2.1.2.1
  have hC2 := g2.1.2.1
  have hA2 := g2.2.2.2.1
  have eR : (p_free B L (p_col B L s).1 (p_col B L s).2).1.2.2 = s.2.2 := by rw [p_free_R]; exact p_num_R
  have hR2 := g2.2.2.2.2.1
  have hV2 := g2.2.2.2.2.2
  rw [eR] at hR2 hV2
  obtain ⟨w1, w2, w3, w4, w5, w6⟩ := H.2.2.2.2.2.w
  have eR1 : (p_col B L s).1.2.2 = s.2.2 := p_num_R
  have hv : (p_free B L (p_col B L s).1 (p_col B L s).2).2 < 12 := by
    rw [p_free_2]
    unfold p_row
    rw [eR1]
    have := (p_num_lt (B := B) (L := L) (s := (p_col B L s).1) (lo := 0) (h := s_n (s.2.2 1)) (m := 11) (by omega) (by omega)).1
    omega
  have hJ : w_J 113 S2 (am_putI S2 113 2 (nI (p_col B L s).2)) := w_J.puta (by omega)
  have hA3 := hJ.A hA2
  have hC3 := hJ.1.C hC2
  have hR3 := hR2.put2 (v := nI (p_col B L s).2)
  have hR4 := hR3.put3 (v := nI (p_free B L (p_col B L s).1 (p_col B L s).2).2)
  refine ⟨am_putI (am_putI S2 113 2 (nI (p_col B L s).2)) 113 3 (nI (p_free B L (p_col B L s).1 (p_col B L s).2).2), ?_, g2.row (hJ.tr (w_J.puta (by omega))) hR4 ?_⟩
  · simp (disch := omega) only [fX0_readHeadquarters, kX0_readHeadquarters_0, x_cs0, x_csi, x_csr, x_csn, x_csl, x_ret_v, x_ret_t, x_ret_n, x_tl_s, x_tl_n, x_lk0, x_lk, x_rem0, x_rem_i, x_rem_r, x_rem_l, x_rem2_0, x_rem2_i, x_rem2_r, x_rem2_l, x_pick0, x_pick_c, x_st1, x_st2, x_live, x_i, x_l, x_a, x_ild, x_lld, x_rld, x_ist, x_lst, x_rst, x_inc, x_ii, x_ll, x_li, x_cmp, x_ui, x_il, x_lti, x_idiv, x_irem, x_dup_i, x_dup_r, x_pop_i, x_pop_r, x_dupx_ir, x_dup2_ir, x_ifeq, x_iceq, x_iflt, x_iclt, x_ifge, x_icge, x_ifgt, x_icgt, x_ifle, x_icle, x_ifne, x_icne, x_ifnull_r, x_ifnull_n, x_ifnonnull_r, x_ifnonnull_n, x_sw, x_vret, x_iret, x_lret, x_zret, x_zret0, x_zret1, x_rf_s, x_rf_n, x_geti, x_getr, x_puti, x_putz, x_putr, x_ial, x_ias, x_lal, x_las, x_aal, x_aas, x_aast, x_alen, x_new, x_newa, x_copy, x_min, x_abs, x_minl, x_oinit, x_throw, x_callS0, x_callS1, x_callS2, x_callS3, x_callS4, x_callV0, x_callV1, x_callV2, x_callV3, x_callV4, x_callV5, x_retI_v, x_callI0, x_callI1, x_callI2, x_retN_v, x_callSN1, x_callSN2, x_callT0, x_callT1, x_fn, x_sl0, x_sli, x_slr, x_sll, x_ar0, x_ari, x_arr, x_arl, ↓reduceIte, Nat.reduceAdd, Nat.reduceSub, Nat.reduceMul, Nat.reduceEqDiff, Nat.reduceLeDiff, Nat.reduceLT, if_true, if_false, Nat.le_refl, and_true, true_and, and_self, reduceCtorEq, or_false, false_or, or_true, true_or, Nat.zero_le, fa_lit, nI_add, w_mul, nI_ltI, nI_leI, nI_eq, nI_clamp, nI_toInt, if_pos, if_neg, w_div, w_rem2, yk100 hC, yk125 hC, yk126 hC, yk127 hC, yk128 hC, yk129 hC, yk130 hC, yk131 hC, yk132 hC, yk133 hC, yk134 hC, yk135 hC, yk136 hC, yk137 hC, yl126 hC, yl128 hC, yl130 hC, yl131 hC, yl133 hC, yl137 hC, yr100_0 hC, yr100_1 hC, yr100_2 hC, yr100_3 hC, yr100_4 hC, yr100_5 hC, yr100_6 hC, yr100_7 hC, yr100_8 hC, yr100_9 hC, yr100_10 hC, yr125_0 hC, yr127_0 hC, yr129_0 hC, yr129_1 hC, yr129_2 hC, yr132_0 hC, yr134_0 hC, yr135_0 hC, yr135_1 hC, yr136_0 hC, yr136_1 hC, yk100 hC1, yk125 hC1, yk126 hC1, yk127 hC1, yk128 hC1, yk129 hC1, yk130 hC1, yk131 hC1, yk132 hC1, yk133 hC1, yk134 hC1, yk135 hC1, yk136 hC1, yk137 hC1, yl126 hC1, yl128 hC1, yl130 hC1, yl131 hC1, yl133 hC1, yl137 hC1, yr100_0 hC1, yr100_1 hC1, yr100_2 hC1, yr100_3 hC1, yr100_4 hC1, yr100_5 hC1, yr100_6 hC1, yr100_7 hC1, yr100_8 hC1, yr100_9 hC1, yr100_10 hC1, yr125_0 hC1, yr127_0 hC1, yr129_0 hC1, yr129_1 hC1, yr129_2 hC1, yr132_0 hC1, yr134_0 hC1, yr135_0 hC1, yr135_1 hC1, yr136_0 hC1, yr136_1 hC1, yk100 hC2, yk125 hC2, yk126 hC2, yk127 hC2, yk128 hC2, yk129 hC2, yk130 hC2, yk131 hC2, yk132 hC2, yk133 hC2, yk134 hC2, yk135 hC2, yk136 hC2, yk137 hC2, yl126 hC2, yl128 hC2, yl130 hC2, yl131 hC2, yl133 hC2, yl137 hC2, yr100_0 hC2, yr100_1 hC2, yr100_2 hC2, yr100_3 hC2, yr100_4 hC2, yr100_5 hC2, yr100_6 hC2, yr100_7 hC2, yr100_8 hC2, yr100_9 hC2, yr100_10 hC2, yr125_0 hC2, yr127_0 hC2, yr129_0 hC2, yr129_1 hC2, yr129_2 hC2, yr132_0 hC2, yr134_0 hC2, yr135_0 hC2, yr135_1 hC2, yr136_0 hC2, yr136_1 hC2, yk100 hC3, yk125 hC3, yk126 hC3, yk127 hC3, yk128 hC3, yk129 hC3, yk130 hC3, yk131 hC3, yk132 hC3, yk133 hC3, yk134 hC3, yk135 hC3, yk136 hC3, yk137 hC3, yl126 hC3, yl128 hC3, yl130 hC3, yl131 hC3, yl133 hC3, yl137 hC3, yr100_0 hC3, yr100_1 hC3, yr100_2 hC3, yr100_3 hC3, yr100_4 hC3, yr100_5 hC3, yr100_6 hC3, yr100_7 hC3, yr100_8 hC3, yr100_9 hC3, yr100_10 hC3, yr125_0 hC3, yr127_0 hC3, yr129_0 hC3, yr129_1 hC3, yr129_2 hC3, yr132_0 hC3, yr134_0 hC3, yr135_0 hC3, yr135_1 hC3, yr136_0 hC3, yr136_1 hC3, xk0 hA2, xk1 hA2, xl1 hA2, xk2 hA2, xk3 hA2, xl3 hA2, xr2_2 hA2, xi2_0 hA2, xi2_1 hA2, xk4 hA2, xk5 hA2, xl5 hA2, xr4_2 hA2, xi4_0 hA2, xi4_1 hA2, xk6 hA2, xk7 hA2, xl7 hA2, xr6_2 hA2, xi6_0 hA2, xi6_1 hA2, xk8 hA2, xk9 hA2, xl9 hA2, xr8_2 hA2, xi8_0 hA2, xi8_1 hA2, xk10 hA2, xk11 hA2, xl11 hA2, xr10_2 hA2, xi10_0 hA2, xi10_1 hA2, xr0_7 hA2, xr0_8 hA2, xr0_9 hA2, xr0_10 hA2, xr0_11 hA2, xr0_12 hA2, xk0 hA3, xk1 hA3, xl1 hA3, xk2 hA3, xk3 hA3, xl3 hA3, xr2_2 hA3, xi2_0 hA3, xi2_1 hA3, xk4 hA3, xk5 hA3, xl5 hA3, xr4_2 hA3, xi4_0 hA3, xi4_1 hA3, xk6 hA3, xk7 hA3, xl7 hA3, xr6_2 hA3, xi6_0 hA3, xi6_1 hA3, xk8 hA3, xk9 hA3, xl9 hA3, xr8_2 hA3, xi8_0 hA3, xi8_1 hA3, xk10 hA3, xk11 hA3, xl11 hA3, xr10_2 hA3, xi10_0 hA3, xi10_1 hA3, xr0_7 hA3, xr0_8 hA3, xr0_9 hA3, xr0_10 hA3, xr0_11 hA3, xr0_12 hA3, f1, g1]
  · generalize (p_col B L s).2 = X at *
    generalize (p_free B L (p_col B L s).1 X).2 = Y at *
    obtain ⟨v0, v2, v3, v4, v7, v8, v5, v9, -, vw⟩ := hV2
    unfold s_VC
    simp (disch := omega) only [s_up_n, s_up_s]
    refine ⟨v0, v2, v3, v4, v7, v8, v5, v9, ⟨s_nnI (by omega) (by omega), s_nnI (by omega) (by omega)⟩, vw⟩
end L10
