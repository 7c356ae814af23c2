/-! THE CLASS READS: a situation begun, the whole text -/
def p_R0 : Nat → Int32 := fun j => if j = 0 then nI 3 else if j = 1 then nI 3 else if j = 9 then nI 30 else nI 0
def p_s0 : p_S := ((0, 0), (0, 0, 0), p_R0)
def p_start (B : Nat → Nat) (L : Nat) : p_S := if l_w B (p_next B L p_s0).2.1 2 then p_next B L p_s0 else p_fail (p_next B L p_s0) 1
def p_all (B : Nat → Nat) (L : Nat) : p_S := p_loop B L 600 (p_head B L (p_start B L))
section L23
variable {S S' T : am_S} {L : Nat} {B : Nat → Nat}
theorem p_R0_0 {j : Nat} (h : j ≠ 0) (h1 : j ≠ 1) (h9 : j ≠ 9) : p_R0 j = nI 0 := (if_neg h).trans ((if_neg h1).trans (if_neg h9))
theorem y_clr {t : Nat} (hA : w_A S 113) (h1 : 1 ≤ t) (h2 : t ≤ 5) : ∃ T, fX7_clear w_N [.ref (113 + 2 * t)] S = some (.inl none, T) ∧ w_J 113 S T ∧ am_i T (113 + 2 * t) 3 = nI 0 ∧ ∀ b, b ≠ 113 + 2 * t → am_i T b = am_i S b := by
  have hk : am_k S (113 + 2 * t) = 7 := by
    rcases (show t = 1 ∨ t = 2 ∨ t = 3 ∨ t = 4 ∨ t = 5 by omega) with rfl | rfl | rfl | rfl | rfl
    · exact xk2 hA
    · exact xk4 hA
    · exact xk6 hA
    · exact xk8 hA
    · exact xk10 hA
  refine ⟨am_putI S (113 + 2 * t) 3 (nI 0), ?_, w_J.put (by omega) (by intro q h1 h2 h3; omega), x_i_Is, fun b hb => ?_⟩
  · simp (disch := omega) only [fX7_clear, kX7_clear_0, x_cs0, x_csi, x_csr, x_csn, x_csl, x_ret_v, x_ret_t, x_ret_n, x_tl_s, x_tl_n, x_lk0, x_lk, x_rem0, x_rem_i, x_rem_r, x_rem_l, x_rem2_0, x_rem2_i, x_rem2_r, x_rem2_l, x_pick0, x_pick_c, x_st1, x_st2, x_live, x_i, x_l, x_a, x_ild, x_lld, x_rld, x_ist, x_lst, x_rst, x_inc, x_ii, x_ll, x_li, x_cmp, x_ui, x_il, x_lti, x_idiv, x_irem, x_dup_i, x_dup_r, x_pop_i, x_pop_r, x_dupx_ir, x_dup2_ir, x_ifeq, x_iceq, x_iflt, x_iclt, x_ifge, x_icge, x_ifgt, x_icgt, x_ifle, x_icle, x_ifne, x_icne, x_ifnull_r, x_ifnull_n, x_ifnonnull_r, x_ifnonnull_n, x_sw, x_vret, x_iret, x_lret, x_zret, x_zret0, x_zret1, x_rf_s, x_rf_n, x_geti, x_getr, x_puti, x_putz, x_putr, x_ial, x_ias, x_lal, x_las, x_aal, x_aas, x_aast, x_alen, x_new, x_newa, x_copy, x_min, x_abs, x_minl, x_oinit, x_throw, x_callS0, x_callS1, x_callS2, x_callS3, x_callS4, x_callV0, x_callV1, x_callV2, x_callV3, x_callV4, x_callV5, x_retI_v, x_callI0, x_callI1, x_callI2, x_retN_v, x_callSN1, x_callSN2, x_callT0, x_callT1, x_fn, x_sl0, x_sli, x_slr, x_sll, x_ar0, x_ari, x_arr, x_arl, ↓reduceIte, Nat.reduceAdd, Nat.reduceSub, Nat.reduceMul, Nat.reduceEqDiff, Nat.reduceLeDiff, Nat.reduceLT, if_true, if_false, Nat.le_refl, and_true, true_and, and_self, reduceCtorEq, or_false, false_or, or_true, true_or, Nat.zero_le, fa_lit, nI_add, w_mul, nI_ltI, nI_leI, nI_eq, nI_clamp, nI_toInt, if_pos, if_neg, w_div, w_rem2, hk]
  · funext j
    rw [x_i_I, if_neg hb]
theorem y_beg1 (hA : w_A S 113) : ∃ W, w_J 113 S W ∧ (am_i W 113 0 = nI 3 ∧ am_i W 113 1 = nI 3 ∧ am_i W 113 2 = nI 0 ∧ am_i W 113 3 = nI 0 ∧ am_i W 113 4 = nI 0 ∧ am_i W 113 5 = nI 30 ∧ am_i W 113 6 = nI 0) ∧ ∀ T, fJ7_fill_53178 w_N [.ref 114, .int (nI 0)] W = some (.inl none, T) → am_k T = am_k S → am_r T = am_r S → ∀ T1, fX7_clear w_N [.ref 115] T = some (.inl none, T1) → am_k T1 = am_k S → am_r T1 = am_r S → ∀ T2, fX7_clear w_N [.ref 117] T1 = some (.inl none, T2) → am_k T2 = am_k S → am_r T2 = am_r S → ∀ T3, fX7_clear w_N [.ref 119] T2 = some (.inl none, T3) → am_k T3 = am_k S → am_r T3 = am_r S → ∀ T4, fX7_clear w_N [.ref 121] T3 = some (.inl none, T4) → am_k T4 = am_k S → am_r T4 = am_r S → ∀ T5, fX7_clear w_N [.ref 123] T4 = some (.inl none, T5) → fX6_begin w_N [.ref 113] S = some (.inl none, T5) := by
  refine ⟨am_putI (am_putI (am_putI (am_putI (am_putI (am_putI (am_putI S 113 0 (nI 3)) 113 1 (nI 3)) 113 2 (nI 0)) 113 3 (nI 0)) 113 4 (nI 0)) 113 5 (nI 30)) 113 6 (nI 0), ((((((w_J.puta (by omega)).tr (w_J.puta (by omega))).tr (w_J.puta (by omega))).tr (w_J.puta (by omega))).tr (w_J.puta (by omega))).tr (w_J.puta (by omega))).tr (w_J.puta (by omega)), ⟨?_, ?_, ?_, ?_, ?_, ?_, ?_⟩, ?_⟩
  · simp (disch := omega) only [x_i_I, if_pos, if_neg, if_true]
  · simp (disch := omega) only [x_i_I, if_pos, if_neg, if_true]
  · simp (disch := omega) only [x_i_I, if_pos, if_neg, if_true]
  · simp (disch := omega) only [x_i_I, if_pos, if_neg, if_true]
  · simp (disch := omega) only [x_i_I, if_pos, if_neg, if_true]
  · simp (disch := omega) only [x_i_I, if_pos, if_neg, if_true]
  · simp (disch := omega) only [x_i_I, if_pos, if_neg, if_true]
  · intro T f k0 r0 T1 f1 k1 r1 T2 f2 k2 r2 T3 f3 k3 r3 T4 f4 k4 r4 T5 f5
    simp (maxSteps := 1000000) (disch := omega) only [fX6_begin, kX6_begin_0, x_cs0, x_csi, x_csr, x_csn, x_csl, x_ret_v, x_ret_t, x_ret_n, x_tl_s, x_tl_n, x_lk0, x_lk, x_rem0, x_rem_i, x_rem_r, x_rem_l, x_rem2_0, x_rem2_i, x_rem2_r, x_rem2_l, x_pick0, x_pick_c, x_st1, x_st2, x_live, x_i, x_l, x_a, x_ild, x_lld, x_rld, x_ist, x_lst, x_rst, x_inc, x_ii, x_ll, x_li, x_cmp, x_ui, x_il, x_lti, x_idiv, x_irem, x_dup_i, x_dup_r, x_pop_i, x_pop_r, x_dupx_ir, x_dup2_ir, x_ifeq, x_iceq, x_iflt, x_iclt, x_ifge, x_icge, x_ifgt, x_icgt, x_ifle, x_icle, x_ifne, x_icne, x_ifnull_r, x_ifnull_n, x_ifnonnull_r, x_ifnonnull_n, x_sw, x_vret, x_iret, x_lret, x_zret, x_zret0, x_zret1, x_rf_s, x_rf_n, x_geti, x_getr, x_puti, x_putz, x_putr, x_ial, x_ias, x_lal, x_las, x_aal, x_aas, x_aast, x_alen, x_new, x_newa, x_copy, x_min, x_abs, x_minl, x_oinit, x_throw, x_callS0, x_callS1, x_callS2, x_callS3, x_callS4, x_callV0, x_callV1, x_callV2, x_callV3, x_callV4, x_callV5, x_retI_v, x_callI0, x_callI1, x_callI2, x_retN_v, x_callSN1, x_callSN2, x_callT0, x_callT1, x_fn, x_sl0, x_sli, x_slr, x_sll, x_ar0, x_ari, x_arr, x_arl, ↓reduceIte, Nat.reduceAdd, Nat.reduceSub, Nat.reduceMul, Nat.reduceEqDiff, Nat.reduceLeDiff, Nat.reduceLT, if_true, if_false, Nat.le_refl, and_true, true_and, and_self, reduceCtorEq, or_false, false_or, or_true, true_or, Nat.zero_le, fa_lit, nI_add, w_mul, nI_ltI, nI_leI, nI_eq, nI_clamp, nI_toInt, if_pos, if_neg, w_div, w_rem2, xk0 hA, xk1 hA, xl1 hA, xk2 hA, xk3 hA, xl3 hA, xr2_2 hA, xi2_0 hA, xi2_1 hA, xk4 hA, xk5 hA, xl5 hA, xr4_2 hA, xi4_0 hA, xi4_1 hA, xk6 hA, xk7 hA, xl7 hA, xr6_2 hA, xi6_0 hA, xi6_1 hA, xk8 hA, xk9 hA, xl9 hA, xr8_2 hA, xi8_0 hA, xi8_1 hA, xk10 hA, xk11 hA, xl11 hA, xr10_2 hA, xi10_0 hA, xi10_1 hA, xr0_7 hA, xr0_8 hA, xr0_9 hA, xr0_10 hA, xr0_11 hA, xr0_12 hA, x_k_I, x_r_I, f, k0, r0, f1, k1, r1, f2, k2, r2, f3, k3, r3, f4, k4, r4, f5]
theorem y_begin (hA : w_A S 113) : ∃ S', fX6_begin w_N [.ref 113] S = some (.inl none, S') ∧ w_R S' 113 p_R0 ∧ w_J 113 S S' := by
  obtain ⟨W, J1, ⟨v0, v1, v2, v3, v4, v5, v6⟩, run⟩ := y_beg1 hA
  have hA1 := J1.A hA
  obtain ⟨S2, f1, f2, f3⟩ := y_fill (S := W) (E := 113 + 1) (v := nI 0) (xk1 hA1) (xl1 hA1) (by omega)
  have J2 : w_J 113 W S2 := ⟨f3.mono (fun b hb => by omega), fun q j h1 h2 h3 => by rw [f3.i (by omega)]⟩
  have hA2 := J2.A hA1
  have J12 := J1.tr J2
  obtain ⟨T1, c1, d1, e1, g1⟩ := y_clr (t := 1) hA2 (by omega) (by omega)
  have hA3 := d1.A hA2
  have J13 := J12.tr d1
  obtain ⟨T2, c2, d2, e2, g2⟩ := y_clr (t := 2) hA3 (by omega) (by omega)
  have hA4 := d2.A hA3
  have J14 := J13.tr d2
  obtain ⟨T3, c3, d3, e3, g3⟩ := y_clr (t := 3) hA4 (by omega) (by omega)
  have hA5 := d3.A hA4
  have J15 := J14.tr d3
  obtain ⟨T4, c4, d4, e4, g4⟩ := y_clr (t := 4) hA5 (by omega) (by omega)
  have hA6 := d4.A hA5
  have J16 := J15.tr d4
  obtain ⟨T5, c5, d5, e5, g5⟩ := y_clr (t := 5) hA6 (by omega) (by omega)
  have J17 := J16.tr d5
  have i13 : ∀ b, b = 113 ∨ b = 114 → am_i T5 b = am_i S2 b := fun b hb => by
    rw [g5 b (by omega), g4 b (by omega), g3 b (by omega), g2 b (by omega), g1 b (by omega)]
  have iW : am_i T5 113 = am_i W 113 := by rw [i13 113 (by omega), f3.i (by omega)]
  refine ⟨T5, run S2 f1 J12.1.2.2.1 J12.1.2.2.2.2.2.1 T1 c1 J13.1.2.2.1 J13.1.2.2.2.2.2.1 T2 c2 J14.1.2.2.1 J14.1.2.2.2.2.2.1 T3 c3 J15.1.2.2.1 J15.1.2.2.2.2.2.1 T4 c4 J16.1.2.2.1 J16.1.2.2.2.2.2.1 T5 c5, ?_, J17⟩
  have z : ∀ j, j ≠ 0 → j ≠ 1 → j ≠ 9 → p_R0 j = nI 0 := fun j h1 h2 h3 => p_R0_0 h1 h2 h3
  have zn : ∀ j, j ≠ 0 → j ≠ 1 → j ≠ 9 → s_n (p_R0 j) = 0 := fun j h1 h2 h3 => by rw [z j h1 h2 h3, w_snI (by omega)]
  refine ⟨⟨by rw [iW]; exact v0, by rw [iW]; exact v1, by rw [iW]; exact v2, by rw [iW]; exact v3, by rw [iW]; exact v4, by rw [iW]; exact v5, by rw [iW]; exact v6⟩, ⟨?_, ?_, ?_, ?_, ?_⟩, fun c hc => ?_, fun u f hu => ?_, fun u f hu => ?_, fun u hu => ?_, fun u f hu => ?_, fun u f hu => ?_, fun u f hu => ?_⟩
  · rw [g5 _ (by omega), g4 _ (by omega), g3 _ (by omega), g2 _ (by omega), z 2 (by omega) (by omega) (by omega)]
    exact e1
  · rw [g5 _ (by omega), g4 _ (by omega), g3 _ (by omega), z 3 (by omega) (by omega) (by omega)]
    exact e2
  · rw [g5 _ (by omega), g4 _ (by omega), z 8 (by omega) (by omega) (by omega)]
    exact e3
  · rw [g5 _ (by omega), z 4 (by omega) (by omega) (by omega)]
    exact e4
  · rw [z 7 (by omega) (by omega) (by omega)]
    exact e5
  · rw [i13 (113 + 1) (by omega), z _ (by omega) (by omega) (by omega)]
    exact f2 c hc
  · rw [zn 2 (by omega) (by omega) (by omega)] at hu
    omega
  · rw [zn 3 (by omega) (by omega) (by omega)] at hu
    omega
  · rw [zn 3 (by omega) (by omega) (by omega)] at hu
    omega
  · rw [zn 8 (by omega) (by omega) (by omega)] at hu
    omega
  · rw [zn 4 (by omega) (by omega) (by omega)] at hu
    omega
  · rw [zn 7 (by omega) (by omega) (by omega)] at hu
    omega
theorem p_R0_VC : s_VC p_R0 := by
  have z : ∀ j, j ≠ 0 → j ≠ 1 → j ≠ 9 → p_R0 j = nI 0 := fun j h1 h2 h3 => p_R0_0 h1 h2 h3
  have z0 : p_R0 0 = nI 3 := rfl
  have z1 : p_R0 1 = nI 3 := rfl
  have z9 : p_R0 9 = nI 30 := rfl
  have nn : ∀ j h, j ≠ 0 → j ≠ 1 → j ≠ 9 → 0 < h → s_nn (p_R0 j) h := fun j h h1 h2 h3 h4 => by
    rw [z j h1 h2 h3]
    exact s_nnI (by omega) (by omega)
  refine ⟨⟨by rw [z0]; exact s_nnI (by omega) (by omega), by rw [z0, w_snI (by omega)]; omega, by rw [z1]; exact s_nnI (by omega) (by omega), by rw [z1, w_snI (by omega)]; omega⟩, nn 2 7 (by omega) (by omega) (by omega) (by omega), nn 3 5 (by omega) (by omega) (by omega) (by omega), nn 4 41 (by omega) (by omega) (by omega) (by omega), nn 7 81 (by omega) (by omega) (by omega) (by omega), nn 8 21 (by omega) (by omega) (by omega) (by omega), nn 5 1000 (by omega) (by omega) (by omega) (by omega), ⟨by rw [z9]; exact s_nnI (by omega) (by omega), by rw [z9, w_snI (by omega)]; omega⟩, ⟨nn 10 12 (by omega) (by omega) (by omega) (by omega), nn 11 12 (by omega) (by omega) (by omega) (by omega)⟩, fun c hc => Or.inl ?_⟩
  rw [z _ (by omega) (by omega) (by omega)]
  rfl
theorem y_open (hC : w_C S) (hL : L ≤ 600) : ∃ S', fX8_open w_N [.ref 134, .int (nI L)] S = some (.inl none, S') ∧ w_I (fun b => b = 134) S S' ∧ am_i S' 134 1 = nI L ∧ am_i S' 134 2 = nI 0 ∧ am_i S' 134 3 = nI 0 ∧ am_i S' 134 4 = nI 0 ∧ am_i S' 134 5 = nI 0 ∧ am_i S' 134 6 = nI 0 ∧ am_i S' 134 7 = -nI 1 := by
  have em : w_min (nI L) (nI 600) = nI L := by
    unfold w_min
    simp (disch := omega) only [fa_lit, nI_add, w_mul, nI_ltI, nI_leI, nI_eq, nI_clamp, nI_toInt, if_pos, if_neg, w_div, w_rem2]
  have p : ∀ (T : am_S) j v, w_I (fun b => b = 134) T (am_putI T 134 j v) := fun T j v => w_I.put (P := fun b => b = 134) rfl
  refine ⟨am_putI (am_putI (am_putI (am_putI (am_putI (am_putI (am_putI S 134 1 (nI L)) 134 2 (nI 0)) 134 3 (nI 0)) 134 4 (nI 0)) 134 5 (nI 0)) 134 6 (nI 0)) 134 7 (-nI 1), ?_, ((((((p _ _ _).tr (p _ _ _)).tr (p _ _ _)).tr (p _ _ _)).tr (p _ _ _)).tr (p _ _ _)).tr (p _ _ _), ?_, ?_, ?_, ?_, ?_, ?_, x_i_Is⟩
  · simp (maxSteps := 1000000) (disch := omega) only [fX8_open, kX8_open_18, kX8_open_0, x_cs0, x_csi, x_csr, x_csn, x_csl, x_ret_v, x_ret_t, x_ret_n, x_tl_s, x_tl_n, x_lk0, x_lk, x_rem0, x_rem_i, x_rem_r, x_rem_l, x_rem2_0, x_rem2_i, x_rem2_r, x_rem2_l, x_pick0, x_pick_c, x_st1, x_st2, x_live, x_i, x_l, x_a, x_ild, x_lld, x_rld, x_ist, x_lst, x_rst, x_inc, x_ii, x_ll, x_li, x_cmp, x_ui, x_il, x_lti, x_idiv, x_irem, x_dup_i, x_dup_r, x_pop_i, x_pop_r, x_dupx_ir, x_dup2_ir, x_ifeq, x_iceq, x_iflt, x_iclt, x_ifge, x_icge, x_ifgt, x_icgt, x_ifle, x_icle, x_ifne, x_icne, x_ifnull_r, x_ifnull_n, x_ifnonnull_r, x_ifnonnull_n, x_sw, x_vret, x_iret, x_lret, x_zret, x_zret0, x_zret1, x_rf_s, x_rf_n, x_geti, x_getr, x_puti, x_putz, x_putr, x_ial, x_ias, x_lal, x_las, x_aal, x_aas, x_aast, x_alen, x_new, x_newa, x_copy, x_min, x_abs, x_minl, x_oinit, x_throw, x_callS0, x_callS1, x_callS2, x_callS3, x_callS4, x_callV0, x_callV1, x_callV2, x_callV3, x_callV4, x_callV5, x_retI_v, x_callI0, x_callI1, x_callI2, x_retN_v, x_callSN1, x_callSN2, x_callT0, x_callT1, x_fn, x_sl0, x_sli, x_slr, x_sll, x_ar0, x_ari, x_arr, x_arl, ↓reduceIte, Nat.reduceAdd, Nat.reduceSub, Nat.reduceMul, Nat.reduceEqDiff, Nat.reduceLeDiff, Nat.reduceLT, if_true, if_false, Nat.le_refl, and_true, true_and, and_self, reduceCtorEq, or_false, false_or, or_true, true_or, Nat.zero_le, fa_lit, nI_add, w_mul, nI_ltI, nI_leI, nI_eq, nI_clamp, nI_toInt, if_pos, if_neg, w_div, w_rem2, yk100 hC, yk125 hC, yk126 hC, yk127 hC, yk128 hC, yk129 hC, yk130 hC, yk131 hC, yk132 hC, yk133 hC, yk134 hC, yk135 hC, yk136 hC, yk137 hC, yl126 hC, yl128 hC, yl130 hC, yl131 hC, yl133 hC, yl137 hC, yr100_0 hC, yr100_1 hC, yr100_2 hC, yr100_3 hC, yr100_4 hC, yr100_5 hC, yr100_6 hC, yr100_7 hC, yr100_8 hC, yr100_9 hC, yr100_10 hC, yr125_0 hC, yr127_0 hC, yr129_0 hC, yr129_1 hC, yr129_2 hC, yr132_0 hC, yr134_0 hC, yr135_0 hC, yr135_1 hC, yr136_0 hC, yr136_1 hC, x_k_I, x_r_I, em]
  · simp (disch := omega) only [x_i_I, if_pos, if_neg, if_true]
  · simp (disch := omega) only [x_i_I, if_pos, if_neg, if_true]
  · simp (disch := omega) only [x_i_I, if_pos, if_neg, if_true]
  · simp (disch := omega) only [x_i_I, if_pos, if_neg, if_true]
  · simp (disch := omega) only [x_i_I, if_pos, if_neg, if_true]
  · simp (disch := omega) only [x_i_I, if_pos, if_neg, if_true]
theorem y_readText (hC : w_C S) (hA : w_A S 113) (ht : w_tx S 133 L B) : ∃ S', fX0_readText w_N [.ref 135, .int (nI L)] S = some (.inl (some (.int (nI (p_all B L).1.1))), S') ∧ w_pc S S' L B (p_all B L) := by
  obtain ⟨S1, f1, I1, h1, h2, h3, h4, h5, h6, h7⟩ := y_open hC ht.1
  have hC1 := I1.C hC
  have hA1 := I1.Aa hA (fun b q1 q2 => by omega)
  obtain ⟨S2, g1, g2, g3⟩ := y_begin hA1
  have i134 : am_i S2 134 = am_i S1 134 := g3.1.i (by omega)
  have hC2 := g3.1.C hC1
  have H : w_pc S S2 L B p_s0 := ⟨⟨(I1.mono (fun b hb => Or.inl hb)).tr (g3.1.mono (fun b hb => Or.inr (by omega))), hC2, (ht.of I1 (by omega)).of g3.1 (by omega), by rw [i134]; exact h1⟩, ⟨⟨Nat.le_refl _, Nat.zero_le _, by show 0 < 4; omega, fun q => absurd rfl q, fun q => absurd (show (0 : Nat) = 2 from q) (by omega)⟩, by rw [i134]; exact h2, by rw [i134]; exact h3, by rw [i134]; exact h4, by rw [i134]; exact h5⟩, ⟨Nat.zero_le _, by rw [i134]; exact h6, by rw [i134]; exact h7⟩, g3.A hA1, g2, p_R0_VC⟩
  obtain ⟨S3, k1, k2⟩ := y_nextT H
  have hC3 := k2.1.2.1
  have gw := y_word (t := 2) k2 (by decide)
  suffices hs : ∃ S4, fX0_readText w_N [.ref 135, .int (nI L)] S = kX0_readText_42 w_N [(0, .ref 135)] [] S4 ∧ w_pc S S4 L B (p_start B L) by
    obtain ⟨S4, q1, q2⟩ := hs
    obtain ⟨S5, r1, r2⟩ := y_text42 q2
    exact ⟨S5, q1.trans r1, r2⟩
  unfold p_start
  have eo : ∀ S : am_S, kX0_readText_42 w_N [(0, .ref 135), (1, .int (nI L))] [] S = kX0_readText_42 w_N [(0, .ref 135)] [] S := fun _ => rfl
  have k113 := xk0 hA1
  generalize p_next B L p_s0 = s at *
  by_cases c : l_w B s.2.1 2
  · rw [if_pos c]
    rw [w_bt c] at gw
    refine ⟨S3, ?_, k2⟩
    simp (disch := omega) only [fX0_readText, kX0_readText_0, x_cs0, x_csi, x_csr, x_csn, x_csl, x_ret_v, x_ret_t, x_ret_n, x_tl_s, x_tl_n, x_lk0, x_lk, x_rem0, x_rem_i, x_rem_r, x_rem_l, x_rem2_0, x_rem2_i, x_rem2_r, x_rem2_l, x_pick0, x_pick_c, x_st1, x_st2, x_live, x_i, x_l, x_a, x_ild, x_lld, x_rld, x_ist, x_lst, x_rst, x_inc, x_ii, x_ll, x_li, x_cmp, x_ui, x_il, x_lti, x_idiv, x_irem, x_dup_i, x_dup_r, x_pop_i, x_pop_r, x_dupx_ir, x_dup2_ir, x_ifeq, x_iceq, x_iflt, x_iclt, x_ifge, x_icge, x_ifgt, x_icgt, x_ifle, x_icle, x_ifne, x_icne, x_ifnull_r, x_ifnull_n, x_ifnonnull_r, x_ifnonnull_n, x_sw, x_vret, x_iret, x_lret, x_zret, x_zret0, x_zret1, x_rf_s, x_rf_n, x_geti, x_getr, x_puti, x_putz, x_putr, x_ial, x_ias, x_lal, x_las, x_aal, x_aas, x_aast, x_alen, x_new, x_newa, x_copy, x_min, x_abs, x_minl, x_oinit, x_throw, x_callS0, x_callS1, x_callS2, x_callS3, x_callS4, x_callV0, x_callV1, x_callV2, x_callV3, x_callV4, x_callV5, x_retI_v, x_callI0, x_callI1, x_callI2, x_retN_v, x_callSN1, x_callSN2, x_callT0, x_callT1, x_fn, x_sl0, x_sli, x_slr, x_sll, x_ar0, x_ari, x_arr, x_arl, ↓reduceIte, Nat.reduceAdd, Nat.reduceSub, Nat.reduceMul, Nat.reduceEqDiff, Nat.reduceLeDiff, Nat.reduceLT, if_true, if_false, Nat.le_refl, and_true, true_and, and_self, reduceCtorEq, or_false, false_or, or_true, true_or, Nat.zero_le, fa_lit, nI_add, w_mul, nI_ltI, nI_leI, nI_eq, nI_clamp, nI_toInt, if_pos, if_neg, w_div, w_rem2, yk100 hC, yk125 hC, yk126 hC, yk127 hC, yk128 hC, yk129 hC, yk130 hC, yk131 hC, yk132 hC, yk133 hC, yk134 hC, yk135 hC, yk136 hC, yk137 hC, yl126 hC, yl128 hC, yl130 hC, yl131 hC, yl133 hC, yl137 hC, yr100_0 hC, yr100_1 hC, yr100_2 hC, yr100_3 hC, yr100_4 hC, yr100_5 hC, yr100_6 hC, yr100_7 hC, yr100_8 hC, yr100_9 hC, yr100_10 hC, yr125_0 hC, yr127_0 hC, yr129_0 hC, yr129_1 hC, yr129_2 hC, yr132_0 hC, yr134_0 hC, yr135_0 hC, yr135_1 hC, yr136_0 hC, yr136_1 hC, yk100 hC1, yk125 hC1, yk126 hC1, yk127 hC1, yk128 hC1, yk129 hC1, yk130 hC1, yk131 hC1, yk132 hC1, yk133 hC1, yk134 hC1, yk135 hC1, yk136 hC1, yk137 hC1, yl126 hC1, yl128 hC1, yl130 hC1, yl131 hC1, yl133 hC1, yl137 hC1, yr100_0 hC1, yr100_1 hC1, yr100_2 hC1, yr100_3 hC1, yr100_4 hC1, yr100_5 hC1, yr100_6 hC1, yr100_7 hC1, yr100_8 hC1, yr100_9 hC1, yr100_10 hC1, yr125_0 hC1, yr127_0 hC1, yr129_0 hC1, yr129_1 hC1, yr129_2 hC1, yr132_0 hC1, yr134_0 hC1, yr135_0 hC1, yr135_1 hC1, yr136_0 hC1, yr136_1 hC1, yk100 hC2, yk125 hC2, yk126 hC2, yk127 hC2, yk128 hC2, yk129 hC2, yk130 hC2, yk131 hC2, yk132 hC2, yk133 hC2, yk134 hC2, yk135 hC2, yk136 hC2, yk137 hC2, yl126 hC2, yl128 hC2, yl130 hC2, yl131 hC2, yl133 hC2, yl137 hC2, yr100_0 hC2, yr100_1 hC2, yr100_2 hC2, yr100_3 hC2, yr100_4 hC2, yr100_5 hC2, yr100_6 hC2, yr100_7 hC2, yr100_8 hC2, yr100_9 hC2, yr100_10 hC2, yr125_0 hC2, yr127_0 hC2, yr129_0 hC2, yr129_1 hC2, yr129_2 hC2, yr132_0 hC2, yr134_0 hC2, yr135_0 hC2, yr135_1 hC2, yr136_0 hC2, yr136_1 hC2, yk100 hC3, yk125 hC3, yk126 hC3, yk127 hC3, yk128 hC3, yk129 hC3, yk130 hC3, yk131 hC3, yk132 hC3, yk133 hC3, yk134 hC3, yk135 hC3, yk136 hC3, yk137 hC3, yl126 hC3, yl128 hC3, yl130 hC3, yl131 hC3, yl133 hC3, yl137 hC3, yr100_0 hC3, yr100_1 hC3, yr100_2 hC3, yr100_3 hC3, yr100_4 hC3, yr100_5 hC3, yr100_6 hC3, yr100_7 hC3, yr100_8 hC3, yr100_9 hC3, yr100_10 hC3, yr125_0 hC3, yr127_0 hC3, yr129_0 hC3, yr129_1 hC3, yr129_2 hC3, yr132_0 hC3, yr134_0 hC3, yr135_0 hC3, yr135_1 hC3, yr136_0 hC3, yr136_1 hC3, f1, g1, k1, gw, k113, eo]
  · rw [if_neg c]
    rw [w_bf c] at gw
    obtain ⟨S4, q1, q2⟩ := y_fail (c := 1) k2 (by omega) (by omega)
    refine ⟨S4, ?_, q2⟩
    simp (disch := omega) only [fX0_readText, kX0_readText_0, x_cs0, x_csi, x_csr, x_csn, x_csl, x_ret_v, x_ret_t, x_ret_n, x_tl_s, x_tl_n, x_lk0, x_lk, x_rem0, x_rem_i, x_rem_r, x_rem_l, x_rem2_0, x_rem2_i, x_rem2_r, x_rem2_l, x_pick0, x_pick_c, x_st1, x_st2, x_live, x_i, x_l, x_a, x_ild, x_lld, x_rld, x_ist, x_lst, x_rst, x_inc, x_ii, x_ll, x_li, x_cmp, x_ui, x_il, x_lti, x_idiv, x_irem, x_dup_i, x_dup_r, x_pop_i, x_pop_r, x_dupx_ir, x_dup2_ir, x_ifeq, x_iceq, x_iflt, x_iclt, x_ifge, x_icge, x_ifgt, x_icgt, x_ifle, x_icle, x_ifne, x_icne, x_ifnull_r, x_ifnull_n, x_ifnonnull_r, x_ifnonnull_n, x_sw, x_vret, x_iret, x_lret, x_zret, x_zret0, x_zret1, x_rf_s, x_rf_n, x_geti, x_getr, x_puti, x_putz, x_putr, x_ial, x_ias, x_lal, x_las, x_aal, x_aas, x_aast, x_alen, x_new, x_newa, x_copy, x_min, x_abs, x_minl, x_oinit, x_throw, x_callS0, x_callS1, x_callS2, x_callS3, x_callS4, x_callV0, x_callV1, x_callV2, x_callV3, x_callV4, x_callV5, x_retI_v, x_callI0, x_callI1, x_callI2, x_retN_v, x_callSN1, x_callSN2, x_callT0, x_callT1, x_fn, x_sl0, x_sli, x_slr, x_sll, x_ar0, x_ari, x_arr, x_arl, ↓reduceIte, Nat.reduceAdd, Nat.reduceSub, Nat.reduceMul, Nat.reduceEqDiff, Nat.reduceLeDiff, Nat.reduceLT, if_true, if_false, Nat.le_refl, and_true, true_and, and_self, reduceCtorEq, or_false, false_or, or_true, true_or, Nat.zero_le, fa_lit, nI_add, w_mul, nI_ltI, nI_leI, nI_eq, nI_clamp, nI_toInt, if_pos, if_neg, w_div, w_rem2, yk100 hC, yk125 hC, yk126 hC, yk127 hC, yk128 hC, yk129 hC, yk130 hC, yk131 hC, yk132 hC, yk133 hC, yk134 hC, yk135 hC, yk136 hC, yk137 hC, yl126 hC, yl128 hC, yl130 hC, yl131 hC, yl133 hC, yl137 hC, yr100_0 hC, yr100_1 hC, yr100_2 hC, yr100_3 hC, yr100_4 hC, yr100_5 hC, yr100_6 hC, yr100_7 hC, yr100_8 hC, yr100_9 hC, yr100_10 hC, yr125_0 hC, yr127_0 hC, yr129_0 hC, yr129_1 hC, yr129_2 hC, yr132_0 hC, yr134_0 hC, yr135_0 hC, yr135_1 hC, yr136_0 hC, yr136_1 hC, yk100 hC1, yk125 hC1, yk126 hC1, yk127 hC1, yk128 hC1, yk129 hC1, yk130 hC1, yk131 hC1, yk132 hC1, yk133 hC1, yk134 hC1, yk135 hC1, yk136 hC1, yk137 hC1, yl126 hC1, yl128 hC1, yl130 hC1, yl131 hC1, yl133 hC1, yl137 hC1, yr100_0 hC1, yr100_1 hC1, yr100_2 hC1, yr100_3 hC1, yr100_4 hC1, yr100_5 hC1, yr100_6 hC1, yr100_7 hC1, yr100_8 hC1, yr100_9 hC1, yr100_10 hC1, yr125_0 hC1, yr127_0 hC1, yr129_0 hC1, yr129_1 hC1, yr129_2 hC1, yr132_0 hC1, yr134_0 hC1, yr135_0 hC1, yr135_1 hC1, yr136_0 hC1, yr136_1 hC1, yk100 hC2, yk125 hC2, yk126 hC2, yk127 hC2, yk128 hC2, yk129 hC2, yk130 hC2, yk131 hC2, yk132 hC2, yk133 hC2, yk134 hC2, yk135 hC2, yk136 hC2, yk137 hC2, yl126 hC2, yl128 hC2, yl130 hC2, yl131 hC2, yl133 hC2, yl137 hC2, yr100_0 hC2, yr100_1 hC2, yr100_2 hC2, yr100_3 hC2, yr100_4 hC2, yr100_5 hC2, yr100_6 hC2, yr100_7 hC2, yr100_8 hC2, yr100_9 hC2, yr100_10 hC2, yr125_0 hC2, yr127_0 hC2, yr129_0 hC2, yr129_1 hC2, yr129_2 hC2, yr132_0 hC2, yr134_0 hC2, yr135_0 hC2, yr135_1 hC2, yr136_0 hC2, yr136_1 hC2, yk100 hC3, yk125 hC3, yk126 hC3, yk127 hC3, yk128 hC3, yk129 hC3, yk130 hC3, yk131 hC3, yk132 hC3, yk133 hC3, yk134 hC3, yk135 hC3, yk136 hC3, yk137 hC3, yl126 hC3, yl128 hC3, yl130 hC3, yl131 hC3, yl133 hC3, yl137 hC3, yr100_0 hC3, yr100_1 hC3, yr100_2 hC3, yr100_3 hC3, yr100_4 hC3, yr100_5 hC3, yr100_6 hC3, yr100_7 hC3, yr100_8 hC3, yr100_9 hC3, yr100_10 hC3, yr125_0 hC3, yr127_0 hC3, yr129_0 hC3, yr129_1 hC3, yr129_2 hC3, yr132_0 hC3, yr134_0 hC3, yr135_0 hC3, yr135_1 hC3, yr136_0 hC3, yr136_1 hC3, f1, g1, k1, gw, q1, k113, eo]
end L23
