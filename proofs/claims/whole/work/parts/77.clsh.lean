/-! THE CLASS: march, its end -/
section Y16
variable {S S' S2 : am_S} {x y z v : Int32} {i j o u n w hh c d b m t p np ne no a L f k D E hd j0 m0 cl : Nat} {R R' F : Nat → Int32} {q : s_Q} {r r4 : am_K} {lv : List (Nat × Value)}
theorem y_mE (h1 : am_lk lv 1 = some (.ref a)) (h3 : am_lk lv 3 = some (.int (nI o))) (h5 : am_lk lv 5 = some (.int (nI t))) (h6 : am_lk lv 6 = some (.int (nI c))) (hc : c < 144) (ht : t < 144) (hQ : w_Q S a R) (ha : a = 101 ∨ a = 113) (ho : o < s_n (R 4)) (hs : R (64 + 10 * o + 3) = nI 1) :
    ∃ S', kX1_march_138 w_N lv [] S = some (.inl none, S') ∧ w_Q S' a (if c = t then s_become R o (nI 2) else R) ∧ w_O a S S' := by
  have hV := hQ.2.2.1.2
  by_cases e : c = t
  · subst e
    rw [if_pos rfl]
    obtain ⟨S', f1, f2, f3⟩ := y_changeOrder (x := nI 2) hQ.2.1.2 hQ.2.2.1.1 hV ho (Or.inr hs)
    have V := hV.fin (k := 2) ho (s_wg_c (Or.inr hs)) (by omega) (by omega)
    have b4 := hV.B.2.2.2.1.2
    have wl : s_wl R (s_become R o (nI 2)) := (s_K.bec (hV.room ho (s_wg_c (Or.inr hs))) (by omega)).wl
    have k6 := xk0 hQ.2.1.2
    refine ⟨S', ?_, hQ.J ha f3 f2 V wl, f3.O⟩
    simp (disch := omega) only [kX1_march_138, kX1_march_151, x_cs0, x_csi, x_csr, x_csn, x_csl, x_ret_v, x_ret_t, x_ret_n, x_tl_s, x_tl_n, x_lk0, x_lk, x_rem0, x_rem_i, x_rem_r, x_rem_l, x_rem2_0, x_rem2_i, x_rem2_r, x_rem2_l, x_pick0, x_pick_c, x_st1, x_st2, x_live, x_i, x_l, x_a, x_ild, x_lld, x_rld, x_ist, x_lst, x_rst, x_inc, x_ii, x_ll, x_li, x_cmp, x_ui, x_il, x_lti, x_idiv, x_irem, x_dup_i, x_dup_r, x_pop_i, x_pop_r, x_dupx_ir, x_dup2_ir, x_ifeq, x_iceq, x_iflt, x_iclt, x_ifge, x_icge, x_ifgt, x_icgt, x_ifle, x_icle, x_ifne, x_icne, x_ifnull_r, x_ifnull_n, x_ifnonnull_r, x_ifnonnull_n, x_sw, x_vret, x_iret, x_lret, x_zret, x_zret0, x_zret1, x_rf_s, x_rf_n, x_geti, x_getr, x_puti, x_putz, x_putr, x_ial, x_ias, x_lal, x_las, x_aal, x_aas, x_aast, x_alen, x_new, x_newa, x_copy, x_min, x_abs, x_minl, x_oinit, x_throw, x_callS0, x_callS1, x_callS2, x_callS3, x_callS4, x_callV0, x_callV1, x_callV2, x_callV3, x_callV4, x_callV5, x_retI_v, x_callI0, x_callI1, x_callI2, x_retN_v, x_callSN1, x_callSN2, x_callT0, x_callT1, x_fn, x_sl0, x_sli, x_slr, x_sll, x_ar0, x_ari, x_arr, x_arl, ↓reduceIte, Nat.reduceAdd, Nat.reduceSub, Nat.reduceMul, Nat.reduceEqDiff, Nat.reduceLeDiff, Nat.reduceLT, if_true, if_false, Nat.le_refl, and_true, true_and, and_self, reduceCtorEq, or_false, false_or, or_true, true_or, Nat.zero_le, fa_lit, nI_add, w_mul, nI_ltI, nI_leI, nI_eq, nI_clamp, nI_toInt, if_pos, if_neg, w_div, w_rem2, h1, h3, h5, h6, k6, f1]
  · rw [if_neg e]
    refine ⟨S, ?_, hQ, w_O.rf⟩
    simp (disch := omega) only [kX1_march_138, kX1_march_151, x_cs0, x_csi, x_csr, x_csn, x_csl, x_ret_v, x_ret_t, x_ret_n, x_tl_s, x_tl_n, x_lk0, x_lk, x_rem0, x_rem_i, x_rem_r, x_rem_l, x_rem2_0, x_rem2_i, x_rem2_r, x_rem2_l, x_pick0, x_pick_c, x_st1, x_st2, x_live, x_i, x_l, x_a, x_ild, x_lld, x_rld, x_ist, x_lst, x_rst, x_inc, x_ii, x_ll, x_li, x_cmp, x_ui, x_il, x_lti, x_idiv, x_irem, x_dup_i, x_dup_r, x_pop_i, x_pop_r, x_dupx_ir, x_dup2_ir, x_ifeq, x_iceq, x_iflt, x_iclt, x_ifge, x_icge, x_ifgt, x_icgt, x_ifle, x_icle, x_ifne, x_icne, x_ifnull_r, x_ifnull_n, x_ifnonnull_r, x_ifnonnull_n, x_sw, x_vret, x_iret, x_lret, x_zret, x_zret0, x_zret1, x_rf_s, x_rf_n, x_geti, x_getr, x_puti, x_putz, x_putr, x_ial, x_ias, x_lal, x_las, x_aal, x_aas, x_aast, x_alen, x_new, x_newa, x_copy, x_min, x_abs, x_minl, x_oinit, x_throw, x_callS0, x_callS1, x_callS2, x_callS3, x_callS4, x_callV0, x_callV1, x_callV2, x_callV3, x_callV4, x_callV5, x_retI_v, x_callI0, x_callI1, x_callI2, x_retN_v, x_callSN1, x_callSN2, x_callT0, x_callT1, x_fn, x_sl0, x_sli, x_slr, x_sll, x_ar0, x_ari, x_arr, x_arl, ↓reduceIte, Nat.reduceAdd, Nat.reduceSub, Nat.reduceMul, Nat.reduceEqDiff, Nat.reduceLeDiff, Nat.reduceLT, if_true, if_false, Nat.le_refl, and_true, true_and, and_self, reduceCtorEq, or_false, false_or, or_true, true_or, Nat.zero_le, fa_lit, nI_add, w_mul, nI_ltI, nI_leI, nI_eq, nI_clamp, nI_toInt, if_pos, if_neg, w_div, w_rem2, h1, h3, h5, h6]
abbrev lvM (a u o t c k : Nat) : List (Nat × Value) := [(7, .int (nI k)), (6, .int (nI c)), (5, .int (nI t)), (4, .ref (a + 2)), (3, .int (nI o)), (0, .ref 132), (1, .ref a), (2, .int (nI u))]
/-- march up to the choice -/
theorem y_mS (hQ : w_Q S a R) (ha : a = 101 ∨ a = 113) (hu : u < s_n (R 2)) (hp : p < s_n (R 4)) (hob : s_ob R (nI u) = nI p) (hc : s_ce (R (12 + 4 * u + 0)) (R (12 + 4 * u + 1)) = c) (ht : s_ce (R (64 + 10 * p + 1)) (R (64 + 10 * p + 2)) = t) (hk : s_n (R (12 + 4 * u + 2)) = k) (hn : s_n (R 5) = n) :
    (c = t ∨ n % k ≠ 0) ∧ fX1_march w_N [.ref 132, .ref a, .int (nI u)] S = kX1_march_138 w_N (lvM a u p t c k) [] S ∨
    (c ≠ t ∧ n % k = 0) ∧ ∀ S1, fX4_nextCell w_N [.ref 129, .int (nI c), .int (nI t)] S = some (.inl (some (.int (-nI 1))), S1) → fX1_march w_N [.ref 132, .ref a, .int (nI u)] S = kX1_march_138 w_N ((8, .int (-nI 1)) :: lvM a u p t c k) [] S1 := by
  have hV := hQ.2.2.1.2
  have hA := hQ.2.1.2
  have h := hQ.2.2.1.1
  have hC := hQ.1.1
  have a4 := hV.B.2.2.2.1.2
  have a2 := hV.B.2.1.2
  have a5 := hV.B.2.2.2.2.2.2.1
  have a52 := a5.2
  have hU := hV.U u hu
  have gob := y_obeyedBy hA h hV hu
  rw [hob] at gob
  have hp1 := nI_nm1 (n := p) (by omega)
  have hg := (hV.O p hp).1.2.1
  have hn1 := hU.1.1
  have pc := hU.2.1
  have g1 := y_O hA h hV.B hp (f := 1) (by omega)
  have g2 := y_O hA h hV.B hp (f := 2) (by omega)
  have u0 := y_U hA h hV.B hu (f := 0) (by omega)
  have u1 := y_U hA h hV.B hu (f := 1) (by omega)
  have u2 := y_U hA h hV.B hu (f := 2) (by omega)
  have c3 := (hn1.ok hV.B).2.2.2
  have t3 := (hg.ok hV.B).2.2.2
  rw [hg.1.1] at g1
  rw [hg.2.1] at g2
  rw [hn1.1.1] at u0
  rw [hn1.2.1] at u1
  rw [pc.1.1] at u2
  have i5 := h.1.2.2.2.2.1.trans a5.1
  have k1 := pc.1.2
  have k2 := pc.2
  have k0 : s_n (R (12 + 4 * u + 2)) < 2 ^ 31 := by omega
  have ec : 12 * s_n (R (12 + 4 * u + 1)) + s_n (R (12 + 4 * u + 0)) = c := hc
  have et : 12 * s_n (R (64 + 10 * p + 2)) + s_n (R (64 + 10 * p + 1)) = t := ht
  rw [hc] at c3
  rw [ht] at t3
  rw [hk] at u2 k1 k2
  rw [hn] at i5 a52
  have hm := Nat.mod_le n k
  have kne : ¬ k = 0 := by omega
  by_cases e : c = t
  · refine Or.inl ⟨Or.inl e, ?_⟩
    subst e
    simp (disch := omega) only [fX1_march, kX1_march_0, lvM, x_cs0, x_csi, x_csr, x_csn, x_csl, x_ret_v, x_ret_t, x_ret_n, x_tl_s, x_tl_n, x_lk0, x_lk, x_rem0, x_rem_i, x_rem_r, x_rem_l, x_rem2_0, x_rem2_i, x_rem2_r, x_rem2_l, x_pick0, x_pick_c, x_st1, x_st2, x_live, x_i, x_l, x_a, x_ild, x_lld, x_rld, x_ist, x_lst, x_rst, x_inc, x_ii, x_ll, x_li, x_cmp, x_ui, x_il, x_lti, x_idiv, x_irem, x_dup_i, x_dup_r, x_pop_i, x_pop_r, x_dupx_ir, x_dup2_ir, x_ifeq, x_iceq, x_iflt, x_iclt, x_ifge, x_icge, x_ifgt, x_icgt, x_ifle, x_icle, x_ifne, x_icne, x_ifnull_r, x_ifnull_n, x_ifnonnull_r, x_ifnonnull_n, x_sw, x_vret, x_iret, x_lret, x_zret, x_zret0, x_zret1, x_rf_s, x_rf_n, x_geti, x_getr, x_puti, x_putz, x_putr, x_ial, x_ias, x_lal, x_las, x_aal, x_aas, x_aast, x_alen, x_new, x_newa, x_copy, x_min, x_abs, x_minl, x_oinit, x_throw, x_callS0, x_callS1, x_callS2, x_callS3, x_callS4, x_callV0, x_callV1, x_callV2, x_callV3, x_callV4, x_callV5, x_retI_v, x_callI0, x_callI1, x_callI2, x_retN_v, x_callSN1, x_callSN2, x_callT0, x_callT1, x_fn, x_sl0, x_sli, x_slr, x_sll, x_ar0, x_ari, x_arr, x_arl, ↓reduceIte, Nat.reduceAdd, Nat.reduceSub, Nat.reduceMul, Nat.reduceEqDiff, Nat.reduceLeDiff, Nat.reduceLT, if_true, if_false, Nat.le_refl, and_true, true_and, and_self, reduceCtorEq, or_false, false_or, or_true, true_or, Nat.zero_le, fa_lit, nI_add, w_mul, nI_ltI, nI_leI, nI_eq, nI_clamp, nI_toInt, if_pos, if_neg, w_div, w_rem2, xk0 hA, xk1 hA, xl1 hA, xk2 hA, xk3 hA, xl3 hA, xr2_2 hA, xi2_0 hA, xi2_1 hA, xk4 hA, xk5 hA, xl5 hA, xr4_2 hA, xi4_0 hA, xi4_1 hA, xk6 hA, xk7 hA, xl7 hA, xr6_2 hA, xi6_0 hA, xi6_1 hA, xk8 hA, xk9 hA, xl9 hA, xr8_2 hA, xi8_0 hA, xi8_1 hA, xk10 hA, xk11 hA, xl11 hA, xr10_2 hA, xi10_0 hA, xi10_1 hA, xr0_7 hA, xr0_8 hA, xr0_9 hA, xr0_10 hA, xr0_11 hA, xr0_12 hA, gob, hp1, g1, g2, u0, u1, u2, y_cellAt, ec, et]
  · by_cases c2 : n % k = 0
    · refine Or.inr ⟨⟨e, c2⟩, fun S1 f1 => ?_⟩
      simp (disch := omega) only [fX1_march, kX1_march_0, lvM, x_cs0, x_csi, x_csr, x_csn, x_csl, x_ret_v, x_ret_t, x_ret_n, x_tl_s, x_tl_n, x_lk0, x_lk, x_rem0, x_rem_i, x_rem_r, x_rem_l, x_rem2_0, x_rem2_i, x_rem2_r, x_rem2_l, x_pick0, x_pick_c, x_st1, x_st2, x_live, x_i, x_l, x_a, x_ild, x_lld, x_rld, x_ist, x_lst, x_rst, x_inc, x_ii, x_ll, x_li, x_cmp, x_ui, x_il, x_lti, x_idiv, x_irem, x_dup_i, x_dup_r, x_pop_i, x_pop_r, x_dupx_ir, x_dup2_ir, x_ifeq, x_iceq, x_iflt, x_iclt, x_ifge, x_icge, x_ifgt, x_icgt, x_ifle, x_icle, x_ifne, x_icne, x_ifnull_r, x_ifnull_n, x_ifnonnull_r, x_ifnonnull_n, x_sw, x_vret, x_iret, x_lret, x_zret, x_zret0, x_zret1, x_rf_s, x_rf_n, x_geti, x_getr, x_puti, x_putz, x_putr, x_ial, x_ias, x_lal, x_las, x_aal, x_aas, x_aast, x_alen, x_new, x_newa, x_copy, x_min, x_abs, x_minl, x_oinit, x_throw, x_callS0, x_callS1, x_callS2, x_callS3, x_callS4, x_callV0, x_callV1, x_callV2, x_callV3, x_callV4, x_callV5, x_retI_v, x_callI0, x_callI1, x_callI2, x_retN_v, x_callSN1, x_callSN2, x_callT0, x_callT1, x_fn, x_sl0, x_sli, x_slr, x_sll, x_ar0, x_ari, x_arr, x_arl, ↓reduceIte, Nat.reduceAdd, Nat.reduceSub, Nat.reduceMul, Nat.reduceEqDiff, Nat.reduceLeDiff, Nat.reduceLT, if_true, if_false, Nat.le_refl, and_true, true_and, and_self, reduceCtorEq, or_false, false_or, or_true, true_or, Nat.zero_le, fa_lit, nI_add, w_mul, nI_ltI, nI_leI, nI_eq, nI_clamp, nI_toInt, if_pos, if_neg, w_div, w_rem2, xk0 hA, xk1 hA, xl1 hA, xk2 hA, xk3 hA, xl3 hA, xr2_2 hA, xi2_0 hA, xi2_1 hA, xk4 hA, xk5 hA, xl5 hA, xr4_2 hA, xi4_0 hA, xi4_1 hA, xk6 hA, xk7 hA, xl7 hA, xr6_2 hA, xi6_0 hA, xi6_1 hA, xk8 hA, xk9 hA, xl9 hA, xr8_2 hA, xi8_0 hA, xi8_1 hA, xk10 hA, xk11 hA, xl11 hA, xr10_2 hA, xi10_0 hA, xi10_1 hA, xr0_7 hA, xr0_8 hA, xr0_9 hA, xr0_10 hA, xr0_11 hA, xr0_12 hA, yk100 hC, yk125 hC, yk126 hC, yk127 hC, yk128 hC, yk129 hC, yk130 hC, yk131 hC, yk132 hC, yk133 hC, yk134 hC, yk135 hC, yk136 hC, yk137 hC, yl126 hC, yl128 hC, yl130 hC, yl131 hC, yl133 hC, yl137 hC, yr100_0 hC, yr100_1 hC, yr100_2 hC, yr100_3 hC, yr100_4 hC, yr100_5 hC, yr100_6 hC, yr100_7 hC, yr100_8 hC, yr100_9 hC, yr100_10 hC, yr125_0 hC, yr127_0 hC, yr129_0 hC, yr129_1 hC, yr129_2 hC, yr132_0 hC, yr134_0 hC, yr135_0 hC, yr135_1 hC, yr136_0 hC, yr136_1 hC, gob, hp1, g1, g2, u0, u1, u2, y_cellAt, ec, et, i5, c2, f1]
    · refine Or.inl ⟨Or.inr c2, ?_⟩
      simp (disch := omega) only [fX1_march, kX1_march_0, lvM, x_cs0, x_csi, x_csr, x_csn, x_csl, x_ret_v, x_ret_t, x_ret_n, x_tl_s, x_tl_n, x_lk0, x_lk, x_rem0, x_rem_i, x_rem_r, x_rem_l, x_rem2_0, x_rem2_i, x_rem2_r, x_rem2_l, x_pick0, x_pick_c, x_st1, x_st2, x_live, x_i, x_l, x_a, x_ild, x_lld, x_rld, x_ist, x_lst, x_rst, x_inc, x_ii, x_ll, x_li, x_cmp, x_ui, x_il, x_lti, x_idiv, x_irem, x_dup_i, x_dup_r, x_pop_i, x_pop_r, x_dupx_ir, x_dup2_ir, x_ifeq, x_iceq, x_iflt, x_iclt, x_ifge, x_icge, x_ifgt, x_icgt, x_ifle, x_icle, x_ifne, x_icne, x_ifnull_r, x_ifnull_n, x_ifnonnull_r, x_ifnonnull_n, x_sw, x_vret, x_iret, x_lret, x_zret, x_zret0, x_zret1, x_rf_s, x_rf_n, x_geti, x_getr, x_puti, x_putz, x_putr, x_ial, x_ias, x_lal, x_las, x_aal, x_aas, x_aast, x_alen, x_new, x_newa, x_copy, x_min, x_abs, x_minl, x_oinit, x_throw, x_callS0, x_callS1, x_callS2, x_callS3, x_callS4, x_callV0, x_callV1, x_callV2, x_callV3, x_callV4, x_callV5, x_retI_v, x_callI0, x_callI1, x_callI2, x_retN_v, x_callSN1, x_callSN2, x_callT0, x_callT1, x_fn, x_sl0, x_sli, x_slr, x_sll, x_ar0, x_ari, x_arr, x_arl, ↓reduceIte, Nat.reduceAdd, Nat.reduceSub, Nat.reduceMul, Nat.reduceEqDiff, Nat.reduceLeDiff, Nat.reduceLT, if_true, if_false, Nat.le_refl, and_true, true_and, and_self, reduceCtorEq, or_false, false_or, or_true, true_or, Nat.zero_le, fa_lit, nI_add, w_mul, nI_ltI, nI_leI, nI_eq, nI_clamp, nI_toInt, if_pos, if_neg, w_div, w_rem2, xk0 hA, xk1 hA, xl1 hA, xk2 hA, xk3 hA, xl3 hA, xr2_2 hA, xi2_0 hA, xi2_1 hA, xk4 hA, xk5 hA, xl5 hA, xr4_2 hA, xi4_0 hA, xi4_1 hA, xk6 hA, xk7 hA, xl7 hA, xr6_2 hA, xi6_0 hA, xi6_1 hA, xk8 hA, xk9 hA, xl9 hA, xr8_2 hA, xi8_0 hA, xi8_1 hA, xk10 hA, xk11 hA, xl11 hA, xr10_2 hA, xi10_0 hA, xi10_1 hA, xr0_7 hA, xr0_8 hA, xr0_9 hA, xr0_10 hA, xr0_11 hA, xr0_12 hA, gob, hp1, g1, g2, u0, u1, u2, y_cellAt, ec, et, i5]
theorem y_mP (hQ : w_Q S a R) (ha : a = 101 ∨ a = 113) (hu : u < s_n (R 2)) (hb : s_fr R b) : w_Q (am_putI (am_putI S (a + 3) (u * 4 + 0) (nI (b % 12))) (a + 3) (u * 4 + 1) (nI (b / 12))) a (va_up (va_up R (12 + 4 * u + 0) (nI (b % 12))) (12 + 4 * u + 1) (nI (b / 12))) ∧ w_O a S (am_putI (am_putI S (a + 3) (u * 4 + 0) (nI (b % 12))) (a + 3) (u * 4 + 1) (nI (b / 12))) ∧
    fX7_put w_N [.ref (a + 2), .int (nI u), .int (nI 0), .int (nI (b % 12))] S = some (.inl none, am_putI S (a + 3) (u * 4 + 0) (nI (b % 12))) ∧ fX7_put w_N [.ref (a + 2), .int (nI u), .int (nI 1), .int (nI (b / 12))] (am_putI S (a + 3) (u * 4 + 0) (nI (b % 12))) = some (.inl none, am_putI (am_putI S (a + 3) (u * 4 + 0) (nI (b % 12))) (a + 3) (u * 4 + 1) (nI (b / 12))) := by
  have hV := hQ.2.2.1.2
  have hA := hQ.2.1.2
  have h := hQ.2.2.1.1
  have a2 := hV.B.2.1.2
  have tb := h.tU hA hV.B
  have tb2 := tb.put (j := u * 4 + 0) (v := nI (b % 12)) (by omega)
  have cg : s_VB (va_up R (12 + 4 * u + 0) (nI (b % 12))) := hV.B.congs (by rw [s_up_n (by omega)]; exact hV.B.2.2.2.2.1) (fun i _ hi => s_up_n (by omega))
  have h1 := h.putU (v := nI (b % 12)) hV.B hu (f := 0) (by omega)
  have h2 := h1.putU (v := nI (b / 12)) cg (o := u) (f := 1) (by rw [s_up_n (by omega)]; exact hu) (by omega)
  have J : w_J a S (am_putI (am_putI S (a + 3) (u * 4 + 0) (nI (b % 12))) (a + 3) (u * 4 + 1) (nI (b / 12))) := (w_J.put (by omega) (by intro q _ _ _; omega)).tr (w_J.put (by omega) (by intro q _ _ _; omega))
  have V := hV.walk hu hb
  exact ⟨hQ.J ha J h2 V (fun j hj => by rw [s_up_n (by omega), s_up_n (by omega)]), J.O, y_put tb hu (by omega), y_put tb2 hu (by omega)⟩
theorem y_mT (hQ : w_Q S a R) (ha : a = 101 ∨ a = 113) (hu : u < s_n (R 2)) (hp : p < s_n (R 4)) (hob : s_ob R (nI u) = nI p) (hc : s_ce (R (12 + 4 * u + 0)) (R (12 + 4 * u + 1)) = c) (ht : s_ce (R (64 + 10 * p + 1)) (R (64 + 10 * p + 2)) = t) (hk : s_n (R (12 + 4 * u + 2)) = k) (hn : s_n (R 5) = n) (hct : c ≠ t) (hnk : n % k = 0) (hb : b < 144) {S1 : am_S} (f1 : fX4_nextCell w_N [.ref 129, .int (nI c), .int (nI t)] S = some (.inl (some (.int (nI b))), S1))
    (k7 : am_k S1 (a + 2) = 7)
    (p1 : fX7_put w_N [.ref (a + 2), .int (nI u), .int (nI 0), .int (nI (b % 12))] S1 = some (.inl none, am_putI S1 (a + 3) (u * 4 + 0) (nI (b % 12)))) (p2 : fX7_put w_N [.ref (a + 2), .int (nI u), .int (nI 1), .int (nI (b / 12))] (am_putI S1 (a + 3) (u * 4 + 0) (nI (b % 12))) = some (.inl none, S2)) :
    fX1_march w_N [.ref 132, .ref a, .int (nI u)] S = kX1_march_138 w_N [(6, .int (nI b)), (8, .int (nI b)), (7, .int (nI k)), (5, .int (nI t)), (4, .ref (a + 2)), (3, .int (nI p)), (0, .ref 132), (1, .ref a), (2, .int (nI u))] [] S2 := by
  have hV := hQ.2.2.1.2
  have hA := hQ.2.1.2
  have h := hQ.2.2.1.1
  have hC := hQ.1.1
  have a4 := hV.B.2.2.2.1.2
  have a2 := hV.B.2.1.2
  have a5 := hV.B.2.2.2.2.2.2.1
  have a52 := a5.2
  have hU := hV.U u hu
  have gob := y_obeyedBy hA h hV hu
  rw [hob] at gob
  have hp1 := nI_nm1 (n := p) (by omega)
  have hb1 := nI_nm1 (n := b) (by omega)
  have hg := (hV.O p hp).1.2.1
  have hn1 := hU.1.1
  have pc := hU.2.1
  have g1 := y_O hA h hV.B hp (f := 1) (by omega)
  have g2 := y_O hA h hV.B hp (f := 2) (by omega)
  have u0 := y_U hA h hV.B hu (f := 0) (by omega)
  have u1 := y_U hA h hV.B hu (f := 1) (by omega)
  have u2 := y_U hA h hV.B hu (f := 2) (by omega)
  have c3 := (hn1.ok hV.B).2.2.2
  have t3 := (hg.ok hV.B).2.2.2
  rw [hg.1.1] at g1
  rw [hg.2.1] at g2
  rw [hn1.1.1] at u0
  rw [hn1.2.1] at u1
  rw [pc.1.1] at u2
  have i5 := h.1.2.2.2.2.1.trans a5.1
  have k1 := pc.1.2
  have k2 := pc.2
  have ec : 12 * s_n (R (12 + 4 * u + 1)) + s_n (R (12 + 4 * u + 0)) = c := hc
  have et : 12 * s_n (R (64 + 10 * p + 2)) + s_n (R (64 + 10 * p + 1)) = t := ht
  rw [hc] at c3
  rw [ht] at t3
  rw [hk] at u2 k1 k2
  rw [hn] at i5 a52
  have hm := Nat.mod_le n k
  have kne : ¬ k = 0 := by omega
  have xo : ∀ T, fX10_xOf w_N [.int (nI b)] T = some (.inl (some (.int (nI (b % 12)))), T) := fun T => y_xOf (by omega)
  have yo : ∀ T, fX10_yOf w_N [.int (nI b)] T = some (.inl (some (.int (nI (b / 12)))), T) := fun T => y_yOf (by omega)
  simp (disch := omega) only [fX1_march, kX1_march_0, x_cs0, x_csi, x_csr, x_csn, x_csl, x_ret_v, x_ret_t, x_ret_n, x_tl_s, x_tl_n, x_lk0, x_lk, x_rem0, x_rem_i, x_rem_r, x_rem_l, x_rem2_0, x_rem2_i, x_rem2_r, x_rem2_l, x_pick0, x_pick_c, x_st1, x_st2, x_live, x_i, x_l, x_a, x_ild, x_lld, x_rld, x_ist, x_lst, x_rst, x_inc, x_ii, x_ll, x_li, x_cmp, x_ui, x_il, x_lti, x_idiv, x_irem, x_dup_i, x_dup_r, x_pop_i, x_pop_r, x_dupx_ir, x_dup2_ir, x_ifeq, x_iceq, x_iflt, x_iclt, x_ifge, x_icge, x_ifgt, x_icgt, x_ifle, x_icle, x_ifne, x_icne, x_ifnull_r, x_ifnull_n, x_ifnonnull_r, x_ifnonnull_n, x_sw, x_vret, x_iret, x_lret, x_zret, x_zret0, x_zret1, x_rf_s, x_rf_n, x_geti, x_getr, x_puti, x_putz, x_putr, x_ial, x_ias, x_lal, x_las, x_aal, x_aas, x_aast, x_alen, x_new, x_newa, x_copy, x_min, x_abs, x_minl, x_oinit, x_throw, x_callS0, x_callS1, x_callS2, x_callS3, x_callS4, x_callV0, x_callV1, x_callV2, x_callV3, x_callV4, x_callV5, x_retI_v, x_callI0, x_callI1, x_callI2, x_retN_v, x_callSN1, x_callSN2, x_callT0, x_callT1, x_fn, x_sl0, x_sli, x_slr, x_sll, x_ar0, x_ari, x_arr, x_arl, ↓reduceIte, Nat.reduceAdd, Nat.reduceSub, Nat.reduceMul, Nat.reduceEqDiff, Nat.reduceLeDiff, Nat.reduceLT, if_true, if_false, Nat.le_refl, and_true, true_and, and_self, reduceCtorEq, or_false, false_or, or_true, true_or, Nat.zero_le, fa_lit, nI_add, w_mul, nI_ltI, nI_leI, nI_eq, nI_clamp, nI_toInt, if_pos, if_neg, w_div, w_rem2, xk0 hA, xk1 hA, xl1 hA, xk2 hA, xk3 hA, xl3 hA, xr2_2 hA, xi2_0 hA, xi2_1 hA, xk4 hA, xk5 hA, xl5 hA, xr4_2 hA, xi4_0 hA, xi4_1 hA, xk6 hA, xk7 hA, xl7 hA, xr6_2 hA, xi6_0 hA, xi6_1 hA, xk8 hA, xk9 hA, xl9 hA, xr8_2 hA, xi8_0 hA, xi8_1 hA, xk10 hA, xk11 hA, xl11 hA, xr10_2 hA, xi10_0 hA, xi10_1 hA, xr0_7 hA, xr0_8 hA, xr0_9 hA, xr0_10 hA, xr0_11 hA, xr0_12 hA, yk100 hC, yk125 hC, yk126 hC, yk127 hC, yk128 hC, yk129 hC, yk130 hC, yk131 hC, yk132 hC, yk133 hC, yk134 hC, yk135 hC, yk136 hC, yk137 hC, yl126 hC, yl128 hC, yl130 hC, yl131 hC, yl133 hC, yl137 hC, yr100_0 hC, yr100_1 hC, yr100_2 hC, yr100_3 hC, yr100_4 hC, yr100_5 hC, yr100_6 hC, yr100_7 hC, yr100_8 hC, yr100_9 hC, yr100_10 hC, yr125_0 hC, yr127_0 hC, yr129_0 hC, yr129_1 hC, yr129_2 hC, yr132_0 hC, yr134_0 hC, yr135_0 hC, yr135_1 hC, yr136_0 hC, yr136_1 hC, x_k_I, x_l_I, x_r_I, x_j_I, x_n_I, x_z_I, x_i_Is, x_k_W, x_l_W, x_r_W, x_j_W, x_n_W, x_z_W, x_k_J, x_l_J, x_r_J, x_i_J, x_n_J, x_z_J, x_k_R, x_l_R, x_j_R, x_i_R, x_n_R, x_z_R, x_n_N, x_z_N, x_k_N, x_l_N, x_i_N, x_j_N, x_r_N, gob, hp1, hb1, g1, g2, u0, u1, u2, y_cellAt, ec, et, i5, hct, hnk, f1, xo, yo, k7, p1, p2]
theorem y_march (hQ : w_Q S a R) (ha : a = 101 ∨ a = 113) (hu : u < s_n (R 2)) : ∃ S', fX1_march w_N [.ref 132, .ref a, .int (nI u)] S = some (.inl none, S') ∧ w_Q S' a (s_moveG u R) ∧ w_O a S S' := by
  have hV := hQ.2.2.1.2
  have hA := hQ.2.1.2
  have h := hQ.2.2.1.1
  have hC := hQ.1.1
  have hB := s_BWH hV.B.WH
  have a4 := hV.B.2.2.2.1.2
  have a2 := hV.B.2.1.2
  have hU := hV.U u hu
  have gob := y_obeyedBy hA h hV hu
  unfold s_moveG
  rcases s_ob_sp (R := R) (x := nI u) with ⟨k1, k2⟩ | ⟨p, k1, k2, k3, k4⟩
  · rw [if_pos k1]
    rw [k1] at gob
    refine ⟨S, ?_, hQ, w_O.rf⟩
    simp (disch := omega) only [fX1_march, kX1_march_0, x_cs0, x_csi, x_csr, x_csn, x_csl, x_ret_v, x_ret_t, x_ret_n, x_tl_s, x_tl_n, x_lk0, x_lk, x_rem0, x_rem_i, x_rem_r, x_rem_l, x_rem2_0, x_rem2_i, x_rem2_r, x_rem2_l, x_pick0, x_pick_c, x_st1, x_st2, x_live, x_i, x_l, x_a, x_ild, x_lld, x_rld, x_ist, x_lst, x_rst, x_inc, x_ii, x_ll, x_li, x_cmp, x_ui, x_il, x_lti, x_idiv, x_irem, x_dup_i, x_dup_r, x_pop_i, x_pop_r, x_dupx_ir, x_dup2_ir, x_ifeq, x_iceq, x_iflt, x_iclt, x_ifge, x_icge, x_ifgt, x_icgt, x_ifle, x_icle, x_ifne, x_icne, x_ifnull_r, x_ifnull_n, x_ifnonnull_r, x_ifnonnull_n, x_sw, x_vret, x_iret, x_lret, x_zret, x_zret0, x_zret1, x_rf_s, x_rf_n, x_geti, x_getr, x_puti, x_putz, x_putr, x_ial, x_ias, x_lal, x_las, x_aal, x_aas, x_aast, x_alen, x_new, x_newa, x_copy, x_min, x_abs, x_minl, x_oinit, x_throw, x_callS0, x_callS1, x_callS2, x_callS3, x_callS4, x_callV0, x_callV1, x_callV2, x_callV3, x_callV4, x_callV5, x_retI_v, x_callI0, x_callI1, x_callI2, x_retN_v, x_callSN1, x_callSN2, x_callT0, x_callT1, x_fn, x_sl0, x_sli, x_slr, x_sll, x_ar0, x_ari, x_arr, x_arl, ↓reduceIte, Nat.reduceAdd, Nat.reduceSub, Nat.reduceMul, Nat.reduceEqDiff, Nat.reduceLeDiff, Nat.reduceLT, if_true, if_false, Nat.le_refl, and_true, true_and, and_self, reduceCtorEq, or_false, false_or, or_true, true_or, Nat.zero_le, fa_lit, nI_add, w_mul, nI_ltI, nI_leI, nI_eq, nI_clamp, nI_toInt, if_pos, if_neg, w_div, w_rem2, xk0 hA, xk1 hA, xl1 hA, xk2 hA, xk3 hA, xl3 hA, xr2_2 hA, xi2_0 hA, xi2_1 hA, xk4 hA, xk5 hA, xl5 hA, xr4_2 hA, xi4_0 hA, xi4_1 hA, xk6 hA, xk7 hA, xl7 hA, xr6_2 hA, xi6_0 hA, xi6_1 hA, xk8 hA, xk9 hA, xl9 hA, xr8_2 hA, xi8_0 hA, xi8_1 hA, xk10 hA, xk11 hA, xl11 hA, xr10_2 hA, xi10_0 hA, xi10_1 hA, xr0_7 hA, xr0_8 hA, xr0_9 hA, xr0_10 hA, xr0_11 hA, xr0_12 hA, gob]
  · have hp1 := nI_nm1 (n := p) (by omega)
    rw [k4, if_neg hp1, w_snI (by omega)]
    dsimp only
    have hg := (hV.O p k1).1.2.1
    have hn := hU.1.1
    have kg := hg.ok hV.B
    have kn := hn.ok hV.B
    have th : s_inG R u p ↔ s_ce (R (12 + 4 * u + 0)) (R (12 + 4 * u + 1)) = s_ce (R (64 + 10 * p + 1)) (R (64 + 10 * p + 2)) := by
      have q1 := kg.2
      have q2 := kn.2
      constructor
      · intro q
        rw [q.1, q.2]
      · intro q
        rw [q] at q2
        constructor
        · rw [hn.1.1, hg.1.1, ← q1.1, ← q2.1]
        · rw [hn.2.1, hg.2.1, ← q1.2.1, ← q2.2.1]
    have hcf : s_fr R (s_ce (R (12 + 4 * u + 0)) (R (12 + 4 * u + 1))) := ⟨kn.1, hU.1.2⟩
    have c3 := kn.2.2.2
    have t3 := kg.2.2.2
    rcases y_mS hQ ha hu k1 k4 rfl rfl rfl rfl with ⟨m1, m2⟩ | ⟨⟨m1, m2⟩, m3⟩
    · have e : (if ¬ s_inG R u p ∧ s_n (R 5) % s_n (R (12 + 4 * u + 2)) = 0 then s_walk R u p else R) = R := if_neg (fun q => by
        rcases m1 with m1 | m1
        · exact q.1 (th.mpr m1)
        · exact m1 q.2)
      rw [e, m2]
      obtain ⟨S', f1, f2, f3⟩ := y_mE (lv := lvM a u p (s_ce (R (64 + 10 * p + 1)) (R (64 + 10 * p + 2))) (s_ce (R (12 + 4 * u + 0)) (R (12 + 4 * u + 1))) (s_n (R (12 + 4 * u + 2)))) rfl rfl rfl rfl c3 t3 hQ ha k1 k3
      refine ⟨S', f1, ?_, f3⟩
      by_cases c1 : s_inG R u p
      · rw [if_pos c1]
        rw [if_pos (th.mp c1)] at f2
        exact f2
      · rw [if_neg c1]
        rw [if_neg (fun q => c1 (th.mpr q))] at f2
        exact f2
    · have e : (if ¬ s_inG R u p ∧ s_n (R 5) % s_n (R (12 + 4 * u + 2)) = 0 then s_walk R u p else R) = s_walk R u p := if_pos ⟨fun q => m1 (th.mp q), m2⟩
      rw [e]
      obtain ⟨S1, f1, f2, f3⟩ := y_nextQ hQ ha kg.1 hcf
      rw [s_nx_st hB m1] at f1
      unfold s_walk
      cases hst : s_st R (s_far R (s_ce (R (64 + 10 * p + 1)) (R (64 + 10 * p + 2)))) (s_ce (R (12 + 4 * u + 0)) (R (12 + 4 * u + 1))) 4 0 with
      | none =>
        rw [hst] at f1
        dsimp only
        rw [m3 S1 f1]
        obtain ⟨S', g1, g2, g3⟩ := y_mE (lv := (8, .int (-nI 1)) :: lvM a u p (s_ce (R (64 + 10 * p + 1)) (R (64 + 10 * p + 2))) (s_ce (R (12 + 4 * u + 0)) (R (12 + 4 * u + 1))) (s_n (R (12 + 4 * u + 2)))) rfl rfl rfl rfl c3 t3 f2 ha k1 k3
        refine ⟨S', g1, ?_, f3.O.tr g3⟩
        rw [if_neg (fun q => m1 (th.mp q))]
        rw [if_neg m1] at g2
        exact g2
      | some db =>
        obtain ⟨d, b⟩ := db
        rw [hst] at f1
        dsimp only
        have hbf := s_st_fr hst
        have b3 := s_ok_lt hB hbf.1
        obtain ⟨q1, q2, q3, q4⟩ := y_mP f2 ha hu hbf
        have q5 := y_mT hQ ha hu k1 k4 rfl rfl rfl rfl m1 m2 b3 f1 (xk2 f2.2.1.2) q3 q4
        have w4 : va_up (va_up R (12 + 4 * u + 0) (nI (b % 12))) (12 + 4 * u + 1) (nI (b / 12)) 4 = R 4 := by rw [s_up_n (by omega), s_up_n (by omega)]
        have w3 : va_up (va_up R (12 + 4 * u + 0) (nI (b % 12))) (12 + 4 * u + 1) (nI (b / 12)) (64 + 10 * p + 3) = nI 1 := by rw [s_up_n (by omega), s_up_n (by omega), k3]
        obtain ⟨S', g1, g2, g3⟩ := y_mE (lv := [(6, .int (nI b)), (8, .int (nI b)), (7, .int (nI (s_n (R (12 + 4 * u + 2))))), (5, .int (nI (s_ce (R (64 + 10 * p + 1)) (R (64 + 10 * p + 2))))), (4, .ref (a + 2)), (3, .int (nI p)), (0, .ref 132), (1, .ref a), (2, .int (nI u))]) rfl rfl rfl rfl b3 t3 q1 ha (o := p) (by rw [w4]; exact k1) w3
        refine ⟨S', q5.trans g1, ?_, f3.O.tr (q2.tr g3)⟩
        have th2 : s_inG (va_up (va_up R (12 + 4 * u + 0) (nI (b % 12))) (12 + 4 * u + 1) (nI (b / 12))) u p ↔ b = s_ce (R (64 + 10 * p + 1)) (R (64 + 10 * p + 2)) := by
          have e0 : va_up (va_up R (12 + 4 * u + 0) (nI (b % 12))) (12 + 4 * u + 1) (nI (b / 12)) (12 + 4 * u + 0) = nI (b % 12) := by rw [s_up_n (by omega), s_up_s]
          have e1 : va_up (va_up R (12 + 4 * u + 0) (nI (b % 12))) (12 + 4 * u + 1) (nI (b / 12)) (12 + 4 * u + 1) = nI (b / 12) := s_up_s
          have e2 : va_up (va_up R (12 + 4 * u + 0) (nI (b % 12))) (12 + 4 * u + 1) (nI (b / 12)) (64 + 10 * p + 1) = R (64 + 10 * p + 1) := by rw [s_up_n (by omega), s_up_n (by omega)]
          have e3 : va_up (va_up R (12 + 4 * u + 0) (nI (b % 12))) (12 + 4 * u + 1) (nI (b / 12)) (64 + 10 * p + 2) = R (64 + 10 * p + 2) := by rw [s_up_n (by omega), s_up_n (by omega)]
          show (_ = _ ∧ _ = _) ↔ _
          rw [e0, e1, e2, e3]
          have k22 := kg.2.1
          have k23 := kg.2.2.1
          have f1 := hg.1.1.trans (congrArg nI k22.symm)
          have f2 := hg.2.1.trans (congrArg nI k23.symm)
          generalize s_ce (R (64 + 10 * p + 1)) (R (64 + 10 * p + 2)) = t at t3 f1 f2 ⊢
          rw [f1, f2]
          rw [nI_eq (by omega) (by omega), nI_eq (by omega) (by omega)]
          omega
        by_cases c1 : b = s_ce (R (64 + 10 * p + 1)) (R (64 + 10 * p + 2))
        · rw [if_pos (th2.mpr c1)]
          rw [if_pos c1] at g2
          exact g2
        · rw [if_neg (fun q => c1 (th2.mp q))]
          rw [if_neg c1] at g2
          exact g2
end Y16
