/-! THE CLASS: carry -/
section Y14
variable {S S' S2 : am_S} {x y z v : Int32} {i j o u n w hh c d b m t p np ne no a L f k D E hd j0 m0 cl : Nat} {R R' F : Nat → Int32} {q : s_Q} {r r4 : am_K}
theorem y_stE (hi : i ≤ 2) (hc : c < 144) (ht : t < 144) (h : i = 2 ∨ c = t) : bX1_carry_60 w_N r (lvC a o u t c i) [] S = kX1_carry_198 w_N (lvC a o u t c i) [] S := by
  rcases h with e | e
  · subst e
    simp (disch := omega) only [bX1_carry_60, lvC, x_cs0, x_csi, x_csr, x_csn, x_csl, x_ret_v, x_ret_t, x_ret_n, x_tl_s, x_tl_n, x_lk0, x_lk, x_rem0, x_rem_i, x_rem_r, x_rem_l, x_rem2_0, x_rem2_i, x_rem2_r, x_rem2_l, x_pick0, x_pick_c, x_st1, x_st2, x_live, x_i, x_l, x_a, x_ild, x_lld, x_rld, x_ist, x_lst, x_rst, x_inc, x_ii, x_ll, x_li, x_cmp, x_ui, x_il, x_lti, x_idiv, x_irem, x_dup_i, x_dup_r, x_pop_i, x_pop_r, x_dupx_ir, x_dup2_ir, x_ifeq, x_iceq, x_iflt, x_iclt, x_ifge, x_icge, x_ifgt, x_icgt, x_ifle, x_icle, x_ifne, x_icne, x_ifnull_r, x_ifnull_n, x_ifnonnull_r, x_ifnonnull_n, x_sw, x_vret, x_iret, x_lret, x_zret, x_zret0, x_zret1, x_rf_s, x_rf_n, x_geti, x_getr, x_puti, x_putz, x_putr, x_ial, x_ias, x_lal, x_las, x_aal, x_aas, x_aast, x_alen, x_new, x_newa, x_copy, x_min, x_abs, x_minl, x_oinit, x_throw, x_callS0, x_callS1, x_callS2, x_callS3, x_callS4, x_callV0, x_callV1, x_callV2, x_callV3, x_callV4, x_callV5, x_retI_v, x_callI0, x_callI1, x_callI2, x_retN_v, x_callSN1, x_callSN2, x_callT0, x_callT1, x_fn, x_sl0, x_sli, x_slr, x_sll, x_ar0, x_ari, x_arr, x_arl, ↓reduceIte, Nat.reduceAdd, Nat.reduceSub, Nat.reduceMul, Nat.reduceEqDiff, Nat.reduceLeDiff, Nat.reduceLT, if_true, if_false, Nat.le_refl, and_true, true_and, and_self, reduceCtorEq, or_false, false_or, or_true, true_or, Nat.zero_le, fa_lit, nI_add, w_mul, nI_ltI, nI_leI, nI_eq, nI_clamp, nI_toInt, if_pos, if_neg, w_div, w_rem2]
  · subst e
    by_cases h2 : i = 2
    · subst h2
      simp (disch := omega) only [bX1_carry_60, lvC, x_cs0, x_csi, x_csr, x_csn, x_csl, x_ret_v, x_ret_t, x_ret_n, x_tl_s, x_tl_n, x_lk0, x_lk, x_rem0, x_rem_i, x_rem_r, x_rem_l, x_rem2_0, x_rem2_i, x_rem2_r, x_rem2_l, x_pick0, x_pick_c, x_st1, x_st2, x_live, x_i, x_l, x_a, x_ild, x_lld, x_rld, x_ist, x_lst, x_rst, x_inc, x_ii, x_ll, x_li, x_cmp, x_ui, x_il, x_lti, x_idiv, x_irem, x_dup_i, x_dup_r, x_pop_i, x_pop_r, x_dupx_ir, x_dup2_ir, x_ifeq, x_iceq, x_iflt, x_iclt, x_ifge, x_icge, x_ifgt, x_icgt, x_ifle, x_icle, x_ifne, x_icne, x_ifnull_r, x_ifnull_n, x_ifnonnull_r, x_ifnonnull_n, x_sw, x_vret, x_iret, x_lret, x_zret, x_zret0, x_zret1, x_rf_s, x_rf_n, x_geti, x_getr, x_puti, x_putz, x_putr, x_ial, x_ias, x_lal, x_las, x_aal, x_aas, x_aast, x_alen, x_new, x_newa, x_copy, x_min, x_abs, x_minl, x_oinit, x_throw, x_callS0, x_callS1, x_callS2, x_callS3, x_callS4, x_callV0, x_callV1, x_callV2, x_callV3, x_callV4, x_callV5, x_retI_v, x_callI0, x_callI1, x_callI2, x_retN_v, x_callSN1, x_callSN2, x_callT0, x_callT1, x_fn, x_sl0, x_sli, x_slr, x_sll, x_ar0, x_ari, x_arr, x_arl, ↓reduceIte, Nat.reduceAdd, Nat.reduceSub, Nat.reduceMul, Nat.reduceEqDiff, Nat.reduceLeDiff, Nat.reduceLT, if_true, if_false, Nat.le_refl, and_true, true_and, and_self, reduceCtorEq, or_false, false_or, or_true, true_or, Nat.zero_le, fa_lit, nI_add, w_mul, nI_ltI, nI_leI, nI_eq, nI_clamp, nI_toInt, if_pos, if_neg, w_div, w_rem2]
    · have : i < 2 := by omega
      simp (disch := omega) only [bX1_carry_60, lvC, x_cs0, x_csi, x_csr, x_csn, x_csl, x_ret_v, x_ret_t, x_ret_n, x_tl_s, x_tl_n, x_lk0, x_lk, x_rem0, x_rem_i, x_rem_r, x_rem_l, x_rem2_0, x_rem2_i, x_rem2_r, x_rem2_l, x_pick0, x_pick_c, x_st1, x_st2, x_live, x_i, x_l, x_a, x_ild, x_lld, x_rld, x_ist, x_lst, x_rst, x_inc, x_ii, x_ll, x_li, x_cmp, x_ui, x_il, x_lti, x_idiv, x_irem, x_dup_i, x_dup_r, x_pop_i, x_pop_r, x_dupx_ir, x_dup2_ir, x_ifeq, x_iceq, x_iflt, x_iclt, x_ifge, x_icge, x_ifgt, x_icgt, x_ifle, x_icle, x_ifne, x_icne, x_ifnull_r, x_ifnull_n, x_ifnonnull_r, x_ifnonnull_n, x_sw, x_vret, x_iret, x_lret, x_zret, x_zret0, x_zret1, x_rf_s, x_rf_n, x_geti, x_getr, x_puti, x_putz, x_putr, x_ial, x_ias, x_lal, x_las, x_aal, x_aas, x_aast, x_alen, x_new, x_newa, x_copy, x_min, x_abs, x_minl, x_oinit, x_throw, x_callS0, x_callS1, x_callS2, x_callS3, x_callS4, x_callV0, x_callV1, x_callV2, x_callV3, x_callV4, x_callV5, x_retI_v, x_callI0, x_callI1, x_callI2, x_retN_v, x_callSN1, x_callSN2, x_callT0, x_callT1, x_fn, x_sl0, x_sli, x_slr, x_sll, x_ar0, x_ari, x_arr, x_arl, ↓reduceIte, Nat.reduceAdd, Nat.reduceSub, Nat.reduceMul, Nat.reduceEqDiff, Nat.reduceLeDiff, Nat.reduceLT, if_true, if_false, Nat.le_refl, and_true, true_and, and_self, reduceCtorEq, or_false, false_or, or_true, true_or, Nat.zero_le, fa_lit, nI_add, w_mul, nI_ltI, nI_leI, nI_eq, nI_clamp, nI_toInt, if_pos, if_neg, w_div, w_rem2]
theorem y_198a (hc : c < 144) (ht : t < 144) (h : c ≠ t) : kX1_carry_198 w_N (lvC a o u t c i) [] S = some (.inl none, S) := by
  simp (disch := omega) only [kX1_carry_198, kX1_carry_213, lvC, x_cs0, x_csi, x_csr, x_csn, x_csl, x_ret_v, x_ret_t, x_ret_n, x_tl_s, x_tl_n, x_lk0, x_lk, x_rem0, x_rem_i, x_rem_r, x_rem_l, x_rem2_0, x_rem2_i, x_rem2_r, x_rem2_l, x_pick0, x_pick_c, x_st1, x_st2, x_live, x_i, x_l, x_a, x_ild, x_lld, x_rld, x_ist, x_lst, x_rst, x_inc, x_ii, x_ll, x_li, x_cmp, x_ui, x_il, x_lti, x_idiv, x_irem, x_dup_i, x_dup_r, x_pop_i, x_pop_r, x_dupx_ir, x_dup2_ir, x_ifeq, x_iceq, x_iflt, x_iclt, x_ifge, x_icge, x_ifgt, x_icgt, x_ifle, x_icle, x_ifne, x_icne, x_ifnull_r, x_ifnull_n, x_ifnonnull_r, x_ifnonnull_n, x_sw, x_vret, x_iret, x_lret, x_zret, x_zret0, x_zret1, x_rf_s, x_rf_n, x_geti, x_getr, x_puti, x_putz, x_putr, x_ial, x_ias, x_lal, x_las, x_aal, x_aas, x_aast, x_alen, x_new, x_newa, x_copy, x_min, x_abs, x_minl, x_oinit, x_throw, x_callS0, x_callS1, x_callS2, x_callS3, x_callS4, x_callV0, x_callV1, x_callV2, x_callV3, x_callV4, x_callV5, x_retI_v, x_callI0, x_callI1, x_callI2, x_retN_v, x_callSN1, x_callSN2, x_callT0, x_callT1, x_fn, x_sl0, x_sli, x_slr, x_sll, x_ar0, x_ari, x_arr, x_arl, ↓reduceIte, Nat.reduceAdd, Nat.reduceSub, Nat.reduceMul, Nat.reduceEqDiff, Nat.reduceLeDiff, Nat.reduceLT, if_true, if_false, Nat.le_refl, and_true, true_and, and_self, reduceCtorEq, or_false, false_or, or_true, true_or, Nat.zero_le, fa_lit, nI_add, w_mul, nI_ltI, nI_leI, nI_eq, nI_clamp, nI_toInt, if_pos, if_neg, w_div, w_rem2]
theorem y_198b (hQ : w_Q S a R) (ha : a = 101 ∨ a = 113) (ho : o < s_n (R 4)) (hs : R (64 + 10 * o + 3) = nI 0) (hu : s_n (R (64 + 10 * o + 0)) = u) (ht : t < 144) : ∃ S', kX1_carry_198 w_N (lvC a o u t t i) [] S = some (.inl none, S') ∧ w_Q S' a (s_arrive R o) ∧ w_O a S S' := by
  obtain ⟨S', f1, f2, f3⟩ := y_arrive (cl := 132) hQ.2.1.2 hQ.2.2.1.1 hQ.2.2.1.2 ho hs hu
  have V := hQ.2.2.1.2.arrive ho hs
  have hC := hQ.1.1
  refine ⟨S', ?_, hQ.J ha f3 f2 V.1 V.2.wl, f3.O⟩
  simp (disch := omega) only [kX1_carry_198, kX1_carry_213, lvC, x_cs0, x_csi, x_csr, x_csn, x_csl, x_ret_v, x_ret_t, x_ret_n, x_tl_s, x_tl_n, x_lk0, x_lk, x_rem0, x_rem_i, x_rem_r, x_rem_l, x_rem2_0, x_rem2_i, x_rem2_r, x_rem2_l, x_pick0, x_pick_c, x_st1, x_st2, x_live, x_i, x_l, x_a, x_ild, x_lld, x_rld, x_ist, x_lst, x_rst, x_inc, x_ii, x_ll, x_li, x_cmp, x_ui, x_il, x_lti, x_idiv, x_irem, x_dup_i, x_dup_r, x_pop_i, x_pop_r, x_dupx_ir, x_dup2_ir, x_ifeq, x_iceq, x_iflt, x_iclt, x_ifge, x_icge, x_ifgt, x_icgt, x_ifle, x_icle, x_ifne, x_icne, x_ifnull_r, x_ifnull_n, x_ifnonnull_r, x_ifnonnull_n, x_sw, x_vret, x_iret, x_lret, x_zret, x_zret0, x_zret1, x_rf_s, x_rf_n, x_geti, x_getr, x_puti, x_putz, x_putr, x_ial, x_ias, x_lal, x_las, x_aal, x_aas, x_aast, x_alen, x_new, x_newa, x_copy, x_min, x_abs, x_minl, x_oinit, x_throw, x_callS0, x_callS1, x_callS2, x_callS3, x_callS4, x_callV0, x_callV1, x_callV2, x_callV3, x_callV4, x_callV5, x_retI_v, x_callI0, x_callI1, x_callI2, x_retN_v, x_callSN1, x_callSN2, x_callT0, x_callT1, x_fn, x_sl0, x_sli, x_slr, x_sll, x_ar0, x_ari, x_arr, x_arl, ↓reduceIte, Nat.reduceAdd, Nat.reduceSub, Nat.reduceMul, Nat.reduceEqDiff, Nat.reduceLeDiff, Nat.reduceLT, if_true, if_false, Nat.le_refl, and_true, true_and, and_self, reduceCtorEq, or_false, false_or, or_true, true_or, Nat.zero_le, fa_lit, nI_add, w_mul, nI_ltI, nI_leI, nI_eq, nI_clamp, nI_toInt, if_pos, if_neg, w_div, w_rem2, yk100 hC, yk125 hC, yk126 hC, yk127 hC, yk128 hC, yk129 hC, yk130 hC, yk131 hC, yk132 hC, yk133 hC, yk134 hC, yk135 hC, yk136 hC, yk137 hC, yl126 hC, yl128 hC, yl130 hC, yl131 hC, yl133 hC, yl137 hC, yr100_0 hC, yr100_1 hC, yr100_2 hC, yr100_3 hC, yr100_4 hC, yr100_5 hC, yr100_6 hC, yr100_7 hC, yr100_8 hC, yr100_9 hC, yr100_10 hC, yr125_0 hC, yr127_0 hC, yr129_0 hC, yr129_1 hC, yr129_2 hC, yr132_0 hC, yr134_0 hC, yr135_0 hC, yr135_1 hC, yr136_0 hC, yr136_1 hC, f1]
/-- there, in cells -/
theorem s_there_ce (hV : s_V R) (ho : o < s_n (R 4)) : s_there R o ↔ s_ce (R (64 + 10 * o + 7)) (R (64 + 10 * o + 8)) = s_ce (R (12 + 4 * s_n (R (64 + 10 * o + 0)) + 0)) (R (12 + 4 * s_n (R (64 + 10 * o + 0)) + 1)) := by
  have h1 := (hV.O o ho).1.2.2.2.2.2
  have h2 := (hV.U _ (hV.O o ho).1.1.2).1.1
  have k1 := (h1.ok hV.B).2
  have k2 := (h2.ok hV.B).2
  constructor
  · intro q
    rw [q.1, q.2]
  · intro q
    rw [q] at k1
    constructor
    · rw [h1.1.1, h2.1.1, ← k1.1, ← k2.1]
    · rw [h1.2.1, h2.2.1, ← k1.2.1, ← k2.2.1]
theorem s_at_ce (hb : b < 144) : s_ce (s_at R o b (64 + 10 * o + 7)) (s_at R o b (64 + 10 * o + 8)) = b := by
  have e7 : s_at R o b (64 + 10 * o + 7) = nI (b % 12) := by
    unfold s_at
    simp (disch := omega) only [s_up_n, s_up_s]
  have e8 : s_at R o b (64 + 10 * o + 8) = nI (b / 12) := by
    unfold s_at
    simp (disch := omega) only [s_up_n, s_up_s]
  show 12 * s_n (s_at R o b (64 + 10 * o + 8)) + s_n (s_at R o b (64 + 10 * o + 7)) = b
  rw [e7, e8, w_snI (by omega), w_snI (by omega)]
  omega
/-- one step, and what the pure one says of it -/
theorem y_stp (hQ : w_Q S a R) (ha : a = 101 ∨ a = 113) (ho : o < s_n (R 4)) (hs : R (64 + 10 * o + 3) = nI 0) (hu : s_n (R (64 + 10 * o + 0)) = u) (hc : s_ce (R (64 + 10 * o + 7)) (R (64 + 10 * o + 8)) = c) (ht : s_ce (R (12 + 4 * u + 0)) (R (12 + 4 * u + 1)) = t) (hct : c ≠ t) (hi : i < 2) :
    (∃ S', bX1_carry_60 w_N r (lvC a o u t c i) [] S = some (.inl none, S') ∧ w_Q S' a (s_ride R (s_far R t) o).1 ∧ w_O a S S' ∧ (s_ride R (s_far R t) o).2 = nI 0) ∨
    ∃ S' b, b < 144 ∧ bX1_carry_60 w_N r (lvC a o u t c i) [] S = r (lvC a o u t b (i + 1)) [] S' ∧ w_Q S' a (s_at R o b) ∧ w_O a S S' ∧ s_fr R b ∧
      s_ride R (s_far R t) o = (if b = t then s_arrive (s_at R o b) o else s_at R o b, w_b ((if b = t then s_arrive (s_at R o b) o else s_at R o b) (64 + 10 * o + 3) = nI 0)) := by
  have hV := hQ.2.2.1.2
  have hB := s_BWH hV.B.WH
  have hO := hV.O o ho
  have k1 := (hO.1.2.2.2.2.2).ok hV.B
  have k2 := ((hV.U _ hO.1.1.2).1.1).ok hV.B
  have hz := hO.2.1 hs
  rw [hu, ht] at k2
  rw [hc] at k1 hz
  have hcf : s_fr R c := ⟨k1.1, hz⟩
  have a4 := hV.B.2.2.2.1.2
  have a2 := hV.B.2.1.2
  have hu2 := hO.1.1.2
  rw [hu] at hu2
  unfold s_ride
  rw [hc]
  cases hst : s_st R (s_far R t) c 4 0 with
  | none =>
    obtain ⟨S', f1, f2, f3⟩ := y_stA (r := r) (o := o) (u := u) hQ ha k2.1 hcf hct hi hst
    exact Or.inl ⟨S', f1, f2, f3, rfl⟩
  | some db =>
    obtain ⟨d, b⟩ := db
    have hbf := s_st_fr hst
    have b3 := s_ok_lt hB hbf.1
    have V1 := hV.go ho hbf
    have e4 : s_at R o b 4 = R 4 := s_at_n (by omega)
    have ew : s_at R o b (64 + 10 * o + 0) = R (64 + 10 * o + 0) := by
      unfold s_at
      simp (disch := omega) only [s_up_n]
    have eu : ∀ q, q < 64 → s_at R o b q = R q := fun q hq => s_at_n (by omega)
    have th : s_there (s_at R o b) o ↔ b = t := by
      rw [s_there_ce V1 (by rw [e4]; exact ho), s_at_ce b3, ew, hu, eu _ (by omega), eu _ (by omega), ht]
    dsimp only
    unfold s_ride1
    dsimp only
    rcases s_watcher_sp (R := s_at R o b) (np := s_n (s_at R o b 3)) (x := nI (b % 12)) (y := nI (b / 12)) (t := s_n (s_at R o b 5)) with ⟨m1, m2⟩ | ⟨p, m1, m2, m3⟩
    · obtain ⟨S', f1, f2, f3⟩ := y_stB (r := r) (u := u) hQ ha ho k2.1 hcf hct hi hst m1
      refine Or.inr ⟨S', b, b3, f1, f2, f3, hbf, ?_⟩
      rw [if_pos m1]
      by_cases e : b = t
      · rw [if_pos e, if_pos (th.mpr e)]
      · rw [if_neg e, if_neg (fun q => e (th.mp q))]
    · obtain ⟨S', f1, f2, f3⟩ := y_stC (r := r) (u := u) hQ ha ho hs k2.1 hcf hct hi hst m3 m1
      have p4 := V1.B.2.2.1.2
      have ne := nI_nm1 (n := p) (by omega)
      rw [m3, if_neg ne, w_snI (by omega)]
      refine Or.inl ⟨S', f1, f2, f3, w_bf ?_⟩
      unfold s_become
      rw [s_bec_3, nI_eq (by omega) (by omega)]
      omega
end Y14
