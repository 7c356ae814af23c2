/-! THE CLASS: a messenger's step -/
theorem w_tb.put {S : am_S} {T P C n L j : Nat} {v : Int32} (h : w_tb S T P C n L) (hTP : T ≠ P) : w_tb (am_putI S P j v) T P C n L := ⟨⟨h.1.1, h.1.2.1, by rw [x_i_I, if_neg hTP]; exact h.1.2.2.1, by rw [x_i_I, if_neg hTP]; exact h.1.2.2.2⟩, h.2⟩
section Y13
variable {S S' S2 : am_S} {x y z v : Int32} {i j o u n w hh c d b m t p np ne no a L f k D E hd j0 m0 cl : Nat} {R R' F : Nat → Int32} {q : s_Q} {r r4 : am_K}
abbrev lvC (a o u t c i : Nat) : List (Nat × Value) := [(0, .ref 132), (1, .ref a), (2, .int (nI o)), (3, .ref (a + 8)), (4, .int (nI u)), (5, .int (nI t)), (6, .int (nI c)), (7, .int (nI i))]
theorem s_nx_st (hB : s_B R) (hct : c ≠ t) : s_nx R t c = s_oc (s_st R (s_far R t) c 4 0) := if_neg (fun q => hct (s_far_0 hB t q))
theorem y_stA (hQ : w_Q S a R) (ha : a = 101 ∨ a = 113) (ht : s_ok R t) (hc : s_fr R c) (hct : c ≠ t) (hi : i < 2) (h : s_st R (s_far R t) c 4 0 = none) :
    ∃ S', bX1_carry_60 w_N r (lvC a o u t c i) [] S = some (.inl none, S') ∧ w_Q S' a R ∧ w_O a S S' := by
  have hB := s_BWH hQ.2.2.1.2.B.WH
  have hC := hQ.1.1
  have c3 := s_ok_lt hB hc.1
  have t3 := s_ok_lt hB ht
  obtain ⟨S1, f1, f2, f3⟩ := y_nextQ hQ ha ht hc
  rw [s_nx_st hB hct, h] at f1
  have f1 : fX4_nextCell w_N [.ref 129, .int (nI c), .int (nI t)] S = some (.inl (some (.int (-nI 1))), S1) := f1
  refine ⟨S1, ?_, f2, f3.O⟩
  simp (disch := omega) only [bX1_carry_60, lvC, x_cs0, x_csi, x_csr, x_csn, x_csl, x_ret_v, x_ret_t, x_ret_n, x_tl_s, x_tl_n, x_lk0, x_lk, x_rem0, x_rem_i, x_rem_r, x_rem_l, x_rem2_0, x_rem2_i, x_rem2_r, x_rem2_l, x_pick0, x_pick_c, x_st1, x_st2, x_live, x_i, x_l, x_a, x_ild, x_lld, x_rld, x_ist, x_lst, x_rst, x_inc, x_ii, x_ll, x_li, x_cmp, x_ui, x_il, x_lti, x_idiv, x_irem, x_dup_i, x_dup_r, x_pop_i, x_pop_r, x_dupx_ir, x_dup2_ir, x_ifeq, x_iceq, x_iflt, x_iclt, x_ifge, x_icge, x_ifgt, x_icgt, x_ifle, x_icle, x_ifne, x_icne, x_ifnull_r, x_ifnull_n, x_ifnonnull_r, x_ifnonnull_n, x_sw, x_vret, x_iret, x_lret, x_zret, x_zret0, x_zret1, x_rf_s, x_rf_n, x_geti, x_getr, x_puti, x_putz, x_putr, x_ial, x_ias, x_lal, x_las, x_aal, x_aas, x_aast, x_alen, x_new, x_newa, x_copy, x_min, x_abs, x_minl, x_oinit, x_throw, x_callS0, x_callS1, x_callS2, x_callS3, x_callS4, x_callV0, x_callV1, x_callV2, x_callV3, x_callV4, x_callV5, x_retI_v, x_callI0, x_callI1, x_callI2, x_retN_v, x_callSN1, x_callSN2, x_callT0, x_callT1, x_fn, x_sl0, x_sli, x_slr, x_sll, x_ar0, x_ari, x_arr, x_arl, ↓reduceIte, Nat.reduceAdd, Nat.reduceSub, Nat.reduceMul, Nat.reduceEqDiff, Nat.reduceLeDiff, Nat.reduceLT, if_true, if_false, Nat.le_refl, and_true, true_and, and_self, reduceCtorEq, or_false, false_or, or_true, true_or, Nat.zero_le, fa_lit, nI_add, w_mul, nI_ltI, nI_leI, nI_eq, nI_clamp, nI_toInt, if_pos, if_neg, w_div, w_rem2, yk100 hC, yk125 hC, yk126 hC, yk127 hC, yk128 hC, yk129 hC, yk130 hC, yk131 hC, yk132 hC, yk133 hC, yk134 hC, yk135 hC, yk136 hC, yk137 hC, yl126 hC, yl128 hC, yl130 hC, yl131 hC, yl133 hC, yl137 hC, yr100_0 hC, yr100_1 hC, yr100_2 hC, yr100_3 hC, yr100_4 hC, yr100_5 hC, yr100_6 hC, yr100_7 hC, yr100_8 hC, yr100_9 hC, yr100_10 hC, yr125_0 hC, yr127_0 hC, yr129_0 hC, yr129_1 hC, yr129_2 hC, yr132_0 hC, yr134_0 hC, yr135_0 hC, yr135_1 hC, yr136_0 hC, yr136_1 hC, f1]
theorem y_stB (hQ : w_Q S a R) (ha : a = 101 ∨ a = 113) (ho : o < s_n (R 4)) (ht : s_ok R t) (hc : s_fr R c) (hct : c ≠ t) (hi : i < 2) (h : s_st R (s_far R t) c 4 0 = some (d, b)) (hw : s_watcher (s_at R o b) (s_n (s_at R o b 3)) (nI (b % 12)) (nI (b / 12)) (s_n (s_at R o b 5)) = -nI 1) :
    ∃ S', bX1_carry_60 w_N r (lvC a o u t c i) [] S = r (lvC a o u t b (i + 1)) [] S' ∧ w_Q S' a (s_at R o b) ∧ w_O a S S' := by
  have hB := s_BWH hQ.2.2.1.2.B.WH
  have hC := hQ.1.1
  have c3 := s_ok_lt hB hc.1
  have t3 := s_ok_lt hB ht
  have hb := s_st_fr h
  have b3 := s_ok_lt hB hb.1
  have o4 := hQ.2.2.1.2.B.2.2.2.1.2
  obtain ⟨S1, f1, f2, f3⟩ := y_nextQ hQ ha ht hc
  rw [s_nx_st hB hct, h] at f1
  have f1 : fX4_nextCell w_N [.ref 129, .int (nI c), .int (nI t)] S = some (.inl (some (.int (nI b))), S1) := f1
  have nb := nI_nm1 (n := b) (by omega)
  have hA1 := f2.2.1.2
  have hR1 := f2.2.2.1.1
  have hV := f2.2.2.1.2
  have tb := hR1.tO hA1 hV.B
  have p7 := y_put (v := nI (b % 12)) tb ho (f := 7) (by omega)
  have tb7 := tb.put (j := o * 10 + 7) (v := nI (b % 12)) (by omega)
  have p8 := y_put (v := nI (b / 12)) tb7 ho (f := 8) (by omega)
  have tb8 := tb7.put (j := o * 10 + 8) (v := nI (b / 12)) (by omega)
  have g9 := y_get tb8 ho (f := 9) (by omega)
  rw [x_i_I, if_pos rfl, if_neg (by omega), x_i_I, if_pos rfl, if_neg (by omega), hR1.2.2.2.2.2.2.2.1 o 9 ho (by omega)] at g9
  have p9 := y_put (v := R (64 + 10 * o + 9) + nI 1) tb8 ho (f := 9) (by omega)
  obtain ⟨hR3, J3⟩ := y_at (b := b) hA1 hR1 hV ho
  have hA3 := J3.A hA1
  have V3 := hV.go ho hb
  have gw := y_watcher (x := nI (b % 12)) (y := nI (b / 12)) (t := s_n (s_at R o b 5)) hA3 hR3 V3 (by have := V3.B.2.2.2.2.2.2.1.2; omega)
  rw [hw] at gw
  have i5 := hR3.1.2.2.2.2.1.trans V3.B.2.2.2.2.2.2.1.1
  have k6 := xk0 hA1
  have wl : s_wl R (s_at R o b) := fun j hj => s_at_n (by omega)
  generalize hS3 : am_putI (am_putI (am_putI S1 (a + 9) (o * 10 + 7) (nI (b % 12))) (a + 9) (o * 10 + 8) (nI (b / 12))) (a + 9) (o * 10 + 9) (R (64 + 10 * o + 9) + nI 1) = S3 at *
  have k63 := xk0 hA3
  have xo : ∀ T, fX10_xOf w_N [.int (nI b)] T = some (.inl (some (.int (nI (b % 12)))), T) := fun T => y_xOf (by omega)
  have yo : ∀ T, fX10_yOf w_N [.int (nI b)] T = some (.inl (some (.int (nI (b / 12)))), T) := fun T => y_yOf (by omega)
  have k7 := xk8 hA1
  refine ⟨S3, ?_, f2.J ha J3 hR3 V3 wl, f3.O.tr J3.O⟩
  simp (disch := omega) only [bX1_carry_60, lvC, x_cs0, x_csi, x_csr, x_csn, x_csl, x_ret_v, x_ret_t, x_ret_n, x_tl_s, x_tl_n, x_lk0, x_lk, x_rem0, x_rem_i, x_rem_r, x_rem_l, x_rem2_0, x_rem2_i, x_rem2_r, x_rem2_l, x_pick0, x_pick_c, x_st1, x_st2, x_live, x_i, x_l, x_a, x_ild, x_lld, x_rld, x_ist, x_lst, x_rst, x_inc, x_ii, x_ll, x_li, x_cmp, x_ui, x_il, x_lti, x_idiv, x_irem, x_dup_i, x_dup_r, x_pop_i, x_pop_r, x_dupx_ir, x_dup2_ir, x_ifeq, x_iceq, x_iflt, x_iclt, x_ifge, x_icge, x_ifgt, x_icgt, x_ifle, x_icle, x_ifne, x_icne, x_ifnull_r, x_ifnull_n, x_ifnonnull_r, x_ifnonnull_n, x_sw, x_vret, x_iret, x_lret, x_zret, x_zret0, x_zret1, x_rf_s, x_rf_n, x_geti, x_getr, x_puti, x_putz, x_putr, x_ial, x_ias, x_lal, x_las, x_aal, x_aas, x_aast, x_alen, x_new, x_newa, x_copy, x_min, x_abs, x_minl, x_oinit, x_throw, x_callS0, x_callS1, x_callS2, x_callS3, x_callS4, x_callV0, x_callV1, x_callV2, x_callV3, x_callV4, x_callV5, x_retI_v, x_callI0, x_callI1, x_callI2, x_retN_v, x_callSN1, x_callSN2, x_callT0, x_callT1, x_fn, x_sl0, x_sli, x_slr, x_sll, x_ar0, x_ari, x_arr, x_arl, ↓reduceIte, Nat.reduceAdd, Nat.reduceSub, Nat.reduceMul, Nat.reduceEqDiff, Nat.reduceLeDiff, Nat.reduceLT, if_true, if_false, Nat.le_refl, and_true, true_and, and_self, reduceCtorEq, or_false, false_or, or_true, true_or, Nat.zero_le, fa_lit, nI_add, w_mul, nI_ltI, nI_leI, nI_eq, nI_clamp, nI_toInt, if_pos, if_neg, w_div, w_rem2, yk100 hC, yk125 hC, yk126 hC, yk127 hC, yk128 hC, yk129 hC, yk130 hC, yk131 hC, yk132 hC, yk133 hC, yk134 hC, yk135 hC, yk136 hC, yk137 hC, yl126 hC, yl128 hC, yl130 hC, yl131 hC, yl133 hC, yl137 hC, yr100_0 hC, yr100_1 hC, yr100_2 hC, yr100_3 hC, yr100_4 hC, yr100_5 hC, yr100_6 hC, yr100_7 hC, yr100_8 hC, yr100_9 hC, yr100_10 hC, yr125_0 hC, yr127_0 hC, yr129_0 hC, yr129_1 hC, yr129_2 hC, yr132_0 hC, yr134_0 hC, yr135_0 hC, yr135_1 hC, yr136_0 hC, yr136_1 hC, x_k_I, x_l_I, x_r_I, x_j_I, x_n_I, x_z_I, x_i_Is, x_k_W, x_l_W, x_r_W, x_j_W, x_n_W, x_z_W, x_k_J, x_l_J, x_r_J, x_i_J, x_n_J, x_z_J, x_k_R, x_l_R, x_j_R, x_i_R, x_n_R, x_z_R, x_n_N, x_z_N, x_k_N, x_l_N, x_i_N, x_j_N, x_r_N, f1, nb, k6, k7, k63, xo, yo, p7, p8, g9, p9, i5, gw]
theorem y_stC (hQ : w_Q S a R) (ha : a = 101 ∨ a = 113) (ho : o < s_n (R 4)) (hs : R (64 + 10 * o + 3) = nI 0) (ht : s_ok R t) (hc : s_fr R c) (hct : c ≠ t) (hi : i < 2) (h : s_st R (s_far R t) c 4 0 = some (d, b)) (hw : s_watcher (s_at R o b) (s_n (s_at R o b 3)) (nI (b % 12)) (nI (b / 12)) (s_n (s_at R o b 5)) = nI p) (hp : p < s_n (s_at R o b 3)) :
    ∃ S', bX1_carry_60 w_N r (lvC a o u t c i) [] S = some (.inl none, S') ∧ w_Q S' a (s_become (va_up (s_at R o b) (36 + 7 * p + 6) (s_at R o b (36 + 7 * p + 6) + nI 1)) o (nI 5)) ∧ w_O a S S' := by
  have hB := s_BWH hQ.2.2.1.2.B.WH
  have hC := hQ.1.1
  have c3 := s_ok_lt hB hc.1
  have t3 := s_ok_lt hB ht
  have hb := s_st_fr h
  have b3 := s_ok_lt hB hb.1
  have o4 := hQ.2.2.1.2.B.2.2.2.1.2
  obtain ⟨S1, f1, f2, f3⟩ := y_nextQ hQ ha ht hc
  rw [s_nx_st hB hct, h] at f1
  have f1 : fX4_nextCell w_N [.ref 129, .int (nI c), .int (nI t)] S = some (.inl (some (.int (nI b))), S1) := f1
  have nb := nI_nm1 (n := b) (by omega)
  have hA1 := f2.2.1.2
  have hR1 := f2.2.2.1.1
  have hV := f2.2.2.1.2
  have tb := hR1.tO hA1 hV.B
  have p7 := y_put (v := nI (b % 12)) tb ho (f := 7) (by omega)
  have tb7 := tb.put (j := o * 10 + 7) (v := nI (b % 12)) (by omega)
  have p8 := y_put (v := nI (b / 12)) tb7 ho (f := 8) (by omega)
  have tb8 := tb7.put (j := o * 10 + 8) (v := nI (b / 12)) (by omega)
  have g9 := y_get tb8 ho (f := 9) (by omega)
  rw [x_i_I, if_pos rfl, if_neg (by omega), x_i_I, if_pos rfl, if_neg (by omega), hR1.2.2.2.2.2.2.2.1 o 9 ho (by omega)] at g9
  have p9 := y_put (v := R (64 + 10 * o + 9) + nI 1) tb8 ho (f := 9) (by omega)
  obtain ⟨hR3, J3⟩ := y_at (b := b) hA1 hR1 hV ho
  have hA3 := J3.A hA1
  have V3 := hV.go ho hb
  have gw := y_watcher (x := nI (b % 12)) (y := nI (b / 12)) (t := s_n (s_at R o b 5)) hA3 hR3 V3 (by have := V3.B.2.2.2.2.2.2.1.2; omega)
  rw [hw] at gw
  have i5 := hR3.1.2.2.2.2.1.trans V3.B.2.2.2.2.2.2.1.1
  have k6 := xk0 hA1
  have wl : s_wl R (s_at R o b) := fun j hj => s_at_n (by omega)
  generalize hS3 : am_putI (am_putI (am_putI S1 (a + 9) (o * 10 + 7) (nI (b % 12))) (a + 9) (o * 10 + 8) (nI (b / 12))) (a + 9) (o * 10 + 9) (R (64 + 10 * o + 9) + nI 1) = S3 at *
  have k63 := xk0 hA3
  have xo : ∀ T, fX10_xOf w_N [.int (nI b)] T = some (.inl (some (.int (nI (b % 12)))), T) := fun T => y_xOf (by omega)
  have yo : ∀ T, fX10_yOf w_N [.int (nI b)] T = some (.inl (some (.int (nI (b / 12)))), T) := fun T => y_yOf (by omega)
  have k7 := xk8 hA1
  have p4 := V3.B.2.2.1.2
  have np1 := nI_nm1 (n := p) (by omega)
  have gp := y_P7 hA3 hR3 V3.B hp
  have pp := y_put (v := s_at R o b (36 + 7 * p + 6) + nI 1) (hR3.tP hA3 V3.B) hp (f := 7) (by omega)
  have hR4 := hR3.putC (v := s_at R o b (36 + 7 * p + 6) + nI 1) V3.B hp
  have J4 : w_J a S3 (am_putI S3 (a + 5) (p * 8 + 7) (s_at R o b (36 + 7 * p + 6) + nI 1)) := w_J.put (by omega) (by intro q _ _ _; omega)
  have V4 := V3.catch (p := p) (x := s_at R o b (36 + 7 * p + 6) + nI 1) (by omega)
  have e4 : s_at R o b 4 = R 4 := s_at_n (by omega)
  have u3 : va_up (s_at R o b) (36 + 7 * p + 6) (s_at R o b (36 + 7 * p + 6) + nI 1) (64 + 10 * o + 3) = nI 0 := by rw [s_up_n (by omega), s_at_3, hs]
  have u4 : va_up (s_at R o b) (36 + 7 * p + 6) (s_at R o b (36 + 7 * p + 6) + nI 1) 4 = R 4 := by rw [s_up_n (by omega), e4]
  have wl2 : s_wl R (va_up (s_at R o b) (36 + 7 * p + 6) (s_at R o b (36 + 7 * p + 6) + nI 1)) := fun j hj => by rw [s_up_n (by omega)]; exact wl j hj
  have hA4 := J4.A hA3
  have k64 := xk0 hA4
  have k79 := xk4 hA3
  obtain ⟨S5, h5, h6, h7⟩ := y_changeOrder (x := nI 5) (o := o) hA4 hR4 V4 (by rw [u4]; exact ho) (Or.inl u3)
  have V5 := V4.fin (o := o) (k := 5) (by rw [u4]; exact ho) (by rw [u3, s_wg_0]; omega) (by omega) (by omega)
  have r5 := V4.room (o := o) (by rw [u4]; exact ho) (by rw [u3, s_wg_0]; omega)
  have wl3 : s_wl R (s_become (va_up (s_at R o b) (36 + 7 * p + 6) (s_at R o b (36 + 7 * p + 6) + nI 1)) o (nI 5)) := wl2.tr (s_K.bec r5 (by omega)).wl
  refine ⟨S5, ?_, f2.J ha (J3.tr (J4.tr h7)) h6 V5 wl3, f3.O.tr (J3.tr (J4.tr h7)).O⟩
  simp (disch := omega) only [bX1_carry_60, lvC, x_cs0, x_csi, x_csr, x_csn, x_csl, x_ret_v, x_ret_t, x_ret_n, x_tl_s, x_tl_n, x_lk0, x_lk, x_rem0, x_rem_i, x_rem_r, x_rem_l, x_rem2_0, x_rem2_i, x_rem2_r, x_rem2_l, x_pick0, x_pick_c, x_st1, x_st2, x_live, x_i, x_l, x_a, x_ild, x_lld, x_rld, x_ist, x_lst, x_rst, x_inc, x_ii, x_ll, x_li, x_cmp, x_ui, x_il, x_lti, x_idiv, x_irem, x_dup_i, x_dup_r, x_pop_i, x_pop_r, x_dupx_ir, x_dup2_ir, x_ifeq, x_iceq, x_iflt, x_iclt, x_ifge, x_icge, x_ifgt, x_icgt, x_ifle, x_icle, x_ifne, x_icne, x_ifnull_r, x_ifnull_n, x_ifnonnull_r, x_ifnonnull_n, x_sw, x_vret, x_iret, x_lret, x_zret, x_zret0, x_zret1, x_rf_s, x_rf_n, x_geti, x_getr, x_puti, x_putz, x_putr, x_ial, x_ias, x_lal, x_las, x_aal, x_aas, x_aast, x_alen, x_new, x_newa, x_copy, x_min, x_abs, x_minl, x_oinit, x_throw, x_callS0, x_callS1, x_callS2, x_callS3, x_callS4, x_callV0, x_callV1, x_callV2, x_callV3, x_callV4, x_callV5, x_retI_v, x_callI0, x_callI1, x_callI2, x_retN_v, x_callSN1, x_callSN2, x_callT0, x_callT1, x_fn, x_sl0, x_sli, x_slr, x_sll, x_ar0, x_ari, x_arr, x_arl, ↓reduceIte, Nat.reduceAdd, Nat.reduceSub, Nat.reduceMul, Nat.reduceEqDiff, Nat.reduceLeDiff, Nat.reduceLT, if_true, if_false, Nat.le_refl, and_true, true_and, and_self, reduceCtorEq, or_false, false_or, or_true, true_or, Nat.zero_le, fa_lit, nI_add, w_mul, nI_ltI, nI_leI, nI_eq, nI_clamp, nI_toInt, if_pos, if_neg, w_div, w_rem2, yk100 hC, yk125 hC, yk126 hC, yk127 hC, yk128 hC, yk129 hC, yk130 hC, yk131 hC, yk132 hC, yk133 hC, yk134 hC, yk135 hC, yk136 hC, yk137 hC, yl126 hC, yl128 hC, yl130 hC, yl131 hC, yl133 hC, yl137 hC, yr100_0 hC, yr100_1 hC, yr100_2 hC, yr100_3 hC, yr100_4 hC, yr100_5 hC, yr100_6 hC, yr100_7 hC, yr100_8 hC, yr100_9 hC, yr100_10 hC, yr125_0 hC, yr127_0 hC, yr129_0 hC, yr129_1 hC, yr129_2 hC, yr132_0 hC, yr134_0 hC, yr135_0 hC, yr135_1 hC, yr136_0 hC, yr136_1 hC, xk0 hA3, xk1 hA3, xl1 hA3, xk2 hA3, xk3 hA3, xl3 hA3, xr2_2 hA3, xi2_0 hA3, xi2_1 hA3, xk4 hA3, xk5 hA3, xl5 hA3, xr4_2 hA3, xi4_0 hA3, xi4_1 hA3, xk6 hA3, xk7 hA3, xl7 hA3, xr6_2 hA3, xi6_0 hA3, xi6_1 hA3, xk8 hA3, xk9 hA3, xl9 hA3, xr8_2 hA3, xi8_0 hA3, xi8_1 hA3, xk10 hA3, xk11 hA3, xl11 hA3, xr10_2 hA3, xi10_0 hA3, xi10_1 hA3, xr0_7 hA3, xr0_8 hA3, xr0_9 hA3, xr0_10 hA3, xr0_11 hA3, xr0_12 hA3, x_k_I, x_l_I, x_r_I, x_j_I, x_n_I, x_z_I, x_i_Is, x_k_W, x_l_W, x_r_W, x_j_W, x_n_W, x_z_W, x_k_J, x_l_J, x_r_J, x_i_J, x_n_J, x_z_J, x_k_R, x_l_R, x_j_R, x_i_R, x_n_R, x_z_R, x_n_N, x_z_N, x_k_N, x_l_N, x_i_N, x_j_N, x_r_N, f1, nb, k6, k7, k63, k64, k79, xo, yo, p7, p8, g9, p9, i5, gw, np1, gp, pp, h5]
end Y13
