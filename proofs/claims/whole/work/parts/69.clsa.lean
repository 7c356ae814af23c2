/-! THE CLASS: arriving -/
section Y10
variable {S S' S2 : am_S} {x y z v : Int32} {i j o u n w hh c d b m t p np ne no a T P Q L f k D E hd j0 m0 cl : Nat} {R R' F : Nat → Int32} {q : s_Q} {r r4 : am_K}
theorem s_bec_up (h1 : i < 64) (h2 : 12 ≤ i) (ho : o < 40) : ∀ j, s_bec (va_up R i v) ne o x j = va_up (s_bec R ne o x) i v j := by
  intro j
  by_cases e : j = i
  · subst e
    rw [s_up_s]
    unfold s_bec
    simp (disch := omega) only [s_up_n, s_up_s]
  · rw [s_up_n e]
    unfold s_bec
    rw [s_up_n (show 5 ≠ i by omega)]
    by_cases j7 : j = 7
    · subst j7
      simp (disch := omega) only [s_up_n, s_up_s]
    · by_cases j3 : j = 64 + 10 * o + 3
      · subst j3
        simp (disch := omega) only [s_up_n, s_up_s]
      · by_cases j6 : j = 64 + 10 * o + 6
        · subst j6
          simp (disch := omega) only [s_up_n, s_up_s]
        · rw [s_up_n j6, s_up_n j3, s_up_n j7, s_up_n j6, s_up_n j3, s_up_n j7]
          simp only [s_up, if_neg e]
theorem y_arr54 (hA : w_A S a) (h : w_R S a R) (hB : s_VB R) (ho : o < s_n (R 4)) (hu : u < s_n (R 2)) (hn : s_n (R 7) < 80) (he : R (64 + 10 * o + 6) = -nI 1) :
    ∃ S', kX1_arrive_54 w_N [(4, .int z), (1, .ref a), (2, .int (nI o)), (3, .int (nI u))] [] S = some (.inl none, S') ∧ w_R S' a (va_up (s_become R o (nI 1)) (12 + 4 * u + 3) (nI o)) ∧ w_J a S S' := by
  have b4 := hB.2.2.2.1.2
  have b2 := hB.2.1.2
  have p1 := y_put (v := nI o) (h.tU hA hB) hu (f := 3) (by omega)
  have h1 := h.putU (v := nI o) hB hu (f := 3) (by omega)
  have J1 : w_J a S (am_putI S (a + 3) (u * 4 + 3) (nI o)) := w_J.put (by omega) (by intro q _ _ _; omega)
  have hc : ∀ j, j ≠ 12 + 4 * u + 3 → va_up R (12 + 4 * u + 3) (nI o) j = R j := fun j hj => s_up_n hj
  have hB1 : s_VB (va_up R (12 + 4 * u + 3) (nI o)) := hB.congs (by rw [hc 7 (by omega)]; exact hB.2.2.2.2.1) (fun j _ hj => hc j (by omega))
  obtain ⟨S2, f1, f2, f3⟩ := y_change0 (x := nI 1) (J1.A hA) h1 hB1 (o := o) (by rw [hc 4 (by omega)]; exact ho) (by rw [hc 7 (by omega)]; exact hn) (by rw [hc _ (by omega)]; exact he)
  have e7 : va_up R (12 + 4 * u + 3) (nI o) 7 = R 7 := hc 7 (by omega)
  have k6 : am_k (am_putI S (a + 3) (u * 4 + 3) (nI o)) a = 6 := xk0 (J1.A hA)
  have hv : ∀ j, va_up (s_become R o (nI 1)) (12 + 4 * u + 3) (nI o) j = s_become (va_up R (12 + 4 * u + 3) (nI o)) o (nI 1) j := fun j => by
    unfold s_become
    rw [e7, s_bec_up (by omega) (by omega) (by omega)]
  refine ⟨S2, ?_, f2.congR ?_ (fun j _ => hv j), J1.tr f3⟩
  · simp (disch := omega) only [kX1_arrive_54, x_cs0, x_csi, x_csr, x_csn, x_csl, x_ret_v, x_ret_t, x_ret_n, x_tl_s, x_tl_n, x_lk0, x_lk, x_rem0, x_rem_i, x_rem_r, x_rem_l, x_rem2_0, x_rem2_i, x_rem2_r, x_rem2_l, x_pick0, x_pick_c, x_st1, x_st2, x_live, x_i, x_l, x_a, x_ild, x_lld, x_rld, x_ist, x_lst, x_rst, x_inc, x_ii, x_ll, x_li, x_cmp, x_ui, x_il, x_lti, x_idiv, x_irem, x_dup_i, x_dup_r, x_pop_i, x_pop_r, x_dupx_ir, x_dup2_ir, x_ifeq, x_iceq, x_iflt, x_iclt, x_ifge, x_icge, x_ifgt, x_icgt, x_ifle, x_icle, x_ifne, x_icne, x_ifnull_r, x_ifnull_n, x_ifnonnull_r, x_ifnonnull_n, x_sw, x_vret, x_iret, x_lret, x_zret, x_zret0, x_zret1, x_rf_s, x_rf_n, x_geti, x_getr, x_puti, x_putz, x_putr, x_ial, x_ias, x_lal, x_las, x_aal, x_aas, x_aast, x_alen, x_new, x_newa, x_copy, x_min, x_abs, x_minl, x_oinit, x_throw, x_callS0, x_callS1, x_callS2, x_callS3, x_callS4, x_callV0, x_callV1, x_callV2, x_callV3, x_callV4, x_callV5, x_retI_v, x_callI0, x_callI1, x_callI2, x_retN_v, x_callSN1, x_callSN2, x_callT0, x_callT1, x_fn, x_sl0, x_sli, x_slr, x_sll, x_ar0, x_ari, x_arr, x_arl, ↓reduceIte, Nat.reduceAdd, Nat.reduceSub, Nat.reduceMul, Nat.reduceEqDiff, Nat.reduceLeDiff, Nat.reduceLT, if_true, if_false, Nat.le_refl, and_true, true_and, and_self, reduceCtorEq, or_false, false_or, or_true, true_or, Nat.zero_le, fa_lit, nI_add, w_mul, nI_ltI, nI_leI, nI_eq, nI_clamp, nI_toInt, if_pos, if_neg, w_div, w_rem2, xk0 hA, xk1 hA, xl1 hA, xk2 hA, xk3 hA, xl3 hA, xr2_2 hA, xi2_0 hA, xi2_1 hA, xk4 hA, xk5 hA, xl5 hA, xr4_2 hA, xi4_0 hA, xi4_1 hA, xk6 hA, xk7 hA, xl7 hA, xr6_2 hA, xi6_0 hA, xi6_1 hA, xk8 hA, xk9 hA, xl9 hA, xr8_2 hA, xi8_0 hA, xi8_1 hA, xk10 hA, xk11 hA, xl11 hA, xr10_2 hA, xi10_0 hA, xi10_1 hA, xr0_7 hA, xr0_8 hA, xr0_9 hA, xr0_10 hA, xr0_11 hA, xr0_12 hA, k6, p1, f1]
  · rw [hv, hv, hv, hv, hv]
    unfold s_become
    rw [s_bec_7, e7, w_snI (by omega), s_bec_n (by omega) (by omega) (by omega) (by omega), s_bec_n (by omega) (by omega) (by omega) (by omega), s_bec_n (by omega) (by omega) (by omega) (by omega), s_bec_n (by omega) (by omega) (by omega) (by omega), hc 2 (by omega), hc 3 (by omega), hc 4 (by omega), hc 8 (by omega)]
    exact ⟨hB.2.1.2, hB.2.2.1.2, hB.2.2.2.1.2, by omega, hB.2.2.2.2.2.1.2⟩
theorem y_arrive (hA : w_A S a) (h : w_R S a R) (hV : s_V R) (ho : o < s_n (R 4)) (hs : R (64 + 10 * o + 3) = nI 0) (hu : s_n (R (64 + 10 * o + 0)) = u) :
    ∃ S', fX1_arrive w_N [.ref cl, .ref a, .int (nI o), .int (nI u)] S = some (.inl none, S') ∧ w_R S' a (s_arrive R o) ∧ w_J a S S' := by
  have hB := hV.B
  have b4 := hB.2.2.2.1.2
  have b2 := hB.2.1.2
  have hu2 : u < s_n (R 2) := by rw [← hu]; exact (hV.O o ho).1.1.2
  have p1 := y_put (v := R 5) (h.tO hA hB) ho (f := 5) (by omega)
  have h1 := h.putO (v := R 5) hB ho (f := 5) (by omega)
  have J1 : w_J a S (am_putI S (a + 9) (o * 10 + 5) (R 5)) := w_J.put (by omega) (by intro q _ _ _; omega)
  have hA1 := J1.A hA
  have V1 := hV.arr5 ho
  have e5 : am_i S a 4 = R 5 := h.1.2.2.2.2.1
  have e0 : va_up R (64 + 10 * o + 5) (R 5) (64 + 10 * o + 0) = R (64 + 10 * o + 0) := s_up_n (by omega)
  have e3 : va_up R (64 + 10 * o + 5) (R 5) (64 + 10 * o + 3) = nI 0 := by rw [s_up_n (by omega), hs]
  have e4 : va_up R (64 + 10 * o + 5) (R 5) 4 = R 4 := s_up_n (by omega)
  have e2 : va_up R (64 + 10 * o + 5) (R 5) 2 = R 2 := s_up_n (by omega)
  have eP : ∀ p, va_up R (64 + 10 * o + 5) (R 5) (64 + 10 * p + 0) = R (64 + 10 * p + 0) ∧ va_up R (64 + 10 * o + 5) (R 5) (64 + 10 * p + 3) = R (64 + 10 * p + 3) := fun p => ⟨s_up_n (by omega), s_up_n (by omega)⟩
  have eob := s_ob_cong (R := R) (x := nI u) e4 (fun p _ => eP p)
  have eg : va_up R (64 + 10 * o + 5) (R 5) (12 + 4 * u + 3) = R (12 + 4 * u + 3) := s_up_n (by omega)
  unfold s_arrive
  dsimp only
  rw [hu]
  generalize hR1 : va_up R (64 + 10 * o + 5) (R 5) = R1 at *
  generalize hS1 : am_putI S (a + 9) (o * 10 + 5) (R 5) = S1 at *
  have ho1 : o < s_n (R1 4) := by rw [e4]; exact ho
  have hu1 : u < s_n (R1 2) := by rw [e2]; exact hu2
  have g3 := y_U hA1 h1 V1.B hu1 (f := 3) (by omega)
  rw [eg] at g3
  have gob := y_obeyedBy hA1 h1 V1 hu1
  rw [eob] at gob
  have hr1 := V1.room ho1 (by rw [e3, s_wg_0]; omega)
  have hend := (V1.O o ho1).2.2.2 (Or.inl e3)
  by_cases c1 : nI o < R (12 + 4 * u + 3)
  · have c2 : ¬ R (12 + 4 * u + 3) ≤ nI o := fun q => by
      rw [fa_le] at q
      rw [fa_lt] at c1
      omega
    obtain ⟨S2, f1, f2, f3⟩ := y_changeOrder (x := nI 3) hA1 h1 V1 ho1 (Or.inl e3)
    rw [if_pos c1]
    refine ⟨S2, ?_, f2, J1.tr f3⟩
    simp (disch := omega) only [fX1_arrive, kX1_arrive_0, x_cs0, x_csi, x_csr, x_csn, x_csl, x_ret_v, x_ret_t, x_ret_n, x_tl_s, x_tl_n, x_lk0, x_lk, x_rem0, x_rem_i, x_rem_r, x_rem_l, x_rem2_0, x_rem2_i, x_rem2_r, x_rem2_l, x_pick0, x_pick_c, x_st1, x_st2, x_live, x_i, x_l, x_a, x_ild, x_lld, x_rld, x_ist, x_lst, x_rst, x_inc, x_ii, x_ll, x_li, x_cmp, x_ui, x_il, x_lti, x_idiv, x_irem, x_dup_i, x_dup_r, x_pop_i, x_pop_r, x_dupx_ir, x_dup2_ir, x_ifeq, x_iceq, x_iflt, x_iclt, x_ifge, x_icge, x_ifgt, x_icgt, x_ifle, x_icle, x_ifne, x_icne, x_ifnull_r, x_ifnull_n, x_ifnonnull_r, x_ifnonnull_n, x_sw, x_vret, x_iret, x_lret, x_zret, x_zret0, x_zret1, x_rf_s, x_rf_n, x_geti, x_getr, x_puti, x_putz, x_putr, x_ial, x_ias, x_lal, x_las, x_aal, x_aas, x_aast, x_alen, x_new, x_newa, x_copy, x_min, x_abs, x_minl, x_oinit, x_throw, x_callS0, x_callS1, x_callS2, x_callS3, x_callS4, x_callV0, x_callV1, x_callV2, x_callV3, x_callV4, x_callV5, x_retI_v, x_callI0, x_callI1, x_callI2, x_retN_v, x_callSN1, x_callSN2, x_callT0, x_callT1, x_fn, x_sl0, x_sli, x_slr, x_sll, x_ar0, x_ari, x_arr, x_arl, ↓reduceIte, Nat.reduceAdd, Nat.reduceSub, Nat.reduceMul, Nat.reduceEqDiff, Nat.reduceLeDiff, Nat.reduceLT, if_true, if_false, Nat.le_refl, and_true, true_and, and_self, reduceCtorEq, or_false, false_or, or_true, true_or, Nat.zero_le, fa_lit, nI_add, w_mul, nI_ltI, nI_leI, nI_eq, nI_clamp, nI_toInt, if_pos, if_neg, w_div, w_rem2, xk0 hA, xk1 hA, xl1 hA, xk2 hA, xk3 hA, xl3 hA, xr2_2 hA, xi2_0 hA, xi2_1 hA, xk4 hA, xk5 hA, xl5 hA, xr4_2 hA, xi4_0 hA, xi4_1 hA, xk6 hA, xk7 hA, xl7 hA, xr6_2 hA, xi6_0 hA, xi6_1 hA, xk8 hA, xk9 hA, xl9 hA, xr8_2 hA, xi8_0 hA, xi8_1 hA, xk10 hA, xk11 hA, xl11 hA, xr10_2 hA, xi10_0 hA, xi10_1 hA, xr0_7 hA, xr0_8 hA, xr0_9 hA, xr0_10 hA, xr0_11 hA, xr0_12 hA, xk0 hA1, xk1 hA1, xl1 hA1, xk2 hA1, xk3 hA1, xl3 hA1, xr2_2 hA1, xi2_0 hA1, xi2_1 hA1, xk4 hA1, xk5 hA1, xl5 hA1, xr4_2 hA1, xi4_0 hA1, xi4_1 hA1, xk6 hA1, xk7 hA1, xl7 hA1, xr6_2 hA1, xi6_0 hA1, xi6_1 hA1, xk8 hA1, xk9 hA1, xl9 hA1, xr8_2 hA1, xi8_0 hA1, xi8_1 hA1, xk10 hA1, xk11 hA1, xl11 hA1, xr10_2 hA1, xi10_0 hA1, xi10_1 hA1, xr0_7 hA1, xr0_8 hA1, xr0_9 hA1, xr0_10 hA1, xr0_11 hA1, xr0_12 hA1, e5, p1, g3, c2, f1]
  · have c2 := fa_of_nlt c1
    rw [if_neg c1]
    rcases s_ob_sp (R := R) (x := nI u) with ⟨k1, k2⟩ | ⟨p, k1, k2, k3, k4⟩
    · rw [if_pos k1]
      rw [k1] at gob
      obtain ⟨S2, f1, f2, f3⟩ := y_arr54 (z := -nI 1) hA1 h1 V1.B ho1 hu1 hr1 hend
      refine ⟨S2, ?_, f2, J1.tr f3⟩
      simp (disch := omega) only [fX1_arrive, kX1_arrive_0, x_cs0, x_csi, x_csr, x_csn, x_csl, x_ret_v, x_ret_t, x_ret_n, x_tl_s, x_tl_n, x_lk0, x_lk, x_rem0, x_rem_i, x_rem_r, x_rem_l, x_rem2_0, x_rem2_i, x_rem2_r, x_rem2_l, x_pick0, x_pick_c, x_st1, x_st2, x_live, x_i, x_l, x_a, x_ild, x_lld, x_rld, x_ist, x_lst, x_rst, x_inc, x_ii, x_ll, x_li, x_cmp, x_ui, x_il, x_lti, x_idiv, x_irem, x_dup_i, x_dup_r, x_pop_i, x_pop_r, x_dupx_ir, x_dup2_ir, x_ifeq, x_iceq, x_iflt, x_iclt, x_ifge, x_icge, x_ifgt, x_icgt, x_ifle, x_icle, x_ifne, x_icne, x_ifnull_r, x_ifnull_n, x_ifnonnull_r, x_ifnonnull_n, x_sw, x_vret, x_iret, x_lret, x_zret, x_zret0, x_zret1, x_rf_s, x_rf_n, x_geti, x_getr, x_puti, x_putz, x_putr, x_ial, x_ias, x_lal, x_las, x_aal, x_aas, x_aast, x_alen, x_new, x_newa, x_copy, x_min, x_abs, x_minl, x_oinit, x_throw, x_callS0, x_callS1, x_callS2, x_callS3, x_callS4, x_callV0, x_callV1, x_callV2, x_callV3, x_callV4, x_callV5, x_retI_v, x_callI0, x_callI1, x_callI2, x_retN_v, x_callSN1, x_callSN2, x_callT0, x_callT1, x_fn, x_sl0, x_sli, x_slr, x_sll, x_ar0, x_ari, x_arr, x_arl, ↓reduceIte, Nat.reduceAdd, Nat.reduceSub, Nat.reduceMul, Nat.reduceEqDiff, Nat.reduceLeDiff, Nat.reduceLT, if_true, if_false, Nat.le_refl, and_true, true_and, and_self, reduceCtorEq, or_false, false_or, or_true, true_or, Nat.zero_le, fa_lit, nI_add, w_mul, nI_ltI, nI_leI, nI_eq, nI_clamp, nI_toInt, if_pos, if_neg, w_div, w_rem2, xk0 hA, xk1 hA, xl1 hA, xk2 hA, xk3 hA, xl3 hA, xr2_2 hA, xi2_0 hA, xi2_1 hA, xk4 hA, xk5 hA, xl5 hA, xr4_2 hA, xi4_0 hA, xi4_1 hA, xk6 hA, xk7 hA, xl7 hA, xr6_2 hA, xi6_0 hA, xi6_1 hA, xk8 hA, xk9 hA, xl9 hA, xr8_2 hA, xi8_0 hA, xi8_1 hA, xk10 hA, xk11 hA, xl11 hA, xr10_2 hA, xi10_0 hA, xi10_1 hA, xr0_7 hA, xr0_8 hA, xr0_9 hA, xr0_10 hA, xr0_11 hA, xr0_12 hA, xk0 hA1, xk1 hA1, xl1 hA1, xk2 hA1, xk3 hA1, xl3 hA1, xr2_2 hA1, xi2_0 hA1, xi2_1 hA1, xk4 hA1, xk5 hA1, xl5 hA1, xr4_2 hA1, xi4_0 hA1, xi4_1 hA1, xk6 hA1, xk7 hA1, xl7 hA1, xr6_2 hA1, xi6_0 hA1, xi6_1 hA1, xk8 hA1, xk9 hA1, xl9 hA1, xr8_2 hA1, xi8_0 hA1, xi8_1 hA1, xk10 hA1, xk11 hA1, xl11 hA1, xr10_2 hA1, xi10_0 hA1, xi10_1 hA1, xr0_7 hA1, xr0_8 hA1, xr0_9 hA1, xr0_10 hA1, xr0_11 hA1, xr0_12 hA1, e5, p1, g3, c2, gob, f1]
    · have m1 := nI_nm1 (n := p) (by omega)
      rw [k4] at gob
      rw [k4, if_neg m1, w_snI (by omega)]
      have hp1 : p < s_n (R1 4) := by rw [e4]; exact k1
      have hsp : R1 (64 + 10 * p + 3) = nI 1 := by rw [(eP p).2, k3]
      have po : p ≠ o := fun q => by
        rw [q, hs] at k3
        exact nI_ne01 k3
      obtain ⟨S2, f1, f2, f3⟩ := y_changeOrder (x := nI 6) hA1 h1 V1 hp1 (Or.inr hsp)
      have V2 := V1.fin (o := p) (k := 6) hp1 (s_wg_c (Or.inr hsp)) (by omega) (by omega)
      have hr7 := V1.room hp1 (s_wg_c (Or.inr hsp))
      have hb : ∀ j, j ≠ 7 → j ≠ 64 + 10 * p + 3 → j ≠ 64 + 10 * p + 6 → j < 544 → s_become R1 p (nI 6) j = R1 j := fun j j1 j2 j3 j4 => s_bec_n j1 j2 j3 (by omega)
      have V2 : s_V (s_become R1 p (nI 6)) := V2
      have ho2 : o < s_n (s_become R1 p (nI 6) 4) := by rw [hb 4 (by omega) (by omega) (by omega) (by omega)]; exact ho1
      have hs2 : s_become R1 p (nI 6) (64 + 10 * o + 3) = nI 0 := by rw [hb _ (by omega) (by omega) (by omega) (by omega)]; exact e3
      obtain ⟨S3, f4, f5, f6⟩ := y_arr54 (z := nI p) (o := o) (u := u) (f3.A hA1) f2 V2.B ho2 (by rw [hb 2 (by omega) (by omega) (by omega) (by omega)]; exact hu1) (V2.room ho2 (by rw [hs2, s_wg_0]; omega)) ((V2.O o ho2).2.2.2 (Or.inl hs2))
      refine ⟨S3, ?_, f5, J1.tr (f3.tr f6)⟩
      simp (disch := omega) only [fX1_arrive, kX1_arrive_0, x_cs0, x_csi, x_csr, x_csn, x_csl, x_ret_v, x_ret_t, x_ret_n, x_tl_s, x_tl_n, x_lk0, x_lk, x_rem0, x_rem_i, x_rem_r, x_rem_l, x_rem2_0, x_rem2_i, x_rem2_r, x_rem2_l, x_pick0, x_pick_c, x_st1, x_st2, x_live, x_i, x_l, x_a, x_ild, x_lld, x_rld, x_ist, x_lst, x_rst, x_inc, x_ii, x_ll, x_li, x_cmp, x_ui, x_il, x_lti, x_idiv, x_irem, x_dup_i, x_dup_r, x_pop_i, x_pop_r, x_dupx_ir, x_dup2_ir, x_ifeq, x_iceq, x_iflt, x_iclt, x_ifge, x_icge, x_ifgt, x_icgt, x_ifle, x_icle, x_ifne, x_icne, x_ifnull_r, x_ifnull_n, x_ifnonnull_r, x_ifnonnull_n, x_sw, x_vret, x_iret, x_lret, x_zret, x_zret0, x_zret1, x_rf_s, x_rf_n, x_geti, x_getr, x_puti, x_putz, x_putr, x_ial, x_ias, x_lal, x_las, x_aal, x_aas, x_aast, x_alen, x_new, x_newa, x_copy, x_min, x_abs, x_minl, x_oinit, x_throw, x_callS0, x_callS1, x_callS2, x_callS3, x_callS4, x_callV0, x_callV1, x_callV2, x_callV3, x_callV4, x_callV5, x_retI_v, x_callI0, x_callI1, x_callI2, x_retN_v, x_callSN1, x_callSN2, x_callT0, x_callT1, x_fn, x_sl0, x_sli, x_slr, x_sll, x_ar0, x_ari, x_arr, x_arl, ↓reduceIte, Nat.reduceAdd, Nat.reduceSub, Nat.reduceMul, Nat.reduceEqDiff, Nat.reduceLeDiff, Nat.reduceLT, if_true, if_false, Nat.le_refl, and_true, true_and, and_self, reduceCtorEq, or_false, false_or, or_true, true_or, Nat.zero_le, fa_lit, nI_add, w_mul, nI_ltI, nI_leI, nI_eq, nI_clamp, nI_toInt, if_pos, if_neg, w_div, w_rem2, xk0 hA, xk1 hA, xl1 hA, xk2 hA, xk3 hA, xl3 hA, xr2_2 hA, xi2_0 hA, xi2_1 hA, xk4 hA, xk5 hA, xl5 hA, xr4_2 hA, xi4_0 hA, xi4_1 hA, xk6 hA, xk7 hA, xl7 hA, xr6_2 hA, xi6_0 hA, xi6_1 hA, xk8 hA, xk9 hA, xl9 hA, xr8_2 hA, xi8_0 hA, xi8_1 hA, xk10 hA, xk11 hA, xl11 hA, xr10_2 hA, xi10_0 hA, xi10_1 hA, xr0_7 hA, xr0_8 hA, xr0_9 hA, xr0_10 hA, xr0_11 hA, xr0_12 hA, xk0 hA1, xk1 hA1, xl1 hA1, xk2 hA1, xk3 hA1, xl3 hA1, xr2_2 hA1, xi2_0 hA1, xi2_1 hA1, xk4 hA1, xk5 hA1, xl5 hA1, xr4_2 hA1, xi4_0 hA1, xi4_1 hA1, xk6 hA1, xk7 hA1, xl7 hA1, xr6_2 hA1, xi6_0 hA1, xi6_1 hA1, xk8 hA1, xk9 hA1, xl9 hA1, xr8_2 hA1, xi8_0 hA1, xi8_1 hA1, xk10 hA1, xk11 hA1, xl11 hA1, xr10_2 hA1, xi10_0 hA1, xi10_1 hA1, xr0_7 hA1, xr0_8 hA1, xr0_9 hA1, xr0_10 hA1, xr0_11 hA1, xr0_12 hA1, e5, p1, g3, c2, gob, m1, f1, f4]
end Y10
