/-! THE CLASS: patience, plans, pickets -/
section I4
variable {S S' T : am_S} {a b c o p q i j k m n u t D z d : Nat} {P : Nat → Prop} {R R' Q : Nat → Int32} {M M' : Nat → Nat → Int32} {x y v : Int32}
theorem s_V.chg (h : s_V R) (hB : s_VB R') (h2 : R' 2 = R 2) (h3 : R' 3 = R 3) (h4 : R' 4 = R 4) (h7 : R' 7 = R 7) (h8 : R' 8 = R 8) (U : ∀ u, u < s_n (R 2) → s_Vu R' u) (P : ∀ p, p < s_n (R 3) → s_Vp R' p) (L : ∀ p, p < s_n (R 8) → s_Vl R' p) (O : ∀ o, o < s_n (R 4) → s_Vo R' o) (hs : ∀ o, o < s_n (R 4) → R' (64 + 10 * o + 3) = R (64 + 10 * o + 3)) : s_V R' := by
  refine ⟨hB, by rw [h2]; exact U, by rw [h3]; exact P, by rw [h8]; exact L, by rw [h4]; exact O, ?_⟩
  have e := h.E
  unfold s_VE at e ⊢
  rw [h4, h7, fb_sm_cong (g := fun o => s_wg (R (64 + 10 * o + 3))) (fun p hp => by rw [hs p hp])]
  exact e
theorem s_V.pat (h : s_V R) (h0 : 0 < k) (hk : k < 31) : s_V (va_up R 9 (nI k)) := by
  have hc : ∀ j, j ≠ 9 → va_up R 9 (nI k) j = R j := fun j hj => s_up_n hj
  have b2 := h.B.2.1.2
  have b3 := h.B.2.2.1.2
  have b4 := h.B.2.2.2.1.2
  have b8 := h.B.2.2.2.2.2.1.2
  refine h.chg ?_ (hc 2 (by omega)) (hc 3 (by omega)) (hc 4 (by omega)) (hc 7 (by omega)) (hc 8 (by omega)) (fun u hu => (h.U u hu).cong h.B (by omega) (fun j hj => hc j (by omega))) (fun p hp => (h.P p hp).cong (by omega) (fun j hj => hc j (by omega))) (fun p hp => (h.L p hp).cong (by omega) (fun j hj => hc j (by omega))) (fun o ho => (h.O o ho).cong h.B (by omega) (fun j hj => hc j (by omega)) (fun u _ _ _ => hc _ (by omega))) (fun o _ => hc _ (by omega))
  have q := h.B
  have c9 : va_up R 9 (nI k) 9 = nI k := s_up_s
  have m1 : s_n (R 10) < s_n (R 0) := q.2.2.2.2.2.2.2.2.1.1.1.2
  have m2 : s_n (R 11) < s_n (R 1) := q.2.2.2.2.2.2.2.2.1.1.2.2
  have q0 := q.1.1.2
  have q1 := q.1.2.2.1.2
  unfold s_VB at q ⊢
  simp (disch := omega) only [s_in, s_w, s_h, s_ce, hc, c9]
  exact ⟨q.1, q.2.1, q.2.2.1, q.2.2.2.1, q.2.2.2.2.1, q.2.2.2.2.2.1, q.2.2.2.2.2.2.1, ⟨s_nnI hk (by omega), by rw [w_snI (by omega)]; exact h0⟩, q.2.2.2.2.2.2.2.2.1, q.2.2.2.2.2.2.2.2.2⟩
theorem s_V.plan (h : s_V R) (hp : p < s_n (R 8)) (hk : k < 500) : s_V (va_up R (464 + 4 * p + 3) (nI k)) := by
  have b2 := h.B.2.1.2
  have b3 := h.B.2.2.1.2
  have b4 := h.B.2.2.2.1.2
  have b8 := h.B.2.2.2.2.2.1.2
  have hc : ∀ j, j ≠ 464 + 4 * p + 3 → va_up R (464 + 4 * p + 3) (nI k) j = R j := fun j hj => s_up_n hj
  refine h.chg (h.B.congs (by rw [hc 7 (by omega)]; exact h.B.2.2.2.2.1) (fun j _ hj => hc j (by omega))) (hc 2 (by omega)) (hc 3 (by omega)) (hc 4 (by omega)) (hc 7 (by omega)) (hc 8 (by omega)) (fun u hu => (h.U u hu).cong h.B (by omega) (fun j hj => hc j (by omega))) (fun p hp => (h.P p hp).cong (by omega) (fun j hj => hc j (by omega))) (fun p2 hp2 => ?_) (fun o ho => (h.O o ho).cong h.B (by omega) (fun j hj => hc j (by omega)) (fun u _ _ _ => hc _ (by omega))) (fun o _ => hc _ (by omega))
  by_cases e : p2 = p
  · subst e
    have q := h.L p2 hp2
    have c3 : va_up R (464 + 4 * p2 + 3) (nI k) (464 + 4 * p2 + 3) = nI k := s_up_s
    unfold s_Vl at q ⊢
    simp (disch := omega) only [s_in, s_w, s_h, hc, c3]
    exact ⟨q.1, q.2.1, s_nnI hk (by omega)⟩
  · exact (h.L p2 hp2).cong (by omega) (fun j hj => hc j (by omega))
theorem s_V.pick (h : s_V R) (hp : p < s_n (R 3)) (hx : s_in R x y) : s_V (va_up (va_up R (36 + 7 * p + 0) x) (36 + 7 * p + 1) y) := by
  have b2 := h.B.2.1.2
  have b3 := h.B.2.2.1.2
  have b4 := h.B.2.2.2.1.2
  have b8 := h.B.2.2.2.2.2.1.2
  have hc : ∀ j, j ≠ 36 + 7 * p + 0 → j ≠ 36 + 7 * p + 1 → va_up (va_up R (36 + 7 * p + 0) x) (36 + 7 * p + 1) y j = R j := fun j h1 h2 => by rw [s_up_n h2, s_up_n h1]
  refine h.chg (h.B.congs (by rw [hc 7 (by omega) (by omega)]; exact h.B.2.2.2.2.1) (fun j _ hj => hc j (by omega) (by omega))) (hc 2 (by omega) (by omega)) (hc 3 (by omega) (by omega)) (hc 4 (by omega) (by omega)) (hc 7 (by omega) (by omega)) (hc 8 (by omega) (by omega)) (fun u hu => (h.U u hu).cong h.B (by omega) (fun j hj => hc j (by omega) (by omega))) (fun p2 hp2 => ?_) (fun p hp => (h.L p hp).cong (by omega) (fun j hj => hc j (by omega) (by omega))) (fun o ho => (h.O o ho).cong h.B (by omega) (fun j hj => hc j (by omega) (by omega)) (fun u _ _ _ => hc _ (by omega) (by omega))) (fun o _ => hc _ (by omega) (by omega))
  by_cases e : p2 = p
  · subst e
    have q := h.P p2 hp2
    have c0 : va_up (va_up R (36 + 7 * p2 + 0) x) (36 + 7 * p2 + 1) y (36 + 7 * p2 + 0) = x := by rw [s_up_n (by omega), s_up_s]
    have c1 : va_up (va_up R (36 + 7 * p2 + 0) x) (36 + 7 * p2 + 1) y (36 + 7 * p2 + 1) = y := s_up_s
    unfold s_Vp at q ⊢
    rw [c0, c1]
    simp (disch := omega) only [s_in, s_w, s_h, hc]
    exact ⟨hx, q.2⟩
  · exact (h.P p2 hp2).cong (by omega) (fun j hj => hc j (by omega) (by omega))
/-! setPatience -/
def u_setPatience (M : Nat → Nat → Int32) (x : Int32) : (Nat × Int32) × (Nat → Nat → Int32) := if s_rg x 1 30 then ((0, M 139 9), va_up (s_rec M) 139 (va_up (M 139) 9 x)) else ((1, 0), M)
abbrev o_q (c : Nat) (v : Int32) : am_O := if c = 0 then .inl (some (.int v)) else .inr E_I
theorem y_setPatience (h : w_Ic S M) : ∃ S', fX10_setPatience w_N [.ref 100, .int x] S = some (o_q (u_setPatience M x).1.1 (u_setPatience M x).1.2, S') ∧ w_Ic S' (u_setPatience M x).2 ∧ w_le 13 959 S S' ∧ w_kp S S' := by
  have hL := h.L
  have hC := h.1.1
  have hA := hL.2.1
  have hV := hL.2.2.2
  unfold u_setPatience
  by_cases c1 : s_rg x 1 30
  · rw [if_pos c1]
    have hk : ∃ k, x = nI k ∧ 0 < k ∧ k < 31 := by
      refine ⟨x.toInt.toNat, ?_, by have := c1.1; have := c1.2; omega, by have := c1.1; have := c1.2; omega⟩
      rw [fa_eq, nI_toInt (by have := c1.2; omega)]
      have := c1.1
      omega
    obtain ⟨k, rfl, k0, k1⟩ := hk
    obtain ⟨S1, f1, f2, f3, f4⟩ := y_rec h
    have hL1 := f2.L
    rw [s_rec_139] at hL1
    have hA1 := hL1.2.1
    have hC1 := hL1.1
    have e5 := hL1.2.2.1.1.2.2.2.2.2.1
    have hJ : w_J 101 S1 (am_putI S1 101 5 (nI k)) := w_J.puta (by omega)
    refine ⟨am_putI S1 101 5 (nI k), ?_, ?_, (f3.tr (w_le.I hJ.1)).mono (by omega) (by omega), f4.tr (w_kp.J hJ (Or.inl rfl))⟩
    · have e5' : am_i S1 101 5 = M 139 9 := e5
      simp (disch := omega) only [fX10_setPatience, kX10_setPatience_11, kX10_setPatience_0, x_cs0, x_csi, x_csr, x_csn, x_csl, x_ret_v, x_ret_t, x_ret_n, x_tl_s, x_tl_n, x_lk0, x_lk, x_rem0, x_rem_i, x_rem_r, x_rem_l, x_rem2_0, x_rem2_i, x_rem2_r, x_rem2_l, x_pick0, x_pick_c, x_st1, x_st2, x_live, x_i, x_l, x_a, x_ild, x_lld, x_rld, x_ist, x_lst, x_rst, x_inc, x_ii, x_ll, x_li, x_cmp, x_ui, x_il, x_lti, x_idiv, x_irem, x_dup_i, x_dup_r, x_pop_i, x_pop_r, x_dupx_ir, x_dup2_ir, x_ifeq, x_iceq, x_iflt, x_iclt, x_ifge, x_icge, x_ifgt, x_icgt, x_ifle, x_icle, x_ifne, x_icne, x_ifnull_r, x_ifnull_n, x_ifnonnull_r, x_ifnonnull_n, x_sw, x_vret, x_iret, x_lret, x_zret, x_zret0, x_zret1, x_rf_s, x_rf_n, x_geti, x_getr, x_puti, x_putz, x_putr, x_ial, x_ias, x_lal, x_las, x_aal, x_aas, x_aast, x_alen, x_new, x_newa, x_copy, x_min, x_abs, x_minl, x_oinit, x_throw, x_callS0, x_callS1, x_callS2, x_callS3, x_callS4, x_callV0, x_callV1, x_callV2, x_callV3, x_callV4, x_callV5, x_retI_v, x_callI0, x_callI1, x_callI2, x_retN_v, x_callSN1, x_callSN2, x_callT0, x_callT1, x_fn, x_sl0, x_sli, x_slr, x_sll, x_ar0, x_ari, x_arr, x_arl, ↓reduceIte, Nat.reduceAdd, Nat.reduceSub, Nat.reduceMul, Nat.reduceEqDiff, Nat.reduceLeDiff, Nat.reduceLT, if_true, if_false, Nat.le_refl, and_true, true_and, and_self, reduceCtorEq, or_false, false_or, or_true, true_or, Nat.zero_le, fa_lit, nI_add, w_mul, nI_ltI, nI_leI, nI_eq, nI_clamp, nI_toInt, if_pos, if_neg, w_div, w_rem2, xk0 hA, xk1 hA, xl1 hA, xk2 hA, xk3 hA, xl3 hA, xr2_2 hA, xi2_0 hA, xi2_1 hA, xk4 hA, xk5 hA, xl5 hA, xr4_2 hA, xi4_0 hA, xi4_1 hA, xk6 hA, xk7 hA, xl7 hA, xr6_2 hA, xi6_0 hA, xi6_1 hA, xk8 hA, xk9 hA, xl9 hA, xr8_2 hA, xi8_0 hA, xi8_1 hA, xk10 hA, xk11 hA, xl11 hA, xr10_2 hA, xi10_0 hA, xi10_1 hA, xr0_7 hA, xr0_8 hA, xr0_9 hA, xr0_10 hA, xr0_11 hA, xr0_12 hA, yk100 hC, yk125 hC, yk126 hC, yk127 hC, yk128 hC, yk129 hC, yk130 hC, yk131 hC, yk132 hC, yk133 hC, yk134 hC, yk135 hC, yk136 hC, yk137 hC, yl126 hC, yl128 hC, yl130 hC, yl131 hC, yl133 hC, yl137 hC, yr100_0 hC, yr100_1 hC, yr100_2 hC, yr100_3 hC, yr100_4 hC, yr100_5 hC, yr100_6 hC, yr100_7 hC, yr100_8 hC, yr100_9 hC, yr100_10 hC, yr125_0 hC, yr127_0 hC, yr129_0 hC, yr129_1 hC, yr129_2 hC, yr132_0 hC, yr134_0 hC, yr135_0 hC, yr135_1 hC, yr136_0 hC, yr136_1 hC, xk0 hA1, xk1 hA1, xl1 hA1, xk2 hA1, xk3 hA1, xl3 hA1, xr2_2 hA1, xi2_0 hA1, xi2_1 hA1, xk4 hA1, xk5 hA1, xl5 hA1, xr4_2 hA1, xi4_0 hA1, xi4_1 hA1, xk6 hA1, xk7 hA1, xl7 hA1, xr6_2 hA1, xi6_0 hA1, xi6_1 hA1, xk8 hA1, xk9 hA1, xl9 hA1, xr8_2 hA1, xi8_0 hA1, xi8_1 hA1, xk10 hA1, xk11 hA1, xl11 hA1, xr10_2 hA1, xi10_0 hA1, xi10_1 hA1, xr0_7 hA1, xr0_8 hA1, xr0_9 hA1, xr0_10 hA1, xr0_11 hA1, xr0_12 hA1, yk100 hC1, yk125 hC1, yk126 hC1, yk127 hC1, yk128 hC1, yk129 hC1, yk130 hC1, yk131 hC1, yk132 hC1, yk133 hC1, yk134 hC1, yk135 hC1, yk136 hC1, yk137 hC1, yl126 hC1, yl128 hC1, yl130 hC1, yl131 hC1, yl133 hC1, yl137 hC1, yr100_0 hC1, yr100_1 hC1, yr100_2 hC1, yr100_3 hC1, yr100_4 hC1, yr100_5 hC1, yr100_6 hC1, yr100_7 hC1, yr100_8 hC1, yr100_9 hC1, yr100_10 hC1, yr125_0 hC1, yr127_0 hC1, yr129_0 hC1, yr129_1 hC1, yr129_2 hC1, yr132_0 hC1, yr134_0 hC1, yr135_0 hC1, yr135_1 hC1, yr136_0 hC1, yr136_1 hC1, f1, e5']
    · refine f2.put hJ hL1.2.2.1.put5 (hV.pat k0 k1) (h.2.1.2.1.2.2.up hV.B (by omega) (by omega) (by omega) (by omega)) ?_ ?_
      · rw [s_rec_139]
        exact fun j hj => s_up_n (by omega)
      · rw [s_rec_139]
        exact fun j hj => s_up_n (by omega)
  · rw [if_neg c1]
    have ht := h.thr (c := 1)
    refine ⟨_, ?_, ht.1, ht.2.1.mono (by omega) (by omega), ht.2.2⟩
    by_cases c2 : x < nI 1
    · simp (disch := omega) only [fX10_setPatience, kX10_setPatience_11, kX10_setPatience_0, x_cs0, x_csi, x_csr, x_csn, x_csl, x_ret_v, x_ret_t, x_ret_n, x_tl_s, x_tl_n, x_lk0, x_lk, x_rem0, x_rem_i, x_rem_r, x_rem_l, x_rem2_0, x_rem2_i, x_rem2_r, x_rem2_l, x_pick0, x_pick_c, x_st1, x_st2, x_live, x_i, x_l, x_a, x_ild, x_lld, x_rld, x_ist, x_lst, x_rst, x_inc, x_ii, x_ll, x_li, x_cmp, x_ui, x_il, x_lti, x_idiv, x_irem, x_dup_i, x_dup_r, x_pop_i, x_pop_r, x_dupx_ir, x_dup2_ir, x_ifeq, x_iceq, x_iflt, x_iclt, x_ifge, x_icge, x_ifgt, x_icgt, x_ifle, x_icle, x_ifne, x_icne, x_ifnull_r, x_ifnull_n, x_ifnonnull_r, x_ifnonnull_n, x_sw, x_vret, x_iret, x_lret, x_zret, x_zret0, x_zret1, x_rf_s, x_rf_n, x_geti, x_getr, x_puti, x_putz, x_putr, x_ial, x_ias, x_lal, x_las, x_aal, x_aas, x_aast, x_alen, x_new, x_newa, x_copy, x_min, x_abs, x_minl, x_oinit, x_throw, x_callS0, x_callS1, x_callS2, x_callS3, x_callS4, x_callV0, x_callV1, x_callV2, x_callV3, x_callV4, x_callV5, x_retI_v, x_callI0, x_callI1, x_callI2, x_retN_v, x_callSN1, x_callSN2, x_callT0, x_callT1, x_fn, x_sl0, x_sli, x_slr, x_sll, x_ar0, x_ari, x_arr, x_arl, ↓reduceIte, Nat.reduceAdd, Nat.reduceSub, Nat.reduceMul, Nat.reduceEqDiff, Nat.reduceLeDiff, Nat.reduceLT, if_true, if_false, Nat.le_refl, and_true, true_and, and_self, reduceCtorEq, or_false, false_or, or_true, true_or, Nat.zero_le, fa_lit, nI_add, w_mul, nI_ltI, nI_leI, nI_eq, nI_clamp, nI_toInt, if_pos, if_neg, w_div, w_rem2, xk0 hA, xk1 hA, xl1 hA, xk2 hA, xk3 hA, xl3 hA, xr2_2 hA, xi2_0 hA, xi2_1 hA, xk4 hA, xk5 hA, xl5 hA, xr4_2 hA, xi4_0 hA, xi4_1 hA, xk6 hA, xk7 hA, xl7 hA, xr6_2 hA, xi6_0 hA, xi6_1 hA, xk8 hA, xk9 hA, xl9 hA, xr8_2 hA, xi8_0 hA, xi8_1 hA, xk10 hA, xk11 hA, xl11 hA, xr10_2 hA, xi10_0 hA, xi10_1 hA, xr0_7 hA, xr0_8 hA, xr0_9 hA, xr0_10 hA, xr0_11 hA, xr0_12 hA, yk100 hC, yk125 hC, yk126 hC, yk127 hC, yk128 hC, yk129 hC, yk130 hC, yk131 hC, yk132 hC, yk133 hC, yk134 hC, yk135 hC, yk136 hC, yk137 hC, yl126 hC, yl128 hC, yl130 hC, yl131 hC, yl133 hC, yl137 hC, yr100_0 hC, yr100_1 hC, yr100_2 hC, yr100_3 hC, yr100_4 hC, yr100_5 hC, yr100_6 hC, yr100_7 hC, yr100_8 hC, yr100_9 hC, yr100_10 hC, yr125_0 hC, yr127_0 hC, yr129_0 hC, yr129_1 hC, yr129_2 hC, yr132_0 hC, yr134_0 hC, yr135_0 hC, yr135_1 hC, yr136_0 hC, yr136_1 hC, c2, o_t1]
    · have c3 : ¬ x ≤ nI 30 := by
        rw [fa_le, nI_toInt (by omega)]
        rw [fa_lt, nI_toInt (by omega)] at c2
        unfold s_rg at c1
        omega
      simp (disch := omega) only [fX10_setPatience, kX10_setPatience_11, kX10_setPatience_0, x_cs0, x_csi, x_csr, x_csn, x_csl, x_ret_v, x_ret_t, x_ret_n, x_tl_s, x_tl_n, x_lk0, x_lk, x_rem0, x_rem_i, x_rem_r, x_rem_l, x_rem2_0, x_rem2_i, x_rem2_r, x_rem2_l, x_pick0, x_pick_c, x_st1, x_st2, x_live, x_i, x_l, x_a, x_ild, x_lld, x_rld, x_ist, x_lst, x_rst, x_inc, x_ii, x_ll, x_li, x_cmp, x_ui, x_il, x_lti, x_idiv, x_irem, x_dup_i, x_dup_r, x_pop_i, x_pop_r, x_dupx_ir, x_dup2_ir, x_ifeq, x_iceq, x_iflt, x_iclt, x_ifge, x_icge, x_ifgt, x_icgt, x_ifle, x_icle, x_ifne, x_icne, x_ifnull_r, x_ifnull_n, x_ifnonnull_r, x_ifnonnull_n, x_sw, x_vret, x_iret, x_lret, x_zret, x_zret0, x_zret1, x_rf_s, x_rf_n, x_geti, x_getr, x_puti, x_putz, x_putr, x_ial, x_ias, x_lal, x_las, x_aal, x_aas, x_aast, x_alen, x_new, x_newa, x_copy, x_min, x_abs, x_minl, x_oinit, x_throw, x_callS0, x_callS1, x_callS2, x_callS3, x_callS4, x_callV0, x_callV1, x_callV2, x_callV3, x_callV4, x_callV5, x_retI_v, x_callI0, x_callI1, x_callI2, x_retN_v, x_callSN1, x_callSN2, x_callT0, x_callT1, x_fn, x_sl0, x_sli, x_slr, x_sll, x_ar0, x_ari, x_arr, x_arl, ↓reduceIte, Nat.reduceAdd, Nat.reduceSub, Nat.reduceMul, Nat.reduceEqDiff, Nat.reduceLeDiff, Nat.reduceLT, if_true, if_false, Nat.le_refl, and_true, true_and, and_self, reduceCtorEq, or_false, false_or, or_true, true_or, Nat.zero_le, fa_lit, nI_add, w_mul, nI_ltI, nI_leI, nI_eq, nI_clamp, nI_toInt, if_pos, if_neg, w_div, w_rem2, xk0 hA, xk1 hA, xl1 hA, xk2 hA, xk3 hA, xl3 hA, xr2_2 hA, xi2_0 hA, xi2_1 hA, xk4 hA, xk5 hA, xl5 hA, xr4_2 hA, xi4_0 hA, xi4_1 hA, xk6 hA, xk7 hA, xl7 hA, xr6_2 hA, xi6_0 hA, xi6_1 hA, xk8 hA, xk9 hA, xl9 hA, xr8_2 hA, xi8_0 hA, xi8_1 hA, xk10 hA, xk11 hA, xl11 hA, xr10_2 hA, xi10_0 hA, xi10_1 hA, xr0_7 hA, xr0_8 hA, xr0_9 hA, xr0_10 hA, xr0_11 hA, xr0_12 hA, yk100 hC, yk125 hC, yk126 hC, yk127 hC, yk128 hC, yk129 hC, yk130 hC, yk131 hC, yk132 hC, yk133 hC, yk134 hC, yk135 hC, yk136 hC, yk137 hC, yl126 hC, yl128 hC, yl130 hC, yl131 hC, yl133 hC, yl137 hC, yr100_0 hC, yr100_1 hC, yr100_2 hC, yr100_3 hC, yr100_4 hC, yr100_5 hC, yr100_6 hC, yr100_7 hC, yr100_8 hC, yr100_9 hC, yr100_10 hC, yr125_0 hC, yr127_0 hC, yr129_0 hC, yr129_1 hC, yr129_2 hC, yr132_0 hC, yr134_0 hC, yr135_0 hC, yr135_1 hC, yr136_0 hC, yr136_1 hC, c2, c3, o_t1]
/-! movePlan -/
def u_movePlan (M : Nat → Nat → Int32) (x y : Int32) : (Nat × Int32) × (Nat → Nat → Int32) :=
  if s_is x (s_n (M 139 8)) then (if s_rg y (s_n (M 139 5)) 499 then (if M 139 (464 + 4 * s_n x + 3) < M 139 5 then ((0, -nI 2), M) else ((0, M 139 (464 + 4 * s_n x + 3)), va_up (s_rec M) 139 (va_up (M 139) (464 + 4 * s_n x + 3) y))) else ((2, 0), M)) else ((1, 0), M)
theorem w_R.putL (h : w_R S a R) (hB : s_VB R) (ho : o < s_n (R 8)) (hf : p < 4) : w_R (am_putI S (a + 7) (o * 4 + p) v) a (va_up R (464 + 4 * o + p) v) := by
  have b8 := hB.2.2.2.2.2.1.2
  obtain ⟨⟨a0, a1, a2, a3, a4, a5, a6⟩, ⟨b0, b1, b2, b3, b4⟩, c1, c2, c3, c4, c5, c6, c7⟩ := h
  have i1 : ∀ b g, b ≠ a + 7 → am_i (am_putI S (a + 7) (o * 4 + p) v) b g = am_i S b g := fun b g hb => by rw [x_i_I, if_neg hb]
  have r : ∀ g, g ≠ 464 + 4 * o + p → va_up R (464 + 4 * o + p) v g = R g := fun g hg => s_up_n hg
  have r2 := r 2 (by omega)
  have r3 := r 3 (by omega)
  have r4 := r 4 (by omega)
  have r7 := r 7 (by omega)
  have r8 := r 8 (by omega)
  have d2 := hB.2.1.2
  have d3 := hB.2.2.1.2
  have d4 := hB.2.2.2.1.2
  have d7 := hB.2.2.2.2.1.2
  refine ⟨⟨by rw [i1 _ _ (by omega), r _ (by omega)]; exact a0, by rw [i1 _ _ (by omega), r _ (by omega)]; exact a1, by rw [i1 _ _ (by omega), r _ (by omega)]; exact a2, by rw [i1 _ _ (by omega), r _ (by omega)]; exact a3, by rw [i1 _ _ (by omega), r _ (by omega)]; exact a4, by rw [i1 _ _ (by omega), r _ (by omega)]; exact a5, by rw [i1 _ _ (by omega), r _ (by omega)]; exact a6⟩, ⟨by rw [i1 _ _ (by omega), r2]; exact b0, by rw [i1 _ _ (by omega), r3]; exact b1, by rw [i1 _ _ (by omega), r8]; exact b2, by rw [i1 _ _ (by omega), r4]; exact b3, by rw [i1 _ _ (by omega), r7]; exact b4⟩, fun c hc => by rw [i1 _ _ (by omega), r _ (by omega)]; exact c1 c hc, fun u f hu hf => by rw [r2] at hu; rw [i1 _ _ (by omega), r _ (by omega)]; exact c2 u f hu hf, fun u f hu hf => by rw [r3] at hu; rw [i1 _ _ (by omega), r _ (by omega)]; exact c3 u f hu hf, fun u hu => by rw [r3] at hu; rw [i1 _ _ (by omega), r _ (by omega)]; exact c4 u hu, fun u f hu hf2 => ?_, fun u f hu hf => by rw [r4] at hu; rw [i1 _ _ (by omega), r _ (by omega)]; exact c6 u f hu hf, fun u f hu hf => by rw [r7] at hu; rw [i1 _ _ (by omega), r _ (by omega)]; exact c7 u f hu hf⟩
  rw [r8] at hu
  rw [x_i_I, if_pos rfl, s_up]
  by_cases e : u * 4 + f = o * 4 + p
  · rw [if_pos e, if_pos (by omega)]
  · rw [if_neg e, if_neg (by omega)]
    exact c5 u f hu hf2
theorem y_movePlan (h : w_Ic S M) : ∃ S', fX10_movePlan w_N [.ref 100, .int x, .int y] S = some (o_r (u_movePlan M x y).1.1 (u_movePlan M x y).1.2, S') ∧ w_Ic S' (u_movePlan M x y).2 ∧ w_le 13 959 S S' ∧ w_kp S S' := by
  have hL := h.L
  have hC := h.1.1
  have hA := hL.2.1
  have hV := hL.2.2.2
  have tb := hL.2.2.1.tL hA hV.B
  have w5 := hV.B.2.2.2.2.2.2.1
  have b5 := w5.2
  have hp5 := h.2.1.2.1.2.1.1
  have e5 : am_i S 101 4 = M 139 5 := hL.2.2.1.1.2.2.2.2.1
  have k6 := xk6 hA
  unfold u_movePlan
  by_cases c1 : s_is x (s_n (M 139 8))
  · rw [if_pos c1]
    obtain ⟨p, p1, p2, rfl⟩ := s_is_n c1
    have g1 := y_needRow1 tb p1
    rw [w_snI p2]
    by_cases c2 : s_rg y (s_n (M 139 5)) 499
    · rw [if_pos c2]
      have d1 : ¬ y < M 139 5 := by
        rw [w5.1, fa_lt, nI_toInt (by omega)]
        have := c2.1
        omega
      have d2 : y < nI 500 := by
        rw [fa_lt, nI_toInt (by omega)]
        have := c2.2
        omega
      have hk : ∃ k, y = nI k ∧ k < 500 := by
        refine ⟨y.toInt.toNat, ?_, by have := c2.1; have := c2.2; omega⟩
        rw [fa_eq, nI_toInt (by have := c2.2; omega)]
        have := c2.1
        omega
      have g3 := y_L hA hL.2.2.1 hV.B p1 (f := 3) (by omega)
      by_cases c3 : M 139 (464 + 4 * p + 3) < M 139 5
      · rw [if_pos c3]
        have c4 := (fa_of_lt c3).2.1
        refine ⟨S, ?_, h, w_le.rf.mono (by omega) (by omega), w_kp.rf⟩
        simp (disch := omega) only [fX10_movePlan, kX10_movePlan_29, kX10_movePlan_0, x_cs0, x_csi, x_csr, x_csn, x_csl, x_ret_v, x_ret_t, x_ret_n, x_tl_s, x_tl_n, x_lk0, x_lk, x_rem0, x_rem_i, x_rem_r, x_rem_l, x_rem2_0, x_rem2_i, x_rem2_r, x_rem2_l, x_pick0, x_pick_c, x_st1, x_st2, x_live, x_i, x_l, x_a, x_ild, x_lld, x_rld, x_ist, x_lst, x_rst, x_inc, x_ii, x_ll, x_li, x_cmp, x_ui, x_il, x_lti, x_idiv, x_irem, x_dup_i, x_dup_r, x_pop_i, x_pop_r, x_dupx_ir, x_dup2_ir, x_ifeq, x_iceq, x_iflt, x_iclt, x_ifge, x_icge, x_ifgt, x_icgt, x_ifle, x_icle, x_ifne, x_icne, x_ifnull_r, x_ifnull_n, x_ifnonnull_r, x_ifnonnull_n, x_sw, x_vret, x_iret, x_lret, x_zret, x_zret0, x_zret1, x_rf_s, x_rf_n, x_geti, x_getr, x_puti, x_putz, x_putr, x_ial, x_ias, x_lal, x_las, x_aal, x_aas, x_aast, x_alen, x_new, x_newa, x_copy, x_min, x_abs, x_minl, x_oinit, x_throw, x_callS0, x_callS1, x_callS2, x_callS3, x_callS4, x_callV0, x_callV1, x_callV2, x_callV3, x_callV4, x_callV5, x_retI_v, x_callI0, x_callI1, x_callI2, x_retN_v, x_callSN1, x_callSN2, x_callT0, x_callT1, x_fn, x_sl0, x_sli, x_slr, x_sll, x_ar0, x_ari, x_arr, x_arl, ↓reduceIte, Nat.reduceAdd, Nat.reduceSub, Nat.reduceMul, Nat.reduceEqDiff, Nat.reduceLeDiff, Nat.reduceLT, if_true, if_false, Nat.le_refl, and_true, true_and, and_self, reduceCtorEq, or_false, false_or, or_true, true_or, Nat.zero_le, fa_lit, nI_add, w_mul, nI_ltI, nI_leI, nI_eq, nI_clamp, nI_toInt, if_pos, if_neg, w_div, w_rem2, xk0 hA, xk1 hA, xl1 hA, xk2 hA, xk3 hA, xl3 hA, xr2_2 hA, xi2_0 hA, xi2_1 hA, xk4 hA, xk5 hA, xl5 hA, xr4_2 hA, xi4_0 hA, xi4_1 hA, xk6 hA, xk7 hA, xl7 hA, xr6_2 hA, xi6_0 hA, xi6_1 hA, xk8 hA, xk9 hA, xl9 hA, xr8_2 hA, xi8_0 hA, xi8_1 hA, xk10 hA, xk11 hA, xl11 hA, xr10_2 hA, xi10_0 hA, xi10_1 hA, xr0_7 hA, xr0_8 hA, xr0_9 hA, xr0_10 hA, xr0_11 hA, xr0_12 hA, yk100 hC, yk125 hC, yk126 hC, yk127 hC, yk128 hC, yk129 hC, yk130 hC, yk131 hC, yk132 hC, yk133 hC, yk134 hC, yk135 hC, yk136 hC, yk137 hC, yl126 hC, yl128 hC, yl130 hC, yl131 hC, yl133 hC, yl137 hC, yr100_0 hC, yr100_1 hC, yr100_2 hC, yr100_3 hC, yr100_4 hC, yr100_5 hC, yr100_6 hC, yr100_7 hC, yr100_8 hC, yr100_9 hC, yr100_10 hC, yr125_0 hC, yr127_0 hC, yr129_0 hC, yr129_1 hC, yr129_2 hC, yr132_0 hC, yr134_0 hC, yr135_0 hC, yr135_1 hC, yr136_0 hC, yr136_1 hC, g1, e5, d1, d2, g3, c4, o_r0]
      · rw [if_neg c3]
        have c4 := fa_of_nlt c3
        obtain ⟨k, rfl, k1⟩ := hk
        obtain ⟨S1, f1, f2, f3, f4⟩ := y_rec h
        have hL1 := f2.L
        rw [s_rec_139] at hL1
        have hA1 := hL1.2.1
        have hC1 := hL1.1
        have p3 := y_put (v := nI k) (hL1.2.2.1.tL hA1 hV.B) p1 (f := 3) (by omega)
        have hJ : w_J 101 S1 (am_putI S1 (101 + 7) (p * 4 + 3) (nI k)) := w_J.put (by omega) (by intro q _ _ _; omega)
        refine ⟨am_putI S1 (101 + 7) (p * 4 + 3) (nI k), ?_, ?_, (f3.tr (w_le.I hJ.1)).mono (by omega) (by omega), f4.tr (w_kp.J hJ (Or.inl rfl))⟩
        · simp (disch := omega) only [fX10_movePlan, kX10_movePlan_29, kX10_movePlan_0, x_cs0, x_csi, x_csr, x_csn, x_csl, x_ret_v, x_ret_t, x_ret_n, x_tl_s, x_tl_n, x_lk0, x_lk, x_rem0, x_rem_i, x_rem_r, x_rem_l, x_rem2_0, x_rem2_i, x_rem2_r, x_rem2_l, x_pick0, x_pick_c, x_st1, x_st2, x_live, x_i, x_l, x_a, x_ild, x_lld, x_rld, x_ist, x_lst, x_rst, x_inc, x_ii, x_ll, x_li, x_cmp, x_ui, x_il, x_lti, x_idiv, x_irem, x_dup_i, x_dup_r, x_pop_i, x_pop_r, x_dupx_ir, x_dup2_ir, x_ifeq, x_iceq, x_iflt, x_iclt, x_ifge, x_icge, x_ifgt, x_icgt, x_ifle, x_icle, x_ifne, x_icne, x_ifnull_r, x_ifnull_n, x_ifnonnull_r, x_ifnonnull_n, x_sw, x_vret, x_iret, x_lret, x_zret, x_zret0, x_zret1, x_rf_s, x_rf_n, x_geti, x_getr, x_puti, x_putz, x_putr, x_ial, x_ias, x_lal, x_las, x_aal, x_aas, x_aast, x_alen, x_new, x_newa, x_copy, x_min, x_abs, x_minl, x_oinit, x_throw, x_callS0, x_callS1, x_callS2, x_callS3, x_callS4, x_callV0, x_callV1, x_callV2, x_callV3, x_callV4, x_callV5, x_retI_v, x_callI0, x_callI1, x_callI2, x_retN_v, x_callSN1, x_callSN2, x_callT0, x_callT1, x_fn, x_sl0, x_sli, x_slr, x_sll, x_ar0, x_ari, x_arr, x_arl, ↓reduceIte, Nat.reduceAdd, Nat.reduceSub, Nat.reduceMul, Nat.reduceEqDiff, Nat.reduceLeDiff, Nat.reduceLT, if_true, if_false, Nat.le_refl, and_true, true_and, and_self, reduceCtorEq, or_false, false_or, or_true, true_or, Nat.zero_le, fa_lit, nI_add, w_mul, nI_ltI, nI_leI, nI_eq, nI_clamp, nI_toInt, if_pos, if_neg, w_div, w_rem2, xk0 hA, xk1 hA, xl1 hA, xk2 hA, xk3 hA, xl3 hA, xr2_2 hA, xi2_0 hA, xi2_1 hA, xk4 hA, xk5 hA, xl5 hA, xr4_2 hA, xi4_0 hA, xi4_1 hA, xk6 hA, xk7 hA, xl7 hA, xr6_2 hA, xi6_0 hA, xi6_1 hA, xk8 hA, xk9 hA, xl9 hA, xr8_2 hA, xi8_0 hA, xi8_1 hA, xk10 hA, xk11 hA, xl11 hA, xr10_2 hA, xi10_0 hA, xi10_1 hA, xr0_7 hA, xr0_8 hA, xr0_9 hA, xr0_10 hA, xr0_11 hA, xr0_12 hA, yk100 hC, yk125 hC, yk126 hC, yk127 hC, yk128 hC, yk129 hC, yk130 hC, yk131 hC, yk132 hC, yk133 hC, yk134 hC, yk135 hC, yk136 hC, yk137 hC, yl126 hC, yl128 hC, yl130 hC, yl131 hC, yl133 hC, yl137 hC, yr100_0 hC, yr100_1 hC, yr100_2 hC, yr100_3 hC, yr100_4 hC, yr100_5 hC, yr100_6 hC, yr100_7 hC, yr100_8 hC, yr100_9 hC, yr100_10 hC, yr125_0 hC, yr127_0 hC, yr129_0 hC, yr129_1 hC, yr129_2 hC, yr132_0 hC, yr134_0 hC, yr135_0 hC, yr135_1 hC, yr136_0 hC, yr136_1 hC, xk0 hA1, xk1 hA1, xl1 hA1, xk2 hA1, xk3 hA1, xl3 hA1, xr2_2 hA1, xi2_0 hA1, xi2_1 hA1, xk4 hA1, xk5 hA1, xl5 hA1, xr4_2 hA1, xi4_0 hA1, xi4_1 hA1, xk6 hA1, xk7 hA1, xl7 hA1, xr6_2 hA1, xi6_0 hA1, xi6_1 hA1, xk8 hA1, xk9 hA1, xl9 hA1, xr8_2 hA1, xi8_0 hA1, xi8_1 hA1, xk10 hA1, xk11 hA1, xl11 hA1, xr10_2 hA1, xi10_0 hA1, xi10_1 hA1, xr0_7 hA1, xr0_8 hA1, xr0_9 hA1, xr0_10 hA1, xr0_11 hA1, xr0_12 hA1, yk100 hC1, yk125 hC1, yk126 hC1, yk127 hC1, yk128 hC1, yk129 hC1, yk130 hC1, yk131 hC1, yk132 hC1, yk133 hC1, yk134 hC1, yk135 hC1, yk136 hC1, yk137 hC1, yl126 hC1, yl128 hC1, yl130 hC1, yl131 hC1, yl133 hC1, yl137 hC1, yr100_0 hC1, yr100_1 hC1, yr100_2 hC1, yr100_3 hC1, yr100_4 hC1, yr100_5 hC1, yr100_6 hC1, yr100_7 hC1, yr100_8 hC1, yr100_9 hC1, yr100_10 hC1, yr125_0 hC1, yr127_0 hC1, yr129_0 hC1, yr129_1 hC1, yr129_2 hC1, yr132_0 hC1, yr134_0 hC1, yr135_0 hC1, yr135_1 hC1, yr136_0 hC1, yr136_1 hC1, g1, e5, d1, d2, g3, c4, f1, p3, o_r0]
        · have b8 := hV.B.2.2.2.2.2.1.2
          refine f2.put hJ (hL1.2.2.1.putL hV.B p1 (by omega)) (hV.plan p1 k1) (h.2.1.2.1.2.2.up hV.B (by omega) (by omega) (by omega) (by omega)) ?_ ?_
          · rw [s_rec_139]
            exact fun j hj => s_up_n (by omega)
          · rw [s_rec_139]
            exact fun j hj => s_up_n (by omega)
    · rw [if_neg c2]
      have ht := h.thr (c := 2)
      refine ⟨_, ?_, ht.1, ht.2.1.mono (by omega) (by omega), ht.2.2⟩
      by_cases d1 : y < M 139 5
      · simp (disch := omega) only [fX10_movePlan, kX10_movePlan_29, kX10_movePlan_0, x_cs0, x_csi, x_csr, x_csn, x_csl, x_ret_v, x_ret_t, x_ret_n, x_tl_s, x_tl_n, x_lk0, x_lk, x_rem0, x_rem_i, x_rem_r, x_rem_l, x_rem2_0, x_rem2_i, x_rem2_r, x_rem2_l, x_pick0, x_pick_c, x_st1, x_st2, x_live, x_i, x_l, x_a, x_ild, x_lld, x_rld, x_ist, x_lst, x_rst, x_inc, x_ii, x_ll, x_li, x_cmp, x_ui, x_il, x_lti, x_idiv, x_irem, x_dup_i, x_dup_r, x_pop_i, x_pop_r, x_dupx_ir, x_dup2_ir, x_ifeq, x_iceq, x_iflt, x_iclt, x_ifge, x_icge, x_ifgt, x_icgt, x_ifle, x_icle, x_ifne, x_icne, x_ifnull_r, x_ifnull_n, x_ifnonnull_r, x_ifnonnull_n, x_sw, x_vret, x_iret, x_lret, x_zret, x_zret0, x_zret1, x_rf_s, x_rf_n, x_geti, x_getr, x_puti, x_putz, x_putr, x_ial, x_ias, x_lal, x_las, x_aal, x_aas, x_aast, x_alen, x_new, x_newa, x_copy, x_min, x_abs, x_minl, x_oinit, x_throw, x_callS0, x_callS1, x_callS2, x_callS3, x_callS4, x_callV0, x_callV1, x_callV2, x_callV3, x_callV4, x_callV5, x_retI_v, x_callI0, x_callI1, x_callI2, x_retN_v, x_callSN1, x_callSN2, x_callT0, x_callT1, x_fn, x_sl0, x_sli, x_slr, x_sll, x_ar0, x_ari, x_arr, x_arl, ↓reduceIte, Nat.reduceAdd, Nat.reduceSub, Nat.reduceMul, Nat.reduceEqDiff, Nat.reduceLeDiff, Nat.reduceLT, if_true, if_false, Nat.le_refl, and_true, true_and, and_self, reduceCtorEq, or_false, false_or, or_true, true_or, Nat.zero_le, fa_lit, nI_add, w_mul, nI_ltI, nI_leI, nI_eq, nI_clamp, nI_toInt, if_pos, if_neg, w_div, w_rem2, xk0 hA, xk1 hA, xl1 hA, xk2 hA, xk3 hA, xl3 hA, xr2_2 hA, xi2_0 hA, xi2_1 hA, xk4 hA, xk5 hA, xl5 hA, xr4_2 hA, xi4_0 hA, xi4_1 hA, xk6 hA, xk7 hA, xl7 hA, xr6_2 hA, xi6_0 hA, xi6_1 hA, xk8 hA, xk9 hA, xl9 hA, xr8_2 hA, xi8_0 hA, xi8_1 hA, xk10 hA, xk11 hA, xl11 hA, xr10_2 hA, xi10_0 hA, xi10_1 hA, xr0_7 hA, xr0_8 hA, xr0_9 hA, xr0_10 hA, xr0_11 hA, xr0_12 hA, yk100 hC, yk125 hC, yk126 hC, yk127 hC, yk128 hC, yk129 hC, yk130 hC, yk131 hC, yk132 hC, yk133 hC, yk134 hC, yk135 hC, yk136 hC, yk137 hC, yl126 hC, yl128 hC, yl130 hC, yl131 hC, yl133 hC, yl137 hC, yr100_0 hC, yr100_1 hC, yr100_2 hC, yr100_3 hC, yr100_4 hC, yr100_5 hC, yr100_6 hC, yr100_7 hC, yr100_8 hC, yr100_9 hC, yr100_10 hC, yr125_0 hC, yr127_0 hC, yr129_0 hC, yr129_1 hC, yr129_2 hC, yr132_0 hC, yr134_0 hC, yr135_0 hC, yr135_1 hC, yr136_0 hC, yr136_1 hC, g1, e5, d1, o_r2, o_t2]
      · have d2 : ¬ y < nI 500 := by
          rw [fa_lt, nI_toInt (by omega)]
          rw [w5.1, fa_lt, nI_toInt (by omega)] at d1
          unfold s_rg at c2
          omega
        simp (disch := omega) only [fX10_movePlan, kX10_movePlan_29, kX10_movePlan_0, x_cs0, x_csi, x_csr, x_csn, x_csl, x_ret_v, x_ret_t, x_ret_n, x_tl_s, x_tl_n, x_lk0, x_lk, x_rem0, x_rem_i, x_rem_r, x_rem_l, x_rem2_0, x_rem2_i, x_rem2_r, x_rem2_l, x_pick0, x_pick_c, x_st1, x_st2, x_live, x_i, x_l, x_a, x_ild, x_lld, x_rld, x_ist, x_lst, x_rst, x_inc, x_ii, x_ll, x_li, x_cmp, x_ui, x_il, x_lti, x_idiv, x_irem, x_dup_i, x_dup_r, x_pop_i, x_pop_r, x_dupx_ir, x_dup2_ir, x_ifeq, x_iceq, x_iflt, x_iclt, x_ifge, x_icge, x_ifgt, x_icgt, x_ifle, x_icle, x_ifne, x_icne, x_ifnull_r, x_ifnull_n, x_ifnonnull_r, x_ifnonnull_n, x_sw, x_vret, x_iret, x_lret, x_zret, x_zret0, x_zret1, x_rf_s, x_rf_n, x_geti, x_getr, x_puti, x_putz, x_putr, x_ial, x_ias, x_lal, x_las, x_aal, x_aas, x_aast, x_alen, x_new, x_newa, x_copy, x_min, x_abs, x_minl, x_oinit, x_throw, x_callS0, x_callS1, x_callS2, x_callS3, x_callS4, x_callV0, x_callV1, x_callV2, x_callV3, x_callV4, x_callV5, x_retI_v, x_callI0, x_callI1, x_callI2, x_retN_v, x_callSN1, x_callSN2, x_callT0, x_callT1, x_fn, x_sl0, x_sli, x_slr, x_sll, x_ar0, x_ari, x_arr, x_arl, ↓reduceIte, Nat.reduceAdd, Nat.reduceSub, Nat.reduceMul, Nat.reduceEqDiff, Nat.reduceLeDiff, Nat.reduceLT, if_true, if_false, Nat.le_refl, and_true, true_and, and_self, reduceCtorEq, or_false, false_or, or_true, true_or, Nat.zero_le, fa_lit, nI_add, w_mul, nI_ltI, nI_leI, nI_eq, nI_clamp, nI_toInt, if_pos, if_neg, w_div, w_rem2, xk0 hA, xk1 hA, xl1 hA, xk2 hA, xk3 hA, xl3 hA, xr2_2 hA, xi2_0 hA, xi2_1 hA, xk4 hA, xk5 hA, xl5 hA, xr4_2 hA, xi4_0 hA, xi4_1 hA, xk6 hA, xk7 hA, xl7 hA, xr6_2 hA, xi6_0 hA, xi6_1 hA, xk8 hA, xk9 hA, xl9 hA, xr8_2 hA, xi8_0 hA, xi8_1 hA, xk10 hA, xk11 hA, xl11 hA, xr10_2 hA, xi10_0 hA, xi10_1 hA, xr0_7 hA, xr0_8 hA, xr0_9 hA, xr0_10 hA, xr0_11 hA, xr0_12 hA, yk100 hC, yk125 hC, yk126 hC, yk127 hC, yk128 hC, yk129 hC, yk130 hC, yk131 hC, yk132 hC, yk133 hC, yk134 hC, yk135 hC, yk136 hC, yk137 hC, yl126 hC, yl128 hC, yl130 hC, yl131 hC, yl133 hC, yl137 hC, yr100_0 hC, yr100_1 hC, yr100_2 hC, yr100_3 hC, yr100_4 hC, yr100_5 hC, yr100_6 hC, yr100_7 hC, yr100_8 hC, yr100_9 hC, yr100_10 hC, yr125_0 hC, yr127_0 hC, yr129_0 hC, yr129_1 hC, yr129_2 hC, yr132_0 hC, yr134_0 hC, yr135_0 hC, yr135_1 hC, yr136_0 hC, yr136_1 hC, g1, e5, d1, d2, o_r2, o_t2]
  · rw [if_neg c1]
    have g1 := y_needRow0 tb c1
    have ht := h.thr (c := 1)
    refine ⟨_, ?_, ht.1, ht.2.1.mono (by omega) (by omega), ht.2.2⟩
    simp (disch := omega) only [fX10_movePlan, kX10_movePlan_29, kX10_movePlan_0, x_cs0, x_csi, x_csr, x_csn, x_csl, x_ret_v, x_ret_t, x_ret_n, x_tl_s, x_tl_n, x_lk0, x_lk, x_rem0, x_rem_i, x_rem_r, x_rem_l, x_rem2_0, x_rem2_i, x_rem2_r, x_rem2_l, x_pick0, x_pick_c, x_st1, x_st2, x_live, x_i, x_l, x_a, x_ild, x_lld, x_rld, x_ist, x_lst, x_rst, x_inc, x_ii, x_ll, x_li, x_cmp, x_ui, x_il, x_lti, x_idiv, x_irem, x_dup_i, x_dup_r, x_pop_i, x_pop_r, x_dupx_ir, x_dup2_ir, x_ifeq, x_iceq, x_iflt, x_iclt, x_ifge, x_icge, x_ifgt, x_icgt, x_ifle, x_icle, x_ifne, x_icne, x_ifnull_r, x_ifnull_n, x_ifnonnull_r, x_ifnonnull_n, x_sw, x_vret, x_iret, x_lret, x_zret, x_zret0, x_zret1, x_rf_s, x_rf_n, x_geti, x_getr, x_puti, x_putz, x_putr, x_ial, x_ias, x_lal, x_las, x_aal, x_aas, x_aast, x_alen, x_new, x_newa, x_copy, x_min, x_abs, x_minl, x_oinit, x_throw, x_callS0, x_callS1, x_callS2, x_callS3, x_callS4, x_callV0, x_callV1, x_callV2, x_callV3, x_callV4, x_callV5, x_retI_v, x_callI0, x_callI1, x_callI2, x_retN_v, x_callSN1, x_callSN2, x_callT0, x_callT1, x_fn, x_sl0, x_sli, x_slr, x_sll, x_ar0, x_ari, x_arr, x_arl, ↓reduceIte, Nat.reduceAdd, Nat.reduceSub, Nat.reduceMul, Nat.reduceEqDiff, Nat.reduceLeDiff, Nat.reduceLT, if_true, if_false, Nat.le_refl, and_true, true_and, and_self, reduceCtorEq, or_false, false_or, or_true, true_or, Nat.zero_le, fa_lit, nI_add, w_mul, nI_ltI, nI_leI, nI_eq, nI_clamp, nI_toInt, if_pos, if_neg, w_div, w_rem2, xk0 hA, xk1 hA, xl1 hA, xk2 hA, xk3 hA, xl3 hA, xr2_2 hA, xi2_0 hA, xi2_1 hA, xk4 hA, xk5 hA, xl5 hA, xr4_2 hA, xi4_0 hA, xi4_1 hA, xk6 hA, xk7 hA, xl7 hA, xr6_2 hA, xi6_0 hA, xi6_1 hA, xk8 hA, xk9 hA, xl9 hA, xr8_2 hA, xi8_0 hA, xi8_1 hA, xk10 hA, xk11 hA, xl11 hA, xr10_2 hA, xi10_0 hA, xi10_1 hA, xr0_7 hA, xr0_8 hA, xr0_9 hA, xr0_10 hA, xr0_11 hA, xr0_12 hA, yk100 hC, yk125 hC, yk126 hC, yk127 hC, yk128 hC, yk129 hC, yk130 hC, yk131 hC, yk132 hC, yk133 hC, yk134 hC, yk135 hC, yk136 hC, yk137 hC, yl126 hC, yl128 hC, yl130 hC, yl131 hC, yl133 hC, yl137 hC, yr100_0 hC, yr100_1 hC, yr100_2 hC, yr100_3 hC, yr100_4 hC, yr100_5 hC, yr100_6 hC, yr100_7 hC, yr100_8 hC, yr100_9 hC, yr100_10 hC, yr125_0 hC, yr127_0 hC, yr129_0 hC, yr129_1 hC, yr129_2 hC, yr132_0 hC, yr134_0 hC, yr135_0 hC, yr135_1 hC, yr136_0 hC, yr136_1 hC, g1, o_r1, o_t1]
end I4
