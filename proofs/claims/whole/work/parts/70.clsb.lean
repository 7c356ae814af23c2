/-! THE CLASS: planned orders -/
theorem w_genL {σ : Type} {body : am_K → am_K} {lvf : Nat → List (Nat × Value)} {n : Nat} {g : Nat → σ → σ} {P : Nat → am_S → σ → Prop} {Fr : am_S → am_S → Prop} {res : am_S → σ → Option (am_O × am_S)} (rf : ∀ S, Fr S S) (tr : ∀ A B C, Fr A B → Fr B C → Fr A C)
    (hstep : ∀ i S s r, i < n → P i S s → ∃ S', body r (lvf i) [] S = r (lvf (i + 1)) [] S' ∧ P (i + 1) S' (g i s) ∧ Fr S S') (hend : ∀ S s r, P n S s → body r (lvf n) [] S = res S s) :
    ∀ m i S s, n - i < m → i ≤ n → P i S s → ∃ S', am_loop body m (lvf i) [] S = res S' (s_it g (n - i) i s) ∧ P n S' (s_it g (n - i) i s) ∧ Fr S S' := by
  intro m
  induction m with
  | zero => intro i S s hi; omega
  | succ m ih =>
    intro i S s hi hle hP
    rw [am_loop_s]
    rcases Nat.lt_or_ge i n with hc | hc
    · obtain ⟨S1, f1, f2, f3⟩ := hstep i S s (am_loop body m) hc hP
      obtain ⟨S2, f4, f5, f6⟩ := ih (i + 1) S1 (g i s) (by omega) (by omega) f2
      rw [show n - i = (n - (i + 1)) + 1 by omega, s_it]
      exact ⟨S2, f1.trans f4, f5, tr _ _ _ f3 f6⟩
    · have e : i = n := by omega
      subst e
      rw [Nat.sub_self, s_it]
      exact ⟨S, hend S s _ hP, hP, rf S⟩
section Y11
variable {S S' S2 : am_S} {x y z v : Int32} {i j o u n w hh c d b m t p np ne no a T P Q L f k D E hd j0 m0 cl : Nat} {R R' F : Nat → Int32} {q : s_Q} {r r4 : am_K}
theorem y_sendG (hA : w_A S a) (h : w_R S a R) (hV : s_V R) (hp : p < s_n (R 8)) : ∃ S', bX1_sendPlanned_13 w_N r [(1, .ref a), (2, .ref (a + 6)), (3, .int (nI (s_n (R 8)))), (4, .int (nI p))] [] S = r [(1, .ref a), (2, .ref (a + 6)), (3, .int (nI (s_n (R 8)))), (4, .int (nI (p + 1)))] [] S' ∧ w_R S' a (s_sendG p R) ∧ w_J a S S' := by
  have b8 := hV.B.2.2.2.2.2.1.2
  have g0 := y_L hA h hV.B hp (f := 0) (by omega)
  have g1 := y_L hA h hV.B hp (f := 1) (by omega)
  have g2 := y_L hA h hV.B hp (f := 2) (by omega)
  have g3 := y_L hA h hV.B hp (f := 3) (by omega)
  have e5 : am_i S a 4 = R 5 := h.1.2.2.2.2.1
  unfold s_sendG
  by_cases c1 : R (464 + 4 * p + 3) = R 5
  · obtain ⟨S', f1, f2, f3⟩ := y_addOrder (u := R (464 + 4 * p + 0)) (x := R (464 + 4 * p + 1)) (y := R (464 + 4 * p + 2)) hA h hV.B
    refine ⟨S', ?_, ?_, f3⟩
    · simp (disch := omega) only [bX1_sendPlanned_13, kX1_sendPlanned_59, x_cs0, x_csi, x_csr, x_csn, x_csl, x_ret_v, x_ret_t, x_ret_n, x_tl_s, x_tl_n, x_lk0, x_lk, x_rem0, x_rem_i, x_rem_r, x_rem_l, x_rem2_0, x_rem2_i, x_rem2_r, x_rem2_l, x_pick0, x_pick_c, x_st1, x_st2, x_live, x_i, x_l, x_a, x_ild, x_lld, x_rld, x_ist, x_lst, x_rst, x_inc, x_ii, x_ll, x_li, x_cmp, x_ui, x_il, x_lti, x_idiv, x_irem, x_dup_i, x_dup_r, x_pop_i, x_pop_r, x_dupx_ir, x_dup2_ir, x_ifeq, x_iceq, x_iflt, x_iclt, x_ifge, x_icge, x_ifgt, x_icgt, x_ifle, x_icle, x_ifne, x_icne, x_ifnull_r, x_ifnull_n, x_ifnonnull_r, x_ifnonnull_n, x_sw, x_vret, x_iret, x_lret, x_zret, x_zret0, x_zret1, x_rf_s, x_rf_n, x_geti, x_getr, x_puti, x_putz, x_putr, x_ial, x_ias, x_lal, x_las, x_aal, x_aas, x_aast, x_alen, x_new, x_newa, x_copy, x_min, x_abs, x_minl, x_oinit, x_throw, x_callS0, x_callS1, x_callS2, x_callS3, x_callS4, x_callV0, x_callV1, x_callV2, x_callV3, x_callV4, x_callV5, x_retI_v, x_callI0, x_callI1, x_callI2, x_retN_v, x_callSN1, x_callSN2, x_callT0, x_callT1, x_fn, x_sl0, x_sli, x_slr, x_sll, x_ar0, x_ari, x_arr, x_arl, ↓reduceIte, Nat.reduceAdd, Nat.reduceSub, Nat.reduceMul, Nat.reduceEqDiff, Nat.reduceLeDiff, Nat.reduceLT, if_true, if_false, Nat.le_refl, and_true, true_and, and_self, reduceCtorEq, or_false, false_or, or_true, true_or, Nat.zero_le, fa_lit, nI_add, w_mul, nI_ltI, nI_leI, nI_eq, nI_clamp, nI_toInt, if_pos, if_neg, w_div, w_rem2, xk0 hA, xk1 hA, xl1 hA, xk2 hA, xk3 hA, xl3 hA, xr2_2 hA, xi2_0 hA, xi2_1 hA, xk4 hA, xk5 hA, xl5 hA, xr4_2 hA, xi4_0 hA, xi4_1 hA, xk6 hA, xk7 hA, xl7 hA, xr6_2 hA, xi6_0 hA, xi6_1 hA, xk8 hA, xk9 hA, xl9 hA, xr8_2 hA, xi8_0 hA, xi8_1 hA, xk10 hA, xk11 hA, xl11 hA, xr10_2 hA, xi10_0 hA, xi10_1 hA, xr0_7 hA, xr0_8 hA, xr0_9 hA, xr0_10 hA, xr0_11 hA, xr0_12 hA, g0, g1, g2, g3, e5, c1, f1]
    · by_cases c2 : s_n (R 4) < 40
      · rw [if_pos ⟨c1, c2⟩]
        rw [if_pos c2] at f2
        exact f2
      · rw [if_neg (fun q => c2 q.2)]
        rw [if_neg c2] at f2
        exact f2
  · rw [if_neg (fun q => c1 q.1)]
    refine ⟨S, ?_, h, w_J.rf⟩
    simp (disch := omega) only [bX1_sendPlanned_13, kX1_sendPlanned_59, x_cs0, x_csi, x_csr, x_csn, x_csl, x_ret_v, x_ret_t, x_ret_n, x_tl_s, x_tl_n, x_lk0, x_lk, x_rem0, x_rem_i, x_rem_r, x_rem_l, x_rem2_0, x_rem2_i, x_rem2_r, x_rem2_l, x_pick0, x_pick_c, x_st1, x_st2, x_live, x_i, x_l, x_a, x_ild, x_lld, x_rld, x_ist, x_lst, x_rst, x_inc, x_ii, x_ll, x_li, x_cmp, x_ui, x_il, x_lti, x_idiv, x_irem, x_dup_i, x_dup_r, x_pop_i, x_pop_r, x_dupx_ir, x_dup2_ir, x_ifeq, x_iceq, x_iflt, x_iclt, x_ifge, x_icge, x_ifgt, x_icgt, x_ifle, x_icle, x_ifne, x_icne, x_ifnull_r, x_ifnull_n, x_ifnonnull_r, x_ifnonnull_n, x_sw, x_vret, x_iret, x_lret, x_zret, x_zret0, x_zret1, x_rf_s, x_rf_n, x_geti, x_getr, x_puti, x_putz, x_putr, x_ial, x_ias, x_lal, x_las, x_aal, x_aas, x_aast, x_alen, x_new, x_newa, x_copy, x_min, x_abs, x_minl, x_oinit, x_throw, x_callS0, x_callS1, x_callS2, x_callS3, x_callS4, x_callV0, x_callV1, x_callV2, x_callV3, x_callV4, x_callV5, x_retI_v, x_callI0, x_callI1, x_callI2, x_retN_v, x_callSN1, x_callSN2, x_callT0, x_callT1, x_fn, x_sl0, x_sli, x_slr, x_sll, x_ar0, x_ari, x_arr, x_arl, ↓reduceIte, Nat.reduceAdd, Nat.reduceSub, Nat.reduceMul, Nat.reduceEqDiff, Nat.reduceLeDiff, Nat.reduceLT, if_true, if_false, Nat.le_refl, and_true, true_and, and_self, reduceCtorEq, or_false, false_or, or_true, true_or, Nat.zero_le, fa_lit, nI_add, w_mul, nI_ltI, nI_leI, nI_eq, nI_clamp, nI_toInt, if_pos, if_neg, w_div, w_rem2, xk0 hA, xk1 hA, xl1 hA, xk2 hA, xk3 hA, xl3 hA, xr2_2 hA, xi2_0 hA, xi2_1 hA, xk4 hA, xk5 hA, xl5 hA, xr4_2 hA, xi4_0 hA, xi4_1 hA, xk6 hA, xk7 hA, xl7 hA, xr6_2 hA, xi6_0 hA, xi6_1 hA, xk8 hA, xk9 hA, xl9 hA, xr8_2 hA, xi8_0 hA, xi8_1 hA, xk10 hA, xk11 hA, xl11 hA, xr10_2 hA, xi10_0 hA, xi10_1 hA, xr0_7 hA, xr0_8 hA, xr0_9 hA, xr0_10 hA, xr0_11 hA, xr0_12 hA, g3, e5, c1]
theorem y_sendPlanned (hA : w_A S a) (h : w_R S a R) (hV : s_V R) : ∃ S', fX1_sendPlanned w_N [.ref cl, .ref a] S = some (.inl none, S') ∧ w_R S' a (s_p1 R) ∧ w_J a S S' := by
  have b8 := hV.B.2.2.2.2.2.1
  obtain ⟨S', f1, f2, f3⟩ := w_genL (body := bX1_sendPlanned_13 w_N) (lvf := fun i => [(1, .ref a), (2, .ref (a + 6)), (3, .int (nI (s_n (R 8)))), (4, .int (nI i))]) (n := s_n (R 8)) (g := s_sendG) (P := fun _ T Q => w_A T a ∧ w_R T a Q ∧ s_V Q ∧ s_KS R Q) (Fr := w_J a) (res := fun T _ => some (.inl none, T))
    (fun _ => w_J.rf) (fun _ _ _ => w_J.tr)
    (fun i T Q r hi hP => by
      obtain ⟨p1, p2, p3, p4⟩ := hP
      have e8 : Q 8 = R 8 := p4 8 (by omega)
      obtain ⟨T', k1, k2, k3⟩ := y_sendG (p := i) (r := r) p1 p2 p3 (by rw [e8]; exact hi)
      rw [e8] at k1
      have hv := p3.sendG (p := i) (by rw [e8]; exact hi)
      exact ⟨T', k1, ⟨k3.A p1, k2, hv.1, p4.tr hv.2⟩, k3⟩)
    (fun T Q r hP => by simp (disch := omega) only [bX1_sendPlanned_13, x_cs0, x_csi, x_csr, x_csn, x_csl, x_ret_v, x_ret_t, x_ret_n, x_tl_s, x_tl_n, x_lk0, x_lk, x_rem0, x_rem_i, x_rem_r, x_rem_l, x_rem2_0, x_rem2_i, x_rem2_r, x_rem2_l, x_pick0, x_pick_c, x_st1, x_st2, x_live, x_i, x_l, x_a, x_ild, x_lld, x_rld, x_ist, x_lst, x_rst, x_inc, x_ii, x_ll, x_li, x_cmp, x_ui, x_il, x_lti, x_idiv, x_irem, x_dup_i, x_dup_r, x_pop_i, x_pop_r, x_dupx_ir, x_dup2_ir, x_ifeq, x_iceq, x_iflt, x_iclt, x_ifge, x_icge, x_ifgt, x_icgt, x_ifle, x_icle, x_ifne, x_icne, x_ifnull_r, x_ifnull_n, x_ifnonnull_r, x_ifnonnull_n, x_sw, x_vret, x_iret, x_lret, x_zret, x_zret0, x_zret1, x_rf_s, x_rf_n, x_geti, x_getr, x_puti, x_putz, x_putr, x_ial, x_ias, x_lal, x_las, x_aal, x_aas, x_aast, x_alen, x_new, x_newa, x_copy, x_min, x_abs, x_minl, x_oinit, x_throw, x_callS0, x_callS1, x_callS2, x_callS3, x_callS4, x_callV0, x_callV1, x_callV2, x_callV3, x_callV4, x_callV5, x_retI_v, x_callI0, x_callI1, x_callI2, x_retN_v, x_callSN1, x_callSN2, x_callT0, x_callT1, x_fn, x_sl0, x_sli, x_slr, x_sll, x_ar0, x_ari, x_arr, x_arl, ↓reduceIte, Nat.reduceAdd, Nat.reduceSub, Nat.reduceMul, Nat.reduceEqDiff, Nat.reduceLeDiff, Nat.reduceLT, if_true, if_false, Nat.le_refl, and_true, true_and, and_self, reduceCtorEq, or_false, false_or, or_true, true_or, Nat.zero_le, fa_lit, nI_add, w_mul, nI_ltI, nI_leI, nI_eq, nI_clamp, nI_toInt, if_pos, if_neg, w_div, w_rem2]) w_N 0 S R (by show s_n (R 8) - 0 < 5000; omega) (Nat.zero_le _) ⟨hA, h, hV, s_KS.rf⟩
  have ec := y_count (h.tL hA hV.B)
  refine ⟨S', ?_, f2.2.1, f3⟩
  simp (disch := omega) only [fX1_sendPlanned, kX1_sendPlanned_0, kX1_sendPlanned_13, x_cs0, x_csi, x_csr, x_csn, x_csl, x_ret_v, x_ret_t, x_ret_n, x_tl_s, x_tl_n, x_lk0, x_lk, x_rem0, x_rem_i, x_rem_r, x_rem_l, x_rem2_0, x_rem2_i, x_rem2_r, x_rem2_l, x_pick0, x_pick_c, x_st1, x_st2, x_live, x_i, x_l, x_a, x_ild, x_lld, x_rld, x_ist, x_lst, x_rst, x_inc, x_ii, x_ll, x_li, x_cmp, x_ui, x_il, x_lti, x_idiv, x_irem, x_dup_i, x_dup_r, x_pop_i, x_pop_r, x_dupx_ir, x_dup2_ir, x_ifeq, x_iceq, x_iflt, x_iclt, x_ifge, x_icge, x_ifgt, x_icgt, x_ifle, x_icle, x_ifne, x_icne, x_ifnull_r, x_ifnull_n, x_ifnonnull_r, x_ifnonnull_n, x_sw, x_vret, x_iret, x_lret, x_zret, x_zret0, x_zret1, x_rf_s, x_rf_n, x_geti, x_getr, x_puti, x_putz, x_putr, x_ial, x_ias, x_lal, x_las, x_aal, x_aas, x_aast, x_alen, x_new, x_newa, x_copy, x_min, x_abs, x_minl, x_oinit, x_throw, x_callS0, x_callS1, x_callS2, x_callS3, x_callS4, x_callV0, x_callV1, x_callV2, x_callV3, x_callV4, x_callV5, x_retI_v, x_callI0, x_callI1, x_callI2, x_retN_v, x_callSN1, x_callSN2, x_callT0, x_callT1, x_fn, x_sl0, x_sli, x_slr, x_sll, x_ar0, x_ari, x_arr, x_arl, ↓reduceIte, Nat.reduceAdd, Nat.reduceSub, Nat.reduceMul, Nat.reduceEqDiff, Nat.reduceLeDiff, Nat.reduceLT, if_true, if_false, Nat.le_refl, and_true, true_and, and_self, reduceCtorEq, or_false, false_or, or_true, true_or, Nat.zero_le, fa_lit, nI_add, w_mul, nI_ltI, nI_leI, nI_eq, nI_clamp, nI_toInt, if_pos, if_neg, w_div, w_rem2, xk0 hA, xk1 hA, xl1 hA, xk2 hA, xk3 hA, xl3 hA, xr2_2 hA, xi2_0 hA, xi2_1 hA, xk4 hA, xk5 hA, xl5 hA, xr4_2 hA, xi4_0 hA, xi4_1 hA, xk6 hA, xk7 hA, xl7 hA, xr6_2 hA, xi6_0 hA, xi6_1 hA, xk8 hA, xk9 hA, xl9 hA, xr8_2 hA, xi8_0 hA, xi8_1 hA, xk10 hA, xk11 hA, xl11 hA, xr10_2 hA, xi10_0 hA, xi10_1 hA, xr0_7 hA, xr0_8 hA, xr0_9 hA, xr0_10 hA, xr0_11 hA, xr0_12 hA, ec, f1]
/-- a situation's frame, and what finding ways may change -/
def w_JH (a : Nat) (S S' : am_S) : Prop := ∃ T, w_J a S T ∧ w_H T S'
end Y11
