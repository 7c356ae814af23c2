/-! THE REFERENCE: lost orders, moves, the past, the turn -/
section Z12
variable {S : am_S} {x y z X Y : Int32} {i j o u n w hh c d b m t p np ne no : Nat} {R F : Nat → Int32}
theorem s_wg_c (h : x = nI 0 ∨ x = nI 1) : s_wg x < 2 := by
  rcases h with rfl | rfl
  · rw [s_wg_0]; omega
  · rw [s_wg_1]; omega
theorem s_V.lostG (h : s_V R) (ho : o < s_n (R 4)) : s_V (s_lostG o R) ∧ s_K R (s_lostG o R) := by
  have a4 := h.B.2.2.2.1.2
  unfold s_lostG
  split
  · next q =>
    exact ⟨h.fin ho (s_wg_c (Or.inl q.1)) (by omega) (by omega), s_K.bec (h.room ho (s_wg_c (Or.inl q.1))) (by omega)⟩
  · exact ⟨h, s_K.rf⟩
theorem s_V.carryG (h : s_V R) (ho : o < s_n (R 4)) : s_V (s_carryG o R) ∧ s_K R (s_carryG o R) := by
  unfold s_carryG
  split
  · next q => exact h.carry ho q
  · exact ⟨h, s_K.rf⟩
theorem s_V.walkW (h : s_V R) (hu : u < s_n (R 2)) : s_V (s_walk R u o) ∧ s_K R (s_walk R u o) ∧ (∀ j, 64 ≤ j → s_walk R u o j = R j) ∧ ∀ v, s_walk R u o (12 + 4 * v + 3) = R (12 + 4 * v + 3) := by
  have a2 := h.B.2.1.2
  have e : s_walk R u o = R ∨ ∃ b, s_fr R b ∧ s_walk R u o = va_up (va_up R (12 + 4 * u + 0) (nI (b % 12))) (12 + 4 * u + 1) (nI (b / 12)) := by
    unfold s_walk
    split
    · exact Or.inl rfl
    · next q => exact Or.inr ⟨_, s_st_fr q, rfl⟩
  rcases e with e | ⟨b, hb, e⟩
  · rw [e]
    exact ⟨h, s_K.rf, fun _ _ => rfl, fun _ => rfl⟩
  · rw [e]
    exact ⟨h.walk hu hb, fun j hj => by rw [s_up_n (by omega), s_up_n (by omega)], fun j hj => by rw [s_up_n (by omega), s_up_n (by omega)], fun v => by rw [s_up_n (by omega), s_up_n (by omega)]⟩
theorem s_V.moveG (h : s_V R) (hu : u < s_n (R 2)) : s_V (s_moveG u R) ∧ s_K R (s_moveG u R) := by
  have a4 := h.B.2.2.2.1.2
  unfold s_moveG
  rcases s_ob_sp (R := R) (x := nI u) with ⟨k1, k2⟩ | ⟨p, k1, k2, k3, k4⟩
  · rw [if_pos k1]
    exact ⟨h, s_K.rf⟩
  · rw [k4, if_neg (nI_nm1 (by omega)), w_snI (by omega)]
    dsimp only
    have g : ∀ c : Prop, [Decidable c] → s_V (if c then s_walk R u p else R) ∧ s_K R (if c then s_walk R u p else R) ∧ (if c then s_walk R u p else R) (64 + 10 * p + 3) = nI 1 := fun c _ => by
      have w := h.walkW (u := u) (o := p) hu
      split
      · exact ⟨w.1, w.2.1, by rw [w.2.2.1 _ (by omega)]; exact k3⟩
      · exact ⟨h, s_K.rf, k3⟩
    obtain ⟨g1, g2, g3⟩ := g (¬ s_inG R u p ∧ s_n (R 5) % s_n (R (12 + 4 * u + 2)) = 0)
    generalize (if ¬ s_inG R u p ∧ s_n (R 5) % s_n (R (12 + 4 * u + 2)) = 0 then s_walk R u p else R) = R1 at *
    have e4 : R1 4 = R 4 := g2 4 (by omega)
    split
    · have r := g1.room (o := p) (by rw [e4]; exact k1) (s_wg_c (Or.inr g3))
      exact ⟨g1.fin (by rw [e4]; exact k1) (s_wg_c (Or.inr g3)) (by omega) (by omega), g2.tr (s_K.bec r (by omega))⟩
    · exact ⟨g1, g2⟩
theorem z_isInGoal (hZ : w_Z S) (hR : am_i S 139 = R) (hu : u < 6) (ho : o < 40) : fX11_isInGoal w_N [.ref 138, .int (nI u), .int (nI o)] S = some (.inl (some (.int (w_b (s_inG R u o)))), S) := by
  have e1 := z_ofOrder (S := S) (u := o) (j := 1) hZ (by omega)
  have e2 := z_ofOrder (S := S) (u := o) (j := 2) hZ (by omega)
  have f0 := z_ofUnit (S := S) (u := u) (j := 0) hZ (by omega)
  have f1 := z_ofUnit (S := S) (u := u) (j := 1) hZ (by omega)
  rw [hR] at e1 e2 f0 f1
  unfold s_inG
  by_cases c1 : R (12 + 4 * u + 0) = R (64 + 10 * o + 1)
  · by_cases c2 : R (12 + 4 * u + 1) = R (64 + 10 * o + 2)
    · simp (disch := omega) only [fX11_isInGoal, kX11_isInGoal_35, kX11_isInGoal_34, kX11_isInGoal_0, x_cs0, x_csi, x_csr, x_csn, x_csl, x_ret_v, x_ret_t, x_ret_n, x_tl_s, x_tl_n, x_lk0, x_lk, x_rem0, x_rem_i, x_rem_r, x_rem_l, x_rem2_0, x_rem2_i, x_rem2_r, x_rem2_l, x_pick0, x_pick_c, x_st1, x_st2, x_live, x_i, x_l, x_a, x_ild, x_lld, x_rld, x_ist, x_lst, x_rst, x_inc, x_ii, x_ll, x_li, x_cmp, x_ui, x_il, x_lti, x_idiv, x_irem, x_dup_i, x_dup_r, x_pop_i, x_pop_r, x_dupx_ir, x_dup2_ir, x_ifeq, x_iceq, x_iflt, x_iclt, x_ifge, x_icge, x_ifgt, x_icgt, x_ifle, x_icle, x_ifne, x_icne, x_ifnull_r, x_ifnull_n, x_ifnonnull_r, x_ifnonnull_n, x_sw, x_vret, x_iret, x_lret, x_zret, x_zret0, x_zret1, x_rf_s, x_rf_n, x_geti, x_getr, x_puti, x_putz, x_putr, x_ial, x_ias, x_lal, x_las, x_aal, x_aas, x_aast, x_alen, x_new, x_newa, x_copy, x_min, x_abs, x_minl, x_oinit, x_throw, x_callS0, x_callS1, x_callS2, x_callS3, x_callS4, x_callV0, x_callV1, x_callV2, x_callV3, x_callV4, x_callV5, x_retI_v, x_callI0, x_callI1, x_callI2, x_retN_v, x_callSN1, x_callSN2, x_callT0, x_callT1, x_fn, x_sl0, x_sli, x_slr, x_sll, x_ar0, x_ari, x_arr, x_arl, ↓reduceIte, Nat.reduceAdd, Nat.reduceSub, Nat.reduceMul, Nat.reduceEqDiff, Nat.reduceLeDiff, Nat.reduceLT, if_true, if_false, Nat.le_refl, and_true, true_and, and_self, reduceCtorEq, or_false, false_or, or_true, true_or, Nat.zero_le, fa_lit, nI_add, w_mul, nI_ltI, nI_leI, nI_eq, nI_clamp, nI_toInt, if_pos, if_neg, w_div, w_rem2, zk138 hZ, zk139 hZ, zk140 hZ, zk141 hZ, zk142 hZ, zk143 hZ, zk144 hZ, zk145 hZ, zk146 hZ, zk147 hZ, zk148 hZ, zk149 hZ, zk150 hZ, zk151 hZ, zl139 hZ, zl140 hZ, zl141 hZ, zl142 hZ, zl143 hZ, zl144 hZ, zl145 hZ, zl146 hZ, zl147 hZ, zl148 hZ, zl149 hZ, zl150 hZ, zl151 hZ, zr138_0 hZ, zr138_1 hZ, zr138_2 hZ, zr138_3 hZ, zr138_4 hZ, zr138_8 hZ, zr138_9 hZ, zr138_10 hZ, zr138_12 hZ, zr138_24 hZ, zr138_25 hZ, zr138_26 hZ, zr148_0 hZ, zr148_1 hZ, zr148_2 hZ, zr148_3 hZ, zr148_4 hZ, zr148_5 hZ, zr148_6 hZ, zr148_7 hZ, zr148_8 hZ, e1, e2, f0, f1, c1, c2, w_b]
    · simp (disch := omega) only [fX11_isInGoal, kX11_isInGoal_35, kX11_isInGoal_34, kX11_isInGoal_0, x_cs0, x_csi, x_csr, x_csn, x_csl, x_ret_v, x_ret_t, x_ret_n, x_tl_s, x_tl_n, x_lk0, x_lk, x_rem0, x_rem_i, x_rem_r, x_rem_l, x_rem2_0, x_rem2_i, x_rem2_r, x_rem2_l, x_pick0, x_pick_c, x_st1, x_st2, x_live, x_i, x_l, x_a, x_ild, x_lld, x_rld, x_ist, x_lst, x_rst, x_inc, x_ii, x_ll, x_li, x_cmp, x_ui, x_il, x_lti, x_idiv, x_irem, x_dup_i, x_dup_r, x_pop_i, x_pop_r, x_dupx_ir, x_dup2_ir, x_ifeq, x_iceq, x_iflt, x_iclt, x_ifge, x_icge, x_ifgt, x_icgt, x_ifle, x_icle, x_ifne, x_icne, x_ifnull_r, x_ifnull_n, x_ifnonnull_r, x_ifnonnull_n, x_sw, x_vret, x_iret, x_lret, x_zret, x_zret0, x_zret1, x_rf_s, x_rf_n, x_geti, x_getr, x_puti, x_putz, x_putr, x_ial, x_ias, x_lal, x_las, x_aal, x_aas, x_aast, x_alen, x_new, x_newa, x_copy, x_min, x_abs, x_minl, x_oinit, x_throw, x_callS0, x_callS1, x_callS2, x_callS3, x_callS4, x_callV0, x_callV1, x_callV2, x_callV3, x_callV4, x_callV5, x_retI_v, x_callI0, x_callI1, x_callI2, x_retN_v, x_callSN1, x_callSN2, x_callT0, x_callT1, x_fn, x_sl0, x_sli, x_slr, x_sll, x_ar0, x_ari, x_arr, x_arl, ↓reduceIte, Nat.reduceAdd, Nat.reduceSub, Nat.reduceMul, Nat.reduceEqDiff, Nat.reduceLeDiff, Nat.reduceLT, if_true, if_false, Nat.le_refl, and_true, true_and, and_self, reduceCtorEq, or_false, false_or, or_true, true_or, Nat.zero_le, fa_lit, nI_add, w_mul, nI_ltI, nI_leI, nI_eq, nI_clamp, nI_toInt, if_pos, if_neg, w_div, w_rem2, zk138 hZ, zk139 hZ, zk140 hZ, zk141 hZ, zk142 hZ, zk143 hZ, zk144 hZ, zk145 hZ, zk146 hZ, zk147 hZ, zk148 hZ, zk149 hZ, zk150 hZ, zk151 hZ, zl139 hZ, zl140 hZ, zl141 hZ, zl142 hZ, zl143 hZ, zl144 hZ, zl145 hZ, zl146 hZ, zl147 hZ, zl148 hZ, zl149 hZ, zl150 hZ, zl151 hZ, zr138_0 hZ, zr138_1 hZ, zr138_2 hZ, zr138_3 hZ, zr138_4 hZ, zr138_8 hZ, zr138_9 hZ, zr138_10 hZ, zr138_12 hZ, zr138_24 hZ, zr138_25 hZ, zr138_26 hZ, zr148_0 hZ, zr148_1 hZ, zr148_2 hZ, zr148_3 hZ, zr148_4 hZ, zr148_5 hZ, zr148_6 hZ, zr148_7 hZ, zr148_8 hZ, e1, e2, f0, f1, c1, c2, w_b]
  · simp (disch := omega) only [fX11_isInGoal, kX11_isInGoal_35, kX11_isInGoal_34, kX11_isInGoal_0, x_cs0, x_csi, x_csr, x_csn, x_csl, x_ret_v, x_ret_t, x_ret_n, x_tl_s, x_tl_n, x_lk0, x_lk, x_rem0, x_rem_i, x_rem_r, x_rem_l, x_rem2_0, x_rem2_i, x_rem2_r, x_rem2_l, x_pick0, x_pick_c, x_st1, x_st2, x_live, x_i, x_l, x_a, x_ild, x_lld, x_rld, x_ist, x_lst, x_rst, x_inc, x_ii, x_ll, x_li, x_cmp, x_ui, x_il, x_lti, x_idiv, x_irem, x_dup_i, x_dup_r, x_pop_i, x_pop_r, x_dupx_ir, x_dup2_ir, x_ifeq, x_iceq, x_iflt, x_iclt, x_ifge, x_icge, x_ifgt, x_icgt, x_ifle, x_icle, x_ifne, x_icne, x_ifnull_r, x_ifnull_n, x_ifnonnull_r, x_ifnonnull_n, x_sw, x_vret, x_iret, x_lret, x_zret, x_zret0, x_zret1, x_rf_s, x_rf_n, x_geti, x_getr, x_puti, x_putz, x_putr, x_ial, x_ias, x_lal, x_las, x_aal, x_aas, x_aast, x_alen, x_new, x_newa, x_copy, x_min, x_abs, x_minl, x_oinit, x_throw, x_callS0, x_callS1, x_callS2, x_callS3, x_callS4, x_callV0, x_callV1, x_callV2, x_callV3, x_callV4, x_callV5, x_retI_v, x_callI0, x_callI1, x_callI2, x_retN_v, x_callSN1, x_callSN2, x_callT0, x_callT1, x_fn, x_sl0, x_sli, x_slr, x_sll, x_ar0, x_ari, x_arr, x_arl, ↓reduceIte, Nat.reduceAdd, Nat.reduceSub, Nat.reduceMul, Nat.reduceEqDiff, Nat.reduceLeDiff, Nat.reduceLT, if_true, if_false, Nat.le_refl, and_true, true_and, and_self, reduceCtorEq, or_false, false_or, or_true, true_or, Nat.zero_le, fa_lit, nI_add, w_mul, nI_ltI, nI_leI, nI_eq, nI_clamp, nI_toInt, if_pos, if_neg, w_div, w_rem2, zk138 hZ, zk139 hZ, zk140 hZ, zk141 hZ, zk142 hZ, zk143 hZ, zk144 hZ, zk145 hZ, zk146 hZ, zk147 hZ, zk148 hZ, zk149 hZ, zk150 hZ, zk151 hZ, zl139 hZ, zl140 hZ, zl141 hZ, zl142 hZ, zl143 hZ, zl144 hZ, zl145 hZ, zl146 hZ, zl147 hZ, zl148 hZ, zl149 hZ, zl150 hZ, zl151 hZ, zr138_0 hZ, zr138_1 hZ, zr138_2 hZ, zr138_3 hZ, zr138_4 hZ, zr138_8 hZ, zr138_9 hZ, zr138_10 hZ, zr138_12 hZ, zr138_24 hZ, zr138_25 hZ, zr138_26 hZ, zr148_0 hZ, zr148_1 hZ, zr148_2 hZ, zr148_3 hZ, zr148_4 hZ, zr148_5 hZ, zr148_6 hZ, zr148_7 hZ, zr148_8 hZ, e1, e2, f0, f1, c1, false_and, w_b]
theorem z_walk (hZ : w_Z S) (hR : am_i S 139 = R) (h : s_V R) (hu : u < s_n (R 2)) (ho : o < s_n (R 4)) : ∃ S', fX11_walk w_N [.ref 138, .int (nI u), .int (nI o)] S = some (.inl none, S') ∧ am_i S' 139 = s_walk R u o ∧ w_I w_P3 S S' := by
  have a2 := h.B.2.1.2
  have a4 := h.B.2.2.2.1.2
  have ho1 := (h.O o ho).1.2.1
  have hin := (h.U u hu).1.1
  obtain ⟨k1, k2, k3, k4⟩ := ho1.ok h.B
  obtain ⟨l1, l2, l3, l4⟩ := hin.ok h.B
  have e1 := z_ofOrder (S := S) (u := o) (j := 1) hZ (by omega)
  have e2 := z_ofOrder (S := S) (u := o) (j := 2) hZ (by omega)
  rw [hR, ho1.1.1, ← k2] at e1
  rw [hR, ho1.2.1, ← k3] at e2
  obtain ⟨S1, f1, f2, f3⟩ := z_layFar (t := s_ce (R (64 + 10 * o + 1)) (R (64 + 10 * o + 2))) hZ (by rw [hR]; exact h.B.WH) (by rw [hR]; exact k1)
  rw [hR] at f2
  have hZ1 := f3.Z hZ
  have hR1 : am_i S1 139 = R := (f3.i (by omega)).trans hR
  have f3' : w_I w_P3 S S1 := f3.mono (fun b hb => Or.inr hb)
  have g0 := z_ofUnit (S := S1) (u := u) (j := 0) hZ1 (by omega)
  have g1 := z_ofUnit (S := S1) (u := u) (j := 1) hZ1 (by omega)
  rw [hR1, hin.1.1, ← l2] at g0
  rw [hR1, hin.2.1, ← l3] at g1
  have r0 : R (12 + 4 * u + 0) = nI (s_ce (R (12 + 4 * u + 0)) (R (12 + 4 * u + 1)) % 12) := by rw [l2]; exact hin.1.1
  have r1 : R (12 + 4 * u + 1) = nI (s_ce (R (12 + 4 * u + 0)) (R (12 + 4 * u + 1)) / 12) := by rw [l3]; exact hin.2.1
  have st := z_stepFrom hZ1 hR1 h.B.WH l1 f2
  unfold s_walk
  generalize s_far R (s_ce (R (64 + 10 * o + 1)) (R (64 + 10 * o + 2))) = F at *
  generalize s_ce (R (64 + 10 * o + 1)) (R (64 + 10 * o + 2)) = t at *
  generalize s_ce (R (12 + 4 * u + 0)) (R (12 + 4 * u + 1)) = c at *
  split
  · next q =>
    rw [q] at st
    have st : fX11_stepFrom w_N [.ref 138, .int (nI (c % 12)), .int (nI (c / 12))] S1 = some (.inl (some (.int (-nI 1))), S1) := st
    refine ⟨S1, ?_, hR1, f3'⟩
    simp (disch := omega) only [fX11_walk, kX11_walk_74, kX11_walk_0, x_cs0, x_csi, x_csr, x_csn, x_csl, x_ret_v, x_ret_t, x_ret_n, x_tl_s, x_tl_n, x_lk0, x_lk, x_rem0, x_rem_i, x_rem_r, x_rem_l, x_rem2_0, x_rem2_i, x_rem2_r, x_rem2_l, x_pick0, x_pick_c, x_st1, x_st2, x_live, x_i, x_l, x_a, x_ild, x_lld, x_rld, x_ist, x_lst, x_rst, x_inc, x_ii, x_ll, x_li, x_cmp, x_ui, x_il, x_lti, x_idiv, x_irem, x_dup_i, x_dup_r, x_pop_i, x_pop_r, x_dupx_ir, x_dup2_ir, x_ifeq, x_iceq, x_iflt, x_iclt, x_ifge, x_icge, x_ifgt, x_icgt, x_ifle, x_icle, x_ifne, x_icne, x_ifnull_r, x_ifnull_n, x_ifnonnull_r, x_ifnonnull_n, x_sw, x_vret, x_iret, x_lret, x_zret, x_zret0, x_zret1, x_rf_s, x_rf_n, x_geti, x_getr, x_puti, x_putz, x_putr, x_ial, x_ias, x_lal, x_las, x_aal, x_aas, x_aast, x_alen, x_new, x_newa, x_copy, x_min, x_abs, x_minl, x_oinit, x_throw, x_callS0, x_callS1, x_callS2, x_callS3, x_callS4, x_callV0, x_callV1, x_callV2, x_callV3, x_callV4, x_callV5, x_retI_v, x_callI0, x_callI1, x_callI2, x_retN_v, x_callSN1, x_callSN2, x_callT0, x_callT1, x_fn, x_sl0, x_sli, x_slr, x_sll, x_ar0, x_ari, x_arr, x_arl, ↓reduceIte, Nat.reduceAdd, Nat.reduceSub, Nat.reduceMul, Nat.reduceEqDiff, Nat.reduceLeDiff, Nat.reduceLT, if_true, if_false, Nat.le_refl, and_true, true_and, and_self, reduceCtorEq, or_false, false_or, or_true, true_or, Nat.zero_le, fa_lit, nI_add, w_mul, nI_ltI, nI_leI, nI_eq, nI_clamp, nI_toInt, if_pos, if_neg, w_div, w_rem2, zk138 hZ, zk139 hZ, zk140 hZ, zk141 hZ, zk142 hZ, zk143 hZ, zk144 hZ, zk145 hZ, zk146 hZ, zk147 hZ, zk148 hZ, zk149 hZ, zk150 hZ, zk151 hZ, zl139 hZ, zl140 hZ, zl141 hZ, zl142 hZ, zl143 hZ, zl144 hZ, zl145 hZ, zl146 hZ, zl147 hZ, zl148 hZ, zl149 hZ, zl150 hZ, zl151 hZ, zr138_0 hZ, zr138_1 hZ, zr138_2 hZ, zr138_3 hZ, zr138_4 hZ, zr138_8 hZ, zr138_9 hZ, zr138_10 hZ, zr138_12 hZ, zr138_24 hZ, zr138_25 hZ, zr138_26 hZ, zr148_0 hZ, zr148_1 hZ, zr148_2 hZ, zr148_3 hZ, zr148_4 hZ, zr148_5 hZ, zr148_6 hZ, zr148_7 hZ, zr148_8 hZ, zk138 hZ1, zk139 hZ1, zk140 hZ1, zk141 hZ1, zk142 hZ1, zk143 hZ1, zk144 hZ1, zk145 hZ1, zk146 hZ1, zk147 hZ1, zk148 hZ1, zk149 hZ1, zk150 hZ1, zk151 hZ1, zl139 hZ1, zl140 hZ1, zl141 hZ1, zl142 hZ1, zl143 hZ1, zl144 hZ1, zl145 hZ1, zl146 hZ1, zl147 hZ1, zl148 hZ1, zl149 hZ1, zl150 hZ1, zl151 hZ1, zr138_0 hZ1, zr138_1 hZ1, zr138_2 hZ1, zr138_3 hZ1, zr138_4 hZ1, zr138_8 hZ1, zr138_9 hZ1, zr138_10 hZ1, zr138_12 hZ1, zr138_24 hZ1, zr138_25 hZ1, zr138_26 hZ1, zr148_0 hZ1, zr148_1 hZ1, zr148_2 hZ1, zr148_3 hZ1, zr148_4 hZ1, zr148_5 hZ1, zr148_6 hZ1, zr148_7 hZ1, zr148_8 hZ1, e1, e2, f1, g0, g1, st]
  · next d b q =>
    rw [q] at st
    have st : fX11_stepFrom w_N [.ref 138, .int (nI (c % 12)), .int (nI (c / 12))] S1 = some (.inl (some (.int (nI d))), S1) := st
    obtain ⟨-, hd, hnb, -⟩ := s_st_sp 4 0 q
    have hmd := nI_nm1 (n := d) (by omega)
    obtain ⟨bx, bz, d1, d2, ⟨hn, hnb2⟩ | ⟨i, j, ex, ey, hi, hj, hnb2⟩⟩ := z_besid (d := d) h.B.WH (by omega) l1
    · rw [hnb2] at hnb
      cases hnb
    · rw [hnb2] at hnb
      split at hnb
      · have hB0 : s_w R < 13 := h.B.1.1.2
        have hB1 : s_h R < 13 := h.B.1.2.2.1.2
        have eb : b = 12 * j + i := by cases hnb; rfl
        have ei : i = b % 12 := by omega
        have ej : j = b / 12 := by omega
        rw [← ei, ← ej]
        refine ⟨am_row S1 139 (va_up (va_up R (12 + 4 * u + 0) (nI i)) (12 + 4 * u + 1) (nI j)), ?_, x_rows, f3'.tr (w_I.row (Or.inl rfl))⟩
        simp (disch := omega) only [fX11_walk, kX11_walk_74, kX11_walk_0, x_cs0, x_csi, x_csr, x_csn, x_csl, x_ret_v, x_ret_t, x_ret_n, x_tl_s, x_tl_n, x_lk0, x_lk, x_rem0, x_rem_i, x_rem_r, x_rem_l, x_rem2_0, x_rem2_i, x_rem2_r, x_rem2_l, x_pick0, x_pick_c, x_st1, x_st2, x_live, x_i, x_l, x_a, x_ild, x_lld, x_rld, x_ist, x_lst, x_rst, x_inc, x_ii, x_ll, x_li, x_cmp, x_ui, x_il, x_lti, x_idiv, x_irem, x_dup_i, x_dup_r, x_pop_i, x_pop_r, x_dupx_ir, x_dup2_ir, x_ifeq, x_iceq, x_iflt, x_iclt, x_ifge, x_icge, x_ifgt, x_icgt, x_ifle, x_icle, x_ifne, x_icne, x_ifnull_r, x_ifnull_n, x_ifnonnull_r, x_ifnonnull_n, x_sw, x_vret, x_iret, x_lret, x_zret, x_zret0, x_zret1, x_rf_s, x_rf_n, x_geti, x_getr, x_puti, x_putz, x_putr, x_ial, x_ias, x_lal, x_las, x_aal, x_aas, x_aast, x_alen, x_new, x_newa, x_copy, x_min, x_abs, x_minl, x_oinit, x_throw, x_callS0, x_callS1, x_callS2, x_callS3, x_callS4, x_callV0, x_callV1, x_callV2, x_callV3, x_callV4, x_callV5, x_retI_v, x_callI0, x_callI1, x_callI2, x_retN_v, x_callSN1, x_callSN2, x_callT0, x_callT1, x_fn, x_sl0, x_sli, x_slr, x_sll, x_ar0, x_ari, x_arr, x_arl, ↓reduceIte, Nat.reduceAdd, Nat.reduceSub, Nat.reduceMul, Nat.reduceEqDiff, Nat.reduceLeDiff, Nat.reduceLT, if_true, if_false, Nat.le_refl, and_true, true_and, and_self, reduceCtorEq, or_false, false_or, or_true, true_or, Nat.zero_le, fa_lit, nI_add, w_mul, nI_ltI, nI_leI, nI_eq, nI_clamp, nI_toInt, if_pos, if_neg, w_div, w_rem2, zk138 hZ, zk139 hZ, zk140 hZ, zk141 hZ, zk142 hZ, zk143 hZ, zk144 hZ, zk145 hZ, zk146 hZ, zk147 hZ, zk148 hZ, zk149 hZ, zk150 hZ, zk151 hZ, zl139 hZ, zl140 hZ, zl141 hZ, zl142 hZ, zl143 hZ, zl144 hZ, zl145 hZ, zl146 hZ, zl147 hZ, zl148 hZ, zl149 hZ, zl150 hZ, zl151 hZ, zr138_0 hZ, zr138_1 hZ, zr138_2 hZ, zr138_3 hZ, zr138_4 hZ, zr138_8 hZ, zr138_9 hZ, zr138_10 hZ, zr138_12 hZ, zr138_24 hZ, zr138_25 hZ, zr138_26 hZ, zr148_0 hZ, zr148_1 hZ, zr148_2 hZ, zr148_3 hZ, zr148_4 hZ, zr148_5 hZ, zr148_6 hZ, zr148_7 hZ, zr148_8 hZ, zk138 hZ1, zk139 hZ1, zk140 hZ1, zk141 hZ1, zk142 hZ1, zk143 hZ1, zk144 hZ1, zk145 hZ1, zk146 hZ1, zk147 hZ1, zk148 hZ1, zk149 hZ1, zk150 hZ1, zk151 hZ1, zl139 hZ1, zl140 hZ1, zl141 hZ1, zl142 hZ1, zl143 hZ1, zl144 hZ1, zl145 hZ1, zl146 hZ1, zl147 hZ1, zl148 hZ1, zl149 hZ1, zl150 hZ1, zl151 hZ1, zr138_0 hZ1, zr138_1 hZ1, zr138_2 hZ1, zr138_3 hZ1, zr138_4 hZ1, zr138_8 hZ1, zr138_9 hZ1, zr138_10 hZ1, zr138_12 hZ1, zr138_24 hZ1, zr138_25 hZ1, zr138_26 hZ1, zr148_0 hZ1, zr148_1 hZ1, zr148_2 hZ1, zr148_3 hZ1, zr148_4 hZ1, zr148_5 hZ1, zr148_6 hZ1, zr148_7 hZ1, zr148_8 hZ1, x_k_I, x_l_I, x_r_I, x_j_I, x_n_I, x_z_I, x_i_Is, x_k_W, x_l_W, x_r_W, x_j_W, x_n_W, x_z_W, x_k_J, x_l_J, x_r_J, x_i_J, x_n_J, x_z_J, x_k_R, x_l_R, x_j_R, x_i_R, x_n_R, x_z_R, x_n_N, x_z_N, x_k_N, x_l_N, x_i_N, x_j_N, x_r_N, x_rowput, x_rr, x_rows, x_rown, s_up_s, s_up_n, hR1, e1, e2, f1, g0, g1, st, hmd, d1, d2, z_unitAt, r0, r1, ex, ey]
      · cases hnb
theorem z_move (hZ : w_Z S) (hR : am_i S 139 = R) (h : s_V R) (hu : u < s_n (R 2)) : ∃ S', fX11_move w_N [.ref 138, .int (nI u)] S = some (.inl none, S') ∧ am_i S' 139 = s_moveG u R ∧ w_I w_P3 S S' := by
  have a2 := h.B.2.1.2
  have a4 := h.B.2.2.2.1
  have a5 := h.B.2.2.2.2.2.2.1
  have pc := (h.U u hu).2.1
  have gob := z_obeyedBy (S := S) (x := nI u) (n := s_n (R 4)) hZ (by rw [hR]; exact a4.1) (by omega)
  rw [hR] at gob
  have gob : fX11_obeyedBy w_N [.ref 138, .int (nI u)] S = some (.inl (some (.int (s_ob R (nI u)))), S) := gob
  unfold s_moveG
  rcases s_ob_sp (R := R) (x := nI u) with ⟨k1, k2⟩ | ⟨p, k1, k2, k3, k4⟩
  · rw [if_pos k1]
    rw [k1] at gob
    refine ⟨S, ?_, hR, w_I.rf⟩
    simp (disch := omega) only [fX11_move, kX11_move_56, kX11_move_41, kX11_move_0, x_cs0, x_csi, x_csr, x_csn, x_csl, x_ret_v, x_ret_t, x_ret_n, x_tl_s, x_tl_n, x_lk0, x_lk, x_rem0, x_rem_i, x_rem_r, x_rem_l, x_rem2_0, x_rem2_i, x_rem2_r, x_rem2_l, x_pick0, x_pick_c, x_st1, x_st2, x_live, x_i, x_l, x_a, x_ild, x_lld, x_rld, x_ist, x_lst, x_rst, x_inc, x_ii, x_ll, x_li, x_cmp, x_ui, x_il, x_lti, x_idiv, x_irem, x_dup_i, x_dup_r, x_pop_i, x_pop_r, x_dupx_ir, x_dup2_ir, x_ifeq, x_iceq, x_iflt, x_iclt, x_ifge, x_icge, x_ifgt, x_icgt, x_ifle, x_icle, x_ifne, x_icne, x_ifnull_r, x_ifnull_n, x_ifnonnull_r, x_ifnonnull_n, x_sw, x_vret, x_iret, x_lret, x_zret, x_zret0, x_zret1, x_rf_s, x_rf_n, x_geti, x_getr, x_puti, x_putz, x_putr, x_ial, x_ias, x_lal, x_las, x_aal, x_aas, x_aast, x_alen, x_new, x_newa, x_copy, x_min, x_abs, x_minl, x_oinit, x_throw, x_callS0, x_callS1, x_callS2, x_callS3, x_callS4, x_callV0, x_callV1, x_callV2, x_callV3, x_callV4, x_callV5, x_retI_v, x_callI0, x_callI1, x_callI2, x_retN_v, x_callSN1, x_callSN2, x_callT0, x_callT1, x_fn, x_sl0, x_sli, x_slr, x_sll, x_ar0, x_ari, x_arr, x_arl, ↓reduceIte, Nat.reduceAdd, Nat.reduceSub, Nat.reduceMul, Nat.reduceEqDiff, Nat.reduceLeDiff, Nat.reduceLT, if_true, if_false, Nat.le_refl, and_true, true_and, and_self, reduceCtorEq, or_false, false_or, or_true, true_or, Nat.zero_le, fa_lit, nI_add, w_mul, nI_ltI, nI_leI, nI_eq, nI_clamp, nI_toInt, if_pos, if_neg, w_div, w_rem2, zk138 hZ, zk139 hZ, zk140 hZ, zk141 hZ, zk142 hZ, zk143 hZ, zk144 hZ, zk145 hZ, zk146 hZ, zk147 hZ, zk148 hZ, zk149 hZ, zk150 hZ, zk151 hZ, zl139 hZ, zl140 hZ, zl141 hZ, zl142 hZ, zl143 hZ, zl144 hZ, zl145 hZ, zl146 hZ, zl147 hZ, zl148 hZ, zl149 hZ, zl150 hZ, zl151 hZ, zr138_0 hZ, zr138_1 hZ, zr138_2 hZ, zr138_3 hZ, zr138_4 hZ, zr138_8 hZ, zr138_9 hZ, zr138_10 hZ, zr138_12 hZ, zr138_24 hZ, zr138_25 hZ, zr138_26 hZ, zr148_0 hZ, zr148_1 hZ, zr148_2 hZ, zr148_3 hZ, zr148_4 hZ, zr148_5 hZ, zr148_6 hZ, zr148_7 hZ, zr148_8 hZ, gob]
  · have hp1 := nI_nm1 (n := p) (by omega)
    rw [k4] at gob
    rw [k4, if_neg hp1, w_snI (by omega)]
    dsimp only
    have gi := z_isInGoal (S := S) (u := u) (o := p) hZ hR (by omega) (by omega)
    have gt := z_turnNow' hZ hR
    rw [a5.1] at gt
    have g2 := z_ofUnit (S := S) (u := u) (j := 2) hZ (by omega)
    rw [hR, pc.1.1] at g2
    have hw := h.walkW (u := u) (o := p) hu
    have rest : ∀ (S1 : am_S) (R1 : Nat → Int32), w_Z S1 → am_i S1 139 = R1 → s_V R1 → R1 4 = R 4 → R1 (64 + 10 * p + 3) = nI 1 → w_I w_P3 S S1 →
        ∃ S', kX11_move_41 w_N [(0, .ref 138), (1, .int (nI u)), (2, .int (nI p))] [] S1 = some (.inl none, S') ∧ am_i S' 139 = (if s_inG R1 u p then s_become R1 p (nI 2) else R1) ∧ w_I w_P3 S S' := by
      intro S1 R1 hZ1 hR1 hv1 e4 e3 hI1
      have gi1 := z_isInGoal (S := S1) (u := u) (o := p) hZ1 hR1 (by omega) (by omega)
      by_cases c : s_inG R1 u p
      · rw [w_bt c] at gi1
        have gb := z_become (S := S1) (o := p) (x := nI 2) (ne := s_n (R1 7)) hZ1 (by rw [hR1]; exact hv1.B.2.2.2.2.1.1) (hv1.room (by rw [e4]; exact k1) (s_wg_c (Or.inr e3))) (by omega)
        rw [hR1] at gb
        rw [if_pos c]
        refine ⟨_, ?_, x_rows, hI1.tr (w_I.row (Or.inl rfl))⟩
        simp (disch := omega) only [kX11_move_41, kX11_move_56, x_cs0, x_csi, x_csr, x_csn, x_csl, x_ret_v, x_ret_t, x_ret_n, x_tl_s, x_tl_n, x_lk0, x_lk, x_rem0, x_rem_i, x_rem_r, x_rem_l, x_rem2_0, x_rem2_i, x_rem2_r, x_rem2_l, x_pick0, x_pick_c, x_st1, x_st2, x_live, x_i, x_l, x_a, x_ild, x_lld, x_rld, x_ist, x_lst, x_rst, x_inc, x_ii, x_ll, x_li, x_cmp, x_ui, x_il, x_lti, x_idiv, x_irem, x_dup_i, x_dup_r, x_pop_i, x_pop_r, x_dupx_ir, x_dup2_ir, x_ifeq, x_iceq, x_iflt, x_iclt, x_ifge, x_icge, x_ifgt, x_icgt, x_ifle, x_icle, x_ifne, x_icne, x_ifnull_r, x_ifnull_n, x_ifnonnull_r, x_ifnonnull_n, x_sw, x_vret, x_iret, x_lret, x_zret, x_zret0, x_zret1, x_rf_s, x_rf_n, x_geti, x_getr, x_puti, x_putz, x_putr, x_ial, x_ias, x_lal, x_las, x_aal, x_aas, x_aast, x_alen, x_new, x_newa, x_copy, x_min, x_abs, x_minl, x_oinit, x_throw, x_callS0, x_callS1, x_callS2, x_callS3, x_callS4, x_callV0, x_callV1, x_callV2, x_callV3, x_callV4, x_callV5, x_retI_v, x_callI0, x_callI1, x_callI2, x_retN_v, x_callSN1, x_callSN2, x_callT0, x_callT1, x_fn, x_sl0, x_sli, x_slr, x_sll, x_ar0, x_ari, x_arr, x_arl, ↓reduceIte, Nat.reduceAdd, Nat.reduceSub, Nat.reduceMul, Nat.reduceEqDiff, Nat.reduceLeDiff, Nat.reduceLT, if_true, if_false, Nat.le_refl, and_true, true_and, and_self, reduceCtorEq, or_false, false_or, or_true, true_or, Nat.zero_le, fa_lit, nI_add, w_mul, nI_ltI, nI_leI, nI_eq, nI_clamp, nI_toInt, if_pos, if_neg, w_div, w_rem2, zk138 hZ1, zk139 hZ1, zk140 hZ1, zk141 hZ1, zk142 hZ1, zk143 hZ1, zk144 hZ1, zk145 hZ1, zk146 hZ1, zk147 hZ1, zk148 hZ1, zk149 hZ1, zk150 hZ1, zk151 hZ1, zl139 hZ1, zl140 hZ1, zl141 hZ1, zl142 hZ1, zl143 hZ1, zl144 hZ1, zl145 hZ1, zl146 hZ1, zl147 hZ1, zl148 hZ1, zl149 hZ1, zl150 hZ1, zl151 hZ1, zr138_0 hZ1, zr138_1 hZ1, zr138_2 hZ1, zr138_3 hZ1, zr138_4 hZ1, zr138_8 hZ1, zr138_9 hZ1, zr138_10 hZ1, zr138_12 hZ1, zr138_24 hZ1, zr138_25 hZ1, zr138_26 hZ1, zr148_0 hZ1, zr148_1 hZ1, zr148_2 hZ1, zr148_3 hZ1, zr148_4 hZ1, zr148_5 hZ1, zr148_6 hZ1, zr148_7 hZ1, zr148_8 hZ1, gi1, gb]
        rfl
      · rw [w_bf c] at gi1
        rw [if_neg c]
        refine ⟨S1, ?_, hR1, hI1⟩
        simp (disch := omega) only [kX11_move_41, kX11_move_56, x_cs0, x_csi, x_csr, x_csn, x_csl, x_ret_v, x_ret_t, x_ret_n, x_tl_s, x_tl_n, x_lk0, x_lk, x_rem0, x_rem_i, x_rem_r, x_rem_l, x_rem2_0, x_rem2_i, x_rem2_r, x_rem2_l, x_pick0, x_pick_c, x_st1, x_st2, x_live, x_i, x_l, x_a, x_ild, x_lld, x_rld, x_ist, x_lst, x_rst, x_inc, x_ii, x_ll, x_li, x_cmp, x_ui, x_il, x_lti, x_idiv, x_irem, x_dup_i, x_dup_r, x_pop_i, x_pop_r, x_dupx_ir, x_dup2_ir, x_ifeq, x_iceq, x_iflt, x_iclt, x_ifge, x_icge, x_ifgt, x_icgt, x_ifle, x_icle, x_ifne, x_icne, x_ifnull_r, x_ifnull_n, x_ifnonnull_r, x_ifnonnull_n, x_sw, x_vret, x_iret, x_lret, x_zret, x_zret0, x_zret1, x_rf_s, x_rf_n, x_geti, x_getr, x_puti, x_putz, x_putr, x_ial, x_ias, x_lal, x_las, x_aal, x_aas, x_aast, x_alen, x_new, x_newa, x_copy, x_min, x_abs, x_minl, x_oinit, x_throw, x_callS0, x_callS1, x_callS2, x_callS3, x_callS4, x_callV0, x_callV1, x_callV2, x_callV3, x_callV4, x_callV5, x_retI_v, x_callI0, x_callI1, x_callI2, x_retN_v, x_callSN1, x_callSN2, x_callT0, x_callT1, x_fn, x_sl0, x_sli, x_slr, x_sll, x_ar0, x_ari, x_arr, x_arl, ↓reduceIte, Nat.reduceAdd, Nat.reduceSub, Nat.reduceMul, Nat.reduceEqDiff, Nat.reduceLeDiff, Nat.reduceLT, if_true, if_false, Nat.le_refl, and_true, true_and, and_self, reduceCtorEq, or_false, false_or, or_true, true_or, Nat.zero_le, fa_lit, nI_add, w_mul, nI_ltI, nI_leI, nI_eq, nI_clamp, nI_toInt, if_pos, if_neg, w_div, w_rem2, zk138 hZ1, zk139 hZ1, zk140 hZ1, zk141 hZ1, zk142 hZ1, zk143 hZ1, zk144 hZ1, zk145 hZ1, zk146 hZ1, zk147 hZ1, zk148 hZ1, zk149 hZ1, zk150 hZ1, zk151 hZ1, zl139 hZ1, zl140 hZ1, zl141 hZ1, zl142 hZ1, zl143 hZ1, zl144 hZ1, zl145 hZ1, zl146 hZ1, zl147 hZ1, zl148 hZ1, zl149 hZ1, zl150 hZ1, zl151 hZ1, zr138_0 hZ1, zr138_1 hZ1, zr138_2 hZ1, zr138_3 hZ1, zr138_4 hZ1, zr138_8 hZ1, zr138_9 hZ1, zr138_10 hZ1, zr138_12 hZ1, zr138_24 hZ1, zr138_25 hZ1, zr138_26 hZ1, zr148_0 hZ1, zr148_1 hZ1, zr148_2 hZ1, zr148_3 hZ1, zr148_4 hZ1, zr148_5 hZ1, zr148_6 hZ1, zr148_7 hZ1, zr148_8 hZ1, gi1]
    by_cases c1 : s_inG R u p
    · rw [w_bt c1] at gi
      have e : (if ¬ s_inG R u p ∧ s_n (R 5) % s_n (R (12 + 4 * u + 2)) = 0 then s_walk R u p else R) = R := if_neg (fun q => q.1 c1)
      rw [e]
      obtain ⟨S', r1, r2, r3⟩ := rest S R hZ hR h rfl k3 w_I.rf
      refine ⟨S', ?_, r2, r3⟩
      rw [← r1]
      simp (disch := omega) only [fX11_move, kX11_move_0, x_cs0, x_csi, x_csr, x_csn, x_csl, x_ret_v, x_ret_t, x_ret_n, x_tl_s, x_tl_n, x_lk0, x_lk, x_rem0, x_rem_i, x_rem_r, x_rem_l, x_rem2_0, x_rem2_i, x_rem2_r, x_rem2_l, x_pick0, x_pick_c, x_st1, x_st2, x_live, x_i, x_l, x_a, x_ild, x_lld, x_rld, x_ist, x_lst, x_rst, x_inc, x_ii, x_ll, x_li, x_cmp, x_ui, x_il, x_lti, x_idiv, x_irem, x_dup_i, x_dup_r, x_pop_i, x_pop_r, x_dupx_ir, x_dup2_ir, x_ifeq, x_iceq, x_iflt, x_iclt, x_ifge, x_icge, x_ifgt, x_icgt, x_ifle, x_icle, x_ifne, x_icne, x_ifnull_r, x_ifnull_n, x_ifnonnull_r, x_ifnonnull_n, x_sw, x_vret, x_iret, x_lret, x_zret, x_zret0, x_zret1, x_rf_s, x_rf_n, x_geti, x_getr, x_puti, x_putz, x_putr, x_ial, x_ias, x_lal, x_las, x_aal, x_aas, x_aast, x_alen, x_new, x_newa, x_copy, x_min, x_abs, x_minl, x_oinit, x_throw, x_callS0, x_callS1, x_callS2, x_callS3, x_callS4, x_callV0, x_callV1, x_callV2, x_callV3, x_callV4, x_callV5, x_retI_v, x_callI0, x_callI1, x_callI2, x_retN_v, x_callSN1, x_callSN2, x_callT0, x_callT1, x_fn, x_sl0, x_sli, x_slr, x_sll, x_ar0, x_ari, x_arr, x_arl, ↓reduceIte, Nat.reduceAdd, Nat.reduceSub, Nat.reduceMul, Nat.reduceEqDiff, Nat.reduceLeDiff, Nat.reduceLT, if_true, if_false, Nat.le_refl, and_true, true_and, and_self, reduceCtorEq, or_false, false_or, or_true, true_or, Nat.zero_le, fa_lit, nI_add, w_mul, nI_ltI, nI_leI, nI_eq, nI_clamp, nI_toInt, if_pos, if_neg, w_div, w_rem2, zk138 hZ, zk139 hZ, zk140 hZ, zk141 hZ, zk142 hZ, zk143 hZ, zk144 hZ, zk145 hZ, zk146 hZ, zk147 hZ, zk148 hZ, zk149 hZ, zk150 hZ, zk151 hZ, zl139 hZ, zl140 hZ, zl141 hZ, zl142 hZ, zl143 hZ, zl144 hZ, zl145 hZ, zl146 hZ, zl147 hZ, zl148 hZ, zl149 hZ, zl150 hZ, zl151 hZ, zr138_0 hZ, zr138_1 hZ, zr138_2 hZ, zr138_3 hZ, zr138_4 hZ, zr138_8 hZ, zr138_9 hZ, zr138_10 hZ, zr138_12 hZ, zr138_24 hZ, zr138_25 hZ, zr138_26 hZ, zr148_0 hZ, zr148_1 hZ, zr148_2 hZ, zr148_3 hZ, zr148_4 hZ, zr148_5 hZ, zr148_6 hZ, zr148_7 hZ, zr148_8 hZ, gob, hp1, gi]
      rfl
    · rw [w_bf c1] at gi
      by_cases c2 : s_n (R 5) % s_n (R (12 + 4 * u + 2)) = 0
      · have e : (if ¬ s_inG R u p ∧ s_n (R 5) % s_n (R (12 + 4 * u + 2)) = 0 then s_walk R u p else R) = s_walk R u p := if_pos ⟨c1, c2⟩
        rw [e]
        obtain ⟨S1, f1, f2, f3⟩ := z_walk hZ hR h hu k1
        obtain ⟨S', r1, r2, r3⟩ := rest S1 (s_walk R u p) (f3.Z hZ) f2 hw.1 (hw.2.1 4 (by omega)) (by rw [hw.2.2.1 _ (by omega)]; exact k3) f3
        refine ⟨S', ?_, r2, r3⟩
        rw [← r1]
        simp (disch := omega) only [fX11_move, kX11_move_0, x_cs0, x_csi, x_csr, x_csn, x_csl, x_ret_v, x_ret_t, x_ret_n, x_tl_s, x_tl_n, x_lk0, x_lk, x_rem0, x_rem_i, x_rem_r, x_rem_l, x_rem2_0, x_rem2_i, x_rem2_r, x_rem2_l, x_pick0, x_pick_c, x_st1, x_st2, x_live, x_i, x_l, x_a, x_ild, x_lld, x_rld, x_ist, x_lst, x_rst, x_inc, x_ii, x_ll, x_li, x_cmp, x_ui, x_il, x_lti, x_idiv, x_irem, x_dup_i, x_dup_r, x_pop_i, x_pop_r, x_dupx_ir, x_dup2_ir, x_ifeq, x_iceq, x_iflt, x_iclt, x_ifge, x_icge, x_ifgt, x_icgt, x_ifle, x_icle, x_ifne, x_icne, x_ifnull_r, x_ifnull_n, x_ifnonnull_r, x_ifnonnull_n, x_sw, x_vret, x_iret, x_lret, x_zret, x_zret0, x_zret1, x_rf_s, x_rf_n, x_geti, x_getr, x_puti, x_putz, x_putr, x_ial, x_ias, x_lal, x_las, x_aal, x_aas, x_aast, x_alen, x_new, x_newa, x_copy, x_min, x_abs, x_minl, x_oinit, x_throw, x_callS0, x_callS1, x_callS2, x_callS3, x_callS4, x_callV0, x_callV1, x_callV2, x_callV3, x_callV4, x_callV5, x_retI_v, x_callI0, x_callI1, x_callI2, x_retN_v, x_callSN1, x_callSN2, x_callT0, x_callT1, x_fn, x_sl0, x_sli, x_slr, x_sll, x_ar0, x_ari, x_arr, x_arl, ↓reduceIte, Nat.reduceAdd, Nat.reduceSub, Nat.reduceMul, Nat.reduceEqDiff, Nat.reduceLeDiff, Nat.reduceLT, if_true, if_false, Nat.le_refl, and_true, true_and, and_self, reduceCtorEq, or_false, false_or, or_true, true_or, Nat.zero_le, fa_lit, nI_add, w_mul, nI_ltI, nI_leI, nI_eq, nI_clamp, nI_toInt, if_pos, if_neg, w_div, w_rem2, zk138 hZ, zk139 hZ, zk140 hZ, zk141 hZ, zk142 hZ, zk143 hZ, zk144 hZ, zk145 hZ, zk146 hZ, zk147 hZ, zk148 hZ, zk149 hZ, zk150 hZ, zk151 hZ, zl139 hZ, zl140 hZ, zl141 hZ, zl142 hZ, zl143 hZ, zl144 hZ, zl145 hZ, zl146 hZ, zl147 hZ, zl148 hZ, zl149 hZ, zl150 hZ, zl151 hZ, zr138_0 hZ, zr138_1 hZ, zr138_2 hZ, zr138_3 hZ, zr138_4 hZ, zr138_8 hZ, zr138_9 hZ, zr138_10 hZ, zr138_12 hZ, zr138_24 hZ, zr138_25 hZ, zr138_26 hZ, zr148_0 hZ, zr148_1 hZ, zr148_2 hZ, zr148_3 hZ, zr148_4 hZ, zr148_5 hZ, zr148_6 hZ, zr148_7 hZ, zr148_8 hZ, gob, hp1, gi, gt, g2, c2, f1]
        rfl
      · have e : (if ¬ s_inG R u p ∧ s_n (R 5) % s_n (R (12 + 4 * u + 2)) = 0 then s_walk R u p else R) = R := if_neg (fun q => c2 q.2)
        rw [e]
        have c3 : ¬ nI (s_n (R 5) % s_n (R (12 + 4 * u + 2))) = nI 0 := by
          rw [nI_eq (Nat.lt_of_le_of_lt (Nat.mod_le _ _) (by omega)) (by omega)]
          exact c2
        obtain ⟨S', r1, r2, r3⟩ := rest S R hZ hR h rfl k3 w_I.rf
        refine ⟨S', ?_, r2, r3⟩
        rw [← r1]
        simp (disch := omega) only [fX11_move, kX11_move_0, x_cs0, x_csi, x_csr, x_csn, x_csl, x_ret_v, x_ret_t, x_ret_n, x_tl_s, x_tl_n, x_lk0, x_lk, x_rem0, x_rem_i, x_rem_r, x_rem_l, x_rem2_0, x_rem2_i, x_rem2_r, x_rem2_l, x_pick0, x_pick_c, x_st1, x_st2, x_live, x_i, x_l, x_a, x_ild, x_lld, x_rld, x_ist, x_lst, x_rst, x_inc, x_ii, x_ll, x_li, x_cmp, x_ui, x_il, x_lti, x_idiv, x_irem, x_dup_i, x_dup_r, x_pop_i, x_pop_r, x_dupx_ir, x_dup2_ir, x_ifeq, x_iceq, x_iflt, x_iclt, x_ifge, x_icge, x_ifgt, x_icgt, x_ifle, x_icle, x_ifne, x_icne, x_ifnull_r, x_ifnull_n, x_ifnonnull_r, x_ifnonnull_n, x_sw, x_vret, x_iret, x_lret, x_zret, x_zret0, x_zret1, x_rf_s, x_rf_n, x_geti, x_getr, x_puti, x_putz, x_putr, x_ial, x_ias, x_lal, x_las, x_aal, x_aas, x_aast, x_alen, x_new, x_newa, x_copy, x_min, x_abs, x_minl, x_oinit, x_throw, x_callS0, x_callS1, x_callS2, x_callS3, x_callS4, x_callV0, x_callV1, x_callV2, x_callV3, x_callV4, x_callV5, x_retI_v, x_callI0, x_callI1, x_callI2, x_retN_v, x_callSN1, x_callSN2, x_callT0, x_callT1, x_fn, x_sl0, x_sli, x_slr, x_sll, x_ar0, x_ari, x_arr, x_arl, ↓reduceIte, Nat.reduceAdd, Nat.reduceSub, Nat.reduceMul, Nat.reduceEqDiff, Nat.reduceLeDiff, Nat.reduceLT, if_true, if_false, Nat.le_refl, and_true, true_and, and_self, reduceCtorEq, or_false, false_or, or_true, true_or, Nat.zero_le, fa_lit, nI_add, w_mul, nI_ltI, nI_leI, nI_eq, nI_clamp, nI_toInt, if_pos, if_neg, w_div, w_rem2, zk138 hZ, zk139 hZ, zk140 hZ, zk141 hZ, zk142 hZ, zk143 hZ, zk144 hZ, zk145 hZ, zk146 hZ, zk147 hZ, zk148 hZ, zk149 hZ, zk150 hZ, zk151 hZ, zl139 hZ, zl140 hZ, zl141 hZ, zl142 hZ, zl143 hZ, zl144 hZ, zl145 hZ, zl146 hZ, zl147 hZ, zl148 hZ, zl149 hZ, zl150 hZ, zl151 hZ, zr138_0 hZ, zr138_1 hZ, zr138_2 hZ, zr138_3 hZ, zr138_4 hZ, zr138_8 hZ, zr138_9 hZ, zr138_10 hZ, zr138_12 hZ, zr138_24 hZ, zr138_25 hZ, zr138_26 hZ, zr148_0 hZ, zr148_1 hZ, zr148_2 hZ, zr148_3 hZ, zr148_4 hZ, zr148_5 hZ, zr148_6 hZ, zr148_7 hZ, zr148_8 hZ, gob, hp1, gi, gt, g2, c3]
        rfl
/-! the past -/
theorem s_V.remG (h : s_V R) : s_V (s_remG u R) ∧ (∀ j, j < 928 → s_remG u R j = R j) := by
  have e : ∀ j, j < 928 → s_remG u R j = R j := fun j hj => by
    unfold s_remG
    exact s_up_n (by omega)
  exact ⟨h.cong (fun j hj => e j (by omega)), e⟩
theorem z_remember (hZ : w_Z S) (hR : am_i S 139 = R) (h : s_V R) : ∃ S', fX11_remember w_N [.ref 138] S = some (.inl none, S') ∧ am_i S' 139 = s_rem R ∧ w_I w_P3 S S' ∧ s_V (s_rem R) ∧ ∀ j, j < 928 → s_rem R j = R j := by
  have a2 := h.B.2.1
  have a5 := h.B.2.2.2.2.2.2.1
  unfold s_rem
  by_cases ht : s_n (R 5) ≤ 500
  · rw [if_pos ht]
    obtain ⟨S', f1, f2, f3, f4⟩ := w_rowL (body := bX11_remember_2 w_N) (lvf := fun i => [(0, .ref 138), (1, .int (nI i))]) (n := s_n (R 2)) (g := s_remG) (inv := fun _ Q => s_V Q ∧ ∀ j, j < 928 → Q j = R j) (res := fun S => some (.inl none, S))
      (fun i S r hi hZ hI => by
        have e2 : am_i S 139 2 = nI (s_n (R 2)) := by rw [hI.2 2 (by omega)]; exact a2.1
        have e5 : am_i S 139 5 = nI (s_n (R 5)) := by rw [hI.2 5 (by omega)]; exact a5.1
        have e5' : s_n (am_i S 139 5) = s_n (R 5) := by rw [hI.2 5 (by omega)]
        have gt := z_turnNow (S := S) hZ
        rw [e5] at gt
        have g0 := z_ofUnit (S := S) (u := i) (j := 0) hZ (by omega)
        have g1 := z_ofUnit (S := S) (u := i) (j := 1) hZ (by omega)
        refine ⟨am_row S 139 (s_remG i (am_i S 139)), ?_, x_rows, w_I.row (Or.inl rfl), (hI.1.remG).1, fun j hj => by rw [(hI.1.remG).2 j hj]; exact hI.2 j hj⟩
        unfold s_remG
        rw [e5']
        simp (disch := omega) only [bX11_remember_2, x_cs0, x_csi, x_csr, x_csn, x_csl, x_ret_v, x_ret_t, x_ret_n, x_tl_s, x_tl_n, x_lk0, x_lk, x_rem0, x_rem_i, x_rem_r, x_rem_l, x_rem2_0, x_rem2_i, x_rem2_r, x_rem2_l, x_pick0, x_pick_c, x_st1, x_st2, x_live, x_i, x_l, x_a, x_ild, x_lld, x_rld, x_ist, x_lst, x_rst, x_inc, x_ii, x_ll, x_li, x_cmp, x_ui, x_il, x_lti, x_idiv, x_irem, x_dup_i, x_dup_r, x_pop_i, x_pop_r, x_dupx_ir, x_dup2_ir, x_ifeq, x_iceq, x_iflt, x_iclt, x_ifge, x_icge, x_ifgt, x_icgt, x_ifle, x_icle, x_ifne, x_icne, x_ifnull_r, x_ifnull_n, x_ifnonnull_r, x_ifnonnull_n, x_sw, x_vret, x_iret, x_lret, x_zret, x_zret0, x_zret1, x_rf_s, x_rf_n, x_geti, x_getr, x_puti, x_putz, x_putr, x_ial, x_ias, x_lal, x_las, x_aal, x_aas, x_aast, x_alen, x_new, x_newa, x_copy, x_min, x_abs, x_minl, x_oinit, x_throw, x_callS0, x_callS1, x_callS2, x_callS3, x_callS4, x_callV0, x_callV1, x_callV2, x_callV3, x_callV4, x_callV5, x_retI_v, x_callI0, x_callI1, x_callI2, x_retN_v, x_callSN1, x_callSN2, x_callT0, x_callT1, x_fn, x_sl0, x_sli, x_slr, x_sll, x_ar0, x_ari, x_arr, x_arl, ↓reduceIte, Nat.reduceAdd, Nat.reduceSub, Nat.reduceMul, Nat.reduceEqDiff, Nat.reduceLeDiff, Nat.reduceLT, if_true, if_false, Nat.le_refl, and_true, true_and, and_self, reduceCtorEq, or_false, false_or, or_true, true_or, Nat.zero_le, fa_lit, nI_add, w_mul, nI_ltI, nI_leI, nI_eq, nI_clamp, nI_toInt, if_pos, if_neg, w_div, w_rem2, zk138 hZ, zk139 hZ, zk140 hZ, zk141 hZ, zk142 hZ, zk143 hZ, zk144 hZ, zk145 hZ, zk146 hZ, zk147 hZ, zk148 hZ, zk149 hZ, zk150 hZ, zk151 hZ, zl139 hZ, zl140 hZ, zl141 hZ, zl142 hZ, zl143 hZ, zl144 hZ, zl145 hZ, zl146 hZ, zl147 hZ, zl148 hZ, zl149 hZ, zl150 hZ, zl151 hZ, zr138_0 hZ, zr138_1 hZ, zr138_2 hZ, zr138_3 hZ, zr138_4 hZ, zr138_8 hZ, zr138_9 hZ, zr138_10 hZ, zr138_12 hZ, zr138_24 hZ, zr138_25 hZ, zr138_26 hZ, zr148_0 hZ, zr148_1 hZ, zr148_2 hZ, zr148_3 hZ, zr148_4 hZ, zr148_5 hZ, zr148_6 hZ, zr148_7 hZ, zr148_8 hZ, x_k_I, x_l_I, x_r_I, x_j_I, x_n_I, x_z_I, x_i_Is, x_k_W, x_l_W, x_r_W, x_j_W, x_n_W, x_z_W, x_k_J, x_l_J, x_r_J, x_i_J, x_n_J, x_z_J, x_k_R, x_l_R, x_j_R, x_i_R, x_n_R, x_z_R, x_n_N, x_z_N, x_k_N, x_l_N, x_i_N, x_j_N, x_r_N, x_rowput, x_rr, x_rows, x_rown, s_up_s, s_up_n, e2, gt, g0, g1, z_wasSlot])
      (fun S r hZ hI => by
        have e2 : am_i S 139 2 = nI (s_n (R 2)) := by rw [hI.2 2 (by omega)]; exact a2.1
        simp (disch := omega) only [bX11_remember_2, kX11_remember_57, x_cs0, x_csi, x_csr, x_csn, x_csl, x_ret_v, x_ret_t, x_ret_n, x_tl_s, x_tl_n, x_lk0, x_lk, x_rem0, x_rem_i, x_rem_r, x_rem_l, x_rem2_0, x_rem2_i, x_rem2_r, x_rem2_l, x_pick0, x_pick_c, x_st1, x_st2, x_live, x_i, x_l, x_a, x_ild, x_lld, x_rld, x_ist, x_lst, x_rst, x_inc, x_ii, x_ll, x_li, x_cmp, x_ui, x_il, x_lti, x_idiv, x_irem, x_dup_i, x_dup_r, x_pop_i, x_pop_r, x_dupx_ir, x_dup2_ir, x_ifeq, x_iceq, x_iflt, x_iclt, x_ifge, x_icge, x_ifgt, x_icgt, x_ifle, x_icle, x_ifne, x_icne, x_ifnull_r, x_ifnull_n, x_ifnonnull_r, x_ifnonnull_n, x_sw, x_vret, x_iret, x_lret, x_zret, x_zret0, x_zret1, x_rf_s, x_rf_n, x_geti, x_getr, x_puti, x_putz, x_putr, x_ial, x_ias, x_lal, x_las, x_aal, x_aas, x_aast, x_alen, x_new, x_newa, x_copy, x_min, x_abs, x_minl, x_oinit, x_throw, x_callS0, x_callS1, x_callS2, x_callS3, x_callS4, x_callV0, x_callV1, x_callV2, x_callV3, x_callV4, x_callV5, x_retI_v, x_callI0, x_callI1, x_callI2, x_retN_v, x_callSN1, x_callSN2, x_callT0, x_callT1, x_fn, x_sl0, x_sli, x_slr, x_sll, x_ar0, x_ari, x_arr, x_arl, ↓reduceIte, Nat.reduceAdd, Nat.reduceSub, Nat.reduceMul, Nat.reduceEqDiff, Nat.reduceLeDiff, Nat.reduceLT, if_true, if_false, Nat.le_refl, and_true, true_and, and_self, reduceCtorEq, or_false, false_or, or_true, true_or, Nat.zero_le, fa_lit, nI_add, w_mul, nI_ltI, nI_leI, nI_eq, nI_clamp, nI_toInt, if_pos, if_neg, w_div, w_rem2, zk138 hZ, zk139 hZ, zk140 hZ, zk141 hZ, zk142 hZ, zk143 hZ, zk144 hZ, zk145 hZ, zk146 hZ, zk147 hZ, zk148 hZ, zk149 hZ, zk150 hZ, zk151 hZ, zl139 hZ, zl140 hZ, zl141 hZ, zl142 hZ, zl143 hZ, zl144 hZ, zl145 hZ, zl146 hZ, zl147 hZ, zl148 hZ, zl149 hZ, zl150 hZ, zl151 hZ, zr138_0 hZ, zr138_1 hZ, zr138_2 hZ, zr138_3 hZ, zr138_4 hZ, zr138_8 hZ, zr138_9 hZ, zr138_10 hZ, zr138_12 hZ, zr138_24 hZ, zr138_25 hZ, zr138_26 hZ, zr148_0 hZ, zr148_1 hZ, zr148_2 hZ, zr148_3 hZ, zr148_4 hZ, zr148_5 hZ, zr148_6 hZ, zr148_7 hZ, zr148_8 hZ, e2]) w_N 0 S (by show s_n (R 2) - 0 < 5000; omega) (Nat.zero_le _) hZ ⟨by rw [hR]; exact h, by rw [hR]; exact fun _ _ => rfl⟩
    rw [hR] at f2 f4
    refine ⟨S', ?_, f2, f3, f4.1, f4.2⟩
    simp (disch := omega) only [fX11_remember, kX11_remember_57, kX11_remember_0, kX11_remember_2, x_cs0, x_csi, x_csr, x_csn, x_csl, x_ret_v, x_ret_t, x_ret_n, x_tl_s, x_tl_n, x_lk0, x_lk, x_rem0, x_rem_i, x_rem_r, x_rem_l, x_rem2_0, x_rem2_i, x_rem2_r, x_rem2_l, x_pick0, x_pick_c, x_st1, x_st2, x_live, x_i, x_l, x_a, x_ild, x_lld, x_rld, x_ist, x_lst, x_rst, x_inc, x_ii, x_ll, x_li, x_cmp, x_ui, x_il, x_lti, x_idiv, x_irem, x_dup_i, x_dup_r, x_pop_i, x_pop_r, x_dupx_ir, x_dup2_ir, x_ifeq, x_iceq, x_iflt, x_iclt, x_ifge, x_icge, x_ifgt, x_icgt, x_ifle, x_icle, x_ifne, x_icne, x_ifnull_r, x_ifnull_n, x_ifnonnull_r, x_ifnonnull_n, x_sw, x_vret, x_iret, x_lret, x_zret, x_zret0, x_zret1, x_rf_s, x_rf_n, x_geti, x_getr, x_puti, x_putz, x_putr, x_ial, x_ias, x_lal, x_las, x_aal, x_aas, x_aast, x_alen, x_new, x_newa, x_copy, x_min, x_abs, x_minl, x_oinit, x_throw, x_callS0, x_callS1, x_callS2, x_callS3, x_callS4, x_callV0, x_callV1, x_callV2, x_callV3, x_callV4, x_callV5, x_retI_v, x_callI0, x_callI1, x_callI2, x_retN_v, x_callSN1, x_callSN2, x_callT0, x_callT1, x_fn, x_sl0, x_sli, x_slr, x_sll, x_ar0, x_ari, x_arr, x_arl, ↓reduceIte, Nat.reduceAdd, Nat.reduceSub, Nat.reduceMul, Nat.reduceEqDiff, Nat.reduceLeDiff, Nat.reduceLT, if_true, if_false, Nat.le_refl, and_true, true_and, and_self, reduceCtorEq, or_false, false_or, or_true, true_or, Nat.zero_le, fa_lit, nI_add, w_mul, nI_ltI, nI_leI, nI_eq, nI_clamp, nI_toInt, if_pos, if_neg, w_div, w_rem2, f1]
  · rw [if_neg ht]
    refine ⟨S, ?_, hR, w_I.rf, h, fun _ _ => rfl⟩
    have gt := z_turnNow' hZ hR
    rw [a5.1] at gt
    have L : am_loop (bX11_remember_2 w_N) (4999 + 1) [(0, .ref 138), (1, .int (nI 0))] [] S = some (.inl none, S) := by
      rw [am_loop_s]
      by_cases c : R 2 ≤ nI 0
      · simp (disch := omega) only [bX11_remember_2, kX11_remember_57, x_cs0, x_csi, x_csr, x_csn, x_csl, x_ret_v, x_ret_t, x_ret_n, x_tl_s, x_tl_n, x_lk0, x_lk, x_rem0, x_rem_i, x_rem_r, x_rem_l, x_rem2_0, x_rem2_i, x_rem2_r, x_rem2_l, x_pick0, x_pick_c, x_st1, x_st2, x_live, x_i, x_l, x_a, x_ild, x_lld, x_rld, x_ist, x_lst, x_rst, x_inc, x_ii, x_ll, x_li, x_cmp, x_ui, x_il, x_lti, x_idiv, x_irem, x_dup_i, x_dup_r, x_pop_i, x_pop_r, x_dupx_ir, x_dup2_ir, x_ifeq, x_iceq, x_iflt, x_iclt, x_ifge, x_icge, x_ifgt, x_icgt, x_ifle, x_icle, x_ifne, x_icne, x_ifnull_r, x_ifnull_n, x_ifnonnull_r, x_ifnonnull_n, x_sw, x_vret, x_iret, x_lret, x_zret, x_zret0, x_zret1, x_rf_s, x_rf_n, x_geti, x_getr, x_puti, x_putz, x_putr, x_ial, x_ias, x_lal, x_las, x_aal, x_aas, x_aast, x_alen, x_new, x_newa, x_copy, x_min, x_abs, x_minl, x_oinit, x_throw, x_callS0, x_callS1, x_callS2, x_callS3, x_callS4, x_callV0, x_callV1, x_callV2, x_callV3, x_callV4, x_callV5, x_retI_v, x_callI0, x_callI1, x_callI2, x_retN_v, x_callSN1, x_callSN2, x_callT0, x_callT1, x_fn, x_sl0, x_sli, x_slr, x_sll, x_ar0, x_ari, x_arr, x_arl, ↓reduceIte, Nat.reduceAdd, Nat.reduceSub, Nat.reduceMul, Nat.reduceEqDiff, Nat.reduceLeDiff, Nat.reduceLT, if_true, if_false, Nat.le_refl, and_true, true_and, and_self, reduceCtorEq, or_false, false_or, or_true, true_or, Nat.zero_le, fa_lit, nI_add, w_mul, nI_ltI, nI_leI, nI_eq, nI_clamp, nI_toInt, if_pos, if_neg, w_div, w_rem2, zk138 hZ, zk139 hZ, zk140 hZ, zk141 hZ, zk142 hZ, zk143 hZ, zk144 hZ, zk145 hZ, zk146 hZ, zk147 hZ, zk148 hZ, zk149 hZ, zk150 hZ, zk151 hZ, zl139 hZ, zl140 hZ, zl141 hZ, zl142 hZ, zl143 hZ, zl144 hZ, zl145 hZ, zl146 hZ, zl147 hZ, zl148 hZ, zl149 hZ, zl150 hZ, zl151 hZ, zr138_0 hZ, zr138_1 hZ, zr138_2 hZ, zr138_3 hZ, zr138_4 hZ, zr138_8 hZ, zr138_9 hZ, zr138_10 hZ, zr138_12 hZ, zr138_24 hZ, zr138_25 hZ, zr138_26 hZ, zr148_0 hZ, zr148_1 hZ, zr148_2 hZ, zr148_3 hZ, zr148_4 hZ, zr148_5 hZ, zr148_6 hZ, zr148_7 hZ, zr148_8 hZ, hR, c]
      · simp (disch := omega) only [bX11_remember_2, kX11_remember_57, x_cs0, x_csi, x_csr, x_csn, x_csl, x_ret_v, x_ret_t, x_ret_n, x_tl_s, x_tl_n, x_lk0, x_lk, x_rem0, x_rem_i, x_rem_r, x_rem_l, x_rem2_0, x_rem2_i, x_rem2_r, x_rem2_l, x_pick0, x_pick_c, x_st1, x_st2, x_live, x_i, x_l, x_a, x_ild, x_lld, x_rld, x_ist, x_lst, x_rst, x_inc, x_ii, x_ll, x_li, x_cmp, x_ui, x_il, x_lti, x_idiv, x_irem, x_dup_i, x_dup_r, x_pop_i, x_pop_r, x_dupx_ir, x_dup2_ir, x_ifeq, x_iceq, x_iflt, x_iclt, x_ifge, x_icge, x_ifgt, x_icgt, x_ifle, x_icle, x_ifne, x_icne, x_ifnull_r, x_ifnull_n, x_ifnonnull_r, x_ifnonnull_n, x_sw, x_vret, x_iret, x_lret, x_zret, x_zret0, x_zret1, x_rf_s, x_rf_n, x_geti, x_getr, x_puti, x_putz, x_putr, x_ial, x_ias, x_lal, x_las, x_aal, x_aas, x_aast, x_alen, x_new, x_newa, x_copy, x_min, x_abs, x_minl, x_oinit, x_throw, x_callS0, x_callS1, x_callS2, x_callS3, x_callS4, x_callV0, x_callV1, x_callV2, x_callV3, x_callV4, x_callV5, x_retI_v, x_callI0, x_callI1, x_callI2, x_retN_v, x_callSN1, x_callSN2, x_callT0, x_callT1, x_fn, x_sl0, x_sli, x_slr, x_sll, x_ar0, x_ari, x_arr, x_arl, ↓reduceIte, Nat.reduceAdd, Nat.reduceSub, Nat.reduceMul, Nat.reduceEqDiff, Nat.reduceLeDiff, Nat.reduceLT, if_true, if_false, Nat.le_refl, and_true, true_and, and_self, reduceCtorEq, or_false, false_or, or_true, true_or, Nat.zero_le, fa_lit, nI_add, w_mul, nI_ltI, nI_leI, nI_eq, nI_clamp, nI_toInt, if_pos, if_neg, w_div, w_rem2, zk138 hZ, zk139 hZ, zk140 hZ, zk141 hZ, zk142 hZ, zk143 hZ, zk144 hZ, zk145 hZ, zk146 hZ, zk147 hZ, zk148 hZ, zk149 hZ, zk150 hZ, zk151 hZ, zl139 hZ, zl140 hZ, zl141 hZ, zl142 hZ, zl143 hZ, zl144 hZ, zl145 hZ, zl146 hZ, zl147 hZ, zl148 hZ, zl149 hZ, zl150 hZ, zl151 hZ, zr138_0 hZ, zr138_1 hZ, zr138_2 hZ, zr138_3 hZ, zr138_4 hZ, zr138_8 hZ, zr138_9 hZ, zr138_10 hZ, zr138_12 hZ, zr138_24 hZ, zr138_25 hZ, zr138_26 hZ, zr148_0 hZ, zr148_1 hZ, zr148_2 hZ, zr148_3 hZ, zr148_4 hZ, zr148_5 hZ, zr148_6 hZ, zr148_7 hZ, zr148_8 hZ, hR, c, gt]
    have L : am_loop (bX11_remember_2 w_N) w_N [(0, .ref 138), (1, .int (nI 0))] [] S = some (.inl none, S) := L
    simp (disch := omega) only [fX11_remember, kX11_remember_57, kX11_remember_0, kX11_remember_2, x_cs0, x_csi, x_csr, x_csn, x_csl, x_ret_v, x_ret_t, x_ret_n, x_tl_s, x_tl_n, x_lk0, x_lk, x_rem0, x_rem_i, x_rem_r, x_rem_l, x_rem2_0, x_rem2_i, x_rem2_r, x_rem2_l, x_pick0, x_pick_c, x_st1, x_st2, x_live, x_i, x_l, x_a, x_ild, x_lld, x_rld, x_ist, x_lst, x_rst, x_inc, x_ii, x_ll, x_li, x_cmp, x_ui, x_il, x_lti, x_idiv, x_irem, x_dup_i, x_dup_r, x_pop_i, x_pop_r, x_dupx_ir, x_dup2_ir, x_ifeq, x_iceq, x_iflt, x_iclt, x_ifge, x_icge, x_ifgt, x_icgt, x_ifle, x_icle, x_ifne, x_icne, x_ifnull_r, x_ifnull_n, x_ifnonnull_r, x_ifnonnull_n, x_sw, x_vret, x_iret, x_lret, x_zret, x_zret0, x_zret1, x_rf_s, x_rf_n, x_geti, x_getr, x_puti, x_putz, x_putr, x_ial, x_ias, x_lal, x_las, x_aal, x_aas, x_aast, x_alen, x_new, x_newa, x_copy, x_min, x_abs, x_minl, x_oinit, x_throw, x_callS0, x_callS1, x_callS2, x_callS3, x_callS4, x_callV0, x_callV1, x_callV2, x_callV3, x_callV4, x_callV5, x_retI_v, x_callI0, x_callI1, x_callI2, x_retN_v, x_callSN1, x_callSN2, x_callT0, x_callT1, x_fn, x_sl0, x_sli, x_slr, x_sll, x_ar0, x_ari, x_arr, x_arl, ↓reduceIte, Nat.reduceAdd, Nat.reduceSub, Nat.reduceMul, Nat.reduceEqDiff, Nat.reduceLeDiff, Nat.reduceLT, if_true, if_false, Nat.le_refl, and_true, true_and, and_self, reduceCtorEq, or_false, false_or, or_true, true_or, Nat.zero_le, fa_lit, nI_add, w_mul, nI_ltI, nI_leI, nI_eq, nI_clamp, nI_toInt, if_pos, if_neg, w_div, w_rem2, L]
/-! the turn -/
theorem s_itI {g : Nat → (Nat → Int32) → Nat → Int32} {inv : (Nat → Int32) → Prop} (hs : ∀ i Q, i < n → inv Q → inv (g i Q)) : ∀ k i Q, i + k ≤ n → inv Q → inv (s_it g k i Q)
  | 0, _, _, _, h => h
  | k + 1, i, Q, h1, h => s_itI hs k (i + 1) (g i Q) (by omega) (hs i Q (by omega) h)
theorem s_n5 (h : am_i S 139 = R) : am_i S 139 5 = R 5 := by rw [h]
/-- what a turn keeps, all in all -/
def s_KT (R R' : Nat → Int32) : Prop := ∀ j, (j < 12 ∧ j ≠ 7 ∧ j ≠ 4 ∧ j ≠ 5 ∨ 464 ≤ j ∧ j < 544 ∨ 784 ≤ j ∧ j < 928) → R' j = R j
theorem s_V.p1 (h : s_V R) : s_V (s_p1 R) ∧ s_KS R (s_p1 R) := by
  unfold s_p1
  refine s_itI (n := s_n (R 8)) (inv := fun Q => s_V Q ∧ s_KS R Q) (fun i Q hi q => ?_) _ _ _ (by omega) ⟨h, s_KS.rf⟩
  have := q.1.sendG (p := i) (by rw [q.2 8 (by omega)]; exact hi)
  exact ⟨this.1, q.2.tr this.2⟩
theorem s_V.p2 (h : s_V R) : s_V (s_p2 R) ∧ s_K R (s_p2 R) := by
  unfold s_p2
  refine s_itI (n := s_n (R 4)) (inv := fun Q => s_V Q ∧ s_K R Q) (fun i Q hi q => ?_) _ _ _ (by omega) ⟨h, s_K.rf⟩
  have := q.1.carryG (o := i) (by rw [q.2 4 (by omega)]; exact hi)
  exact ⟨this.1, q.2.tr this.2⟩
theorem s_V.p3 (h : s_V R) : s_V (s_p3 R) ∧ s_K R (s_p3 R) := by
  unfold s_p3
  refine s_itI (n := s_n (R 4)) (inv := fun Q => s_V Q ∧ s_K R Q) (fun i Q hi q => ?_) _ _ _ (by omega) ⟨h, s_K.rf⟩
  have := q.1.lostG (o := i) (by rw [q.2 4 (by omega)]; exact hi)
  exact ⟨this.1, q.2.tr this.2⟩
theorem s_V.p4 (h : s_V R) : s_V (s_p4 R) ∧ s_K R (s_p4 R) := by
  unfold s_p4
  refine s_itI (n := s_n (R 2)) (inv := fun Q => s_V Q ∧ s_K R Q) (fun i Q hi q => ?_) _ _ _ (by omega) ⟨h, s_K.rf⟩
  have := q.1.moveG (u := i) (by rw [q.2 2 (by omega)]; exact hi)
  exact ⟨this.1, q.2.tr this.2⟩
theorem s_V.rem (h : s_V R) : s_V (s_rem R) ∧ ∀ j, j < 928 → s_rem R j = R j := by
  unfold s_rem
  split
  · refine s_itI (n := s_n (R 2)) (inv := fun Q => s_V Q ∧ ∀ j, j < 928 → Q j = R j) (fun i Q hi q => ?_) _ _ _ (by omega) ⟨h, fun _ _ => rfl⟩
    have := q.1.remG (u := i)
    exact ⟨this.1, fun j hj => (this.2 j hj).trans (q.2 j hj)⟩
  · exact ⟨h, fun _ _ => rfl⟩
theorem s_V.turn (h : s_V R) (ht : s_n (R 5) < 999) : s_V (s_pass R) ∧ s_KT R (s_pass R) ∧ s_pass R 5 = nI (s_n (R 5) + 1) := by
  have g1 := h.p1
  have g2 := g1.1.p2
  have g3 := g2.1.p3
  have g4 := g3.1.p4
  unfold s_pass
  have e5 : s_p4 (s_p3 (s_p2 (s_p1 R))) 5 = R 5 := by rw [g4.2 5 (by omega), g3.2 5 (by omega), g2.2 5 (by omega), g1.2 5 (by omega)]
  have g5 : s_V (s_p5 (s_p4 (s_p3 (s_p2 (s_p1 R))))) := g4.1.tick (by rw [e5]; exact ht)
  have g6 := g5.rem
  refine ⟨g6.1, fun j hj => ?_, ?_⟩
  · rw [g6.2 j (by omega)]
    unfold s_p5
    rw [s_up_n (by omega), g4.2 j (by omega), g3.2 j (by omega), g2.2 j (by omega), g1.2 j (by omega)]
  · rw [g6.2 5 (by omega)]
    unfold s_p5
    rw [s_up_s, e5]
theorem z_moveL : ∀ S, w_Z S → s_V (am_i S 139) → s_n (am_i S 139 5) < 999 → ∃ S', am_loop (bX11_passTurn_89 w_N) w_N [(0, .ref 138), (2, .int (nI 0))] [] S = some (.inl none, S') ∧ am_i S' 139 = s_rem (s_p5 (s_p4 (am_i S 139))) ∧ w_I w_P3 S S' := by
  intro S hZ h ht
  have a2 := h.B.2.1
  have a5 := h.B.2.2.2.2.2.2.1
  obtain ⟨S1, f1, f2, f3, f4⟩ := w_rowL (body := bX11_passTurn_89 w_N) (lvf := fun i => [(0, .ref 138), (2, .int (nI i))]) (n := s_n (am_i S 139 2)) (g := s_moveG) (inv := fun _ Q => s_V Q ∧ s_K (am_i S 139) Q)
    (res := fun S => x_ret (fX11_remember w_N [.ref 138] (am_row S 139 (s_p5 (am_i S 139)))) (fun v S2 => c_vret [(0, .ref 138), (2, .int (nI (s_n (am_i S 139 2))))] (v.toList ++ []) S2))
    (fun i T r hi hT hI => by
      have e2 : am_i T 139 2 = nI (s_n (am_i S 139 2)) := by rw [hI.2 2 (by omega)]; exact a2.1
      have hi2 : i < s_n (am_i T 139 2) := by rw [hI.2 2 (by omega)]; exact hi
      obtain ⟨T1, k1, k2, k3⟩ := z_move hT rfl hI.1 hi2
      have hv := hI.1.moveG hi2
      refine ⟨T1, ?_, k2, k3, hv.1, hI.2.tr hv.2⟩
      simp (disch := omega) only [bX11_passTurn_89, x_cs0, x_csi, x_csr, x_csn, x_csl, x_ret_v, x_ret_t, x_ret_n, x_tl_s, x_tl_n, x_lk0, x_lk, x_rem0, x_rem_i, x_rem_r, x_rem_l, x_rem2_0, x_rem2_i, x_rem2_r, x_rem2_l, x_pick0, x_pick_c, x_st1, x_st2, x_live, x_i, x_l, x_a, x_ild, x_lld, x_rld, x_ist, x_lst, x_rst, x_inc, x_ii, x_ll, x_li, x_cmp, x_ui, x_il, x_lti, x_idiv, x_irem, x_dup_i, x_dup_r, x_pop_i, x_pop_r, x_dupx_ir, x_dup2_ir, x_ifeq, x_iceq, x_iflt, x_iclt, x_ifge, x_icge, x_ifgt, x_icgt, x_ifle, x_icle, x_ifne, x_icne, x_ifnull_r, x_ifnull_n, x_ifnonnull_r, x_ifnonnull_n, x_sw, x_vret, x_iret, x_lret, x_zret, x_zret0, x_zret1, x_rf_s, x_rf_n, x_geti, x_getr, x_puti, x_putz, x_putr, x_ial, x_ias, x_lal, x_las, x_aal, x_aas, x_aast, x_alen, x_new, x_newa, x_copy, x_min, x_abs, x_minl, x_oinit, x_throw, x_callS0, x_callS1, x_callS2, x_callS3, x_callS4, x_callV0, x_callV1, x_callV2, x_callV3, x_callV4, x_callV5, x_retI_v, x_callI0, x_callI1, x_callI2, x_retN_v, x_callSN1, x_callSN2, x_callT0, x_callT1, x_fn, x_sl0, x_sli, x_slr, x_sll, x_ar0, x_ari, x_arr, x_arl, ↓reduceIte, Nat.reduceAdd, Nat.reduceSub, Nat.reduceMul, Nat.reduceEqDiff, Nat.reduceLeDiff, Nat.reduceLT, if_true, if_false, Nat.le_refl, and_true, true_and, and_self, reduceCtorEq, or_false, false_or, or_true, true_or, Nat.zero_le, fa_lit, nI_add, w_mul, nI_ltI, nI_leI, nI_eq, nI_clamp, nI_toInt, if_pos, if_neg, w_div, w_rem2, zk138 hT, zk139 hT, zk140 hT, zk141 hT, zk142 hT, zk143 hT, zk144 hT, zk145 hT, zk146 hT, zk147 hT, zk148 hT, zk149 hT, zk150 hT, zk151 hT, zl139 hT, zl140 hT, zl141 hT, zl142 hT, zl143 hT, zl144 hT, zl145 hT, zl146 hT, zl147 hT, zl148 hT, zl149 hT, zl150 hT, zl151 hT, zr138_0 hT, zr138_1 hT, zr138_2 hT, zr138_3 hT, zr138_4 hT, zr138_8 hT, zr138_9 hT, zr138_10 hT, zr138_12 hT, zr138_24 hT, zr138_25 hT, zr138_26 hT, zr148_0 hT, zr148_1 hT, zr148_2 hT, zr148_3 hT, zr148_4 hT, zr148_5 hT, zr148_6 hT, zr148_7 hT, zr148_8 hT, e2, k1])
    (fun T r hT hI => by
      have e2 : am_i T 139 2 = nI (s_n (am_i S 139 2)) := by rw [hI.2 2 (by omega)]; exact a2.1
      have b5 := hI.1.B.2.2.2.2.2.2.1.1
      have b6 : am_i T 139 5 + nI 1 = nI (s_n (am_i T 139 5) + 1) := by rw [b5, nI_add, w_snI (by have := hI.1.B.2.2.2.2.2.2.1.2; omega)]
      unfold s_p5
      simp (disch := omega) only [bX11_passTurn_89, x_cs0, x_csi, x_csr, x_csn, x_csl, x_ret_v, x_ret_t, x_ret_n, x_tl_s, x_tl_n, x_lk0, x_lk, x_rem0, x_rem_i, x_rem_r, x_rem_l, x_rem2_0, x_rem2_i, x_rem2_r, x_rem2_l, x_pick0, x_pick_c, x_st1, x_st2, x_live, x_i, x_l, x_a, x_ild, x_lld, x_rld, x_ist, x_lst, x_rst, x_inc, x_ii, x_ll, x_li, x_cmp, x_ui, x_il, x_lti, x_idiv, x_irem, x_dup_i, x_dup_r, x_pop_i, x_pop_r, x_dupx_ir, x_dup2_ir, x_ifeq, x_iceq, x_iflt, x_iclt, x_ifge, x_icge, x_ifgt, x_icgt, x_ifle, x_icle, x_ifne, x_icne, x_ifnull_r, x_ifnull_n, x_ifnonnull_r, x_ifnonnull_n, x_sw, x_vret, x_iret, x_lret, x_zret, x_zret0, x_zret1, x_rf_s, x_rf_n, x_geti, x_getr, x_puti, x_putz, x_putr, x_ial, x_ias, x_lal, x_las, x_aal, x_aas, x_aast, x_alen, x_new, x_newa, x_copy, x_min, x_abs, x_minl, x_oinit, x_throw, x_callS0, x_callS1, x_callS2, x_callS3, x_callS4, x_callV0, x_callV1, x_callV2, x_callV3, x_callV4, x_callV5, x_retI_v, x_callI0, x_callI1, x_callI2, x_retN_v, x_callSN1, x_callSN2, x_callT0, x_callT1, x_fn, x_sl0, x_sli, x_slr, x_sll, x_ar0, x_ari, x_arr, x_arl, ↓reduceIte, Nat.reduceAdd, Nat.reduceSub, Nat.reduceMul, Nat.reduceEqDiff, Nat.reduceLeDiff, Nat.reduceLT, if_true, if_false, Nat.le_refl, and_true, true_and, and_self, reduceCtorEq, or_false, false_or, or_true, true_or, Nat.zero_le, fa_lit, nI_add, w_mul, nI_ltI, nI_leI, nI_eq, nI_clamp, nI_toInt, if_pos, if_neg, w_div, w_rem2, zk138 hT, zk139 hT, zk140 hT, zk141 hT, zk142 hT, zk143 hT, zk144 hT, zk145 hT, zk146 hT, zk147 hT, zk148 hT, zk149 hT, zk150 hT, zk151 hT, zl139 hT, zl140 hT, zl141 hT, zl142 hT, zl143 hT, zl144 hT, zl145 hT, zl146 hT, zl147 hT, zl148 hT, zl149 hT, zl150 hT, zl151 hT, zr138_0 hT, zr138_1 hT, zr138_2 hT, zr138_3 hT, zr138_4 hT, zr138_8 hT, zr138_9 hT, zr138_10 hT, zr138_12 hT, zr138_24 hT, zr138_25 hT, zr138_26 hT, zr148_0 hT, zr148_1 hT, zr148_2 hT, zr148_3 hT, zr148_4 hT, zr148_5 hT, zr148_6 hT, zr148_7 hT, zr148_8 hT, x_k_I, x_l_I, x_r_I, x_j_I, x_n_I, x_z_I, x_i_Is, x_k_W, x_l_W, x_r_W, x_j_W, x_n_W, x_z_W, x_k_J, x_l_J, x_r_J, x_i_J, x_n_J, x_z_J, x_k_R, x_l_R, x_j_R, x_i_R, x_n_R, x_z_R, x_n_N, x_z_N, x_k_N, x_l_N, x_i_N, x_j_N, x_r_N, x_rowput, x_rr, x_rows, x_rown, s_up_s, s_up_n, e2, b6]) w_N 0 S (by show s_n (am_i S 139 2) - 0 < 5000; have := a2.2; omega) (Nat.zero_le _) hZ ⟨h, s_K.rf⟩
  have hv1 : s_V (am_i S1 139) := by rw [f2]; exact f4.1
  have hk1 : s_K (am_i S 139) (am_i S1 139) := by rw [f2]; exact f4.2
  have hT : s_V (s_p5 (am_i S1 139)) := hv1.tick (by rw [hk1 5 (by omega)]; exact ht)
  obtain ⟨S2, k1, k2, k3, -⟩ := z_remember (S := am_row S1 139 (s_p5 (am_i S1 139))) (f3.Z hZ) x_rows hT
  refine ⟨S2, ?_, ?_, f3.tr ((w_I.row (Or.inl rfl)).tr k3)⟩
  · refine f1.trans ?_
    rw [k1]
    rfl
  · rw [k2, f2]
    rfl
theorem z_lostL : ∀ S, w_Z S → s_V (am_i S 139) → s_n (am_i S 139 5) < 999 → ∃ S', am_loop (bX11_passTurn_40 w_N) w_N [(0, .ref 138), (1, .int (nI (s_n (am_i S 139 4)))), (2, .int (nI 0))] [] S = some (.inl none, S') ∧ am_i S' 139 = s_rem (s_p5 (s_p4 (s_p3 (am_i S 139)))) ∧ w_I w_P3 S S' := by
  intro S hZ h ht
  have a4 := h.B.2.2.2.1
  obtain ⟨S1, f1, f2, f3, f4⟩ := w_rowL (body := bX11_passTurn_40 w_N) (lvf := fun i => [(0, .ref 138), (1, .int (nI (s_n (am_i S 139 4)))), (2, .int (nI i))]) (n := s_n (am_i S 139 4)) (g := s_lostG) (inv := fun _ Q => s_V Q ∧ s_K (am_i S 139) Q)
    (res := fun T => am_loop (bX11_passTurn_89 w_N) w_N [(0, .ref 138), (2, .int (nI 0))] [] T)
    (fun i T r hi hT hI => by
      have hi2 : i < s_n (am_i T 139 4) := by rw [hI.2 4 (by omega)]; exact hi
      have hv := hI.1.lostG hi2
      have g3 := z_ofOrder (S := T) (u := i) (j := 3) hT (by omega)
      have g4 := z_ofOrder (S := T) (u := i) (j := 4) hT (by omega)
      have gt := z_turnNow (S := T) hT
      refine ⟨am_row T 139 (s_lostG i (am_i T 139)), ?_, x_rows, w_I.row (Or.inl rfl), hv.1, hI.2.tr hv.2⟩
      unfold s_lostG
      by_cases c1 : am_i T 139 (64 + 10 * i + 3) = nI 0
      · have gb := z_become (S := T) (o := i) (x := nI 4) (ne := s_n (am_i T 139 7)) hT hI.1.B.2.2.2.2.1.1 (hI.1.room hi2 (s_wg_c (Or.inl c1))) (by omega)
        have e9 := z_turnNow (S := T) hT
        by_cases c2 : am_i T 139 9 ≤ am_i T 139 5 - am_i T 139 (64 + 10 * i + 4)
        · have c3 : ¬ am_i T 139 5 - am_i T 139 (64 + 10 * i + 4) < am_i T 139 9 := fun q => by
            rw [fa_lt] at q
            rw [fa_le] at c2
            omega
          rw [if_pos ⟨c1, c2⟩]
          unfold s_become
          simp (disch := omega) only [bX11_passTurn_40, kX11_passTurn_81, x_cs0, x_csi, x_csr, x_csn, x_csl, x_ret_v, x_ret_t, x_ret_n, x_tl_s, x_tl_n, x_lk0, x_lk, x_rem0, x_rem_i, x_rem_r, x_rem_l, x_rem2_0, x_rem2_i, x_rem2_r, x_rem2_l, x_pick0, x_pick_c, x_st1, x_st2, x_live, x_i, x_l, x_a, x_ild, x_lld, x_rld, x_ist, x_lst, x_rst, x_inc, x_ii, x_ll, x_li, x_cmp, x_ui, x_il, x_lti, x_idiv, x_irem, x_dup_i, x_dup_r, x_pop_i, x_pop_r, x_dupx_ir, x_dup2_ir, x_ifeq, x_iceq, x_iflt, x_iclt, x_ifge, x_icge, x_ifgt, x_icgt, x_ifle, x_icle, x_ifne, x_icne, x_ifnull_r, x_ifnull_n, x_ifnonnull_r, x_ifnonnull_n, x_sw, x_vret, x_iret, x_lret, x_zret, x_zret0, x_zret1, x_rf_s, x_rf_n, x_geti, x_getr, x_puti, x_putz, x_putr, x_ial, x_ias, x_lal, x_las, x_aal, x_aas, x_aast, x_alen, x_new, x_newa, x_copy, x_min, x_abs, x_minl, x_oinit, x_throw, x_callS0, x_callS1, x_callS2, x_callS3, x_callS4, x_callV0, x_callV1, x_callV2, x_callV3, x_callV4, x_callV5, x_retI_v, x_callI0, x_callI1, x_callI2, x_retN_v, x_callSN1, x_callSN2, x_callT0, x_callT1, x_fn, x_sl0, x_sli, x_slr, x_sll, x_ar0, x_ari, x_arr, x_arl, ↓reduceIte, Nat.reduceAdd, Nat.reduceSub, Nat.reduceMul, Nat.reduceEqDiff, Nat.reduceLeDiff, Nat.reduceLT, if_true, if_false, Nat.le_refl, and_true, true_and, and_self, reduceCtorEq, or_false, false_or, or_true, true_or, Nat.zero_le, fa_lit, nI_add, w_mul, nI_ltI, nI_leI, nI_eq, nI_clamp, nI_toInt, if_pos, if_neg, w_div, w_rem2, zk138 hT, zk139 hT, zk140 hT, zk141 hT, zk142 hT, zk143 hT, zk144 hT, zk145 hT, zk146 hT, zk147 hT, zk148 hT, zk149 hT, zk150 hT, zk151 hT, zl139 hT, zl140 hT, zl141 hT, zl142 hT, zl143 hT, zl144 hT, zl145 hT, zl146 hT, zl147 hT, zl148 hT, zl149 hT, zl150 hT, zl151 hT, zr138_0 hT, zr138_1 hT, zr138_2 hT, zr138_3 hT, zr138_4 hT, zr138_8 hT, zr138_9 hT, zr138_10 hT, zr138_12 hT, zr138_24 hT, zr138_25 hT, zr138_26 hT, zr148_0 hT, zr148_1 hT, zr148_2 hT, zr148_3 hT, zr148_4 hT, zr148_5 hT, zr148_6 hT, zr148_7 hT, zr148_8 hT, g3, g4, gt, c1, c3, gb]
        · have c3 : am_i T 139 5 - am_i T 139 (64 + 10 * i + 4) < am_i T 139 9 := by
            rw [fa_lt]
            rw [fa_le] at c2
            omega
          rw [if_neg (fun q => c2 q.2), x_row_self]
          simp (disch := omega) only [bX11_passTurn_40, kX11_passTurn_81, x_cs0, x_csi, x_csr, x_csn, x_csl, x_ret_v, x_ret_t, x_ret_n, x_tl_s, x_tl_n, x_lk0, x_lk, x_rem0, x_rem_i, x_rem_r, x_rem_l, x_rem2_0, x_rem2_i, x_rem2_r, x_rem2_l, x_pick0, x_pick_c, x_st1, x_st2, x_live, x_i, x_l, x_a, x_ild, x_lld, x_rld, x_ist, x_lst, x_rst, x_inc, x_ii, x_ll, x_li, x_cmp, x_ui, x_il, x_lti, x_idiv, x_irem, x_dup_i, x_dup_r, x_pop_i, x_pop_r, x_dupx_ir, x_dup2_ir, x_ifeq, x_iceq, x_iflt, x_iclt, x_ifge, x_icge, x_ifgt, x_icgt, x_ifle, x_icle, x_ifne, x_icne, x_ifnull_r, x_ifnull_n, x_ifnonnull_r, x_ifnonnull_n, x_sw, x_vret, x_iret, x_lret, x_zret, x_zret0, x_zret1, x_rf_s, x_rf_n, x_geti, x_getr, x_puti, x_putz, x_putr, x_ial, x_ias, x_lal, x_las, x_aal, x_aas, x_aast, x_alen, x_new, x_newa, x_copy, x_min, x_abs, x_minl, x_oinit, x_throw, x_callS0, x_callS1, x_callS2, x_callS3, x_callS4, x_callV0, x_callV1, x_callV2, x_callV3, x_callV4, x_callV5, x_retI_v, x_callI0, x_callI1, x_callI2, x_retN_v, x_callSN1, x_callSN2, x_callT0, x_callT1, x_fn, x_sl0, x_sli, x_slr, x_sll, x_ar0, x_ari, x_arr, x_arl, ↓reduceIte, Nat.reduceAdd, Nat.reduceSub, Nat.reduceMul, Nat.reduceEqDiff, Nat.reduceLeDiff, Nat.reduceLT, if_true, if_false, Nat.le_refl, and_true, true_and, and_self, reduceCtorEq, or_false, false_or, or_true, true_or, Nat.zero_le, fa_lit, nI_add, w_mul, nI_ltI, nI_leI, nI_eq, nI_clamp, nI_toInt, if_pos, if_neg, w_div, w_rem2, zk138 hT, zk139 hT, zk140 hT, zk141 hT, zk142 hT, zk143 hT, zk144 hT, zk145 hT, zk146 hT, zk147 hT, zk148 hT, zk149 hT, zk150 hT, zk151 hT, zl139 hT, zl140 hT, zl141 hT, zl142 hT, zl143 hT, zl144 hT, zl145 hT, zl146 hT, zl147 hT, zl148 hT, zl149 hT, zl150 hT, zl151 hT, zr138_0 hT, zr138_1 hT, zr138_2 hT, zr138_3 hT, zr138_4 hT, zr138_8 hT, zr138_9 hT, zr138_10 hT, zr138_12 hT, zr138_24 hT, zr138_25 hT, zr138_26 hT, zr148_0 hT, zr148_1 hT, zr148_2 hT, zr148_3 hT, zr148_4 hT, zr148_5 hT, zr148_6 hT, zr148_7 hT, zr148_8 hT, g3, g4, gt, c1, c3]
      · rw [if_neg (fun q => c1 q.1), x_row_self]
        simp (disch := omega) only [bX11_passTurn_40, kX11_passTurn_81, x_cs0, x_csi, x_csr, x_csn, x_csl, x_ret_v, x_ret_t, x_ret_n, x_tl_s, x_tl_n, x_lk0, x_lk, x_rem0, x_rem_i, x_rem_r, x_rem_l, x_rem2_0, x_rem2_i, x_rem2_r, x_rem2_l, x_pick0, x_pick_c, x_st1, x_st2, x_live, x_i, x_l, x_a, x_ild, x_lld, x_rld, x_ist, x_lst, x_rst, x_inc, x_ii, x_ll, x_li, x_cmp, x_ui, x_il, x_lti, x_idiv, x_irem, x_dup_i, x_dup_r, x_pop_i, x_pop_r, x_dupx_ir, x_dup2_ir, x_ifeq, x_iceq, x_iflt, x_iclt, x_ifge, x_icge, x_ifgt, x_icgt, x_ifle, x_icle, x_ifne, x_icne, x_ifnull_r, x_ifnull_n, x_ifnonnull_r, x_ifnonnull_n, x_sw, x_vret, x_iret, x_lret, x_zret, x_zret0, x_zret1, x_rf_s, x_rf_n, x_geti, x_getr, x_puti, x_putz, x_putr, x_ial, x_ias, x_lal, x_las, x_aal, x_aas, x_aast, x_alen, x_new, x_newa, x_copy, x_min, x_abs, x_minl, x_oinit, x_throw, x_callS0, x_callS1, x_callS2, x_callS3, x_callS4, x_callV0, x_callV1, x_callV2, x_callV3, x_callV4, x_callV5, x_retI_v, x_callI0, x_callI1, x_callI2, x_retN_v, x_callSN1, x_callSN2, x_callT0, x_callT1, x_fn, x_sl0, x_sli, x_slr, x_sll, x_ar0, x_ari, x_arr, x_arl, ↓reduceIte, Nat.reduceAdd, Nat.reduceSub, Nat.reduceMul, Nat.reduceEqDiff, Nat.reduceLeDiff, Nat.reduceLT, if_true, if_false, Nat.le_refl, and_true, true_and, and_self, reduceCtorEq, or_false, false_or, or_true, true_or, Nat.zero_le, fa_lit, nI_add, w_mul, nI_ltI, nI_leI, nI_eq, nI_clamp, nI_toInt, if_pos, if_neg, w_div, w_rem2, zk138 hT, zk139 hT, zk140 hT, zk141 hT, zk142 hT, zk143 hT, zk144 hT, zk145 hT, zk146 hT, zk147 hT, zk148 hT, zk149 hT, zk150 hT, zk151 hT, zl139 hT, zl140 hT, zl141 hT, zl142 hT, zl143 hT, zl144 hT, zl145 hT, zl146 hT, zl147 hT, zl148 hT, zl149 hT, zl150 hT, zl151 hT, zr138_0 hT, zr138_1 hT, zr138_2 hT, zr138_3 hT, zr138_4 hT, zr138_8 hT, zr138_9 hT, zr138_10 hT, zr138_12 hT, zr138_24 hT, zr138_25 hT, zr138_26 hT, zr148_0 hT, zr148_1 hT, zr148_2 hT, zr148_3 hT, zr148_4 hT, zr148_5 hT, zr148_6 hT, zr148_7 hT, zr148_8 hT, g3, c1])
    (fun T r hT hI => by
      simp (disch := omega) only [bX11_passTurn_40, kX11_passTurn_89, x_cs0, x_csi, x_csr, x_csn, x_csl, x_ret_v, x_ret_t, x_ret_n, x_tl_s, x_tl_n, x_lk0, x_lk, x_rem0, x_rem_i, x_rem_r, x_rem_l, x_rem2_0, x_rem2_i, x_rem2_r, x_rem2_l, x_pick0, x_pick_c, x_st1, x_st2, x_live, x_i, x_l, x_a, x_ild, x_lld, x_rld, x_ist, x_lst, x_rst, x_inc, x_ii, x_ll, x_li, x_cmp, x_ui, x_il, x_lti, x_idiv, x_irem, x_dup_i, x_dup_r, x_pop_i, x_pop_r, x_dupx_ir, x_dup2_ir, x_ifeq, x_iceq, x_iflt, x_iclt, x_ifge, x_icge, x_ifgt, x_icgt, x_ifle, x_icle, x_ifne, x_icne, x_ifnull_r, x_ifnull_n, x_ifnonnull_r, x_ifnonnull_n, x_sw, x_vret, x_iret, x_lret, x_zret, x_zret0, x_zret1, x_rf_s, x_rf_n, x_geti, x_getr, x_puti, x_putz, x_putr, x_ial, x_ias, x_lal, x_las, x_aal, x_aas, x_aast, x_alen, x_new, x_newa, x_copy, x_min, x_abs, x_minl, x_oinit, x_throw, x_callS0, x_callS1, x_callS2, x_callS3, x_callS4, x_callV0, x_callV1, x_callV2, x_callV3, x_callV4, x_callV5, x_retI_v, x_callI0, x_callI1, x_callI2, x_retN_v, x_callSN1, x_callSN2, x_callT0, x_callT1, x_fn, x_sl0, x_sli, x_slr, x_sll, x_ar0, x_ari, x_arr, x_arl, ↓reduceIte, Nat.reduceAdd, Nat.reduceSub, Nat.reduceMul, Nat.reduceEqDiff, Nat.reduceLeDiff, Nat.reduceLT, if_true, if_false, Nat.le_refl, and_true, true_and, and_self, reduceCtorEq, or_false, false_or, or_true, true_or, Nat.zero_le, fa_lit, nI_add, w_mul, nI_ltI, nI_leI, nI_eq, nI_clamp, nI_toInt, if_pos, if_neg, w_div, w_rem2, zk138 hT, zk139 hT, zk140 hT, zk141 hT, zk142 hT, zk143 hT, zk144 hT, zk145 hT, zk146 hT, zk147 hT, zk148 hT, zk149 hT, zk150 hT, zk151 hT, zl139 hT, zl140 hT, zl141 hT, zl142 hT, zl143 hT, zl144 hT, zl145 hT, zl146 hT, zl147 hT, zl148 hT, zl149 hT, zl150 hT, zl151 hT, zr138_0 hT, zr138_1 hT, zr138_2 hT, zr138_3 hT, zr138_4 hT, zr138_8 hT, zr138_9 hT, zr138_10 hT, zr138_12 hT, zr138_24 hT, zr138_25 hT, zr138_26 hT, zr148_0 hT, zr148_1 hT, zr148_2 hT, zr148_3 hT, zr148_4 hT, zr148_5 hT, zr148_6 hT, zr148_7 hT, zr148_8 hT]) w_N 0 S (by show s_n (am_i S 139 4) - 0 < 5000; have := a4.2; omega) (Nat.zero_le _) hZ ⟨h, s_K.rf⟩
  have hv1 : s_V (am_i S1 139) := by rw [f2]; exact f4.1
  have hk1 : s_K (am_i S 139) (am_i S1 139) := by rw [f2]; exact f4.2
  obtain ⟨S2, k1, k2, k3⟩ := z_moveL S1 (f3.Z hZ) hv1 (by rw [hk1 5 (by omega)]; exact ht)
  refine ⟨S2, f1.trans k1, ?_, f3.tr k3⟩
  rw [k2, f2]
  rfl
theorem z_carryL : ∀ S, w_Z S → s_V (am_i S 139) → s_n (am_i S 139 5) < 999 → ∃ S', am_loop (bX11_passTurn_13 w_N) w_N [(0, .ref 138), (1, .int (nI (s_n (am_i S 139 4)))), (2, .int (nI 0))] [] S = some (.inl none, S') ∧ am_i S' 139 = s_rem (s_p5 (s_p4 (s_p3 (s_p2 (am_i S 139))))) ∧ w_I w_P3 S S' := by
  intro S hZ h ht
  have a4 := h.B.2.2.2.1
  obtain ⟨S1, f1, f2, f3, f4⟩ := w_rowL (body := bX11_passTurn_13 w_N) (lvf := fun i => [(0, .ref 138), (1, .int (nI (s_n (am_i S 139 4)))), (2, .int (nI i))]) (n := s_n (am_i S 139 4)) (g := s_carryG) (inv := fun _ Q => s_V Q ∧ s_K (am_i S 139) Q)
    (res := fun T => am_loop (bX11_passTurn_40 w_N) w_N [(0, .ref 138), (1, .int (nI (s_n (am_i S 139 4)))), (2, .int (nI 0))] [] T)
    (fun i T r hi hT hI => by
      have hi2 : i < s_n (am_i T 139 4) := by rw [hI.2 4 (by omega)]; exact hi
      have hv := hI.1.carryG hi2
      have g3 := z_ofOrder (S := T) (u := i) (j := 3) hT (by omega)
      by_cases c1 : am_i T 139 (64 + 10 * i + 3) = nI 0
      · obtain ⟨T1, k1, k2, k3⟩ := z_carry hT rfl hI.1 hi2 c1
        have e : s_carryG i (am_i T 139) = s_carry (am_i T 139) i := if_pos c1
        rw [e] at hv ⊢
        refine ⟨T1, ?_, k2, k3, hv.1, hI.2.tr hv.2⟩
        simp (disch := omega) only [bX11_passTurn_13, kX11_passTurn_32, x_cs0, x_csi, x_csr, x_csn, x_csl, x_ret_v, x_ret_t, x_ret_n, x_tl_s, x_tl_n, x_lk0, x_lk, x_rem0, x_rem_i, x_rem_r, x_rem_l, x_rem2_0, x_rem2_i, x_rem2_r, x_rem2_l, x_pick0, x_pick_c, x_st1, x_st2, x_live, x_i, x_l, x_a, x_ild, x_lld, x_rld, x_ist, x_lst, x_rst, x_inc, x_ii, x_ll, x_li, x_cmp, x_ui, x_il, x_lti, x_idiv, x_irem, x_dup_i, x_dup_r, x_pop_i, x_pop_r, x_dupx_ir, x_dup2_ir, x_ifeq, x_iceq, x_iflt, x_iclt, x_ifge, x_icge, x_ifgt, x_icgt, x_ifle, x_icle, x_ifne, x_icne, x_ifnull_r, x_ifnull_n, x_ifnonnull_r, x_ifnonnull_n, x_sw, x_vret, x_iret, x_lret, x_zret, x_zret0, x_zret1, x_rf_s, x_rf_n, x_geti, x_getr, x_puti, x_putz, x_putr, x_ial, x_ias, x_lal, x_las, x_aal, x_aas, x_aast, x_alen, x_new, x_newa, x_copy, x_min, x_abs, x_minl, x_oinit, x_throw, x_callS0, x_callS1, x_callS2, x_callS3, x_callS4, x_callV0, x_callV1, x_callV2, x_callV3, x_callV4, x_callV5, x_retI_v, x_callI0, x_callI1, x_callI2, x_retN_v, x_callSN1, x_callSN2, x_callT0, x_callT1, x_fn, x_sl0, x_sli, x_slr, x_sll, x_ar0, x_ari, x_arr, x_arl, ↓reduceIte, Nat.reduceAdd, Nat.reduceSub, Nat.reduceMul, Nat.reduceEqDiff, Nat.reduceLeDiff, Nat.reduceLT, if_true, if_false, Nat.le_refl, and_true, true_and, and_self, reduceCtorEq, or_false, false_or, or_true, true_or, Nat.zero_le, fa_lit, nI_add, w_mul, nI_ltI, nI_leI, nI_eq, nI_clamp, nI_toInt, if_pos, if_neg, w_div, w_rem2, zk138 hT, zk139 hT, zk140 hT, zk141 hT, zk142 hT, zk143 hT, zk144 hT, zk145 hT, zk146 hT, zk147 hT, zk148 hT, zk149 hT, zk150 hT, zk151 hT, zl139 hT, zl140 hT, zl141 hT, zl142 hT, zl143 hT, zl144 hT, zl145 hT, zl146 hT, zl147 hT, zl148 hT, zl149 hT, zl150 hT, zl151 hT, zr138_0 hT, zr138_1 hT, zr138_2 hT, zr138_3 hT, zr138_4 hT, zr138_8 hT, zr138_9 hT, zr138_10 hT, zr138_12 hT, zr138_24 hT, zr138_25 hT, zr138_26 hT, zr148_0 hT, zr148_1 hT, zr148_2 hT, zr148_3 hT, zr148_4 hT, zr148_5 hT, zr148_6 hT, zr148_7 hT, zr148_8 hT, g3, c1, k1]
      · have e : s_carryG i (am_i T 139) = am_i T 139 := if_neg c1
        rw [e]
        refine ⟨T, ?_, rfl, w_I.rf, hI⟩
        simp (disch := omega) only [bX11_passTurn_13, kX11_passTurn_32, x_cs0, x_csi, x_csr, x_csn, x_csl, x_ret_v, x_ret_t, x_ret_n, x_tl_s, x_tl_n, x_lk0, x_lk, x_rem0, x_rem_i, x_rem_r, x_rem_l, x_rem2_0, x_rem2_i, x_rem2_r, x_rem2_l, x_pick0, x_pick_c, x_st1, x_st2, x_live, x_i, x_l, x_a, x_ild, x_lld, x_rld, x_ist, x_lst, x_rst, x_inc, x_ii, x_ll, x_li, x_cmp, x_ui, x_il, x_lti, x_idiv, x_irem, x_dup_i, x_dup_r, x_pop_i, x_pop_r, x_dupx_ir, x_dup2_ir, x_ifeq, x_iceq, x_iflt, x_iclt, x_ifge, x_icge, x_ifgt, x_icgt, x_ifle, x_icle, x_ifne, x_icne, x_ifnull_r, x_ifnull_n, x_ifnonnull_r, x_ifnonnull_n, x_sw, x_vret, x_iret, x_lret, x_zret, x_zret0, x_zret1, x_rf_s, x_rf_n, x_geti, x_getr, x_puti, x_putz, x_putr, x_ial, x_ias, x_lal, x_las, x_aal, x_aas, x_aast, x_alen, x_new, x_newa, x_copy, x_min, x_abs, x_minl, x_oinit, x_throw, x_callS0, x_callS1, x_callS2, x_callS3, x_callS4, x_callV0, x_callV1, x_callV2, x_callV3, x_callV4, x_callV5, x_retI_v, x_callI0, x_callI1, x_callI2, x_retN_v, x_callSN1, x_callSN2, x_callT0, x_callT1, x_fn, x_sl0, x_sli, x_slr, x_sll, x_ar0, x_ari, x_arr, x_arl, ↓reduceIte, Nat.reduceAdd, Nat.reduceSub, Nat.reduceMul, Nat.reduceEqDiff, Nat.reduceLeDiff, Nat.reduceLT, if_true, if_false, Nat.le_refl, and_true, true_and, and_self, reduceCtorEq, or_false, false_or, or_true, true_or, Nat.zero_le, fa_lit, nI_add, w_mul, nI_ltI, nI_leI, nI_eq, nI_clamp, nI_toInt, if_pos, if_neg, w_div, w_rem2, zk138 hT, zk139 hT, zk140 hT, zk141 hT, zk142 hT, zk143 hT, zk144 hT, zk145 hT, zk146 hT, zk147 hT, zk148 hT, zk149 hT, zk150 hT, zk151 hT, zl139 hT, zl140 hT, zl141 hT, zl142 hT, zl143 hT, zl144 hT, zl145 hT, zl146 hT, zl147 hT, zl148 hT, zl149 hT, zl150 hT, zl151 hT, zr138_0 hT, zr138_1 hT, zr138_2 hT, zr138_3 hT, zr138_4 hT, zr138_8 hT, zr138_9 hT, zr138_10 hT, zr138_12 hT, zr138_24 hT, zr138_25 hT, zr138_26 hT, zr148_0 hT, zr148_1 hT, zr148_2 hT, zr148_3 hT, zr148_4 hT, zr148_5 hT, zr148_6 hT, zr148_7 hT, zr148_8 hT, g3, c1])
    (fun T r hT hI => by
      simp (disch := omega) only [bX11_passTurn_13, kX11_passTurn_40, x_cs0, x_csi, x_csr, x_csn, x_csl, x_ret_v, x_ret_t, x_ret_n, x_tl_s, x_tl_n, x_lk0, x_lk, x_rem0, x_rem_i, x_rem_r, x_rem_l, x_rem2_0, x_rem2_i, x_rem2_r, x_rem2_l, x_pick0, x_pick_c, x_st1, x_st2, x_live, x_i, x_l, x_a, x_ild, x_lld, x_rld, x_ist, x_lst, x_rst, x_inc, x_ii, x_ll, x_li, x_cmp, x_ui, x_il, x_lti, x_idiv, x_irem, x_dup_i, x_dup_r, x_pop_i, x_pop_r, x_dupx_ir, x_dup2_ir, x_ifeq, x_iceq, x_iflt, x_iclt, x_ifge, x_icge, x_ifgt, x_icgt, x_ifle, x_icle, x_ifne, x_icne, x_ifnull_r, x_ifnull_n, x_ifnonnull_r, x_ifnonnull_n, x_sw, x_vret, x_iret, x_lret, x_zret, x_zret0, x_zret1, x_rf_s, x_rf_n, x_geti, x_getr, x_puti, x_putz, x_putr, x_ial, x_ias, x_lal, x_las, x_aal, x_aas, x_aast, x_alen, x_new, x_newa, x_copy, x_min, x_abs, x_minl, x_oinit, x_throw, x_callS0, x_callS1, x_callS2, x_callS3, x_callS4, x_callV0, x_callV1, x_callV2, x_callV3, x_callV4, x_callV5, x_retI_v, x_callI0, x_callI1, x_callI2, x_retN_v, x_callSN1, x_callSN2, x_callT0, x_callT1, x_fn, x_sl0, x_sli, x_slr, x_sll, x_ar0, x_ari, x_arr, x_arl, ↓reduceIte, Nat.reduceAdd, Nat.reduceSub, Nat.reduceMul, Nat.reduceEqDiff, Nat.reduceLeDiff, Nat.reduceLT, if_true, if_false, Nat.le_refl, and_true, true_and, and_self, reduceCtorEq, or_false, false_or, or_true, true_or, Nat.zero_le, fa_lit, nI_add, w_mul, nI_ltI, nI_leI, nI_eq, nI_clamp, nI_toInt, if_pos, if_neg, w_div, w_rem2, zk138 hT, zk139 hT, zk140 hT, zk141 hT, zk142 hT, zk143 hT, zk144 hT, zk145 hT, zk146 hT, zk147 hT, zk148 hT, zk149 hT, zk150 hT, zk151 hT, zl139 hT, zl140 hT, zl141 hT, zl142 hT, zl143 hT, zl144 hT, zl145 hT, zl146 hT, zl147 hT, zl148 hT, zl149 hT, zl150 hT, zl151 hT, zr138_0 hT, zr138_1 hT, zr138_2 hT, zr138_3 hT, zr138_4 hT, zr138_8 hT, zr138_9 hT, zr138_10 hT, zr138_12 hT, zr138_24 hT, zr138_25 hT, zr138_26 hT, zr148_0 hT, zr148_1 hT, zr148_2 hT, zr148_3 hT, zr148_4 hT, zr148_5 hT, zr148_6 hT, zr148_7 hT, zr148_8 hT]) w_N 0 S (by show s_n (am_i S 139 4) - 0 < 5000; have := a4.2; omega) (Nat.zero_le _) hZ ⟨h, s_K.rf⟩
  have hv1 : s_V (am_i S1 139) := by rw [f2]; exact f4.1
  have hk1 : s_K (am_i S 139) (am_i S1 139) := by rw [f2]; exact f4.2
  obtain ⟨S2, k1, k2, k3⟩ := z_lostL S1 (f3.Z hZ) hv1 (by rw [hk1 5 (by omega)]; exact ht)
  rw [hk1 4 (by omega)] at k1
  refine ⟨S2, f1.trans k1, ?_, f3.tr k3⟩
  rw [k2, f2]
  rfl
theorem z_passTurn (hZ : w_Z S) (hR : am_i S 139 = R) (h : s_V R) (ht : s_n (R 5) < 999) : ∃ S', fX11_passTurn w_N [.ref 138] S = some (.inl none, S') ∧ am_i S' 139 = s_pass R ∧ w_I w_P3 S S' := by
  obtain ⟨S1, f1, f2, f3, f4, f5⟩ := z_sendPlanned hZ hR h
  have hv1 : s_V (am_i S1 139) := by rw [f2]; exact f4
  have hZ1 := f3.Z hZ
  have e4 := hv1.B.2.2.2.1.1
  obtain ⟨S2, k1, k2, k3⟩ := z_carryL S1 hZ1 hv1 (by rw [f2, f5 5 (by omega)]; exact ht)
  refine ⟨S2, ?_, ?_, f3.tr k3⟩
  · rw [← e4] at k1
    simp (disch := omega) only [fX11_passTurn, kX11_passTurn_0, kX11_passTurn_13, x_cs0, x_csi, x_csr, x_csn, x_csl, x_ret_v, x_ret_t, x_ret_n, x_tl_s, x_tl_n, x_lk0, x_lk, x_rem0, x_rem_i, x_rem_r, x_rem_l, x_rem2_0, x_rem2_i, x_rem2_r, x_rem2_l, x_pick0, x_pick_c, x_st1, x_st2, x_live, x_i, x_l, x_a, x_ild, x_lld, x_rld, x_ist, x_lst, x_rst, x_inc, x_ii, x_ll, x_li, x_cmp, x_ui, x_il, x_lti, x_idiv, x_irem, x_dup_i, x_dup_r, x_pop_i, x_pop_r, x_dupx_ir, x_dup2_ir, x_ifeq, x_iceq, x_iflt, x_iclt, x_ifge, x_icge, x_ifgt, x_icgt, x_ifle, x_icle, x_ifne, x_icne, x_ifnull_r, x_ifnull_n, x_ifnonnull_r, x_ifnonnull_n, x_sw, x_vret, x_iret, x_lret, x_zret, x_zret0, x_zret1, x_rf_s, x_rf_n, x_geti, x_getr, x_puti, x_putz, x_putr, x_ial, x_ias, x_lal, x_las, x_aal, x_aas, x_aast, x_alen, x_new, x_newa, x_copy, x_min, x_abs, x_minl, x_oinit, x_throw, x_callS0, x_callS1, x_callS2, x_callS3, x_callS4, x_callV0, x_callV1, x_callV2, x_callV3, x_callV4, x_callV5, x_retI_v, x_callI0, x_callI1, x_callI2, x_retN_v, x_callSN1, x_callSN2, x_callT0, x_callT1, x_fn, x_sl0, x_sli, x_slr, x_sll, x_ar0, x_ari, x_arr, x_arl, ↓reduceIte, Nat.reduceAdd, Nat.reduceSub, Nat.reduceMul, Nat.reduceEqDiff, Nat.reduceLeDiff, Nat.reduceLT, if_true, if_false, Nat.le_refl, and_true, true_and, and_self, reduceCtorEq, or_false, false_or, or_true, true_or, Nat.zero_le, fa_lit, nI_add, w_mul, nI_ltI, nI_leI, nI_eq, nI_clamp, nI_toInt, if_pos, if_neg, w_div, w_rem2, zk138 hZ, zk139 hZ, zk140 hZ, zk141 hZ, zk142 hZ, zk143 hZ, zk144 hZ, zk145 hZ, zk146 hZ, zk147 hZ, zk148 hZ, zk149 hZ, zk150 hZ, zk151 hZ, zl139 hZ, zl140 hZ, zl141 hZ, zl142 hZ, zl143 hZ, zl144 hZ, zl145 hZ, zl146 hZ, zl147 hZ, zl148 hZ, zl149 hZ, zl150 hZ, zl151 hZ, zr138_0 hZ, zr138_1 hZ, zr138_2 hZ, zr138_3 hZ, zr138_4 hZ, zr138_8 hZ, zr138_9 hZ, zr138_10 hZ, zr138_12 hZ, zr138_24 hZ, zr138_25 hZ, zr138_26 hZ, zr148_0 hZ, zr148_1 hZ, zr148_2 hZ, zr148_3 hZ, zr148_4 hZ, zr148_5 hZ, zr148_6 hZ, zr148_7 hZ, zr148_8 hZ, zk138 hZ1, zk139 hZ1, zk140 hZ1, zk141 hZ1, zk142 hZ1, zk143 hZ1, zk144 hZ1, zk145 hZ1, zk146 hZ1, zk147 hZ1, zk148 hZ1, zk149 hZ1, zk150 hZ1, zk151 hZ1, zl139 hZ1, zl140 hZ1, zl141 hZ1, zl142 hZ1, zl143 hZ1, zl144 hZ1, zl145 hZ1, zl146 hZ1, zl147 hZ1, zl148 hZ1, zl149 hZ1, zl150 hZ1, zl151 hZ1, zr138_0 hZ1, zr138_1 hZ1, zr138_2 hZ1, zr138_3 hZ1, zr138_4 hZ1, zr138_8 hZ1, zr138_9 hZ1, zr138_10 hZ1, zr138_12 hZ1, zr138_24 hZ1, zr138_25 hZ1, zr138_26 hZ1, zr148_0 hZ1, zr148_1 hZ1, zr148_2 hZ1, zr148_3 hZ1, zr148_4 hZ1, zr148_5 hZ1, zr148_6 hZ1, zr148_7 hZ1, zr148_8 hZ1, f1, k1]
  · rw [k2, f2]
    rfl
end Z12
