/-! THE REFERENCE ASKS: values, what is opened -/
section L57
variable {S S' T S0 : am_S} {a b c o p q i j k m n u t L e f κ v0 lo h op d l r : Nat} {P : Nat → Prop} {B : Nat → Nat} {x y z v hi : Int32} {s s' : p_S} {R : Nat → Int32} {C : List Int32}
theorem zq_n9 (H : w_zt S S L B s) (e : s.1.1 = 0) (g : s.2.1.2.2 = 2) : ∃ S', w_zt S S' L B (p_next B L (if p_val B s.2.1 < 10000 then s else p_fail s 2)) ∧ fX11_readNumber w_N [.ref 138, .int (nI 0), .int (nI 9999)] S = some (.inl (some (.int (if p_val B s.2.1 < 10000 then nI (p_val B s.2.1) else nI 0))), S') := by
  have hZ := H.Z
  have h18 := H.k18.1
  rw [e] at h18
  obtain ⟨h17, h4⟩ := H.k17 e
  obtain ⟨w, g1, g2⟩ := t_vl H
  have g2 := g2 e
  unfold p_v2 at g2
  rw [if_pos g] at g2
  rw [g] at h17
  have gr := z_inRange (S := S) (x := w) (y := nI 0) (z := nI 9999)
  have rg := p_rng (hi := nI 9999) (h := 10000) (lo := 0) (by rw [nI_toInt (by omega)]; rfl) (by omega) (by omega) (p_val B s.2.1)
  by_cases r : p_val B s.2.1 < 10000
  · rw [if_pos r, if_pos r]
    have r2 := rg.mpr ⟨Nat.zero_le _, r⟩
    rw [← g2] at r2
    rw [w_bt r2] at gr
    obtain ⟨S2, a1, a2⟩ := t_adv H
    have i18 := a2.k18.1
    rw [p_next_1, e] at i18
    have hZ2 := a2.Z
    refine ⟨S2, a2, ?_⟩
    have ew : w = nI (p_val B s.2.1) := by
      rw [g2, Nat.min_eq_left (by omega)]
    rw [ew] at g1 gr
    simp (disch := omega) only [fX11_readNumber, kX11_readNumber_72, kX11_readNumber_52, kX11_readNumber_47, kX11_readNumber_21, kX11_readNumber_16, kX11_readNumber_0, x_cs0, x_csi, x_csr, x_csn, x_csl, x_ret_v, x_ret_t, x_ret_n, x_tl_s, x_tl_n, x_lk0, x_lk, x_rem0, x_rem_i, x_rem_r, x_rem_l, x_rem2_0, x_rem2_i, x_rem2_r, x_rem2_l, x_pick0, x_pick_c, x_st1, x_st2, x_live, x_i, x_l, x_a, x_ild, x_lld, x_rld, x_ist, x_lst, x_rst, x_inc, x_ii, x_ll, x_li, x_cmp, x_ui, x_il, x_lti, x_idiv, x_irem, x_dup_i, x_dup_r, x_pop_i, x_pop_r, x_dupx_ir, x_dup2_ir, x_ifeq, x_iceq, x_iflt, x_iclt, x_ifge, x_icge, x_ifgt, x_icgt, x_ifle, x_icle, x_ifne, x_icne, x_ifnull_r, x_ifnull_n, x_ifnonnull_r, x_ifnonnull_n, x_sw, x_vret, x_iret, x_lret, x_zret, x_zret0, x_zret1, x_rf_s, x_rf_n, x_geti, x_getr, x_puti, x_putz, x_putr, x_ial, x_ias, x_lal, x_las, x_aal, x_aas, x_aast, x_alen, x_new, x_newa, x_copy, x_min, x_abs, x_minl, x_oinit, x_throw, x_callS0, x_callS1, x_callS2, x_callS3, x_callS4, x_callV0, x_callV1, x_callV2, x_callV3, x_callV4, x_callV5, x_retI_v, x_callI0, x_callI1, x_callI2, x_retN_v, x_callSN1, x_callSN2, x_callT0, x_callT1, x_fn, x_sl0, x_sli, x_slr, x_sll, x_ar0, x_ari, x_arr, x_arl, ↓reduceIte, Nat.reduceAdd, Nat.reduceSub, Nat.reduceMul, Nat.reduceEqDiff, Nat.reduceLeDiff, Nat.reduceLT, if_true, if_false, Nat.le_refl, and_true, true_and, and_self, reduceCtorEq, or_false, false_or, or_true, true_or, Nat.zero_le, fa_lit, nI_add, w_mul, nI_ltI, nI_leI, nI_eq, nI_clamp, nI_toInt, if_pos, if_neg, w_div, w_rem2, zk138 hZ, zk139 hZ, zk140 hZ, zk141 hZ, zk142 hZ, zk143 hZ, zk144 hZ, zk145 hZ, zk146 hZ, zk147 hZ, zk148 hZ, zk149 hZ, zk150 hZ, zk151 hZ, zl139 hZ, zl140 hZ, zl141 hZ, zl142 hZ, zl143 hZ, zl144 hZ, zl145 hZ, zl146 hZ, zl147 hZ, zl148 hZ, zl149 hZ, zl150 hZ, zl151 hZ, zr138_0 hZ, zr138_1 hZ, zr138_2 hZ, zr138_3 hZ, zr138_4 hZ, zr138_8 hZ, zr138_9 hZ, zr138_10 hZ, zr138_12 hZ, zr138_24 hZ, zr138_25 hZ, zr138_26 hZ, zr148_0 hZ, zr148_1 hZ, zr148_2 hZ, zr148_3 hZ, zr148_4 hZ, zr148_5 hZ, zr148_6 hZ, zr148_7 hZ, zr148_8 hZ, zk138 hZ2, zk139 hZ2, zk140 hZ2, zk141 hZ2, zk142 hZ2, zk143 hZ2, zk144 hZ2, zk145 hZ2, zk146 hZ2, zk147 hZ2, zk148 hZ2, zk149 hZ2, zk150 hZ2, zk151 hZ2, zl139 hZ2, zl140 hZ2, zl141 hZ2, zl142 hZ2, zl143 hZ2, zl144 hZ2, zl145 hZ2, zl146 hZ2, zl147 hZ2, zl148 hZ2, zl149 hZ2, zl150 hZ2, zl151 hZ2, zr138_0 hZ2, zr138_1 hZ2, zr138_2 hZ2, zr138_3 hZ2, zr138_4 hZ2, zr138_8 hZ2, zr138_9 hZ2, zr138_10 hZ2, zr138_12 hZ2, zr138_24 hZ2, zr138_25 hZ2, zr138_26 hZ2, zr148_0 hZ2, zr148_1 hZ2, zr148_2 hZ2, zr148_3 hZ2, zr148_4 hZ2, zr148_5 hZ2, zr148_6 hZ2, zr148_7 hZ2, zr148_8 hZ2, h18, h17, g1, gr, z_ck1, a1, i18]
  · rw [if_neg r, if_neg r]
    have r2 := fun q => r (rg.mp q).2
    rw [← g2] at r2
    rw [w_bf r2] at gr
    obtain ⟨S2, a1, a2⟩ := t_ck0 H (c := 2) (by omega) (by omega)
    have hZ2 := a2.Z
    obtain ⟨S3, b1, b2⟩ := t_adv a2
    have i18 := b2.k18.1
    rw [p_next_1, p_fail_c, if_pos e] at i18
    have hZ3 := b2.Z
    refine ⟨S3, b2, ?_⟩
    simp (disch := omega) only [fX11_readNumber, kX11_readNumber_72, kX11_readNumber_52, kX11_readNumber_47, kX11_readNumber_21, kX11_readNumber_16, kX11_readNumber_0, x_cs0, x_csi, x_csr, x_csn, x_csl, x_ret_v, x_ret_t, x_ret_n, x_tl_s, x_tl_n, x_lk0, x_lk, x_rem0, x_rem_i, x_rem_r, x_rem_l, x_rem2_0, x_rem2_i, x_rem2_r, x_rem2_l, x_pick0, x_pick_c, x_st1, x_st2, x_live, x_i, x_l, x_a, x_ild, x_lld, x_rld, x_ist, x_lst, x_rst, x_inc, x_ii, x_ll, x_li, x_cmp, x_ui, x_il, x_lti, x_idiv, x_irem, x_dup_i, x_dup_r, x_pop_i, x_pop_r, x_dupx_ir, x_dup2_ir, x_ifeq, x_iceq, x_iflt, x_iclt, x_ifge, x_icge, x_ifgt, x_icgt, x_ifle, x_icle, x_ifne, x_icne, x_ifnull_r, x_ifnull_n, x_ifnonnull_r, x_ifnonnull_n, x_sw, x_vret, x_iret, x_lret, x_zret, x_zret0, x_zret1, x_rf_s, x_rf_n, x_geti, x_getr, x_puti, x_putz, x_putr, x_ial, x_ias, x_lal, x_las, x_aal, x_aas, x_aast, x_alen, x_new, x_newa, x_copy, x_min, x_abs, x_minl, x_oinit, x_throw, x_callS0, x_callS1, x_callS2, x_callS3, x_callS4, x_callV0, x_callV1, x_callV2, x_callV3, x_callV4, x_callV5, x_retI_v, x_callI0, x_callI1, x_callI2, x_retN_v, x_callSN1, x_callSN2, x_callT0, x_callT1, x_fn, x_sl0, x_sli, x_slr, x_sll, x_ar0, x_ari, x_arr, x_arl, ↓reduceIte, Nat.reduceAdd, Nat.reduceSub, Nat.reduceMul, Nat.reduceEqDiff, Nat.reduceLeDiff, Nat.reduceLT, if_true, if_false, Nat.le_refl, and_true, true_and, and_self, reduceCtorEq, or_false, false_or, or_true, true_or, Nat.zero_le, fa_lit, nI_add, w_mul, nI_ltI, nI_leI, nI_eq, nI_clamp, nI_toInt, if_pos, if_neg, w_div, w_rem2, zk138 hZ, zk139 hZ, zk140 hZ, zk141 hZ, zk142 hZ, zk143 hZ, zk144 hZ, zk145 hZ, zk146 hZ, zk147 hZ, zk148 hZ, zk149 hZ, zk150 hZ, zk151 hZ, zl139 hZ, zl140 hZ, zl141 hZ, zl142 hZ, zl143 hZ, zl144 hZ, zl145 hZ, zl146 hZ, zl147 hZ, zl148 hZ, zl149 hZ, zl150 hZ, zl151 hZ, zr138_0 hZ, zr138_1 hZ, zr138_2 hZ, zr138_3 hZ, zr138_4 hZ, zr138_8 hZ, zr138_9 hZ, zr138_10 hZ, zr138_12 hZ, zr138_24 hZ, zr138_25 hZ, zr138_26 hZ, zr148_0 hZ, zr148_1 hZ, zr148_2 hZ, zr148_3 hZ, zr148_4 hZ, zr148_5 hZ, zr148_6 hZ, zr148_7 hZ, zr148_8 hZ, zk138 hZ2, zk139 hZ2, zk140 hZ2, zk141 hZ2, zk142 hZ2, zk143 hZ2, zk144 hZ2, zk145 hZ2, zk146 hZ2, zk147 hZ2, zk148 hZ2, zk149 hZ2, zk150 hZ2, zk151 hZ2, zl139 hZ2, zl140 hZ2, zl141 hZ2, zl142 hZ2, zl143 hZ2, zl144 hZ2, zl145 hZ2, zl146 hZ2, zl147 hZ2, zl148 hZ2, zl149 hZ2, zl150 hZ2, zl151 hZ2, zr138_0 hZ2, zr138_1 hZ2, zr138_2 hZ2, zr138_3 hZ2, zr138_4 hZ2, zr138_8 hZ2, zr138_9 hZ2, zr138_10 hZ2, zr138_12 hZ2, zr138_24 hZ2, zr138_25 hZ2, zr138_26 hZ2, zr148_0 hZ2, zr148_1 hZ2, zr148_2 hZ2, zr148_3 hZ2, zr148_4 hZ2, zr148_5 hZ2, zr148_6 hZ2, zr148_7 hZ2, zr148_8 hZ2, zk138 hZ3, zk139 hZ3, zk140 hZ3, zk141 hZ3, zk142 hZ3, zk143 hZ3, zk144 hZ3, zk145 hZ3, zk146 hZ3, zk147 hZ3, zk148 hZ3, zk149 hZ3, zk150 hZ3, zk151 hZ3, zl139 hZ3, zl140 hZ3, zl141 hZ3, zl142 hZ3, zl143 hZ3, zl144 hZ3, zl145 hZ3, zl146 hZ3, zl147 hZ3, zl148 hZ3, zl149 hZ3, zl150 hZ3, zl151 hZ3, zr138_0 hZ3, zr138_1 hZ3, zr138_2 hZ3, zr138_3 hZ3, zr138_4 hZ3, zr138_8 hZ3, zr138_9 hZ3, zr138_10 hZ3, zr138_12 hZ3, zr138_24 hZ3, zr138_25 hZ3, zr138_26 hZ3, zr148_0 hZ3, zr148_1 hZ3, zr148_2 hZ3, zr148_3 hZ3, zr148_4 hZ3, zr148_5 hZ3, zr148_6 hZ3, zr148_7 hZ3, zr148_8 hZ3, h18, h17, g1, gr, z_ck1, a1, b1, i18]
theorem q_t_T (h : i < 9) : am_isT (q_t i) := by
  unfold am_isT q_t
  repeat' split
  all_goals omega
theorem q_nm_sp (T : Nat × Nat × Nat) : (q_nm B T < 9 → l_w B T (q_t (q_nm B T))) ∧ ∀ j, j < q_nm B T → ¬ l_w B T (q_t j) := by
  unfold q_nm
  by_cases c0 : l_w B T 23
  · rw [if_pos c0]
    exact ⟨fun _ => c0, fun j hj => absurd hj (Nat.not_lt_zero _)⟩
  rw [if_neg c0]
  by_cases c1 : l_w B T 5
  · rw [if_pos c1]
    refine ⟨fun _ => c1, fun j hj => ?_⟩
    rcases (show j = 0 by omega) with rfl
    exact c0
  rw [if_neg c1]
  by_cases c2 : l_w B T 24
  · rw [if_pos c2]
    refine ⟨fun _ => c2, fun j hj => ?_⟩
    rcases (show j = 0 ∨ j = 1 by omega) with rfl | rfl
    · exact c0
    · exact c1
  rw [if_neg c2]
  by_cases c3 : l_w B T 25
  · rw [if_pos c3]
    refine ⟨fun _ => c3, fun j hj => ?_⟩
    rcases (show j = 0 ∨ j = 1 ∨ j = 2 by omega) with rfl | rfl | rfl
    · exact c0
    · exact c1
    · exact c2
  rw [if_neg c3]
  by_cases c4 : l_w B T 26
  · rw [if_pos c4]
    refine ⟨fun _ => c4, fun j hj => ?_⟩
    rcases (show j = 0 ∨ j = 1 ∨ j = 2 ∨ j = 3 by omega) with rfl | rfl | rfl | rfl
    · exact c0
    · exact c1
    · exact c2
    · exact c3
  rw [if_neg c4]
  by_cases c5 : l_w B T 27
  · rw [if_pos c5]
    refine ⟨fun _ => c5, fun j hj => ?_⟩
    rcases (show j = 0 ∨ j = 1 ∨ j = 2 ∨ j = 3 ∨ j = 4 by omega) with rfl | rfl | rfl | rfl | rfl
    · exact c0
    · exact c1
    · exact c2
    · exact c3
    · exact c4
  rw [if_neg c5]
  by_cases c6 : l_w B T 28
  · rw [if_pos c6]
    refine ⟨fun _ => c6, fun j hj => ?_⟩
    rcases (show j = 0 ∨ j = 1 ∨ j = 2 ∨ j = 3 ∨ j = 4 ∨ j = 5 by omega) with rfl | rfl | rfl | rfl | rfl | rfl
    · exact c0
    · exact c1
    · exact c2
    · exact c3
    · exact c4
    · exact c5
  rw [if_neg c6]
  by_cases c7 : l_w B T 29
  · rw [if_pos c7]
    refine ⟨fun _ => c7, fun j hj => ?_⟩
    rcases (show j = 0 ∨ j = 1 ∨ j = 2 ∨ j = 3 ∨ j = 4 ∨ j = 5 ∨ j = 6 by omega) with rfl | rfl | rfl | rfl | rfl | rfl | rfl
    · exact c0
    · exact c1
    · exact c2
    · exact c3
    · exact c4
    · exact c5
    · exact c6
  rw [if_neg c7]
  by_cases c8 : l_w B T 30
  · rw [if_pos c8]
    refine ⟨fun _ => c8, fun j hj => ?_⟩
    rcases (show j = 0 ∨ j = 1 ∨ j = 2 ∨ j = 3 ∨ j = 4 ∨ j = 5 ∨ j = 6 ∨ j = 7 by omega) with rfl | rfl | rfl | rfl | rfl | rfl | rfl | rfl
    · exact c0
    · exact c1
    · exact c2
    · exact c3
    · exact c4
    · exact c5
    · exact c6
    · exact c7
  · rw [if_neg c8]
    refine ⟨fun q => absurd q (by omega), fun j hj => ?_⟩
    rcases (show j = 0 ∨ j = 1 ∨ j = 2 ∨ j = 3 ∨ j = 4 ∨ j = 5 ∨ j = 6 ∨ j = 7 ∨ j = 8 by omega) with rfl | rfl | rfl | rfl | rfl | rfl | rfl | rfl | rfl
    · exact c0
    · exact c1
    · exact c2
    · exact c3
    · exact c4
    · exact c5
    · exact c6
    · exact c7
    · exact c8
theorem q_nm_9 (T : Nat × Nat × Nat) : q_nm B T ≤ 9 := by
  unfold q_nm
  repeat' split
  all_goals omega
theorem w_nmr (hZ : w_Z S) (h : i < 9) : am_r S 148 i = some (q_t i) := by
  rcases (show i = 0 ∨ i = 1 ∨ i = 2 ∨ i = 3 ∨ i = 4 ∨ i = 5 ∨ i = 6 ∨ i = 7 ∨ i = 8 by omega) with rfl | rfl | rfl | rfl | rfl | rfl | rfl | rfl | rfl
  · exact zr148_0 hZ
  · exact zr148_1 hZ
  · exact zr148_2 hZ
  · exact zr148_3 hZ
  · exact zr148_4 hZ
  · exact zr148_5 hZ
  · exact zr148_6 hZ
  · exact zr148_7 hZ
  · exact zr148_8 hZ
theorem zq_nmL (H : w_zt S S L B s) (e : s.1.1 = 0) : am_loop (bX11_compileValue_30 w_N) w_N [(0, .ref 138), (1, .int (nI 0))] [] S = kX11_compileValue_58 w_N [(0, .ref 138), (1, .int (nI (q_nm B s.2.1)))] [] S := by
  have hZ := H.Z
  obtain ⟨q1, q2⟩ := q_nm_sp (B := B) s.2.1
  have q9 := q_nm_9 (B := B) s.2.1
  generalize hN : q_nm B s.2.1 = N at *
  obtain ⟨T, r, n1, n2⟩ := w_genR (σ := Unit) (body := bX11_compileValue_30 w_N) (lvf := fun i => [(0, .ref 138), (1, .int (nI i))]) (n := N) (g := fun _ s => s) (P := fun i T _ => T = S)
    (fun i T s' r hi hP => by
      subst hP
      have g := t_wd H (q_t_T (i := i) (by omega))
      rw [w_bf (fun q => q2 i hi q.2)] at g
      have er := w_nmr hZ (i := i) (by omega)
      refine ⟨T, ?_, rfl⟩
      simp (disch := omega) only [bX11_compileValue_30, x_cs0, x_csi, x_csr, x_csn, x_csl, x_ret_v, x_ret_t, x_ret_n, x_tl_s, x_tl_n, x_lk0, x_lk, x_rem0, x_rem_i, x_rem_r, x_rem_l, x_rem2_0, x_rem2_i, x_rem2_r, x_rem2_l, x_pick0, x_pick_c, x_st1, x_st2, x_live, x_i, x_l, x_a, x_ild, x_lld, x_rld, x_ist, x_lst, x_rst, x_inc, x_ii, x_ll, x_li, x_cmp, x_ui, x_il, x_lti, x_idiv, x_irem, x_dup_i, x_dup_r, x_pop_i, x_pop_r, x_dupx_ir, x_dup2_ir, x_ifeq, x_iceq, x_iflt, x_iclt, x_ifge, x_icge, x_ifgt, x_icgt, x_ifle, x_icle, x_ifne, x_icne, x_ifnull_r, x_ifnull_n, x_ifnonnull_r, x_ifnonnull_n, x_sw, x_vret, x_iret, x_lret, x_zret, x_zret0, x_zret1, x_rf_s, x_rf_n, x_geti, x_getr, x_puti, x_putz, x_putr, x_ial, x_ias, x_lal, x_las, x_aal, x_aas, x_aast, x_alen, x_new, x_newa, x_copy, x_min, x_abs, x_minl, x_oinit, x_throw, x_callS0, x_callS1, x_callS2, x_callS3, x_callS4, x_callV0, x_callV1, x_callV2, x_callV3, x_callV4, x_callV5, x_retI_v, x_callI0, x_callI1, x_callI2, x_retN_v, x_callSN1, x_callSN2, x_callT0, x_callT1, x_fn, x_sl0, x_sli, x_slr, x_sll, x_ar0, x_ari, x_arr, x_arl, ↓reduceIte, Nat.reduceAdd, Nat.reduceSub, Nat.reduceMul, Nat.reduceEqDiff, Nat.reduceLeDiff, Nat.reduceLT, if_true, if_false, Nat.le_refl, and_true, true_and, and_self, reduceCtorEq, or_false, false_or, or_true, true_or, Nat.zero_le, fa_lit, nI_add, w_mul, nI_ltI, nI_leI, nI_eq, nI_clamp, nI_toInt, if_pos, if_neg, w_div, w_rem2, zk138 hZ, zk139 hZ, zk140 hZ, zk141 hZ, zk142 hZ, zk143 hZ, zk144 hZ, zk145 hZ, zk146 hZ, zk147 hZ, zk148 hZ, zk149 hZ, zk150 hZ, zk151 hZ, zl139 hZ, zl140 hZ, zl141 hZ, zl142 hZ, zl143 hZ, zl144 hZ, zl145 hZ, zl146 hZ, zl147 hZ, zl148 hZ, zl149 hZ, zl150 hZ, zl151 hZ, zr138_0 hZ, zr138_1 hZ, zr138_2 hZ, zr138_3 hZ, zr138_4 hZ, zr138_8 hZ, zr138_9 hZ, zr138_10 hZ, zr138_12 hZ, zr138_24 hZ, zr138_25 hZ, zr138_26 hZ, zr148_0 hZ, zr148_1 hZ, zr148_2 hZ, zr148_3 hZ, zr148_4 hZ, zr148_5 hZ, zr148_6 hZ, zr148_7 hZ, zr148_8 hZ, er, va_rf, g]) w_N 0 S () (by show N - 0 < 5000; omega) (Nat.zero_le _) rfl
  subst n2
  refine Eq.trans n1 ?_
  generalize hK : kX11_compileValue_58 w_N = K
  by_cases c : N < 9
  · have g := t_wd H (q_t_T (i := N) c)
    rw [w_bt ⟨e, q1 c⟩] at g
    have er := w_nmr hZ (i := N) c
    simp (disch := omega) only [bX11_compileValue_30, hK, x_cs0, x_csi, x_csr, x_csn, x_csl, x_ret_v, x_ret_t, x_ret_n, x_tl_s, x_tl_n, x_lk0, x_lk, x_rem0, x_rem_i, x_rem_r, x_rem_l, x_rem2_0, x_rem2_i, x_rem2_r, x_rem2_l, x_pick0, x_pick_c, x_st1, x_st2, x_live, x_i, x_l, x_a, x_ild, x_lld, x_rld, x_ist, x_lst, x_rst, x_inc, x_ii, x_ll, x_li, x_cmp, x_ui, x_il, x_lti, x_idiv, x_irem, x_dup_i, x_dup_r, x_pop_i, x_pop_r, x_dupx_ir, x_dup2_ir, x_ifeq, x_iceq, x_iflt, x_iclt, x_ifge, x_icge, x_ifgt, x_icgt, x_ifle, x_icle, x_ifne, x_icne, x_ifnull_r, x_ifnull_n, x_ifnonnull_r, x_ifnonnull_n, x_sw, x_vret, x_iret, x_lret, x_zret, x_zret0, x_zret1, x_rf_s, x_rf_n, x_geti, x_getr, x_puti, x_putz, x_putr, x_ial, x_ias, x_lal, x_las, x_aal, x_aas, x_aast, x_alen, x_new, x_newa, x_copy, x_min, x_abs, x_minl, x_oinit, x_throw, x_callS0, x_callS1, x_callS2, x_callS3, x_callS4, x_callV0, x_callV1, x_callV2, x_callV3, x_callV4, x_callV5, x_retI_v, x_callI0, x_callI1, x_callI2, x_retN_v, x_callSN1, x_callSN2, x_callT0, x_callT1, x_fn, x_sl0, x_sli, x_slr, x_sll, x_ar0, x_ari, x_arr, x_arl, ↓reduceIte, Nat.reduceAdd, Nat.reduceSub, Nat.reduceMul, Nat.reduceEqDiff, Nat.reduceLeDiff, Nat.reduceLT, if_true, if_false, Nat.le_refl, and_true, true_and, and_self, reduceCtorEq, or_false, false_or, or_true, true_or, Nat.zero_le, fa_lit, nI_add, w_mul, nI_ltI, nI_leI, nI_eq, nI_clamp, nI_toInt, if_pos, if_neg, w_div, w_rem2, zk138 hZ, zk139 hZ, zk140 hZ, zk141 hZ, zk142 hZ, zk143 hZ, zk144 hZ, zk145 hZ, zk146 hZ, zk147 hZ, zk148 hZ, zk149 hZ, zk150 hZ, zk151 hZ, zl139 hZ, zl140 hZ, zl141 hZ, zl142 hZ, zl143 hZ, zl144 hZ, zl145 hZ, zl146 hZ, zl147 hZ, zl148 hZ, zl149 hZ, zl150 hZ, zl151 hZ, zr138_0 hZ, zr138_1 hZ, zr138_2 hZ, zr138_3 hZ, zr138_4 hZ, zr138_8 hZ, zr138_9 hZ, zr138_10 hZ, zr138_12 hZ, zr138_24 hZ, zr138_25 hZ, zr138_26 hZ, zr148_0 hZ, zr148_1 hZ, zr148_2 hZ, zr148_3 hZ, zr148_4 hZ, zr148_5 hZ, zr148_6 hZ, zr148_7 hZ, zr148_8 hZ, er, va_rf, g]
  · simp (disch := omega) only [bX11_compileValue_30, hK, x_cs0, x_csi, x_csr, x_csn, x_csl, x_ret_v, x_ret_t, x_ret_n, x_tl_s, x_tl_n, x_lk0, x_lk, x_rem0, x_rem_i, x_rem_r, x_rem_l, x_rem2_0, x_rem2_i, x_rem2_r, x_rem2_l, x_pick0, x_pick_c, x_st1, x_st2, x_live, x_i, x_l, x_a, x_ild, x_lld, x_rld, x_ist, x_lst, x_rst, x_inc, x_ii, x_ll, x_li, x_cmp, x_ui, x_il, x_lti, x_idiv, x_irem, x_dup_i, x_dup_r, x_pop_i, x_pop_r, x_dupx_ir, x_dup2_ir, x_ifeq, x_iceq, x_iflt, x_iclt, x_ifge, x_icge, x_ifgt, x_icgt, x_ifle, x_icle, x_ifne, x_icne, x_ifnull_r, x_ifnull_n, x_ifnonnull_r, x_ifnonnull_n, x_sw, x_vret, x_iret, x_lret, x_zret, x_zret0, x_zret1, x_rf_s, x_rf_n, x_geti, x_getr, x_puti, x_putz, x_putr, x_ial, x_ias, x_lal, x_las, x_aal, x_aas, x_aast, x_alen, x_new, x_newa, x_copy, x_min, x_abs, x_minl, x_oinit, x_throw, x_callS0, x_callS1, x_callS2, x_callS3, x_callS4, x_callV0, x_callV1, x_callV2, x_callV3, x_callV4, x_callV5, x_retI_v, x_callI0, x_callI1, x_callI2, x_retN_v, x_callSN1, x_callSN2, x_callT0, x_callT1, x_fn, x_sl0, x_sli, x_slr, x_sll, x_ar0, x_ari, x_arr, x_arl, ↓reduceIte, Nat.reduceAdd, Nat.reduceSub, Nat.reduceMul, Nat.reduceEqDiff, Nat.reduceLeDiff, Nat.reduceLT, if_true, if_false, Nat.le_refl, and_true, true_and, and_self, reduceCtorEq, or_false, false_or, or_true, true_or, Nat.zero_le, fa_lit, nI_add, w_mul, nI_ltI, nI_leI, nI_eq, nI_clamp, nI_toInt, if_pos, if_neg, w_div, w_rem2, zk138 hZ, zk139 hZ, zk140 hZ, zk141 hZ, zk142 hZ, zk143 hZ, zk144 hZ, zk145 hZ, zk146 hZ, zk147 hZ, zk148 hZ, zk149 hZ, zk150 hZ, zk151 hZ, zl139 hZ, zl140 hZ, zl141 hZ, zl142 hZ, zl143 hZ, zl144 hZ, zl145 hZ, zl146 hZ, zl147 hZ, zl148 hZ, zl149 hZ, zl150 hZ, zl151 hZ, zr138_0 hZ, zr138_1 hZ, zr138_2 hZ, zr138_3 hZ, zr138_4 hZ, zr138_8 hZ, zr138_9 hZ, zr138_10 hZ, zr138_12 hZ, zr138_24 hZ, zr138_25 hZ, zr138_26 hZ, zr148_0 hZ, zr148_1 hZ, zr148_2 hZ, zr148_3 hZ, zr148_4 hZ, zr148_5 hZ, zr148_6 hZ, zr148_7 hZ, zr148_8 hZ]
theorem q_op_e (e : s.1.1 ≠ 0) : (q_op B s).1 = s := by
  unfold q_op
  split
  · show (if _ then _ else _) = s
    split
    · exact p_fail_e e
    · rfl
  · show (if _ then _ else _) = s
    split
    · exact p_fail_e e
    · rfl
/-- a value -/
theorem zq_cv (H : w_zc S0 S L B s C op d) : ∃ S', fX11_compileValue w_N [.ref 138] S = some (.inl none, S') ∧ w_zc S0 S' L B (p_next B L (q_op B s).1) (C ++ [q_code B s.2.1]) op d := by
  have hZ := H.Z
  have h18 := H.2.1.1.k18
  by_cases e : s.1.1 = 0
  · rw [e] at h18
    obtain ⟨h18, -⟩ := h18
    obtain ⟨h17, h4⟩ := H.2.1.1.k17 e
    by_cases g : s.2.1.2.2 = 2
    · rw [g] at h17
      have lv := l_v_n (H.tk e) g
      obtain ⟨S1, k2, k1⟩ := zq_n9 H.2.1.1 e g
      have hZ1 := k2.Z
      unfold q_op q_code
      rw [if_pos g, if_pos g, lv]
      dsimp only
      by_cases r : p_val B s.2.1 < 10000
      · rw [if_pos r] at k1 k2
        rw [if_neg (show ¬ 10000 ≤ min (p_val B s.2.1) 100000 by omega)]
        have H1 : w_zc S0 S1 L B (p_next B L s) C op (d + 1) := H.lift k2 (fun q => ⟨q, q_gt (H.tk e) (by omega)⟩)
        obtain ⟨S2, m1, m2⟩ := zq_em1 H1 (nI (p_val B s.2.1))
        refine ⟨S2, ?_, m2⟩
        simp (disch := omega) only [fX11_compileValue, kX11_compileValue_0, kX11_compileValue_15, x_cs0, x_csi, x_csr, x_csn, x_csl, x_ret_v, x_ret_t, x_ret_n, x_tl_s, x_tl_n, x_lk0, x_lk, x_rem0, x_rem_i, x_rem_r, x_rem_l, x_rem2_0, x_rem2_i, x_rem2_r, x_rem2_l, x_pick0, x_pick_c, x_st1, x_st2, x_live, x_i, x_l, x_a, x_ild, x_lld, x_rld, x_ist, x_lst, x_rst, x_inc, x_ii, x_ll, x_li, x_cmp, x_ui, x_il, x_lti, x_idiv, x_irem, x_dup_i, x_dup_r, x_pop_i, x_pop_r, x_dupx_ir, x_dup2_ir, x_ifeq, x_iceq, x_iflt, x_iclt, x_ifge, x_icge, x_ifgt, x_icgt, x_ifle, x_icle, x_ifne, x_icne, x_ifnull_r, x_ifnull_n, x_ifnonnull_r, x_ifnonnull_n, x_sw, x_vret, x_iret, x_lret, x_zret, x_zret0, x_zret1, x_rf_s, x_rf_n, x_geti, x_getr, x_puti, x_putz, x_putr, x_ial, x_ias, x_lal, x_las, x_aal, x_aas, x_aast, x_alen, x_new, x_newa, x_copy, x_min, x_abs, x_minl, x_oinit, x_throw, x_callS0, x_callS1, x_callS2, x_callS3, x_callS4, x_callV0, x_callV1, x_callV2, x_callV3, x_callV4, x_callV5, x_retI_v, x_callI0, x_callI1, x_callI2, x_retN_v, x_callSN1, x_callSN2, x_callT0, x_callT1, x_fn, x_sl0, x_sli, x_slr, x_sll, x_ar0, x_ari, x_arr, x_arl, ↓reduceIte, Nat.reduceAdd, Nat.reduceSub, Nat.reduceMul, Nat.reduceEqDiff, Nat.reduceLeDiff, Nat.reduceLT, if_true, if_false, Nat.le_refl, and_true, true_and, and_self, reduceCtorEq, or_false, false_or, or_true, true_or, Nat.zero_le, fa_lit, nI_add, w_mul, nI_ltI, nI_leI, nI_eq, nI_clamp, nI_toInt, if_pos, if_neg, w_div, w_rem2, zk138 hZ, zk139 hZ, zk140 hZ, zk141 hZ, zk142 hZ, zk143 hZ, zk144 hZ, zk145 hZ, zk146 hZ, zk147 hZ, zk148 hZ, zk149 hZ, zk150 hZ, zk151 hZ, zl139 hZ, zl140 hZ, zl141 hZ, zl142 hZ, zl143 hZ, zl144 hZ, zl145 hZ, zl146 hZ, zl147 hZ, zl148 hZ, zl149 hZ, zl150 hZ, zl151 hZ, zr138_0 hZ, zr138_1 hZ, zr138_2 hZ, zr138_3 hZ, zr138_4 hZ, zr138_8 hZ, zr138_9 hZ, zr138_10 hZ, zr138_12 hZ, zr138_24 hZ, zr138_25 hZ, zr138_26 hZ, zr148_0 hZ, zr148_1 hZ, zr148_2 hZ, zr148_3 hZ, zr148_4 hZ, zr148_5 hZ, zr148_6 hZ, zr148_7 hZ, zr148_8 hZ, zk138 hZ1, zk139 hZ1, zk140 hZ1, zk141 hZ1, zk142 hZ1, zk143 hZ1, zk144 hZ1, zk145 hZ1, zk146 hZ1, zk147 hZ1, zk148 hZ1, zk149 hZ1, zk150 hZ1, zk151 hZ1, zl139 hZ1, zl140 hZ1, zl141 hZ1, zl142 hZ1, zl143 hZ1, zl144 hZ1, zl145 hZ1, zl146 hZ1, zl147 hZ1, zl148 hZ1, zl149 hZ1, zl150 hZ1, zl151 hZ1, zr138_0 hZ1, zr138_1 hZ1, zr138_2 hZ1, zr138_3 hZ1, zr138_4 hZ1, zr138_8 hZ1, zr138_9 hZ1, zr138_10 hZ1, zr138_12 hZ1, zr138_24 hZ1, zr138_25 hZ1, zr138_26 hZ1, zr148_0 hZ1, zr148_1 hZ1, zr148_2 hZ1, zr148_3 hZ1, zr148_4 hZ1, zr148_5 hZ1, zr148_6 hZ1, zr148_7 hZ1, zr148_8 hZ1, h18, h17, k1, m1]
      · rw [if_neg r] at k1 k2
        rw [if_pos (show 10000 ≤ min (p_val B s.2.1) 100000 by omega)]
        have ne : (p_next B L (p_fail s 2)).1.1 ≠ 0 := p_fail_0 (by omega)
        have H1 : w_zc S0 S1 L B (p_next B L (p_fail s 2)) C op (d + 0) := H.lift k2 (fun q => absurd q ne)
        have m1 := zq_emE H1 ne (nI 0)
        refine ⟨S1, ?_, H1.er ne rfl⟩
        simp (disch := omega) only [fX11_compileValue, kX11_compileValue_0, kX11_compileValue_15, x_cs0, x_csi, x_csr, x_csn, x_csl, x_ret_v, x_ret_t, x_ret_n, x_tl_s, x_tl_n, x_lk0, x_lk, x_rem0, x_rem_i, x_rem_r, x_rem_l, x_rem2_0, x_rem2_i, x_rem2_r, x_rem2_l, x_pick0, x_pick_c, x_st1, x_st2, x_live, x_i, x_l, x_a, x_ild, x_lld, x_rld, x_ist, x_lst, x_rst, x_inc, x_ii, x_ll, x_li, x_cmp, x_ui, x_il, x_lti, x_idiv, x_irem, x_dup_i, x_dup_r, x_pop_i, x_pop_r, x_dupx_ir, x_dup2_ir, x_ifeq, x_iceq, x_iflt, x_iclt, x_ifge, x_icge, x_ifgt, x_icgt, x_ifle, x_icle, x_ifne, x_icne, x_ifnull_r, x_ifnull_n, x_ifnonnull_r, x_ifnonnull_n, x_sw, x_vret, x_iret, x_lret, x_zret, x_zret0, x_zret1, x_rf_s, x_rf_n, x_geti, x_getr, x_puti, x_putz, x_putr, x_ial, x_ias, x_lal, x_las, x_aal, x_aas, x_aast, x_alen, x_new, x_newa, x_copy, x_min, x_abs, x_minl, x_oinit, x_throw, x_callS0, x_callS1, x_callS2, x_callS3, x_callS4, x_callV0, x_callV1, x_callV2, x_callV3, x_callV4, x_callV5, x_retI_v, x_callI0, x_callI1, x_callI2, x_retN_v, x_callSN1, x_callSN2, x_callT0, x_callT1, x_fn, x_sl0, x_sli, x_slr, x_sll, x_ar0, x_ari, x_arr, x_arl, ↓reduceIte, Nat.reduceAdd, Nat.reduceSub, Nat.reduceMul, Nat.reduceEqDiff, Nat.reduceLeDiff, Nat.reduceLT, if_true, if_false, Nat.le_refl, and_true, true_and, and_self, reduceCtorEq, or_false, false_or, or_true, true_or, Nat.zero_le, fa_lit, nI_add, w_mul, nI_ltI, nI_leI, nI_eq, nI_clamp, nI_toInt, if_pos, if_neg, w_div, w_rem2, zk138 hZ, zk139 hZ, zk140 hZ, zk141 hZ, zk142 hZ, zk143 hZ, zk144 hZ, zk145 hZ, zk146 hZ, zk147 hZ, zk148 hZ, zk149 hZ, zk150 hZ, zk151 hZ, zl139 hZ, zl140 hZ, zl141 hZ, zl142 hZ, zl143 hZ, zl144 hZ, zl145 hZ, zl146 hZ, zl147 hZ, zl148 hZ, zl149 hZ, zl150 hZ, zl151 hZ, zr138_0 hZ, zr138_1 hZ, zr138_2 hZ, zr138_3 hZ, zr138_4 hZ, zr138_8 hZ, zr138_9 hZ, zr138_10 hZ, zr138_12 hZ, zr138_24 hZ, zr138_25 hZ, zr138_26 hZ, zr148_0 hZ, zr148_1 hZ, zr148_2 hZ, zr148_3 hZ, zr148_4 hZ, zr148_5 hZ, zr148_6 hZ, zr148_7 hZ, zr148_8 hZ, zk138 hZ1, zk139 hZ1, zk140 hZ1, zk141 hZ1, zk142 hZ1, zk143 hZ1, zk144 hZ1, zk145 hZ1, zk146 hZ1, zk147 hZ1, zk148 hZ1, zk149 hZ1, zk150 hZ1, zk151 hZ1, zl139 hZ1, zl140 hZ1, zl141 hZ1, zl142 hZ1, zl143 hZ1, zl144 hZ1, zl145 hZ1, zl146 hZ1, zl147 hZ1, zl148 hZ1, zl149 hZ1, zl150 hZ1, zl151 hZ1, zr138_0 hZ1, zr138_1 hZ1, zr138_2 hZ1, zr138_3 hZ1, zr138_4 hZ1, zr138_8 hZ1, zr138_9 hZ1, zr138_10 hZ1, zr138_12 hZ1, zr138_24 hZ1, zr138_25 hZ1, zr138_26 hZ1, zr148_0 hZ1, zr148_1 hZ1, zr148_2 hZ1, zr148_3 hZ1, zr148_4 hZ1, zr148_5 hZ1, zr148_6 hZ1, zr148_7 hZ1, zr148_8 hZ1, h18, h17, k1, m1]
    · have lp := zq_nmL H.2.1.1 e
      have q9 := q_nm_9 (B := B) s.2.1
      have q1 := (q_nm_sp (B := B) s.2.1).1
      unfold q_op q_code
      rw [if_neg g, if_neg g]
      dsimp only
      suffices hs : ∃ S', kX11_compileValue_58 w_N [(0, .ref 138), (1, .int (nI (q_nm B s.2.1)))] [] S = some (.inl none, S') ∧ w_zc S0 S' L B (p_next B L (if q_nm B s.2.1 = 9 then p_fail s 1 else s)) (C ++ [-nI 1 - nI (q_nm B s.2.1)]) op d by
        obtain ⟨S', a1, a2⟩ := hs
        refine ⟨S', ?_, a2⟩
        rw [← a1, ← lp]
        generalize s.2.1.2.2 = kk at *
        simp (disch := omega) only [fX11_compileValue, kX11_compileValue_0, kX11_compileValue_30, x_cs0, x_csi, x_csr, x_csn, x_csl, x_ret_v, x_ret_t, x_ret_n, x_tl_s, x_tl_n, x_lk0, x_lk, x_rem0, x_rem_i, x_rem_r, x_rem_l, x_rem2_0, x_rem2_i, x_rem2_r, x_rem2_l, x_pick0, x_pick_c, x_st1, x_st2, x_live, x_i, x_l, x_a, x_ild, x_lld, x_rld, x_ist, x_lst, x_rst, x_inc, x_ii, x_ll, x_li, x_cmp, x_ui, x_il, x_lti, x_idiv, x_irem, x_dup_i, x_dup_r, x_pop_i, x_pop_r, x_dupx_ir, x_dup2_ir, x_ifeq, x_iceq, x_iflt, x_iclt, x_ifge, x_icge, x_ifgt, x_icgt, x_ifle, x_icle, x_ifne, x_icne, x_ifnull_r, x_ifnull_n, x_ifnonnull_r, x_ifnonnull_n, x_sw, x_vret, x_iret, x_lret, x_zret, x_zret0, x_zret1, x_rf_s, x_rf_n, x_geti, x_getr, x_puti, x_putz, x_putr, x_ial, x_ias, x_lal, x_las, x_aal, x_aas, x_aast, x_alen, x_new, x_newa, x_copy, x_min, x_abs, x_minl, x_oinit, x_throw, x_callS0, x_callS1, x_callS2, x_callS3, x_callS4, x_callV0, x_callV1, x_callV2, x_callV3, x_callV4, x_callV5, x_retI_v, x_callI0, x_callI1, x_callI2, x_retN_v, x_callSN1, x_callSN2, x_callT0, x_callT1, x_fn, x_sl0, x_sli, x_slr, x_sll, x_ar0, x_ari, x_arr, x_arl, ↓reduceIte, Nat.reduceAdd, Nat.reduceSub, Nat.reduceMul, Nat.reduceEqDiff, Nat.reduceLeDiff, Nat.reduceLT, if_true, if_false, Nat.le_refl, and_true, true_and, and_self, reduceCtorEq, or_false, false_or, or_true, true_or, Nat.zero_le, fa_lit, nI_add, w_mul, nI_ltI, nI_leI, nI_eq, nI_clamp, nI_toInt, if_pos, if_neg, w_div, w_rem2, zk138 hZ, zk139 hZ, zk140 hZ, zk141 hZ, zk142 hZ, zk143 hZ, zk144 hZ, zk145 hZ, zk146 hZ, zk147 hZ, zk148 hZ, zk149 hZ, zk150 hZ, zk151 hZ, zl139 hZ, zl140 hZ, zl141 hZ, zl142 hZ, zl143 hZ, zl144 hZ, zl145 hZ, zl146 hZ, zl147 hZ, zl148 hZ, zl149 hZ, zl150 hZ, zl151 hZ, zr138_0 hZ, zr138_1 hZ, zr138_2 hZ, zr138_3 hZ, zr138_4 hZ, zr138_8 hZ, zr138_9 hZ, zr138_10 hZ, zr138_12 hZ, zr138_24 hZ, zr138_25 hZ, zr138_26 hZ, zr148_0 hZ, zr148_1 hZ, zr148_2 hZ, zr148_3 hZ, zr148_4 hZ, zr148_5 hZ, zr148_6 hZ, zr148_7 hZ, zr148_8 hZ, h18, h17]
      generalize q_nm B s.2.1 = N at *
      by_cases c : N = 9
      · rw [if_pos c]
        obtain ⟨S1, a1, a2⟩ := zq_ck0 H (c := 1) (by omega) (by omega)
        have hZ1 := a2.Z
        have ne : (p_fail s 1).1.1 ≠ 0 := p_fail_0 (by omega)
        have m1 := zq_emE a2 ne (-nI 1 - nI N)
        obtain ⟨S2, b1, b2⟩ := zq_adv a2 (fun q => absurd q ne)
        refine ⟨S2, ?_, b2.er (s := p_next B L (p_fail s 1)) ne rfl⟩
        simp (disch := omega) only [kX11_compileValue_58, kX11_compileValue_73, x_cs0, x_csi, x_csr, x_csn, x_csl, x_ret_v, x_ret_t, x_ret_n, x_tl_s, x_tl_n, x_lk0, x_lk, x_rem0, x_rem_i, x_rem_r, x_rem_l, x_rem2_0, x_rem2_i, x_rem2_r, x_rem2_l, x_pick0, x_pick_c, x_st1, x_st2, x_live, x_i, x_l, x_a, x_ild, x_lld, x_rld, x_ist, x_lst, x_rst, x_inc, x_ii, x_ll, x_li, x_cmp, x_ui, x_il, x_lti, x_idiv, x_irem, x_dup_i, x_dup_r, x_pop_i, x_pop_r, x_dupx_ir, x_dup2_ir, x_ifeq, x_iceq, x_iflt, x_iclt, x_ifge, x_icge, x_ifgt, x_icgt, x_ifle, x_icle, x_ifne, x_icne, x_ifnull_r, x_ifnull_n, x_ifnonnull_r, x_ifnonnull_n, x_sw, x_vret, x_iret, x_lret, x_zret, x_zret0, x_zret1, x_rf_s, x_rf_n, x_geti, x_getr, x_puti, x_putz, x_putr, x_ial, x_ias, x_lal, x_las, x_aal, x_aas, x_aast, x_alen, x_new, x_newa, x_copy, x_min, x_abs, x_minl, x_oinit, x_throw, x_callS0, x_callS1, x_callS2, x_callS3, x_callS4, x_callV0, x_callV1, x_callV2, x_callV3, x_callV4, x_callV5, x_retI_v, x_callI0, x_callI1, x_callI2, x_retN_v, x_callSN1, x_callSN2, x_callT0, x_callT1, x_fn, x_sl0, x_sli, x_slr, x_sll, x_ar0, x_ari, x_arr, x_arl, ↓reduceIte, Nat.reduceAdd, Nat.reduceSub, Nat.reduceMul, Nat.reduceEqDiff, Nat.reduceLeDiff, Nat.reduceLT, if_true, if_false, Nat.le_refl, and_true, true_and, and_self, reduceCtorEq, or_false, false_or, or_true, true_or, Nat.zero_le, fa_lit, nI_add, w_mul, nI_ltI, nI_leI, nI_eq, nI_clamp, nI_toInt, if_pos, if_neg, w_div, w_rem2, zk138 hZ, zk139 hZ, zk140 hZ, zk141 hZ, zk142 hZ, zk143 hZ, zk144 hZ, zk145 hZ, zk146 hZ, zk147 hZ, zk148 hZ, zk149 hZ, zk150 hZ, zk151 hZ, zl139 hZ, zl140 hZ, zl141 hZ, zl142 hZ, zl143 hZ, zl144 hZ, zl145 hZ, zl146 hZ, zl147 hZ, zl148 hZ, zl149 hZ, zl150 hZ, zl151 hZ, zr138_0 hZ, zr138_1 hZ, zr138_2 hZ, zr138_3 hZ, zr138_4 hZ, zr138_8 hZ, zr138_9 hZ, zr138_10 hZ, zr138_12 hZ, zr138_24 hZ, zr138_25 hZ, zr138_26 hZ, zr148_0 hZ, zr148_1 hZ, zr148_2 hZ, zr148_3 hZ, zr148_4 hZ, zr148_5 hZ, zr148_6 hZ, zr148_7 hZ, zr148_8 hZ, zk138 hZ1, zk139 hZ1, zk140 hZ1, zk141 hZ1, zk142 hZ1, zk143 hZ1, zk144 hZ1, zk145 hZ1, zk146 hZ1, zk147 hZ1, zk148 hZ1, zk149 hZ1, zk150 hZ1, zk151 hZ1, zl139 hZ1, zl140 hZ1, zl141 hZ1, zl142 hZ1, zl143 hZ1, zl144 hZ1, zl145 hZ1, zl146 hZ1, zl147 hZ1, zl148 hZ1, zl149 hZ1, zl150 hZ1, zl151 hZ1, zr138_0 hZ1, zr138_1 hZ1, zr138_2 hZ1, zr138_3 hZ1, zr138_4 hZ1, zr138_8 hZ1, zr138_9 hZ1, zr138_10 hZ1, zr138_12 hZ1, zr138_24 hZ1, zr138_25 hZ1, zr138_26 hZ1, zr148_0 hZ1, zr148_1 hZ1, zr148_2 hZ1, zr148_3 hZ1, zr148_4 hZ1, zr148_5 hZ1, zr148_6 hZ1, zr148_7 hZ1, zr148_8 hZ1, a1, m1, b1]
      · rw [if_neg c]
        have hk : s.2.1.2.2 ≠ 0 := by
          have := (q1 (by omega)).1
          omega
        obtain ⟨S1, S2, a1, hZ1, b1, b2⟩ := zq_em2 H (fun _ => hk) (-nI 1 - nI N)
        refine ⟨S2, ?_, b2⟩
        simp (disch := omega) only [kX11_compileValue_58, kX11_compileValue_73, x_cs0, x_csi, x_csr, x_csn, x_csl, x_ret_v, x_ret_t, x_ret_n, x_tl_s, x_tl_n, x_lk0, x_lk, x_rem0, x_rem_i, x_rem_r, x_rem_l, x_rem2_0, x_rem2_i, x_rem2_r, x_rem2_l, x_pick0, x_pick_c, x_st1, x_st2, x_live, x_i, x_l, x_a, x_ild, x_lld, x_rld, x_ist, x_lst, x_rst, x_inc, x_ii, x_ll, x_li, x_cmp, x_ui, x_il, x_lti, x_idiv, x_irem, x_dup_i, x_dup_r, x_pop_i, x_pop_r, x_dupx_ir, x_dup2_ir, x_ifeq, x_iceq, x_iflt, x_iclt, x_ifge, x_icge, x_ifgt, x_icgt, x_ifle, x_icle, x_ifne, x_icne, x_ifnull_r, x_ifnull_n, x_ifnonnull_r, x_ifnonnull_n, x_sw, x_vret, x_iret, x_lret, x_zret, x_zret0, x_zret1, x_rf_s, x_rf_n, x_geti, x_getr, x_puti, x_putz, x_putr, x_ial, x_ias, x_lal, x_las, x_aal, x_aas, x_aast, x_alen, x_new, x_newa, x_copy, x_min, x_abs, x_minl, x_oinit, x_throw, x_callS0, x_callS1, x_callS2, x_callS3, x_callS4, x_callV0, x_callV1, x_callV2, x_callV3, x_callV4, x_callV5, x_retI_v, x_callI0, x_callI1, x_callI2, x_retN_v, x_callSN1, x_callSN2, x_callT0, x_callT1, x_fn, x_sl0, x_sli, x_slr, x_sll, x_ar0, x_ari, x_arr, x_arl, ↓reduceIte, Nat.reduceAdd, Nat.reduceSub, Nat.reduceMul, Nat.reduceEqDiff, Nat.reduceLeDiff, Nat.reduceLT, if_true, if_false, Nat.le_refl, and_true, true_and, and_self, reduceCtorEq, or_false, false_or, or_true, true_or, Nat.zero_le, fa_lit, nI_add, w_mul, nI_ltI, nI_leI, nI_eq, nI_clamp, nI_toInt, if_pos, if_neg, w_div, w_rem2, zk138 hZ, zk139 hZ, zk140 hZ, zk141 hZ, zk142 hZ, zk143 hZ, zk144 hZ, zk145 hZ, zk146 hZ, zk147 hZ, zk148 hZ, zk149 hZ, zk150 hZ, zk151 hZ, zl139 hZ, zl140 hZ, zl141 hZ, zl142 hZ, zl143 hZ, zl144 hZ, zl145 hZ, zl146 hZ, zl147 hZ, zl148 hZ, zl149 hZ, zl150 hZ, zl151 hZ, zr138_0 hZ, zr138_1 hZ, zr138_2 hZ, zr138_3 hZ, zr138_4 hZ, zr138_8 hZ, zr138_9 hZ, zr138_10 hZ, zr138_12 hZ, zr138_24 hZ, zr138_25 hZ, zr138_26 hZ, zr148_0 hZ, zr148_1 hZ, zr148_2 hZ, zr148_3 hZ, zr148_4 hZ, zr148_5 hZ, zr148_6 hZ, zr148_7 hZ, zr148_8 hZ, zk138 hZ1, zk139 hZ1, zk140 hZ1, zk141 hZ1, zk142 hZ1, zk143 hZ1, zk144 hZ1, zk145 hZ1, zk146 hZ1, zk147 hZ1, zk148 hZ1, zk149 hZ1, zk150 hZ1, zk151 hZ1, zl139 hZ1, zl140 hZ1, zl141 hZ1, zl142 hZ1, zl143 hZ1, zl144 hZ1, zl145 hZ1, zl146 hZ1, zl147 hZ1, zl148 hZ1, zl149 hZ1, zl150 hZ1, zl151 hZ1, zr138_0 hZ1, zr138_1 hZ1, zr138_2 hZ1, zr138_3 hZ1, zr138_4 hZ1, zr138_8 hZ1, zr138_9 hZ1, zr138_10 hZ1, zr138_12 hZ1, zr138_24 hZ1, zr138_25 hZ1, zr138_26 hZ1, zr148_0 hZ1, zr148_1 hZ1, zr148_2 hZ1, zr148_3 hZ1, zr148_4 hZ1, zr148_5 hZ1, zr148_6 hZ1, zr148_7 hZ1, zr148_8 hZ1, z_ck1, a1, b1]
  · have n1 := t_nmE (lo := 0) (hi := nI 9999) H.2.1.1 e
    have m1 := zq_emE H e (nI 0)
    refine ⟨S, ?_, H.er e (by rw [p_next_1, q_op_e e])⟩
    generalize s.1.1 = w at *
    obtain ⟨h18, hw⟩ := h18
    simp (disch := omega) only [fX11_compileValue, kX11_compileValue_0, kX11_compileValue_15, x_cs0, x_csi, x_csr, x_csn, x_csl, x_ret_v, x_ret_t, x_ret_n, x_tl_s, x_tl_n, x_lk0, x_lk, x_rem0, x_rem_i, x_rem_r, x_rem_l, x_rem2_0, x_rem2_i, x_rem2_r, x_rem2_l, x_pick0, x_pick_c, x_st1, x_st2, x_live, x_i, x_l, x_a, x_ild, x_lld, x_rld, x_ist, x_lst, x_rst, x_inc, x_ii, x_ll, x_li, x_cmp, x_ui, x_il, x_lti, x_idiv, x_irem, x_dup_i, x_dup_r, x_pop_i, x_pop_r, x_dupx_ir, x_dup2_ir, x_ifeq, x_iceq, x_iflt, x_iclt, x_ifge, x_icge, x_ifgt, x_icgt, x_ifle, x_icle, x_ifne, x_icne, x_ifnull_r, x_ifnull_n, x_ifnonnull_r, x_ifnonnull_n, x_sw, x_vret, x_iret, x_lret, x_zret, x_zret0, x_zret1, x_rf_s, x_rf_n, x_geti, x_getr, x_puti, x_putz, x_putr, x_ial, x_ias, x_lal, x_las, x_aal, x_aas, x_aast, x_alen, x_new, x_newa, x_copy, x_min, x_abs, x_minl, x_oinit, x_throw, x_callS0, x_callS1, x_callS2, x_callS3, x_callS4, x_callV0, x_callV1, x_callV2, x_callV3, x_callV4, x_callV5, x_retI_v, x_callI0, x_callI1, x_callI2, x_retN_v, x_callSN1, x_callSN2, x_callT0, x_callT1, x_fn, x_sl0, x_sli, x_slr, x_sll, x_ar0, x_ari, x_arr, x_arl, ↓reduceIte, Nat.reduceAdd, Nat.reduceSub, Nat.reduceMul, Nat.reduceEqDiff, Nat.reduceLeDiff, Nat.reduceLT, if_true, if_false, Nat.le_refl, and_true, true_and, and_self, reduceCtorEq, or_false, false_or, or_true, true_or, Nat.zero_le, fa_lit, nI_add, w_mul, nI_ltI, nI_leI, nI_eq, nI_clamp, nI_toInt, if_pos, if_neg, w_div, w_rem2, zk138 hZ, zk139 hZ, zk140 hZ, zk141 hZ, zk142 hZ, zk143 hZ, zk144 hZ, zk145 hZ, zk146 hZ, zk147 hZ, zk148 hZ, zk149 hZ, zk150 hZ, zk151 hZ, zl139 hZ, zl140 hZ, zl141 hZ, zl142 hZ, zl143 hZ, zl144 hZ, zl145 hZ, zl146 hZ, zl147 hZ, zl148 hZ, zl149 hZ, zl150 hZ, zl151 hZ, zr138_0 hZ, zr138_1 hZ, zr138_2 hZ, zr138_3 hZ, zr138_4 hZ, zr138_8 hZ, zr138_9 hZ, zr138_10 hZ, zr138_12 hZ, zr138_24 hZ, zr138_25 hZ, zr138_26 hZ, zr148_0 hZ, zr148_1 hZ, zr148_2 hZ, zr148_3 hZ, zr148_4 hZ, zr148_5 hZ, zr148_6 hZ, zr148_7 hZ, zr148_8 hZ, h18, n1, m1]
theorem w_zc.put21 (H : w_zc S0 S L B s C op d) (m : Nat) : w_zc S0 (am_putI S 138 21 (nI m)) L B s C m d := by
  obtain ⟨a1, ⟨a2, a3⟩, a4, a5, a6⟩ := H
  have ij : ∀ j, j ≠ 21 → am_i (am_putI S 138 21 (nI m)) 138 j = am_i S 138 j := fun j hj => by rw [x_i_I, if_pos rfl, if_neg hj]
  have k : w_I (fun b => b = 138) S (am_putI S 138 21 (nI m)) := w_I.put (P := fun b => b = 138) rfl
  exact ⟨a1.tr (k.mono (fun b hb => Or.inl hb)), ⟨a2.fr2 (k.mono (fun b hb => Or.inl hb)) (fun j hj => ij j (by omega)), a3⟩, fun j hj => (ij j (by omega)).trans (a4 j hj), x_i_Is, fun e => ⟨(a6 e).1, (ij 27 (by omega)).trans (a6 e).2.1, fun i hi => by rw [k.i (by omega)]; exact (a6 e).2.2 i hi⟩⟩
/-- something is opened -/
theorem zq_enter (H : w_zc S0 S L B s C op d) (hop : op ≤ 6) (hk : s.1.1 = 0 → s.2.1.2.2 ≠ 0) : ∃ S', fX11_enter w_N [.ref 138] S = some (.inl none, S') ∧ w_zc S0 S' L B (p_next B L (if op < 6 then s else p_fail s 3)) C (op + 1) (d + 1) := by
  have hZ := H.Z
  have h21 := H.2.2.2.1
  by_cases c : op < 6
  · rw [if_pos c]
    have H1 := H.put21 (op + 1)
    have hZ1 := H1.Z
    obtain ⟨S', f1, f2⟩ := zq_adv H1 hk
    refine ⟨S', ?_, f2⟩
    simp (disch := omega) only [fX11_enter, kX11_enter_15, kX11_enter_0, x_cs0, x_csi, x_csr, x_csn, x_csl, x_ret_v, x_ret_t, x_ret_n, x_tl_s, x_tl_n, x_lk0, x_lk, x_rem0, x_rem_i, x_rem_r, x_rem_l, x_rem2_0, x_rem2_i, x_rem2_r, x_rem2_l, x_pick0, x_pick_c, x_st1, x_st2, x_live, x_i, x_l, x_a, x_ild, x_lld, x_rld, x_ist, x_lst, x_rst, x_inc, x_ii, x_ll, x_li, x_cmp, x_ui, x_il, x_lti, x_idiv, x_irem, x_dup_i, x_dup_r, x_pop_i, x_pop_r, x_dupx_ir, x_dup2_ir, x_ifeq, x_iceq, x_iflt, x_iclt, x_ifge, x_icge, x_ifgt, x_icgt, x_ifle, x_icle, x_ifne, x_icne, x_ifnull_r, x_ifnull_n, x_ifnonnull_r, x_ifnonnull_n, x_sw, x_vret, x_iret, x_lret, x_zret, x_zret0, x_zret1, x_rf_s, x_rf_n, x_geti, x_getr, x_puti, x_putz, x_putr, x_ial, x_ias, x_lal, x_las, x_aal, x_aas, x_aast, x_alen, x_new, x_newa, x_copy, x_min, x_abs, x_minl, x_oinit, x_throw, x_callS0, x_callS1, x_callS2, x_callS3, x_callS4, x_callV0, x_callV1, x_callV2, x_callV3, x_callV4, x_callV5, x_retI_v, x_callI0, x_callI1, x_callI2, x_retN_v, x_callSN1, x_callSN2, x_callT0, x_callT1, x_fn, x_sl0, x_sli, x_slr, x_sll, x_ar0, x_ari, x_arr, x_arl, ↓reduceIte, Nat.reduceAdd, Nat.reduceSub, Nat.reduceMul, Nat.reduceEqDiff, Nat.reduceLeDiff, Nat.reduceLT, if_true, if_false, Nat.le_refl, and_true, true_and, and_self, reduceCtorEq, or_false, false_or, or_true, true_or, Nat.zero_le, fa_lit, nI_add, w_mul, nI_ltI, nI_leI, nI_eq, nI_clamp, nI_toInt, if_pos, if_neg, w_div, w_rem2, zk138 hZ, zk139 hZ, zk140 hZ, zk141 hZ, zk142 hZ, zk143 hZ, zk144 hZ, zk145 hZ, zk146 hZ, zk147 hZ, zk148 hZ, zk149 hZ, zk150 hZ, zk151 hZ, zl139 hZ, zl140 hZ, zl141 hZ, zl142 hZ, zl143 hZ, zl144 hZ, zl145 hZ, zl146 hZ, zl147 hZ, zl148 hZ, zl149 hZ, zl150 hZ, zl151 hZ, zr138_0 hZ, zr138_1 hZ, zr138_2 hZ, zr138_3 hZ, zr138_4 hZ, zr138_8 hZ, zr138_9 hZ, zr138_10 hZ, zr138_12 hZ, zr138_24 hZ, zr138_25 hZ, zr138_26 hZ, zr148_0 hZ, zr148_1 hZ, zr148_2 hZ, zr148_3 hZ, zr148_4 hZ, zr148_5 hZ, zr148_6 hZ, zr148_7 hZ, zr148_8 hZ, zk138 hZ1, zk139 hZ1, zk140 hZ1, zk141 hZ1, zk142 hZ1, zk143 hZ1, zk144 hZ1, zk145 hZ1, zk146 hZ1, zk147 hZ1, zk148 hZ1, zk149 hZ1, zk150 hZ1, zk151 hZ1, zl139 hZ1, zl140 hZ1, zl141 hZ1, zl142 hZ1, zl143 hZ1, zl144 hZ1, zl145 hZ1, zl146 hZ1, zl147 hZ1, zl148 hZ1, zl149 hZ1, zl150 hZ1, zl151 hZ1, zr138_0 hZ1, zr138_1 hZ1, zr138_2 hZ1, zr138_3 hZ1, zr138_4 hZ1, zr138_8 hZ1, zr138_9 hZ1, zr138_10 hZ1, zr138_12 hZ1, zr138_24 hZ1, zr138_25 hZ1, zr138_26 hZ1, zr148_0 hZ1, zr148_1 hZ1, zr148_2 hZ1, zr148_3 hZ1, zr148_4 hZ1, zr148_5 hZ1, zr148_6 hZ1, zr148_7 hZ1, zr148_8 hZ1, h21, z_ck1, f1]
  · rw [if_neg c]
    obtain ⟨S1, a1, a2⟩ := zq_ck0 H (c := 3) (by omega) (by omega)
    have hZ1 := a2.Z
    have i21 := a2.2.2.2.1
    have H2 := a2.put21 (op + 1)
    have hZ2 := H2.Z
    obtain ⟨S', f1, f2⟩ := zq_adv H2 (fun q => absurd q (p_fail_0 (by omega)))
    refine ⟨S', ?_, f2⟩
    simp (disch := omega) only [fX11_enter, kX11_enter_15, kX11_enter_0, x_cs0, x_csi, x_csr, x_csn, x_csl, x_ret_v, x_ret_t, x_ret_n, x_tl_s, x_tl_n, x_lk0, x_lk, x_rem0, x_rem_i, x_rem_r, x_rem_l, x_rem2_0, x_rem2_i, x_rem2_r, x_rem2_l, x_pick0, x_pick_c, x_st1, x_st2, x_live, x_i, x_l, x_a, x_ild, x_lld, x_rld, x_ist, x_lst, x_rst, x_inc, x_ii, x_ll, x_li, x_cmp, x_ui, x_il, x_lti, x_idiv, x_irem, x_dup_i, x_dup_r, x_pop_i, x_pop_r, x_dupx_ir, x_dup2_ir, x_ifeq, x_iceq, x_iflt, x_iclt, x_ifge, x_icge, x_ifgt, x_icgt, x_ifle, x_icle, x_ifne, x_icne, x_ifnull_r, x_ifnull_n, x_ifnonnull_r, x_ifnonnull_n, x_sw, x_vret, x_iret, x_lret, x_zret, x_zret0, x_zret1, x_rf_s, x_rf_n, x_geti, x_getr, x_puti, x_putz, x_putr, x_ial, x_ias, x_lal, x_las, x_aal, x_aas, x_aast, x_alen, x_new, x_newa, x_copy, x_min, x_abs, x_minl, x_oinit, x_throw, x_callS0, x_callS1, x_callS2, x_callS3, x_callS4, x_callV0, x_callV1, x_callV2, x_callV3, x_callV4, x_callV5, x_retI_v, x_callI0, x_callI1, x_callI2, x_retN_v, x_callSN1, x_callSN2, x_callT0, x_callT1, x_fn, x_sl0, x_sli, x_slr, x_sll, x_ar0, x_ari, x_arr, x_arl, ↓reduceIte, Nat.reduceAdd, Nat.reduceSub, Nat.reduceMul, Nat.reduceEqDiff, Nat.reduceLeDiff, Nat.reduceLT, if_true, if_false, Nat.le_refl, and_true, true_and, and_self, reduceCtorEq, or_false, false_or, or_true, true_or, Nat.zero_le, fa_lit, nI_add, w_mul, nI_ltI, nI_leI, nI_eq, nI_clamp, nI_toInt, if_pos, if_neg, w_div, w_rem2, zk138 hZ, zk139 hZ, zk140 hZ, zk141 hZ, zk142 hZ, zk143 hZ, zk144 hZ, zk145 hZ, zk146 hZ, zk147 hZ, zk148 hZ, zk149 hZ, zk150 hZ, zk151 hZ, zl139 hZ, zl140 hZ, zl141 hZ, zl142 hZ, zl143 hZ, zl144 hZ, zl145 hZ, zl146 hZ, zl147 hZ, zl148 hZ, zl149 hZ, zl150 hZ, zl151 hZ, zr138_0 hZ, zr138_1 hZ, zr138_2 hZ, zr138_3 hZ, zr138_4 hZ, zr138_8 hZ, zr138_9 hZ, zr138_10 hZ, zr138_12 hZ, zr138_24 hZ, zr138_25 hZ, zr138_26 hZ, zr148_0 hZ, zr148_1 hZ, zr148_2 hZ, zr148_3 hZ, zr148_4 hZ, zr148_5 hZ, zr148_6 hZ, zr148_7 hZ, zr148_8 hZ, zk138 hZ1, zk139 hZ1, zk140 hZ1, zk141 hZ1, zk142 hZ1, zk143 hZ1, zk144 hZ1, zk145 hZ1, zk146 hZ1, zk147 hZ1, zk148 hZ1, zk149 hZ1, zk150 hZ1, zk151 hZ1, zl139 hZ1, zl140 hZ1, zl141 hZ1, zl142 hZ1, zl143 hZ1, zl144 hZ1, zl145 hZ1, zl146 hZ1, zl147 hZ1, zl148 hZ1, zl149 hZ1, zl150 hZ1, zl151 hZ1, zr138_0 hZ1, zr138_1 hZ1, zr138_2 hZ1, zr138_3 hZ1, zr138_4 hZ1, zr138_8 hZ1, zr138_9 hZ1, zr138_10 hZ1, zr138_12 hZ1, zr138_24 hZ1, zr138_25 hZ1, zr138_26 hZ1, zr148_0 hZ1, zr148_1 hZ1, zr148_2 hZ1, zr148_3 hZ1, zr148_4 hZ1, zr148_5 hZ1, zr148_6 hZ1, zr148_7 hZ1, zr148_8 hZ1, zk138 hZ2, zk139 hZ2, zk140 hZ2, zk141 hZ2, zk142 hZ2, zk143 hZ2, zk144 hZ2, zk145 hZ2, zk146 hZ2, zk147 hZ2, zk148 hZ2, zk149 hZ2, zk150 hZ2, zk151 hZ2, zl139 hZ2, zl140 hZ2, zl141 hZ2, zl142 hZ2, zl143 hZ2, zl144 hZ2, zl145 hZ2, zl146 hZ2, zl147 hZ2, zl148 hZ2, zl149 hZ2, zl150 hZ2, zl151 hZ2, zr138_0 hZ2, zr138_1 hZ2, zr138_2 hZ2, zr138_3 hZ2, zr138_4 hZ2, zr138_8 hZ2, zr138_9 hZ2, zr138_10 hZ2, zr138_12 hZ2, zr138_24 hZ2, zr138_25 hZ2, zr138_26 hZ2, zr148_0 hZ2, zr148_1 hZ2, zr148_2 hZ2, zr148_3 hZ2, zr148_4 hZ2, zr148_5 hZ2, zr148_6 hZ2, zr148_7 hZ2, zr148_8 hZ2, h21, i21, a1, f1]
end L57
