/-! THE START: the law at its entry; the law's run -/
section L80
variable {S S' T V Z : am_S} {a b c i j l n L : Nat} {x : Int32} {sc : Nat → Int32}
theorem w_un_le : w_un S ≤ 144 := by
  have h : fb_sm (fun t => if am_r S 130 t = none then 1 else 0) 144 ≤ 144 * 1 := fb_sm_bound (fun k _ => by
    show (if am_r S 130 k = none then 1 else 0) ≤ 1
    split <;> omega)
  unfold w_un
  omega
theorem q_start0 (hB : w_B0 T) (hZ : w_Z T) (hn : am_n T = 152) (h139 : ∀ j, j < 3934 → am_i T 139 j = p_R0 j) (h138 : ∀ i, am_i T 138 i = if i = 20 then -nI 1 else 0) : w_law T := by
  obtain ⟨hC, ⟨a1, a2, a3⟩, ⟨b1, b2, b3, b4⟩, c1, c2, c3, c4, c5, c6⟩ := hB
  have z0 : (0 : Int32) = nI 0 := rfl
  have hV : p_V p_R0 := p_V.head (i := 3) (j := 3) (fun j a b c _ => p_R0_0 a b c) rfl rfl rfl (by omega) (by omega)
  have e2 : s_n (p_R0 2) = 0 := by rw [p_R0_0 (by omega) (by omega) (by omega), w_snI (by omega)]
  have hW0 : s_W p_R0 := hV.W ⟨fun j _ => rfl, fun u hu => by omega⟩
  have he : s_eq p_R0 (am_i T 139) := fun j hj => h139 j hj
  have hW : s_W (am_i T 139) := hW0.eq he
  have hR : w_R T 101 (am_i T 139) := w_R.eq (R := p_R0) a2 hW0 he
  have Si : ∀ i b, w_Si T i = some b → (i = 0 ∧ b = 101) ∨ (i = 1 ∧ b = 113) := fun i b hi => by
    unfold w_Si at hi
    by_cases g0 : i = 0
    · rw [if_pos g0] at hi
      cases hi
      exact Or.inl ⟨g0, rfl⟩
    · rw [if_neg g0] at hi
      by_cases g1 : i = 1
      · rw [if_pos g1] at hi
        cases hi
        exact Or.inr ⟨g1, rfl⟩
      · rw [if_neg g1] at hi
        by_cases g2 : i = 2
        · rw [if_pos g2, b1] at hi
          cases hi
        · rw [if_neg g2, b3] at hi
          split at hi <;> cases hi
  have hT : w_T T (am_i T 139) := ⟨fun t D _ hD => absurd ((b4 t).symm.trans hD) (fun q => by cases q), fun t t' D _ _ hD _ => absurd ((b4 t).symm.trans hD) (fun q => by cases q)⟩
  have htr : w_tr T 126 (am_i T 139) := fun u t hu _ => by
    rw [h139 2 (by omega)] at hu
    omega
  refine ⟨⟨⟨hC, by omega, fun i b hi => ?_, fun i j b h1 h2 => ?_, fun t ht => ?_⟩, ⟨hR, hW, hT, htr⟩, ⟨0, 0, ⟨?_, ?_, ?_, by omega, by omega⟩, fun k hk => by omega, fun k hk => by omega⟩, Or.inl ⟨?_, ?_⟩, ⟨0, by omega, ?_, ?_, fun i hi => by omega⟩, ⟨⟨0, by omega, ?_, ?_, fun i hi => by omega⟩, ?_⟩⟩, hZ⟩
  · rcases Si i b hi with ⟨rfl, rfl⟩ | ⟨rfl, rfl⟩
    · exact ⟨a1, by omega, Or.inl (by omega)⟩
    · exact ⟨a3, by omega, Or.inl (by omega)⟩
  · rcases Si i b h1 with ⟨rfl, rfl⟩ | ⟨rfl, rfl⟩
    · rcases Si j _ h2 with ⟨rfl, q⟩ | ⟨rfl, q⟩
      · rfl
      · omega
    · rcases Si j _ h2 with ⟨rfl, q⟩ | ⟨rfl, q⟩
      · omega
      · rfl
  · rw [b2] at ht
    cases ht
  · rw [h138, if_neg (by omega)]
    rfl
  · rw [c6]
    rfl
  · rw [c5]
    rfl
  · rw [h138, if_neg (by omega)]
    rfl
  · rw [c1]
    rfl
  · rw [h138, if_neg (by omega)]
    rfl
  · rw [c2]
    rfl
  · rw [h138, if_neg (by omega)]
    rfl
  · rw [c3]
    rfl
  · rw [c4, h138, if_pos rfl]
theorem q_start : ∃ T, kL_law_0 w_N L sc [(0, .ref 70)] [] w_S0 = am_loop (bL_law_23 w_N L sc) w_N (q_LV (6 * 0)) [] T ∧ w_law T ∧ am_n T = 152 ∧ am_z T ≤ 70000 := by
  have n0 : am_n w_S0 = 100 := rfl
  have z0 : am_z w_S0 = 0 := rfl
  obtain ⟨V, v1, v2, v3, v4, v5⟩ := y_board n0
  obtain ⟨Z, w1, w2, w3, w4, w5, w6, w7⟩ := z_model v4
  have F : w_F (fun _ => False) Z (am_new Z 21 1 1) := w_F.new
  have nT : am_n (am_new Z 21 1 1) = 152 := by rw [x_n_N, w6]
  refine ⟨am_new Z 21 1 1, ?_, q_start0 ((v2.old (by omega) w5).old (by omega) F) (w2 _ (F.mono (fun _ q => q.elim)) (by rw [x_k_N, w6, if_pos rfl]) (by rw [x_l_N, w6, if_pos rfl])) nT (fun j hj => by rw [F.i (by omega) (fun q => q)]; exact w3 j hj) (fun i => by rw [F.i (by omega) (fun q => q)]; exact w4 i), nT, by rw [x_z_N]; omega⟩
  have nf10 : am_nf 10 = 17 := rfl
  have nf11 : am_nf 11 = 28 := rfl
  have g1 : ∀ K : am_K, (c_live [0] <| c_new 10 <| c_dup <| c_callI 0 (fX10_init w_N) <| c_rst 1 <| K) [(0, .ref 70)] [] w_S0 = K [(1, .ref 100), (0, .ref 70)] [] V := fun K => by
    simp (disch := omega) only [x_cs0, x_csi, x_csr, x_csn, x_csl, x_ret_v, x_ret_t, x_ret_n, x_tl_s, x_tl_n, x_lk0, x_lk, x_rem0, x_rem_i, x_rem_r, x_rem_l, x_rem2_0, x_rem2_i, x_rem2_r, x_rem2_l, x_pick0, x_pick_c, x_st1, x_st2, x_live, x_i, x_l, x_a, x_ild, x_lld, x_rld, x_ist, x_lst, x_rst, x_inc, x_ii, x_ll, x_li, x_cmp, x_ui, x_il, x_lti, x_idiv, x_irem, x_dup_i, x_dup_r, x_pop_i, x_pop_r, x_dupx_ir, x_dup2_ir, x_ifeq, x_iceq, x_iflt, x_iclt, x_ifge, x_icge, x_ifgt, x_icgt, x_ifle, x_icle, x_ifne, x_icne, x_ifnull_r, x_ifnull_n, x_ifnonnull_r, x_ifnonnull_n, x_sw, x_vret, x_iret, x_lret, x_zret, x_zret0, x_zret1, x_rf_s, x_rf_n, x_geti, x_getr, x_puti, x_putz, x_putr, x_ial, x_ias, x_lal, x_las, x_aal, x_aas, x_aast, x_alen, x_new, x_newa, x_copy, x_min, x_abs, x_minl, x_oinit, x_throw, x_callS0, x_callS1, x_callS2, x_callS3, x_callS4, x_callV0, x_callV1, x_callV2, x_callV3, x_callV4, x_callV5, x_retI_v, x_callI0, x_callI1, x_callI2, x_retN_v, x_callSN1, x_callSN2, x_callT0, x_callT1, x_fn, x_sl0, x_sli, x_slr, x_sll, x_ar0, x_ari, x_arr, x_arl, ↓reduceIte, Nat.reduceAdd, Nat.reduceSub, Nat.reduceMul, Nat.reduceEqDiff, Nat.reduceLeDiff, Nat.reduceLT, if_true, if_false, Nat.le_refl, and_true, true_and, and_self, reduceCtorEq, or_false, false_or, or_true, true_or, Nat.zero_le, fa_lit, nI_add, w_mul, nI_ltI, nI_leI, nI_eq, nI_clamp, nI_toInt, if_pos, if_neg, w_div, w_rem2, n0, nf10, v1]
  have g2 : ∀ K : am_K, (c_new 11 <| c_dup <| c_callI 0 (fX11_init w_N) <| c_rst 2 <| K) [(1, .ref 100), (0, .ref 70)] [] V = K [(2, .ref 138), (1, .ref 100), (0, .ref 70)] [] Z := fun K => by
    simp (disch := omega) only [x_cs0, x_csi, x_csr, x_csn, x_csl, x_ret_v, x_ret_t, x_ret_n, x_tl_s, x_tl_n, x_lk0, x_lk, x_rem0, x_rem_i, x_rem_r, x_rem_l, x_rem2_0, x_rem2_i, x_rem2_r, x_rem2_l, x_pick0, x_pick_c, x_st1, x_st2, x_live, x_i, x_l, x_a, x_ild, x_lld, x_rld, x_ist, x_lst, x_rst, x_inc, x_ii, x_ll, x_li, x_cmp, x_ui, x_il, x_lti, x_idiv, x_irem, x_dup_i, x_dup_r, x_pop_i, x_pop_r, x_dupx_ir, x_dup2_ir, x_ifeq, x_iceq, x_iflt, x_iclt, x_ifge, x_icge, x_ifgt, x_icgt, x_ifle, x_icle, x_ifne, x_icne, x_ifnull_r, x_ifnull_n, x_ifnonnull_r, x_ifnonnull_n, x_sw, x_vret, x_iret, x_lret, x_zret, x_zret0, x_zret1, x_rf_s, x_rf_n, x_geti, x_getr, x_puti, x_putz, x_putr, x_ial, x_ias, x_lal, x_las, x_aal, x_aas, x_aast, x_alen, x_new, x_newa, x_copy, x_min, x_abs, x_minl, x_oinit, x_throw, x_callS0, x_callS1, x_callS2, x_callS3, x_callS4, x_callV0, x_callV1, x_callV2, x_callV3, x_callV4, x_callV5, x_retI_v, x_callI0, x_callI1, x_callI2, x_retN_v, x_callSN1, x_callSN2, x_callT0, x_callT1, x_fn, x_sl0, x_sli, x_slr, x_sll, x_ar0, x_ari, x_arr, x_arl, ↓reduceIte, Nat.reduceAdd, Nat.reduceSub, Nat.reduceMul, Nat.reduceEqDiff, Nat.reduceLeDiff, Nat.reduceLT, if_true, if_false, Nat.le_refl, and_true, true_and, and_self, reduceCtorEq, or_false, false_or, or_true, true_or, Nat.zero_le, fa_lit, nI_add, w_mul, nI_ltI, nI_leI, nI_eq, nI_clamp, nI_toInt, if_pos, if_neg, w_div, w_rem2, v4, nf11, w1]
  have g3 : ∀ K : am_K, (c_i (1) <| c_newa 21 <| c_rst 3 <| c_i (0) <| c_ist 4 <| c_live [0, 1, 2, 3, 4] <| K) [(2, .ref 138), (1, .ref 100), (0, .ref 70)] [] Z = K (q_LV (6 * 0)) [] (am_new Z 21 1 1) := fun K => by
    unfold q_LV
    simp (disch := omega) only [x_cs0, x_csi, x_csr, x_csn, x_csl, x_ret_v, x_ret_t, x_ret_n, x_tl_s, x_tl_n, x_lk0, x_lk, x_rem0, x_rem_i, x_rem_r, x_rem_l, x_rem2_0, x_rem2_i, x_rem2_r, x_rem2_l, x_pick0, x_pick_c, x_st1, x_st2, x_live, x_i, x_l, x_a, x_ild, x_lld, x_rld, x_ist, x_lst, x_rst, x_inc, x_ii, x_ll, x_li, x_cmp, x_ui, x_il, x_lti, x_idiv, x_irem, x_dup_i, x_dup_r, x_pop_i, x_pop_r, x_dupx_ir, x_dup2_ir, x_ifeq, x_iceq, x_iflt, x_iclt, x_ifge, x_icge, x_ifgt, x_icgt, x_ifle, x_icle, x_ifne, x_icne, x_ifnull_r, x_ifnull_n, x_ifnonnull_r, x_ifnonnull_n, x_sw, x_vret, x_iret, x_lret, x_zret, x_zret0, x_zret1, x_rf_s, x_rf_n, x_geti, x_getr, x_puti, x_putz, x_putr, x_ial, x_ias, x_lal, x_las, x_aal, x_aas, x_aast, x_alen, x_new, x_newa, x_copy, x_min, x_abs, x_minl, x_oinit, x_throw, x_callS0, x_callS1, x_callS2, x_callS3, x_callS4, x_callV0, x_callV1, x_callV2, x_callV3, x_callV4, x_callV5, x_retI_v, x_callI0, x_callI1, x_callI2, x_retN_v, x_callSN1, x_callSN2, x_callT0, x_callT1, x_fn, x_sl0, x_sli, x_slr, x_sll, x_ar0, x_ari, x_arr, x_arl, ↓reduceIte, Nat.reduceAdd, Nat.reduceSub, Nat.reduceMul, Nat.reduceEqDiff, Nat.reduceLeDiff, Nat.reduceLT, if_true, if_false, Nat.le_refl, and_true, true_and, and_self, reduceCtorEq, or_false, false_or, or_true, true_or, Nat.zero_le, fa_lit, nI_add, w_mul, nI_ltI, nI_leI, nI_eq, nI_clamp, nI_toInt, if_pos, if_neg, w_div, w_rem2, w6]
  exact (g1 _).trans ((g2 _).trans (g3 _))
theorem q_finale (hL : L ≤ 3072) : ∃ fin : am_O × am_S, kL_law_0 w_N L sc [(0, .ref 70)] [] w_S0 = some fin ∧ fin.1 = .inl (some (.int 1)) ∧ am_n fin.2 - am_n w_S0 ≤ 601024 ∧ am_z fin.2 - am_z w_S0 ≤ 7293034 := by
  obtain ⟨T, t1, t2, t3, t4⟩ := q_start (L := L) (sc := sc)
  obtain ⟨S', s1, s2, s3⟩ := q_loop (sc := sc) hL 512 0 T w_N (by omega) (by omega) (by decide) t2
  have u1 := w_un_le (S := T)
  have n0 : am_n w_S0 = 100 := rfl
  have z0 : am_z w_S0 = 0 := rfl
  exact ⟨(.inl (some (.int (nI 1))), S'), t1.trans s1, rfl, by show am_n S' - am_n w_S0 ≤ 601024; omega, by show am_z S' - am_z w_S0 ≤ 7293034; omega⟩
end L80
