/-! SNAPSHOTS SAVED -/
section S2
variable {S S' T : am_S} {a b c o p q i j k m n u t D z d c' o' : Nat} {P : Nat → Prop} {R Q : Nat → Int32} {M M' : Nat → Nat → Int32} {x y v : Int32}
/-- something new hangs on the board -/
theorem w_Ic.ext (h : w_Ic S M) (hF : w_F (fun b => b = 100) S S') (i100 : am_i S' 100 = am_i S 100) (r100 : ∀ j, j < 11 → am_r S' 100 j = am_r S 100 j) (hs' : w_sh S') (h11 : ∀ b, am_r S 100 11 = some b → am_r S' 100 11 = some b) (h12 : ∀ b, am_r S 100 12 = some b → am_r S' 100 12 = some b) : w_Ic S' M := by
  obtain ⟨⟨hC, hn, hs⟩, ⟨n1, n2, n3, n4⟩, ⟨c, o, ⟨c1, c2, c3, c4, c5⟩, hk, hm⟩, hsn, ⟨n, b1, b2, b3, b4⟩, ⟨⟨l, l1, l2, l3, l4⟩, x2⟩⟩ := h
  have hn2 := hF.1
  have hi : ∀ b, b < 152 → am_i S' b = am_i S b := fun b hb => by
    by_cases e : b = 100
    · rw [e, i100]
    · exact hF.i (by omega) e
  have hr : ∀ b, b < 152 → b ≠ 100 → am_r S' b = am_r S b := fun b hb e => hF.r (by omega) e
  have tr : ∀ p Q, p < am_n S → p ≠ 100 → w_tr S p Q → w_tr S' p Q := fun p Q hp he hQ u t hu ht => by
    rw [hF.i hp he]
    exact hQ u t hu ht
  refine ⟨⟨hC.fr (fun b hb => ⟨hF.k (by omega), hF.l (by omega)⟩) (fun b j hb h1 h2 h3 h4 h5 => ?_), by omega, hs'⟩, ⟨hF.Rw n1 (by omega) (fun q h1 h2 => by omega), n2, n3.fr hn hF (hr 130 (by omega) (by omega)) (fun q hq hq2 => ?_), tr 126 _ (by omega) (by omega) n4⟩, ⟨c, o, ⟨c1, by rw [hi 127 (by omega)]; exact c2, by rw [hi 127 (by omega)]; exact c3, c4, c5⟩, fun k hkc => ?_, hm⟩, ?_, ⟨n, b1, b2, by rw [hi 100 (by omega)]; exact b3, fun i hin => by rw [hi 133 (by omega)]; exact b4 i hin⟩, ⟨⟨l, l1, l2, by rw [hi 100 (by omega)]; exact l3, fun i hin => by rw [hi 137 (by omega)]; exact l4 i hin⟩, by rw [hi 100 (by omega)]; exact x2⟩⟩
  · by_cases e : b = 100
    · subst e
      exact r100 j (by omega)
    · rw [hr b (by omega) e]
  · obtain ⟨t, D, ht, hD, e⟩ := hq
    have := (n3.1 t D ht hD).1.1
    omega
  · obtain ⟨b, g1, g2, g3, g4, g5, g6⟩ := hk k hkc
    have hk10 : (o + k) % 10 < 10 := Nat.mod_lt _ (by omega)
    have hb := hs.1 (3 + (o + k) % 10) b (by rw [w_sh.ring hk10]; exact g1)
    exact ⟨b, by rw [hr 128 (by omega) (by omega)]; exact g1, hF.Rw g2 hb.2.1 (fun q h1 h2 => by rcases hb.2.2 with w | w <;> omega), g3, tr 126 _ (by omega) (by omega) g4, g5, g6⟩
  · rcases hsn with q | ⟨q, b, t, g1, g2, g3, g4, g5⟩
    · exact Or.inl ⟨q.1, by rw [hi 100 (by omega)]; exact q.2⟩
    · have hb := hs.1 2 b g1
      have ht := hs.2.2 t g2
      exact Or.inr ⟨⟨q.1, by rw [hi 100 (by omega)]; exact q.2⟩, b, t, h11 b g1, h12 t g2, hF.Rw g3 hb.2.1 (fun q h1 h2 => by rcases hb.2.2 with w | w <;> omega), g4, tr (t + 1) _ (by have := ht.2.2.2.2.2; omega) (by have := ht.2.2.2.2.1; omega) g5⟩
theorem y_save0 (h : w_Ic S M) : ∃ S' b, fX10_saveSnapshot w_N [.ref 100] S = kX10_saveSnapshot_18 w_N [(0, .ref 100)] [] S' ∧ w_Ic S' M ∧ am_r S' 100 11 = some b ∧ w_le 12 953 S S' ∧ w_kp S S' := by
  have hC := h.1.1
  have hn := h.1.2.1
  have sh := h.1.2.2
  cases e : am_r S 100 11 with
  | some b =>
    refine ⟨S, b, ?_, h, e, w_le.rf.mono (by omega) (by omega), w_kp.rf⟩
    simp (disch := omega) only [fX10_saveSnapshot, kX10_saveSnapshot_0, x_cs0, x_csi, x_csr, x_csn, x_csl, x_ret_v, x_ret_t, x_ret_n, x_tl_s, x_tl_n, x_lk0, x_lk, x_rem0, x_rem_i, x_rem_r, x_rem_l, x_rem2_0, x_rem2_i, x_rem2_r, x_rem2_l, x_pick0, x_pick_c, x_st1, x_st2, x_live, x_i, x_l, x_a, x_ild, x_lld, x_rld, x_ist, x_lst, x_rst, x_inc, x_ii, x_ll, x_li, x_cmp, x_ui, x_il, x_lti, x_idiv, x_irem, x_dup_i, x_dup_r, x_pop_i, x_pop_r, x_dupx_ir, x_dup2_ir, x_ifeq, x_iceq, x_iflt, x_iclt, x_ifge, x_icge, x_ifgt, x_icgt, x_ifle, x_icle, x_ifne, x_icne, x_ifnull_r, x_ifnull_n, x_ifnonnull_r, x_ifnonnull_n, x_sw, x_vret, x_iret, x_lret, x_zret, x_zret0, x_zret1, x_rf_s, x_rf_n, x_geti, x_getr, x_puti, x_putz, x_putr, x_ial, x_ias, x_lal, x_las, x_aal, x_aas, x_aast, x_alen, x_new, x_newa, x_copy, x_min, x_abs, x_minl, x_oinit, x_throw, x_callS0, x_callS1, x_callS2, x_callS3, x_callS4, x_callV0, x_callV1, x_callV2, x_callV3, x_callV4, x_callV5, x_retI_v, x_callI0, x_callI1, x_callI2, x_retN_v, x_callSN1, x_callSN2, x_callT0, x_callT1, x_fn, x_sl0, x_sli, x_slr, x_sll, x_ar0, x_ari, x_arr, x_arl, ↓reduceIte, Nat.reduceAdd, Nat.reduceSub, Nat.reduceMul, Nat.reduceEqDiff, Nat.reduceLeDiff, Nat.reduceLT, if_true, if_false, Nat.le_refl, and_true, true_and, and_self, reduceCtorEq, or_false, false_or, or_true, true_or, Nat.zero_le, fa_lit, nI_add, w_mul, nI_ltI, nI_leI, nI_eq, nI_clamp, nI_toInt, if_pos, if_neg, w_div, w_rem2, yk100 hC, yk125 hC, yk126 hC, yk127 hC, yk128 hC, yk129 hC, yk130 hC, yk131 hC, yk132 hC, yk133 hC, yk134 hC, yk135 hC, yk136 hC, yk137 hC, yl126 hC, yl128 hC, yl130 hC, yl131 hC, yl133 hC, yl137 hC, yr100_0 hC, yr100_1 hC, yr100_2 hC, yr100_3 hC, yr100_4 hC, yr100_5 hC, yr100_6 hC, yr100_7 hC, yr100_8 hC, yr100_9 hC, yr100_10 hC, yr125_0 hC, yr127_0 hC, yr129_0 hC, yr129_1 hC, yr129_2 hC, yr132_0 hC, yr134_0 hC, yr135_0 hC, yr135_1 hC, yr136_0 hC, yr136_1 hC, e, va_rf]
  | none =>
    obtain ⟨W, gi, wA, -, F1, n1, z1⟩ := y_newSit' (S := S)
    have hF : w_F (fun b => b = 100) S (am_putR W 100 11 (some (am_n S))) := (F1.mono (fun _ q => q.elim)).tr (w_F.putR (Or.inl rfl))
    have hn2 : am_n (am_putR W 100 11 (some (am_n S))) = am_n S + 12 := n1
    have kW : am_k W 100 = 10 := by rw [F1.k (by omega)]; exact yk100 hC
    have r100 : ∀ j, am_r (am_putR W 100 11 (some (am_n S))) 100 j = if j = 11 then some (am_n S) else am_r S 100 j := fun j => by rw [x_r_R, if_pos rfl, F1.r (by omega) (fun q => q)]
    have r128 : am_r (am_putR W 100 11 (some (am_n S))) 128 = am_r S 128 := hF.r (by omega) (by omega)
    have eS : ∀ i, i ≠ 2 → w_Si (am_putR W 100 11 (some (am_n S))) i = w_Si S i := fun i hi => by
      unfold w_Si
      rw [r128, if_neg hi, if_neg hi]
    have e2 : w_Si (am_putR W 100 11 (some (am_n S))) 2 = some (am_n S) := by
      unfold w_Si
      rw [if_neg (by omega), if_neg (by omega), if_pos rfl, r100, if_pos rfl]
    have wA2 : w_A (am_putR W 100 11 (some (am_n S))) (am_n S) := (w_F.putR (P := fun b => b = 100) (Or.inl rfl)).A wA (by omega) (fun q h1 h2 => by omega)
    have nf6 : am_nf 6 = 13 := rfl
    refine ⟨_, am_n S, ?_, h.ext hF ?_ (fun j hj => by rw [r100, if_neg (by omega)]) ⟨fun i b hib => ?_, fun i j b h1 h2 => ?_, fun t ht => ?_⟩ (fun b hb => by rw [e] at hb; cases hb) (fun b hb => by rw [r100, if_neg (by omega)]; exact hb), by rw [r100, if_pos rfl], w_le.of (hF.r (by omega) (by omega)) (by omega) (by rw [x_z_R]; omega), w_kp.of hF hn (fun b h1 h2 => by omega)⟩
    · simp (disch := omega) only [fX10_saveSnapshot, kX10_saveSnapshot_0, x_cs0, x_csi, x_csr, x_csn, x_csl, x_ret_v, x_ret_t, x_ret_n, x_tl_s, x_tl_n, x_lk0, x_lk, x_rem0, x_rem_i, x_rem_r, x_rem_l, x_rem2_0, x_rem2_i, x_rem2_r, x_rem2_l, x_pick0, x_pick_c, x_st1, x_st2, x_live, x_i, x_l, x_a, x_ild, x_lld, x_rld, x_ist, x_lst, x_rst, x_inc, x_ii, x_ll, x_li, x_cmp, x_ui, x_il, x_lti, x_idiv, x_irem, x_dup_i, x_dup_r, x_pop_i, x_pop_r, x_dupx_ir, x_dup2_ir, x_ifeq, x_iceq, x_iflt, x_iclt, x_ifge, x_icge, x_ifgt, x_icgt, x_ifle, x_icle, x_ifne, x_icne, x_ifnull_r, x_ifnull_n, x_ifnonnull_r, x_ifnonnull_n, x_sw, x_vret, x_iret, x_lret, x_zret, x_zret0, x_zret1, x_rf_s, x_rf_n, x_geti, x_getr, x_puti, x_putz, x_putr, x_ial, x_ias, x_lal, x_las, x_aal, x_aas, x_aast, x_alen, x_new, x_newa, x_copy, x_min, x_abs, x_minl, x_oinit, x_throw, x_callS0, x_callS1, x_callS2, x_callS3, x_callS4, x_callV0, x_callV1, x_callV2, x_callV3, x_callV4, x_callV5, x_retI_v, x_callI0, x_callI1, x_callI2, x_retN_v, x_callSN1, x_callSN2, x_callT0, x_callT1, x_fn, x_sl0, x_sli, x_slr, x_sll, x_ar0, x_ari, x_arr, x_arl, ↓reduceIte, Nat.reduceAdd, Nat.reduceSub, Nat.reduceMul, Nat.reduceEqDiff, Nat.reduceLeDiff, Nat.reduceLT, if_true, if_false, Nat.le_refl, and_true, true_and, and_self, reduceCtorEq, or_false, false_or, or_true, true_or, Nat.zero_le, fa_lit, nI_add, w_mul, nI_ltI, nI_leI, nI_eq, nI_clamp, nI_toInt, if_pos, if_neg, w_div, w_rem2, yk100 hC, yk125 hC, yk126 hC, yk127 hC, yk128 hC, yk129 hC, yk130 hC, yk131 hC, yk132 hC, yk133 hC, yk134 hC, yk135 hC, yk136 hC, yk137 hC, yl126 hC, yl128 hC, yl130 hC, yl131 hC, yl133 hC, yl137 hC, yr100_0 hC, yr100_1 hC, yr100_2 hC, yr100_3 hC, yr100_4 hC, yr100_5 hC, yr100_6 hC, yr100_7 hC, yr100_8 hC, yr100_9 hC, yr100_10 hC, yr125_0 hC, yr127_0 hC, yr129_0 hC, yr129_1 hC, yr129_2 hC, yr132_0 hC, yr134_0 hC, yr135_0 hC, yr135_1 hC, yr136_0 hC, yr136_1 hC, e, va_rf, nf6, gi, kW]
    · rw [x_i_R, F1.i (by omega) (fun q => q)]
    · by_cases g : i = 2
      · rw [g, e2] at hib
        cases hib
        exact ⟨wA2, by omega, Or.inr hn⟩
      · rw [eS i g] at hib
        obtain ⟨g1, g2, g3⟩ := sh.1 i b hib
        exact ⟨hF.A g1 g2 (fun q h1 h2 => by have := sh.sit hib; omega), by omega, g3⟩
    · by_cases g : i = 2
      · by_cases g2 : j = 2
        · omega
        · rw [g, e2] at h1
          rw [eS j g2] at h2
          cases h1
          have := (sh.1 j _ h2).2.1
          omega
      · by_cases g2 : j = 2
        · rw [g2, e2] at h2
          rw [eS i g] at h1
          cases h2
          have := (sh.1 i _ h1).2.1
          omega
        · rw [eS i g] at h1
          rw [eS j g2] at h2
          exact sh.2.1 i j b h1 h2
    · rw [r100, if_neg (by omega)] at ht
      obtain ⟨g1, g2, g3, g4, g5, g6⟩ := sh.2.2 t ht
      exact ⟨by rw [hF.k (by omega)]; exact g1, by rw [hF.k (by omega)]; exact g2, by rw [hF.l (by omega)]; exact g3, by rw [hF.r (by omega) (by omega)]; exact g4, g5, by omega⟩
theorem w_F.trN {U : am_S} {P2 : Nat → Prop} (h : w_F P S T) (k : w_F P2 T U) (hQ : ∀ b, b < am_n S → P2 b → P b) : w_F P S U := by
  obtain ⟨a1, a2, a3, a4⟩ := h
  obtain ⟨b1, b2, b3, b4⟩ := k
  refine ⟨by omega, by omega, fun b hb => ?_, fun b hb hP => ?_⟩
  · obtain ⟨c1, c2⟩ := a3 b hb
    obtain ⟨d1, d2⟩ := b3 b (by omega)
    exact ⟨d1.trans c1, d2.trans c2⟩
  · obtain ⟨c1, c2, c3⟩ := a4 b hb hP
    obtain ⟨d1, d2, d3⟩ := b4 b (by omega) (fun q => hP (hQ b hb q))
    exact ⟨d1.trans c1, d2.trans c2, d3.trans c3⟩
theorem y_newTr : ∃ W, fX9_init w_N [.ref (am_n S)] (am_new S 9 0 1) = some (.inl none, W) ∧ (am_k W (am_n S) = 9 ∧ am_k W (am_n S + 1) = 20 ∧ am_l W (am_n S + 1) = 3000 ∧ am_r W (am_n S) 0 = some (am_n S + 1)) ∧ w_F (fun _ => False) S W ∧ am_n W = am_n S + 2 ∧ am_z W = am_z S + 3001 := by
  have e : am_n (am_new S 9 0 1) = am_n S + 1 := rfl
  refine ⟨am_putR (am_new (am_new S 9 0 1) 20 3000 3000) (am_n S) 0 (some (am_n S + 1)), ?_, ⟨?_, ?_, ?_, ?_⟩, w_F.trN ((w_F.new).tr w_F.new) (w_F.putR (P := fun b => b = am_n S) (Or.inl rfl)) (fun b hb e => by omega), rfl, rfl⟩
  · simp (disch := omega) only [fX9_init, kX9_init_0, x_cs0, x_csi, x_csr, x_csn, x_csl, x_ret_v, x_ret_t, x_ret_n, x_tl_s, x_tl_n, x_lk0, x_lk, x_rem0, x_rem_i, x_rem_r, x_rem_l, x_rem2_0, x_rem2_i, x_rem2_r, x_rem2_l, x_pick0, x_pick_c, x_st1, x_st2, x_live, x_i, x_l, x_a, x_ild, x_lld, x_rld, x_ist, x_lst, x_rst, x_inc, x_ii, x_ll, x_li, x_cmp, x_ui, x_il, x_lti, x_idiv, x_irem, x_dup_i, x_dup_r, x_pop_i, x_pop_r, x_dupx_ir, x_dup2_ir, x_ifeq, x_iceq, x_iflt, x_iclt, x_ifge, x_icge, x_ifgt, x_icgt, x_ifle, x_icle, x_ifne, x_icne, x_ifnull_r, x_ifnull_n, x_ifnonnull_r, x_ifnonnull_n, x_sw, x_vret, x_iret, x_lret, x_zret, x_zret0, x_zret1, x_rf_s, x_rf_n, x_geti, x_getr, x_puti, x_putz, x_putr, x_ial, x_ias, x_lal, x_las, x_aal, x_aas, x_aast, x_alen, x_new, x_newa, x_copy, x_min, x_abs, x_minl, x_oinit, x_throw, x_callS0, x_callS1, x_callS2, x_callS3, x_callS4, x_callV0, x_callV1, x_callV2, x_callV3, x_callV4, x_callV5, x_retI_v, x_callI0, x_callI1, x_callI2, x_retN_v, x_callSN1, x_callSN2, x_callT0, x_callT1, x_fn, x_sl0, x_sli, x_slr, x_sll, x_ar0, x_ari, x_arr, x_arl, ↓reduceIte, Nat.reduceAdd, Nat.reduceSub, Nat.reduceMul, Nat.reduceEqDiff, Nat.reduceLeDiff, Nat.reduceLT, if_true, if_false, Nat.le_refl, and_true, true_and, and_self, reduceCtorEq, or_false, false_or, or_true, true_or, Nat.zero_le, fa_lit, nI_add, w_mul, nI_ltI, nI_leI, nI_eq, nI_clamp, nI_toInt, if_pos, if_neg, w_div, w_rem2, x_k_I, x_l_I, x_r_I, x_j_I, x_n_I, x_z_I, x_i_Is, x_k_W, x_l_W, x_r_W, x_j_W, x_n_W, x_z_W, x_k_J, x_l_J, x_r_J, x_i_J, x_n_J, x_z_J, x_k_R, x_l_R, x_j_R, x_i_R, x_n_R, x_z_R, x_n_N, x_z_N, x_k_N, x_l_N, x_i_N, x_j_N, x_r_N, e]
  · rw [x_k_R, x_k_N, e, if_neg (by omega), x_k_N, if_pos rfl]
  · rw [x_k_R, x_k_N, e, if_pos rfl]
  · rw [x_l_R, x_l_N, e, if_pos rfl]
  · rw [x_r_R, if_pos rfl, if_pos rfl]
theorem y_save1 (h : w_Ic S M) (hb : am_r S 100 11 = some b) : ∃ S' t, kX10_saveSnapshot_18 w_N [(0, .ref 100)] [] S = kX10_saveSnapshot_36 w_N [(0, .ref 100)] [] S' ∧ w_Ic S' M ∧ am_r S' 100 11 = some b ∧ am_r S' 100 12 = some t ∧ w_le 2 3001 S S' ∧ w_kp S S' := by
  have hC := h.1.1
  have hn := h.1.2.1
  have sh := h.1.2.2
  cases e : am_r S 100 12 with
  | some t =>
    refine ⟨S, t, ?_, h, hb, e, w_le.rf.mono (by omega) (by omega), w_kp.rf⟩
    simp (disch := omega) only [kX10_saveSnapshot_18, x_cs0, x_csi, x_csr, x_csn, x_csl, x_ret_v, x_ret_t, x_ret_n, x_tl_s, x_tl_n, x_lk0, x_lk, x_rem0, x_rem_i, x_rem_r, x_rem_l, x_rem2_0, x_rem2_i, x_rem2_r, x_rem2_l, x_pick0, x_pick_c, x_st1, x_st2, x_live, x_i, x_l, x_a, x_ild, x_lld, x_rld, x_ist, x_lst, x_rst, x_inc, x_ii, x_ll, x_li, x_cmp, x_ui, x_il, x_lti, x_idiv, x_irem, x_dup_i, x_dup_r, x_pop_i, x_pop_r, x_dupx_ir, x_dup2_ir, x_ifeq, x_iceq, x_iflt, x_iclt, x_ifge, x_icge, x_ifgt, x_icgt, x_ifle, x_icle, x_ifne, x_icne, x_ifnull_r, x_ifnull_n, x_ifnonnull_r, x_ifnonnull_n, x_sw, x_vret, x_iret, x_lret, x_zret, x_zret0, x_zret1, x_rf_s, x_rf_n, x_geti, x_getr, x_puti, x_putz, x_putr, x_ial, x_ias, x_lal, x_las, x_aal, x_aas, x_aast, x_alen, x_new, x_newa, x_copy, x_min, x_abs, x_minl, x_oinit, x_throw, x_callS0, x_callS1, x_callS2, x_callS3, x_callS4, x_callV0, x_callV1, x_callV2, x_callV3, x_callV4, x_callV5, x_retI_v, x_callI0, x_callI1, x_callI2, x_retN_v, x_callSN1, x_callSN2, x_callT0, x_callT1, x_fn, x_sl0, x_sli, x_slr, x_sll, x_ar0, x_ari, x_arr, x_arl, ↓reduceIte, Nat.reduceAdd, Nat.reduceSub, Nat.reduceMul, Nat.reduceEqDiff, Nat.reduceLeDiff, Nat.reduceLT, if_true, if_false, Nat.le_refl, and_true, true_and, and_self, reduceCtorEq, or_false, false_or, or_true, true_or, Nat.zero_le, fa_lit, nI_add, w_mul, nI_ltI, nI_leI, nI_eq, nI_clamp, nI_toInt, if_pos, if_neg, w_div, w_rem2, yk100 hC, yk125 hC, yk126 hC, yk127 hC, yk128 hC, yk129 hC, yk130 hC, yk131 hC, yk132 hC, yk133 hC, yk134 hC, yk135 hC, yk136 hC, yk137 hC, yl126 hC, yl128 hC, yl130 hC, yl131 hC, yl133 hC, yl137 hC, yr100_0 hC, yr100_1 hC, yr100_2 hC, yr100_3 hC, yr100_4 hC, yr100_5 hC, yr100_6 hC, yr100_7 hC, yr100_8 hC, yr100_9 hC, yr100_10 hC, yr125_0 hC, yr127_0 hC, yr129_0 hC, yr129_1 hC, yr129_2 hC, yr132_0 hC, yr134_0 hC, yr135_0 hC, yr135_1 hC, yr136_0 hC, yr136_1 hC, e, va_rf]
  | none =>
    obtain ⟨W, gi, ⟨w1, w2, w3, w4⟩, F1, n1, z1⟩ := y_newTr (S := S)
    have hF : w_F (fun b => b = 100) S (am_putR W 100 12 (some (am_n S))) := (F1.mono (fun _ q => q.elim)).tr (w_F.putR (Or.inl rfl))
    have kW : am_k W 100 = 10 := by rw [F1.k (by omega)]; exact yk100 hC
    have r100 : ∀ j, am_r (am_putR W 100 12 (some (am_n S))) 100 j = if j = 12 then some (am_n S) else am_r S 100 j := fun j => by rw [x_r_R, if_pos rfl, F1.r (by omega) (fun q => q)]
    have r128 : am_r (am_putR W 100 12 (some (am_n S))) 128 = am_r S 128 := hF.r (by omega) (by omega)
    have eS : ∀ i, w_Si (am_putR W 100 12 (some (am_n S))) i = w_Si S i := fun i => by
      unfold w_Si
      rw [r128, r100, if_neg (show ¬ (11 : Nat) = 12 by omega)]
    have nf9 : am_nf 9 = 1 := rfl
    refine ⟨_, am_n S, ?_, h.ext hF ?_ (fun j hj => by rw [r100, if_neg (by omega)]) ⟨fun i b hib => ?_, fun i j b h1 h2 => ?_, fun t ht => ?_⟩ (fun b hb => by rw [r100, if_neg (by omega)]; exact hb) (fun b hb => by rw [e] at hb; cases hb), by rw [r100, if_neg (by omega)]; exact hb, by rw [r100, if_pos rfl], w_le.of (hF.r (by omega) (by omega)) (by rw [x_n_R]; omega) (by rw [x_z_R]; omega), w_kp.of hF hn (fun b h1 h2 => by omega)⟩
    · simp (disch := omega) only [kX10_saveSnapshot_18, x_cs0, x_csi, x_csr, x_csn, x_csl, x_ret_v, x_ret_t, x_ret_n, x_tl_s, x_tl_n, x_lk0, x_lk, x_rem0, x_rem_i, x_rem_r, x_rem_l, x_rem2_0, x_rem2_i, x_rem2_r, x_rem2_l, x_pick0, x_pick_c, x_st1, x_st2, x_live, x_i, x_l, x_a, x_ild, x_lld, x_rld, x_ist, x_lst, x_rst, x_inc, x_ii, x_ll, x_li, x_cmp, x_ui, x_il, x_lti, x_idiv, x_irem, x_dup_i, x_dup_r, x_pop_i, x_pop_r, x_dupx_ir, x_dup2_ir, x_ifeq, x_iceq, x_iflt, x_iclt, x_ifge, x_icge, x_ifgt, x_icgt, x_ifle, x_icle, x_ifne, x_icne, x_ifnull_r, x_ifnull_n, x_ifnonnull_r, x_ifnonnull_n, x_sw, x_vret, x_iret, x_lret, x_zret, x_zret0, x_zret1, x_rf_s, x_rf_n, x_geti, x_getr, x_puti, x_putz, x_putr, x_ial, x_ias, x_lal, x_las, x_aal, x_aas, x_aast, x_alen, x_new, x_newa, x_copy, x_min, x_abs, x_minl, x_oinit, x_throw, x_callS0, x_callS1, x_callS2, x_callS3, x_callS4, x_callV0, x_callV1, x_callV2, x_callV3, x_callV4, x_callV5, x_retI_v, x_callI0, x_callI1, x_callI2, x_retN_v, x_callSN1, x_callSN2, x_callT0, x_callT1, x_fn, x_sl0, x_sli, x_slr, x_sll, x_ar0, x_ari, x_arr, x_arl, ↓reduceIte, Nat.reduceAdd, Nat.reduceSub, Nat.reduceMul, Nat.reduceEqDiff, Nat.reduceLeDiff, Nat.reduceLT, if_true, if_false, Nat.le_refl, and_true, true_and, and_self, reduceCtorEq, or_false, false_or, or_true, true_or, Nat.zero_le, fa_lit, nI_add, w_mul, nI_ltI, nI_leI, nI_eq, nI_clamp, nI_toInt, if_pos, if_neg, w_div, w_rem2, yk100 hC, yk125 hC, yk126 hC, yk127 hC, yk128 hC, yk129 hC, yk130 hC, yk131 hC, yk132 hC, yk133 hC, yk134 hC, yk135 hC, yk136 hC, yk137 hC, yl126 hC, yl128 hC, yl130 hC, yl131 hC, yl133 hC, yl137 hC, yr100_0 hC, yr100_1 hC, yr100_2 hC, yr100_3 hC, yr100_4 hC, yr100_5 hC, yr100_6 hC, yr100_7 hC, yr100_8 hC, yr100_9 hC, yr100_10 hC, yr125_0 hC, yr127_0 hC, yr129_0 hC, yr129_1 hC, yr129_2 hC, yr132_0 hC, yr134_0 hC, yr135_0 hC, yr135_1 hC, yr136_0 hC, yr136_1 hC, e, va_rf, nf9, gi, kW]
    · rw [x_i_R, F1.i (by omega) (fun q => q)]
    · rw [eS i] at hib
      obtain ⟨g1, g2, g3⟩ := sh.1 i b hib
      exact ⟨hF.A g1 g2 (fun q h1 h2 => by have := sh.sit hib; omega), by rw [x_n_R]; omega, g3⟩
    · rw [eS] at h1 h2
      exact sh.2.1 i j b h1 h2
    · rw [r100, if_pos rfl] at ht
      cases ht
      refine ⟨by rw [x_k_R]; exact w1, by rw [x_k_R]; exact w2, by rw [x_l_R]; exact w3, ?_, hn, by rw [x_n_R]; omega⟩
      rw [x_r_R, if_neg (by omega)]
      exact w4
theorem y_save (h : w_Ic S M) : ∃ S', fX10_saveSnapshot w_N [.ref 100] S = some (.inl none, S') ∧ w_Ic S' (u_save M) ∧ w_le 14 3954 S S' ∧ w_kp S S' := by
  obtain ⟨S1, b, f1, h1, hb1, l1, k1⟩ := y_save0 h
  obtain ⟨S2, t, f2, h2, hb2, ht2, l2, k2⟩ := y_save1 h1 hb1
  have hC := h2.1.1
  have hn := h2.1.2.1
  have sh := h2.1.2.2
  have hA := (sh.1 0 101 rfl).1
  have hsb := sh.1 2 b hb2
  have hb151 : 151 < b := by
    rcases hsb.2.2 with w | w <;> omega
  obtain ⟨t1, t2, t3, t4, t5, t6⟩ := sh.2.2 t ht2
  have hT := h2.2.1.2.2.1
  have hW := h2.2.1.2.1
  obtain ⟨g1, g2, g3⟩ := y_copyS hA hsb.1 h2.2.1.1 hW.1.B (by omega)
  generalize w_cS7 S2 101 b (M 139) = S3 at *
  have I3 : w_I (fun q => b ≤ q ∧ q < b + 12) S2 S3 := g3.1
  have r3 : am_r S3 = am_r S2 := I3.2.2.2.2.2.1
  have kk3 : am_k S3 = am_k S2 := I3.2.2.1
  have ll3 : am_l S3 = am_l S2 := I3.2.2.2.1
  have hC3 := I3.C hC
  have gt := y_copyTr (S := S3) (a1 := t) (p1 := t + 1) (a2 := 125) (p2 := 126) (by rw [kk3]; exact t1) (by rw [r3]; exact t4) (by rw [kk3]; exact t2) (by rw [ll3]; exact t3) (yk125 hC3) (yr125_0 hC3) (yk126 hC3) (yl126 hC3)
  have I4 : w_I (fun q => q = t + 1) S3 (am_cpy S3 126 0 (t + 1) 0 3000) := w_I.row rfl
  have vt : ∀ j, j < 3000 → am_i (am_cpy S3 126 0 (t + 1) 0 3000) (t + 1) j = am_i S2 126 j := fun j hj => by
    rw [x_cpy_i, if_pos hj, I3.i (by omega)]
  generalize am_cpy S3 126 0 (t + 1) 0 3000 = S4 at *
  have hC4 := I4.C hC3
  have I5 : w_I (fun q => q = 100) S4 (am_putI S4 100 13 (nI 1)) := w_I.put rfl
  have sepT : ∀ i b', w_Si S2 i = some b' → ∀ q, b' ≤ q → q < b' + 12 → q ≠ t + 1 := fun i b' hi q q1 q2 q3 => w_sepK (sh.1 i b' hi).1 (by rw [t1]; omega) t2 (Or.inr q3) ⟨q1, q2⟩
  have sepB : ∀ i b', w_Si S2 i = some b' → i ≠ 2 → b' + 12 ≤ b ∨ b + 12 ≤ b' := fun i b' hi h2' => w_sep (sh.1 i b' hi).1 hsb.1 (fun e => h2' (sh.2.1 i 2 b' hi (by rw [e]; exact hb2)))
  have I : w_I (fun q => (b ≤ q ∧ q < b + 12) ∨ q = t + 1 ∨ q = 100) S2 (am_putI S4 100 13 (nI 1)) := ((I3.mono (fun q hq => Or.inl hq)).tr (I4.mono (fun q hq => Or.inr (Or.inl hq)))).tr (I5.mono (fun q hq => Or.inr (Or.inr hq)))
  have er : am_r (am_putI S4 100 13 (nI 1)) = am_r S2 := I.2.2.2.2.2.1
  have ek : am_k (am_putI S4 100 13 (nI 1)) = am_k S2 := I.2.2.1
  have el : am_l (am_putI S4 100 13 (nI 1)) = am_l S2 := I.2.2.2.1
  have en : am_n (am_putI S4 100 13 (nI 1)) = am_n S2 := I.1
  have eS : ∀ i, w_Si (am_putI S4 100 13 (nI 1)) i = w_Si S2 i := fun i => by
    unfold w_Si
    rw [er]
  have hi : ∀ q, q < 152 → q ≠ 100 → am_i (am_putI S4 100 13 (nI 1)) q = am_i S2 q := fun q q1 q2 => I.i (by omega)
  have i100 : ∀ j, j ≠ 13 → am_i (am_putI S4 100 13 (nI 1)) 100 j = am_i S2 100 j := fun j hj => by rw [x_i_I, if_pos rfl, if_neg hj, I4.i (by omega), I3.i (by omega)]
  have nP : ∀ i b', w_Si S2 i = some b' → i ≠ 2 → ∀ q, b' ≤ q → q < b' + 12 → ¬ ((b ≤ q ∧ q < b + 12) ∨ q = t + 1 ∨ q = 100) := fun i b' hi h2' q q1 q2 q3 => by
    rcases q3 with q3 | q3 | q3
    · have := sepB i b' hi h2'
      omega
    · exact sepT i b' hi q q1 q2 q3
    · have := sh.sit hi
      omega
  have R2 : w_R (am_putI S4 100 13 (nI 1)) b (M 139) := I5.Ra (I4.Ra g2 (fun q q1 q2 => sepT 2 b hb2 q q1 q2)) (fun q q1 q2 => by omega)
  have A2 : w_A (am_putI S4 100 13 (nI 1)) b := I5.Aa (I4.Aa (g3.A hsb.1) (fun q q1 q2 => sepT 2 b hb2 q q1 q2)) (fun q q1 q2 => by omega)
  have tr : ∀ Q, w_tr S2 126 Q → w_tr (am_putI S4 100 13 (nI 1)) 126 Q := fun Q hQ u t' hu ht => by
    rw [hi 126 (by omega) (by omega)]
    exact hQ u t' hu ht
  obtain ⟨-, ⟨p1, p2, p3, p4⟩, ⟨c, o, ⟨c1, c2, c3, c4, c5⟩, hk, hm⟩, hsn, ⟨n, b1, b2, b3, b4⟩, ⟨⟨l, l1', l2', l3, l4⟩, x2⟩⟩ := h2
  have u8 : ∀ j, j ≠ 7 → u_save M 138 j = M 138 j := fun j hj => by
    unfold u_save
    rw [s_up_s, s_up_n hj]
  have u7 : u_save M 138 7 = nI 1 := by
    unfold u_save
    rw [s_up_s, s_up_s]
  have un : ∀ q, q ≠ 138 → q ≠ 142 → u_save M q = M q := fun q q1 q2 => by
    unfold u_save
    rw [s_up_n q1, s_up_n q2]
  have u2 : u_save M 142 = s_ov0 (M 139) (M 142) := by
    unfold u_save
    rw [s_up_n (by omega), s_up_s]
  have u3 : ∀ k, w_hr (u_save M) k = w_hr M k := fun k => by
    unfold w_hr
    rw [un 143 (by omega) (by omega)]
  refine ⟨am_putI S4 100 13 (nI 1), ?_, ⟨⟨I.C hC, by omega, ⟨fun i b' hib => ?_, fun i j b' h1 h2 => ?_, fun t' ht' => ?_⟩⟩, ?_, ⟨c, o, ⟨by rw [u8 5 (by omega)]; exact c1, by rw [hi 127 (by omega) (by omega)]; exact c2, by rw [hi 127 (by omega) (by omega)]; exact c3, c4, c5⟩, fun k hkc => ?_, fun k hk2 => by rw [u3, u3]; exact hm k hk2⟩, Or.inr ⟨⟨u7, x_i_Is⟩, b, t, by rw [er]; exact hb2, by rw [er]; exact ht2, ?_⟩, ?_, ?_⟩, ((l1.tr l2).tr (w_le.I I)).mono (by omega) (by omega), (k1.tr k2).tr (w_kp.I I (fun q q1 q2 => by omega))⟩
  · rw [f1, f2]
    have k6 := xk0 hsb.1
    simp (disch := omega) only [kX10_saveSnapshot_36, x_cs0, x_csi, x_csr, x_csn, x_csl, x_ret_v, x_ret_t, x_ret_n, x_tl_s, x_tl_n, x_lk0, x_lk, x_rem0, x_rem_i, x_rem_r, x_rem_l, x_rem2_0, x_rem2_i, x_rem2_r, x_rem2_l, x_pick0, x_pick_c, x_st1, x_st2, x_live, x_i, x_l, x_a, x_ild, x_lld, x_rld, x_ist, x_lst, x_rst, x_inc, x_ii, x_ll, x_li, x_cmp, x_ui, x_il, x_lti, x_idiv, x_irem, x_dup_i, x_dup_r, x_pop_i, x_pop_r, x_dupx_ir, x_dup2_ir, x_ifeq, x_iceq, x_iflt, x_iclt, x_ifge, x_icge, x_ifgt, x_icgt, x_ifle, x_icle, x_ifne, x_icne, x_ifnull_r, x_ifnull_n, x_ifnonnull_r, x_ifnonnull_n, x_sw, x_vret, x_iret, x_lret, x_zret, x_zret0, x_zret1, x_rf_s, x_rf_n, x_geti, x_getr, x_puti, x_putz, x_putr, x_ial, x_ias, x_lal, x_las, x_aal, x_aas, x_aast, x_alen, x_new, x_newa, x_copy, x_min, x_abs, x_minl, x_oinit, x_throw, x_callS0, x_callS1, x_callS2, x_callS3, x_callS4, x_callV0, x_callV1, x_callV2, x_callV3, x_callV4, x_callV5, x_retI_v, x_callI0, x_callI1, x_callI2, x_retN_v, x_callSN1, x_callSN2, x_callT0, x_callT1, x_fn, x_sl0, x_sli, x_slr, x_sll, x_ar0, x_ari, x_arr, x_arl, ↓reduceIte, Nat.reduceAdd, Nat.reduceSub, Nat.reduceMul, Nat.reduceEqDiff, Nat.reduceLeDiff, Nat.reduceLT, if_true, if_false, Nat.le_refl, and_true, true_and, and_self, reduceCtorEq, or_false, false_or, or_true, true_or, Nat.zero_le, fa_lit, nI_add, w_mul, nI_ltI, nI_leI, nI_eq, nI_clamp, nI_toInt, if_pos, if_neg, w_div, w_rem2, yk100 hC, yk125 hC, yk126 hC, yk127 hC, yk128 hC, yk129 hC, yk130 hC, yk131 hC, yk132 hC, yk133 hC, yk134 hC, yk135 hC, yk136 hC, yk137 hC, yl126 hC, yl128 hC, yl130 hC, yl131 hC, yl133 hC, yl137 hC, yr100_0 hC, yr100_1 hC, yr100_2 hC, yr100_3 hC, yr100_4 hC, yr100_5 hC, yr100_6 hC, yr100_7 hC, yr100_8 hC, yr100_9 hC, yr100_10 hC, yr125_0 hC, yr127_0 hC, yr129_0 hC, yr129_1 hC, yr129_2 hC, yr132_0 hC, yr134_0 hC, yr135_0 hC, yr135_1 hC, yr136_0 hC, yr136_1 hC, yk100 hC3, yk125 hC3, yk126 hC3, yk127 hC3, yk128 hC3, yk129 hC3, yk130 hC3, yk131 hC3, yk132 hC3, yk133 hC3, yk134 hC3, yk135 hC3, yk136 hC3, yk137 hC3, yl126 hC3, yl128 hC3, yl130 hC3, yl131 hC3, yl133 hC3, yl137 hC3, yr100_0 hC3, yr100_1 hC3, yr100_2 hC3, yr100_3 hC3, yr100_4 hC3, yr100_5 hC3, yr100_6 hC3, yr100_7 hC3, yr100_8 hC3, yr100_9 hC3, yr100_10 hC3, yr125_0 hC3, yr127_0 hC3, yr129_0 hC3, yr129_1 hC3, yr129_2 hC3, yr132_0 hC3, yr134_0 hC3, yr135_0 hC3, yr135_1 hC3, yr136_0 hC3, yr136_1 hC3, yk100 hC4, yk125 hC4, yk126 hC4, yk127 hC4, yk128 hC4, yk129 hC4, yk130 hC4, yk131 hC4, yk132 hC4, yk133 hC4, yk134 hC4, yk135 hC4, yk136 hC4, yk137 hC4, yl126 hC4, yl128 hC4, yl130 hC4, yl131 hC4, yl133 hC4, yl137 hC4, yr100_0 hC4, yr100_1 hC4, yr100_2 hC4, yr100_3 hC4, yr100_4 hC4, yr100_5 hC4, yr100_6 hC4, yr100_7 hC4, yr100_8 hC4, yr100_9 hC4, yr100_10 hC4, yr125_0 hC4, yr127_0 hC4, yr129_0 hC4, yr129_1 hC4, yr129_2 hC4, yr132_0 hC4, yr134_0 hC4, yr135_0 hC4, yr135_1 hC4, yr136_0 hC4, yr136_1 hC4, x_k_I, x_l_I, x_r_I, x_j_I, x_n_I, x_z_I, x_i_Is, x_k_W, x_l_W, x_r_W, x_j_W, x_n_W, x_z_W, x_k_J, x_l_J, x_r_J, x_i_J, x_n_J, x_z_J, x_k_R, x_l_R, x_j_R, x_i_R, x_n_R, x_z_R, x_n_N, x_z_N, x_k_N, x_l_N, x_i_N, x_j_N, x_r_N, hb2, ht2, va_rf, g1, r3, k6, kk3, t1, gt]
  · rw [eS] at hib
    obtain ⟨q1, q2, q3⟩ := sh.1 i b' hib
    by_cases e : i = 2
    · rw [e, show w_Si S2 2 = some b from hb2] at hib
      cases hib
      exact ⟨A2, by omega, Or.inr hb151⟩
    · exact ⟨I.Aa q1 (nP i b' hib e), by omega, q3⟩
  · rw [eS] at h1 h2
    exact sh.2.1 i j b' h1 h2
  · rw [er] at ht'
    rw [ek, el, er, en]
    exact sh.2.2 t' ht'
  · unfold w_In
    rw [un 139 (by omega) (by omega)]
    refine ⟨I.Ra p1 (nP 0 101 rfl (by omega)), p2, p3.fr hn (w_F.of I) (by rw [er]) (fun q hq hq2 => ?_), tr _ p4⟩
    rcases hq2 with w | w | w
    · exact w_sepT hsb.1 p3 hq w
    · have hq' := hq
      obtain ⟨t', D, ht', hD, e⟩ := hq
      have hd := (p3.1 t' D ht' hD).2.1
      rcases e with e | e
      · have := hd.1
        rw [← e, w, t2] at this
        omega
      · have e3 : t = D := by omega
        have := hd.1
        rw [← e3, t1] at this
        omega
    · obtain ⟨t', D, ht', hD, e⟩ := hq
      have := (p3.1 t' D ht' hD).1.1
      omega
  · rw [u3, un 139 (by omega) (by omega)]
    obtain ⟨b', q1, q2, q3, q4, q5, q6⟩ := hk k hkc
    have hk10 : (o + k) % 10 < 10 := Nat.mod_lt _ (by omega)
    exact ⟨b', by rw [er]; exact q1, I.Ra q2 (nP _ b' (by rw [w_sh.ring hk10]; exact q1) (by omega)), q3, tr _ q4, q5, q6⟩
  · rw [u2]
    refine ⟨R2.eq hW s_ov0_eq, hW.eq s_ov0_eq, w_tr.eq (fun u t' hu ht => ?_) hW s_ov0_eq⟩
    have b2 := hW.1.B.2.1.2
    have b5 := hW.2.1.1
    rw [I5.i (by omega), vt _ (by omega)]
    exact p4 u t' hu ht
  · refine ⟨n, b1, by rw [u8 13 (by omega)]; exact b2, by rw [i100 14 (by omega)]; exact b3, fun i hin => ?_⟩
    rw [hi 133 (by omega) (by omega), un 147 (by omega) (by omega)]
    exact b4 i hin
  · refine ⟨⟨l, l1', by rw [u8 11 (by omega)]; exact l2', by rw [i100 16 (by omega)]; exact l3, fun i hin => ?_⟩, by rw [i100 15 (by omega), u8 20 (by omega)]; exact x2⟩
    rw [hi 137 (by omega) (by omega), un 146 (by omega) (by omega)]
    exact l4 i hin
end S2
