/-! THE REFERENCE READS: walls, headquarters, units, plans -/
section L34
variable {S S' S0 T : am_S} {a b c o p q i j k m n u t L e f κ v0 lo h ne : Nat} {P : Nat → Prop} {B : Nat → Nat} {x y z v hi x' y' : Int32} {s s' : p_S} {R Q : Nat → Int32}
theorem w_zo.row (H : w_zo S0 S L B s x y) (e : s.1.1 = 0) (hI : w_I (fun b => b = 140) S S') (hV : p_V Q) (hl : w_lk (am_i S' 140) Q) (h3 : Q 3 = s.2.2 3) : w_zo S0 S' L B (p_set s Q) x y := by
  obtain ⟨⟨a1, a2, k, k1, k2, k3, k4⟩, ⟨b1, b2, b3⟩, a5, a6, a7, a8, a9⟩ := H
  have i138 : am_i S' 138 = am_i S 138 := hI.i (by omega)
  refine ⟨⟨a1.tr ((w_F.of hI).mono (fun b hb => Or.inr hb)), a2, k, k1, by rw [hI.1]; exact k2, by rw [hI.2.1]; exact k3, fun q => ?_⟩, ⟨hI.Z b1, b2.of hI (by omega), by rw [i138]; exact b3⟩, fun j hj => by rw [i138]; exact a5 j hj, by rw [i138]; exact a6, by rw [i138]; exact a7, by rw [i138]; exact a8, fun _ => ⟨hV, hl⟩⟩
  show k = s_n (Q 3)
  rw [h3]
  exact k4 e
/-- a cell that is read without a flaw -/
theorem p_free_ok (h0 : (p_free B L (p_col B L s).1 (p_col B L s).2).1.1.1 = 0) (hV : s_VB s.2.2) : s.1.1 = 0 ∧ s_in s.2.2 (nI (p_col B L s).2) (nI (p_free B L (p_col B L s).1 (p_col B L s).2).2) ∧ s.2.2 (784 + s_ce (nI (p_col B L s).2) (nI (p_free B L (p_col B L s).1 (p_col B L s).2).2)) = 0 := by
  have eR : (p_col B L s).1.2.2 = s.2.2 := p_num_R
  rw [p_free_2]
  unfold p_free at h0
  rw [eR] at h0
  have q0 := hV.1.1.2
  have q1 := hV.1.2.2.1.2
  split at h0
  · rename_i c
    have r := p_num_ok (B := B) (L := L) (s := (p_col B L s).1) (lo := 0) (h := s_n ((p_col B L s).1.2.2 1)) h0
    have r2 := p_num_ok (B := B) (L := L) (s := s) (lo := 0) (h := s_n (s.2.2 0)) r.1
    have r3 : (p_row B L (p_col B L s).1).2 < s_n ((p_col B L s).1.2.2 1) := r.2.2
    have r4 : (p_col B L s).2 < s_n (s.2.2 0) := r2.2.2
    rw [eR] at r3
    refine ⟨r2.1, ⟨s_nnI r4 (by omega), s_nnI r3 (by omega)⟩, ?_⟩
    unfold s_ce
    rw [w_snI (by omega), w_snI (by omega)]
    exact c
  · exact absurd h0 (p_fail_0 (by omega))
theorem z_wallR (H : w_zo S0 S L B (p_next B L s) x y) : ∃ S' x' y', fX11_readWall w_N [.ref 138] S = some (.inl none, S') ∧ w_zo S0 S' L B (p_next B L (p_wall B L s)) x' y' := by
  obtain ⟨l1, l2⟩ := p_cr_lt (B := B) (L := L) (s := s) (fun e => (H.2.2.2.2.2.2 e).1)
  have hZ := H.Z
  obtain ⟨S1, f1, f2⟩ := z_cellW H
  have hZ1 := f2.Z
  have h18 := f2.k18.1
  have h22 := f2.2.2.2.1.1
  have h23 := f2.2.2.2.1.2
  have eR : (p_row B L (p_col B L s).1).1.2.2 = s.2.2 := p_num_R.trans p_num_R
  unfold p_wall
  dsimp only
  by_cases e : (if p_bad s.2.2 (p_col B L s).2 (p_row B L (p_col B L s).1).2 then p_fail (p_row B L (p_col B L s).1).1 4 else (p_row B L (p_col B L s).1).1).1.1 = 0
  · rw [if_pos e]
    have nb : ¬ p_bad s.2.2 (p_col B L s).2 (p_row B L (p_col B L s).1).2 := fun q => by
      rw [if_pos q] at e
      exact p_fail_0 (by omega) e
    rw [if_neg nb] at e f2 h18 ⊢
    rw [p_next_1, e] at h18
    obtain ⟨hV1, hl1⟩ := f2.2.2.2.2.2.2 e
    have hV : p_V (p_row B L (p_col B L s).1).1.2.2 := hV1
    have hl : w_lk (am_i S1 140) (p_row B L (p_col B L s).1).1.2.2 := hl1
    clear hV1 hl1
    rw [eR] at hV hl
    have b2 := hV.1.B.2.1.2
    have w0 : s.2.2 (784 + (12 * (p_row B L (p_col B L s).1).2 + (p_col B L s).2)) = 0 := Classical.byContradiction (fun q => nb (Or.inl q))
    have e6 := hl.1 6 (by omega)
    have I1 : w_I (fun b => b = 140) S1 (am_putI (am_putI S1 140 (784 + 12 * (p_row B L (p_col B L s).1).2 + (p_col B L s).2) (nI 1)) 140 6 (s.2.2 6 + nI 1)) := (w_I.put (P := fun b => b = 140) rfl).tr (w_I.put rfl)
    have hlk : w_lk (am_i (am_putI (am_putI S1 140 (784 + 12 * (p_row B L (p_col B L s).1).2 + (p_col B L s).2) (nI 1)) 140 6 (s.2.2 6 + nI 1)) 140) (s_wq s.2.2 (12 * (p_row B L (p_col B L s).1).2 + (p_col B L s).2)) := by
      have g := (hl.up (j := 784 + (12 * (p_row B L (p_col B L s).1).2 + (p_col B L s).2)) (v := nI 1) b2 (by omega) (by omega) (by omega)).up (j := 6) (v := s.2.2 6 + nI 1) (by rw [s_up_n (by omega)]; exact b2) (by omega) (by omega) (by omega)
      unfold s_wq
      rw [if_pos w0, if_pos w0]
      refine (congrArg (fun f => w_lk f _) ?_).mp g
      funext q
      rw [x_i_I, if_pos rfl, s_up, s_up, x_i_I, if_pos rfl, show 784 + 12 * (p_row B L (p_col B L s).1).2 + (p_col B L s).2 = 784 + (12 * (p_row B L (p_col B L s).1).2 + (p_col B L s).2) by omega]
    have q3 : s_wq s.2.2 (12 * (p_row B L (p_col B L s).1).2 + (p_col B L s).2) 3 = (p_row B L (p_col B L s).1).1.2.2 3 := by
      rw [eR]
      unfold s_wq
      rw [s_up_n (by omega), s_up_n (by omega)]
    refine ⟨_, _, _, ?_, f2.row e I1 (hV.wall l1 l2 nb) hlk q3⟩
    have hZ2 : w_Z (am_putI S1 140 (784 + 12 * (p_row B L (p_col B L s).1).2 + (p_col B L s).2) (nI 1)) := (w_I.put (P := fun b => b = 140) rfl : w_I (fun b => b = 140) S1 _).Z hZ1
    have e62 : am_i (am_putI S1 140 (784 + 12 * (p_row B L (p_col B L s).1).2 + (p_col B L s).2) (nI 1)) 140 6 = s.2.2 6 := by
      rw [x_i_I, if_pos rfl, if_neg (by omega)]
      exact e6
    generalize (p_row B L (p_col B L s).1).2 = jj at *
    generalize (p_col B L s).2 = ii at *
    simp (disch := omega) only [fX11_readWall, kX11_readWall_41, kX11_readWall_0, x_cs0, x_csi, x_csr, x_csn, x_csl, x_ret_v, x_ret_t, x_ret_n, x_tl_s, x_tl_n, x_lk0, x_lk, x_rem0, x_rem_i, x_rem_r, x_rem_l, x_rem2_0, x_rem2_i, x_rem2_r, x_rem2_l, x_pick0, x_pick_c, x_st1, x_st2, x_live, x_i, x_l, x_a, x_ild, x_lld, x_rld, x_ist, x_lst, x_rst, x_inc, x_ii, x_ll, x_li, x_cmp, x_ui, x_il, x_lti, x_idiv, x_irem, x_dup_i, x_dup_r, x_pop_i, x_pop_r, x_dupx_ir, x_dup2_ir, x_ifeq, x_iceq, x_iflt, x_iclt, x_ifge, x_icge, x_ifgt, x_icgt, x_ifle, x_icle, x_ifne, x_icne, x_ifnull_r, x_ifnull_n, x_ifnonnull_r, x_ifnonnull_n, x_sw, x_vret, x_iret, x_lret, x_zret, x_zret0, x_zret1, x_rf_s, x_rf_n, x_geti, x_getr, x_puti, x_putz, x_putr, x_ial, x_ias, x_lal, x_las, x_aal, x_aas, x_aast, x_alen, x_new, x_newa, x_copy, x_min, x_abs, x_minl, x_oinit, x_throw, x_callS0, x_callS1, x_callS2, x_callS3, x_callS4, x_callV0, x_callV1, x_callV2, x_callV3, x_callV4, x_callV5, x_retI_v, x_callI0, x_callI1, x_callI2, x_retN_v, x_callSN1, x_callSN2, x_callT0, x_callT1, x_fn, x_sl0, x_sli, x_slr, x_sll, x_ar0, x_ari, x_arr, x_arl, ↓reduceIte, Nat.reduceAdd, Nat.reduceSub, Nat.reduceMul, Nat.reduceEqDiff, Nat.reduceLeDiff, Nat.reduceLT, if_true, if_false, Nat.le_refl, and_true, true_and, and_self, reduceCtorEq, or_false, false_or, or_true, true_or, Nat.zero_le, fa_lit, nI_add, w_mul, nI_ltI, nI_leI, nI_eq, nI_clamp, nI_toInt, if_pos, if_neg, w_div, w_rem2, zk138 hZ, zk139 hZ, zk140 hZ, zk141 hZ, zk142 hZ, zk143 hZ, zk144 hZ, zk145 hZ, zk146 hZ, zk147 hZ, zk148 hZ, zk149 hZ, zk150 hZ, zk151 hZ, zl139 hZ, zl140 hZ, zl141 hZ, zl142 hZ, zl143 hZ, zl144 hZ, zl145 hZ, zl146 hZ, zl147 hZ, zl148 hZ, zl149 hZ, zl150 hZ, zl151 hZ, zr138_0 hZ, zr138_1 hZ, zr138_2 hZ, zr138_3 hZ, zr138_4 hZ, zr138_8 hZ, zr138_9 hZ, zr138_10 hZ, zr138_12 hZ, zr138_24 hZ, zr138_25 hZ, zr138_26 hZ, zr148_0 hZ, zr148_1 hZ, zr148_2 hZ, zr148_3 hZ, zr148_4 hZ, zr148_5 hZ, zr148_6 hZ, zr148_7 hZ, zr148_8 hZ, zk138 hZ1, zk139 hZ1, zk140 hZ1, zk141 hZ1, zk142 hZ1, zk143 hZ1, zk144 hZ1, zk145 hZ1, zk146 hZ1, zk147 hZ1, zk148 hZ1, zk149 hZ1, zk150 hZ1, zk151 hZ1, zl139 hZ1, zl140 hZ1, zl141 hZ1, zl142 hZ1, zl143 hZ1, zl144 hZ1, zl145 hZ1, zl146 hZ1, zl147 hZ1, zl148 hZ1, zl149 hZ1, zl150 hZ1, zl151 hZ1, zr138_0 hZ1, zr138_1 hZ1, zr138_2 hZ1, zr138_3 hZ1, zr138_4 hZ1, zr138_8 hZ1, zr138_9 hZ1, zr138_10 hZ1, zr138_12 hZ1, zr138_24 hZ1, zr138_25 hZ1, zr138_26 hZ1, zr148_0 hZ1, zr148_1 hZ1, zr148_2 hZ1, zr148_3 hZ1, zr148_4 hZ1, zr148_5 hZ1, zr148_6 hZ1, zr148_7 hZ1, zr148_8 hZ1, zk138 hZ2, zk139 hZ2, zk140 hZ2, zk141 hZ2, zk142 hZ2, zk143 hZ2, zk144 hZ2, zk145 hZ2, zk146 hZ2, zk147 hZ2, zk148 hZ2, zk149 hZ2, zk150 hZ2, zk151 hZ2, zl139 hZ2, zl140 hZ2, zl141 hZ2, zl142 hZ2, zl143 hZ2, zl144 hZ2, zl145 hZ2, zl146 hZ2, zl147 hZ2, zl148 hZ2, zl149 hZ2, zl150 hZ2, zl151 hZ2, zr138_0 hZ2, zr138_1 hZ2, zr138_2 hZ2, zr138_3 hZ2, zr138_4 hZ2, zr138_8 hZ2, zr138_9 hZ2, zr138_10 hZ2, zr138_12 hZ2, zr138_24 hZ2, zr138_25 hZ2, zr138_26 hZ2, zr148_0 hZ2, zr148_1 hZ2, zr148_2 hZ2, zr148_3 hZ2, zr148_4 hZ2, zr148_5 hZ2, zr148_6 hZ2, zr148_7 hZ2, zr148_8 hZ2, f1, h18, h22, h23, z_wallAt, e62]
  · rw [if_neg e]
    refine ⟨S1, _, _, ?_, f2⟩
    have h18 := f2.k18
    rw [p_next_1] at h18
    generalize (if p_bad s.2.2 (p_col B L s).2 (p_row B L (p_col B L s).1).2 then p_fail (p_row B L (p_col B L s).1).1 4 else (p_row B L (p_col B L s).1).1).1.1 = w at *
    obtain ⟨h18, hw⟩ := h18
    simp (disch := omega) only [fX11_readWall, kX11_readWall_41, kX11_readWall_0, x_cs0, x_csi, x_csr, x_csn, x_csl, x_ret_v, x_ret_t, x_ret_n, x_tl_s, x_tl_n, x_lk0, x_lk, x_rem0, x_rem_i, x_rem_r, x_rem_l, x_rem2_0, x_rem2_i, x_rem2_r, x_rem2_l, x_pick0, x_pick_c, x_st1, x_st2, x_live, x_i, x_l, x_a, x_ild, x_lld, x_rld, x_ist, x_lst, x_rst, x_inc, x_ii, x_ll, x_li, x_cmp, x_ui, x_il, x_lti, x_idiv, x_irem, x_dup_i, x_dup_r, x_pop_i, x_pop_r, x_dupx_ir, x_dup2_ir, x_ifeq, x_iceq, x_iflt, x_iclt, x_ifge, x_icge, x_ifgt, x_icgt, x_ifle, x_icle, x_ifne, x_icne, x_ifnull_r, x_ifnull_n, x_ifnonnull_r, x_ifnonnull_n, x_sw, x_vret, x_iret, x_lret, x_zret, x_zret0, x_zret1, x_rf_s, x_rf_n, x_geti, x_getr, x_puti, x_putz, x_putr, x_ial, x_ias, x_lal, x_las, x_aal, x_aas, x_aast, x_alen, x_new, x_newa, x_copy, x_min, x_abs, x_minl, x_oinit, x_throw, x_callS0, x_callS1, x_callS2, x_callS3, x_callS4, x_callV0, x_callV1, x_callV2, x_callV3, x_callV4, x_callV5, x_retI_v, x_callI0, x_callI1, x_callI2, x_retN_v, x_callSN1, x_callSN2, x_callT0, x_callT1, x_fn, x_sl0, x_sli, x_slr, x_sll, x_ar0, x_ari, x_arr, x_arl, ↓reduceIte, Nat.reduceAdd, Nat.reduceSub, Nat.reduceMul, Nat.reduceEqDiff, Nat.reduceLeDiff, Nat.reduceLT, if_true, if_false, Nat.le_refl, and_true, true_and, and_self, reduceCtorEq, or_false, false_or, or_true, true_or, Nat.zero_le, fa_lit, nI_add, w_mul, nI_ltI, nI_leI, nI_eq, nI_clamp, nI_toInt, if_pos, if_neg, w_div, w_rem2, zk138 hZ, zk139 hZ, zk140 hZ, zk141 hZ, zk142 hZ, zk143 hZ, zk144 hZ, zk145 hZ, zk146 hZ, zk147 hZ, zk148 hZ, zk149 hZ, zk150 hZ, zk151 hZ, zl139 hZ, zl140 hZ, zl141 hZ, zl142 hZ, zl143 hZ, zl144 hZ, zl145 hZ, zl146 hZ, zl147 hZ, zl148 hZ, zl149 hZ, zl150 hZ, zl151 hZ, zr138_0 hZ, zr138_1 hZ, zr138_2 hZ, zr138_3 hZ, zr138_4 hZ, zr138_8 hZ, zr138_9 hZ, zr138_10 hZ, zr138_12 hZ, zr138_24 hZ, zr138_25 hZ, zr138_26 hZ, zr148_0 hZ, zr148_1 hZ, zr148_2 hZ, zr148_3 hZ, zr148_4 hZ, zr148_5 hZ, zr148_6 hZ, zr148_7 hZ, zr148_8 hZ, zk138 hZ1, zk139 hZ1, zk140 hZ1, zk141 hZ1, zk142 hZ1, zk143 hZ1, zk144 hZ1, zk145 hZ1, zk146 hZ1, zk147 hZ1, zk148 hZ1, zk149 hZ1, zk150 hZ1, zk151 hZ1, zl139 hZ1, zl140 hZ1, zl141 hZ1, zl142 hZ1, zl143 hZ1, zl144 hZ1, zl145 hZ1, zl146 hZ1, zl147 hZ1, zl148 hZ1, zl149 hZ1, zl150 hZ1, zl151 hZ1, zr138_0 hZ1, zr138_1 hZ1, zr138_2 hZ1, zr138_3 hZ1, zr138_4 hZ1, zr138_8 hZ1, zr138_9 hZ1, zr138_10 hZ1, zr138_12 hZ1, zr138_24 hZ1, zr138_25 hZ1, zr138_26 hZ1, zr148_0 hZ1, zr148_1 hZ1, zr148_2 hZ1, zr148_3 hZ1, zr148_4 hZ1, zr148_5 hZ1, zr148_6 hZ1, zr148_7 hZ1, zr148_8 hZ1, f1, h18]
theorem z_hqR (H : w_zo S0 S L B (p_next B L s) x y) : ∃ S' x' y', fX11_readMain w_N [.ref 138] S = some (.inl none, S') ∧ w_zo S0 S' L B (p_next B L (p_hq B L s)) x' y' := by
  have hZ := H.Z
  obtain ⟨S1, f1, f2⟩ := z_cellF H
  have hZ1 := f2.Z
  have h18 := f2.k18
  rw [p_next_1] at h18
  have h22 := f2.2.2.2.1.1
  have h23 := f2.2.2.2.1.2
  have eR : (p_free B L (p_col B L s).1 (p_col B L s).2).1.2.2 = s.2.2 := p_free_R.trans p_num_R
  unfold p_hq
  by_cases e : (p_free B L (p_col B L s).1 (p_col B L s).2).1.1.1 = 0
  · obtain ⟨hV1, hl1⟩ := f2.2.2.2.2.2.2 e
    have hV : p_V (p_free B L (p_col B L s).1 (p_col B L s).2).1.2.2 := hV1
    have hl : w_lk (am_i S1 140) (p_free B L (p_col B L s).1 (p_col B L s).2).1.2.2 := hl1
    clear hV1 hl1
    rw [eR] at hV hl
    obtain ⟨g1, g2, g3⟩ := p_free_ok e hV.1.B
    have b2 := hV.1.B.2.1.2
    have I1 : w_I (fun b => b = 140) S1 (am_putI (am_putI S1 140 10 (nI (p_col B L s).2)) 140 11 (nI (p_free B L (p_col B L s).1 (p_col B L s).2).2)) := (w_I.put (P := fun b => b = 140) rfl).tr (w_I.put rfl)
    have hlk : w_lk (am_i (am_putI (am_putI S1 140 10 (nI (p_col B L s).2)) 140 11 (nI (p_free B L (p_col B L s).1 (p_col B L s).2).2)) 140) (va_up (va_up s.2.2 10 (nI (p_col B L s).2)) 11 (nI (p_free B L (p_col B L s).1 (p_col B L s).2).2)) := by
      have g := (hl.up (j := 10) (v := nI (p_col B L s).2) b2 (by omega) (by omega) (by omega)).up (j := 11) (v := nI (p_free B L (p_col B L s).1 (p_col B L s).2).2) (by rw [s_up_n (by omega)]; exact b2) (by omega) (by omega) (by omega)
      refine (congrArg (fun f => w_lk f _) ?_).mp g
      funext q
      rw [x_i_I, if_pos rfl, s_up, s_up, x_i_I, if_pos rfl]
    have q3 : va_up (va_up s.2.2 10 (nI (p_col B L s).2)) 11 (nI (p_free B L (p_col B L s).1 (p_col B L s).2).2) 3 = (p_free B L (p_col B L s).1 (p_col B L s).2).1.2.2 3 := by rw [eR, s_up_n (by omega), s_up_n (by omega)]
    refine ⟨_, _, _, ?_, f2.row e I1 (hV.hq g2 g3) hlk q3⟩
    rw [e] at h18
    have h18 := h18.1
    have hZ2 : w_Z (am_putI S1 140 10 (nI (p_col B L s).2)) := (w_I.put (P := fun b => b = 140) rfl : w_I (fun b => b = 140) S1 _).Z hZ1
    have h23' : am_i (am_putI S1 140 10 (nI (p_col B L s).2)) 138 23 = nI (p_free B L (p_col B L s).1 (p_col B L s).2).2 := by
      rw [x_i_I, if_neg (by omega)]
      exact h23
    generalize (p_free B L (p_col B L s).1 (p_col B L s).2).2 = jj at *
    generalize (p_col B L s).2 = ii at *
    simp (disch := omega) only [fX11_readMain, kX11_readMain_35, kX11_readMain_0, x_cs0, x_csi, x_csr, x_csn, x_csl, x_ret_v, x_ret_t, x_ret_n, x_tl_s, x_tl_n, x_lk0, x_lk, x_rem0, x_rem_i, x_rem_r, x_rem_l, x_rem2_0, x_rem2_i, x_rem2_r, x_rem2_l, x_pick0, x_pick_c, x_st1, x_st2, x_live, x_i, x_l, x_a, x_ild, x_lld, x_rld, x_ist, x_lst, x_rst, x_inc, x_ii, x_ll, x_li, x_cmp, x_ui, x_il, x_lti, x_idiv, x_irem, x_dup_i, x_dup_r, x_pop_i, x_pop_r, x_dupx_ir, x_dup2_ir, x_ifeq, x_iceq, x_iflt, x_iclt, x_ifge, x_icge, x_ifgt, x_icgt, x_ifle, x_icle, x_ifne, x_icne, x_ifnull_r, x_ifnull_n, x_ifnonnull_r, x_ifnonnull_n, x_sw, x_vret, x_iret, x_lret, x_zret, x_zret0, x_zret1, x_rf_s, x_rf_n, x_geti, x_getr, x_puti, x_putz, x_putr, x_ial, x_ias, x_lal, x_las, x_aal, x_aas, x_aast, x_alen, x_new, x_newa, x_copy, x_min, x_abs, x_minl, x_oinit, x_throw, x_callS0, x_callS1, x_callS2, x_callS3, x_callS4, x_callV0, x_callV1, x_callV2, x_callV3, x_callV4, x_callV5, x_retI_v, x_callI0, x_callI1, x_callI2, x_retN_v, x_callSN1, x_callSN2, x_callT0, x_callT1, x_fn, x_sl0, x_sli, x_slr, x_sll, x_ar0, x_ari, x_arr, x_arl, ↓reduceIte, Nat.reduceAdd, Nat.reduceSub, Nat.reduceMul, Nat.reduceEqDiff, Nat.reduceLeDiff, Nat.reduceLT, if_true, if_false, Nat.le_refl, and_true, true_and, and_self, reduceCtorEq, or_false, false_or, or_true, true_or, Nat.zero_le, fa_lit, nI_add, w_mul, nI_ltI, nI_leI, nI_eq, nI_clamp, nI_toInt, if_pos, if_neg, w_div, w_rem2, zk138 hZ, zk139 hZ, zk140 hZ, zk141 hZ, zk142 hZ, zk143 hZ, zk144 hZ, zk145 hZ, zk146 hZ, zk147 hZ, zk148 hZ, zk149 hZ, zk150 hZ, zk151 hZ, zl139 hZ, zl140 hZ, zl141 hZ, zl142 hZ, zl143 hZ, zl144 hZ, zl145 hZ, zl146 hZ, zl147 hZ, zl148 hZ, zl149 hZ, zl150 hZ, zl151 hZ, zr138_0 hZ, zr138_1 hZ, zr138_2 hZ, zr138_3 hZ, zr138_4 hZ, zr138_8 hZ, zr138_9 hZ, zr138_10 hZ, zr138_12 hZ, zr138_24 hZ, zr138_25 hZ, zr138_26 hZ, zr148_0 hZ, zr148_1 hZ, zr148_2 hZ, zr148_3 hZ, zr148_4 hZ, zr148_5 hZ, zr148_6 hZ, zr148_7 hZ, zr148_8 hZ, zk138 hZ1, zk139 hZ1, zk140 hZ1, zk141 hZ1, zk142 hZ1, zk143 hZ1, zk144 hZ1, zk145 hZ1, zk146 hZ1, zk147 hZ1, zk148 hZ1, zk149 hZ1, zk150 hZ1, zk151 hZ1, zl139 hZ1, zl140 hZ1, zl141 hZ1, zl142 hZ1, zl143 hZ1, zl144 hZ1, zl145 hZ1, zl146 hZ1, zl147 hZ1, zl148 hZ1, zl149 hZ1, zl150 hZ1, zl151 hZ1, zr138_0 hZ1, zr138_1 hZ1, zr138_2 hZ1, zr138_3 hZ1, zr138_4 hZ1, zr138_8 hZ1, zr138_9 hZ1, zr138_10 hZ1, zr138_12 hZ1, zr138_24 hZ1, zr138_25 hZ1, zr138_26 hZ1, zr148_0 hZ1, zr148_1 hZ1, zr148_2 hZ1, zr148_3 hZ1, zr148_4 hZ1, zr148_5 hZ1, zr148_6 hZ1, zr148_7 hZ1, zr148_8 hZ1, zk138 hZ2, zk139 hZ2, zk140 hZ2, zk141 hZ2, zk142 hZ2, zk143 hZ2, zk144 hZ2, zk145 hZ2, zk146 hZ2, zk147 hZ2, zk148 hZ2, zk149 hZ2, zk150 hZ2, zk151 hZ2, zl139 hZ2, zl140 hZ2, zl141 hZ2, zl142 hZ2, zl143 hZ2, zl144 hZ2, zl145 hZ2, zl146 hZ2, zl147 hZ2, zl148 hZ2, zl149 hZ2, zl150 hZ2, zl151 hZ2, zr138_0 hZ2, zr138_1 hZ2, zr138_2 hZ2, zr138_3 hZ2, zr138_4 hZ2, zr138_8 hZ2, zr138_9 hZ2, zr138_10 hZ2, zr138_12 hZ2, zr138_24 hZ2, zr138_25 hZ2, zr138_26 hZ2, zr148_0 hZ2, zr148_1 hZ2, zr148_2 hZ2, zr148_3 hZ2, zr148_4 hZ2, zr148_5 hZ2, zr148_6 hZ2, zr148_7 hZ2, zr148_8 hZ2, f1, h18, h22, h23']
  · refine ⟨S1, _, _, ?_, f2.er e rfl⟩
    generalize (p_free B L (p_col B L s).1 (p_col B L s).2).1.1.1 = w at *
    obtain ⟨h18, hw⟩ := h18
    simp (disch := omega) only [fX11_readMain, kX11_readMain_35, kX11_readMain_0, x_cs0, x_csi, x_csr, x_csn, x_csl, x_ret_v, x_ret_t, x_ret_n, x_tl_s, x_tl_n, x_lk0, x_lk, x_rem0, x_rem_i, x_rem_r, x_rem_l, x_rem2_0, x_rem2_i, x_rem2_r, x_rem2_l, x_pick0, x_pick_c, x_st1, x_st2, x_live, x_i, x_l, x_a, x_ild, x_lld, x_rld, x_ist, x_lst, x_rst, x_inc, x_ii, x_ll, x_li, x_cmp, x_ui, x_il, x_lti, x_idiv, x_irem, x_dup_i, x_dup_r, x_pop_i, x_pop_r, x_dupx_ir, x_dup2_ir, x_ifeq, x_iceq, x_iflt, x_iclt, x_ifge, x_icge, x_ifgt, x_icgt, x_ifle, x_icle, x_ifne, x_icne, x_ifnull_r, x_ifnull_n, x_ifnonnull_r, x_ifnonnull_n, x_sw, x_vret, x_iret, x_lret, x_zret, x_zret0, x_zret1, x_rf_s, x_rf_n, x_geti, x_getr, x_puti, x_putz, x_putr, x_ial, x_ias, x_lal, x_las, x_aal, x_aas, x_aast, x_alen, x_new, x_newa, x_copy, x_min, x_abs, x_minl, x_oinit, x_throw, x_callS0, x_callS1, x_callS2, x_callS3, x_callS4, x_callV0, x_callV1, x_callV2, x_callV3, x_callV4, x_callV5, x_retI_v, x_callI0, x_callI1, x_callI2, x_retN_v, x_callSN1, x_callSN2, x_callT0, x_callT1, x_fn, x_sl0, x_sli, x_slr, x_sll, x_ar0, x_ari, x_arr, x_arl, ↓reduceIte, Nat.reduceAdd, Nat.reduceSub, Nat.reduceMul, Nat.reduceEqDiff, Nat.reduceLeDiff, Nat.reduceLT, if_true, if_false, Nat.le_refl, and_true, true_and, and_self, reduceCtorEq, or_false, false_or, or_true, true_or, Nat.zero_le, fa_lit, nI_add, w_mul, nI_ltI, nI_leI, nI_eq, nI_clamp, nI_toInt, if_pos, if_neg, w_div, w_rem2, zk138 hZ, zk139 hZ, zk140 hZ, zk141 hZ, zk142 hZ, zk143 hZ, zk144 hZ, zk145 hZ, zk146 hZ, zk147 hZ, zk148 hZ, zk149 hZ, zk150 hZ, zk151 hZ, zl139 hZ, zl140 hZ, zl141 hZ, zl142 hZ, zl143 hZ, zl144 hZ, zl145 hZ, zl146 hZ, zl147 hZ, zl148 hZ, zl149 hZ, zl150 hZ, zl151 hZ, zr138_0 hZ, zr138_1 hZ, zr138_2 hZ, zr138_3 hZ, zr138_4 hZ, zr138_8 hZ, zr138_9 hZ, zr138_10 hZ, zr138_12 hZ, zr138_24 hZ, zr138_25 hZ, zr138_26 hZ, zr148_0 hZ, zr148_1 hZ, zr148_2 hZ, zr148_3 hZ, zr148_4 hZ, zr148_5 hZ, zr148_6 hZ, zr148_7 hZ, zr148_8 hZ, zk138 hZ1, zk139 hZ1, zk140 hZ1, zk141 hZ1, zk142 hZ1, zk143 hZ1, zk144 hZ1, zk145 hZ1, zk146 hZ1, zk147 hZ1, zk148 hZ1, zk149 hZ1, zk150 hZ1, zk151 hZ1, zl139 hZ1, zl140 hZ1, zl141 hZ1, zl142 hZ1, zl143 hZ1, zl144 hZ1, zl145 hZ1, zl146 hZ1, zl147 hZ1, zl148 hZ1, zl149 hZ1, zl150 hZ1, zl151 hZ1, zr138_0 hZ1, zr138_1 hZ1, zr138_2 hZ1, zr138_3 hZ1, zr138_4 hZ1, zr138_8 hZ1, zr138_9 hZ1, zr138_10 hZ1, zr138_12 hZ1, zr138_24 hZ1, zr138_25 hZ1, zr138_26 hZ1, zr148_0 hZ1, zr148_1 hZ1, zr148_2 hZ1, zr148_3 hZ1, zr148_4 hZ1, zr148_5 hZ1, zr148_6 hZ1, zr148_7 hZ1, zr148_8 hZ1, f1, h18]
theorem z_patR (H : w_zo S0 S L B (p_next B L s) x y) : ∃ S', fX11_readNumber w_N [.ref 138, .int (nI 1), .int (nI 30)] S = some (.inl (some (.int (nI (p_num B L s 1 31).2))), S') ∧ w_zo S0 S' L B (p_next B L (p_num B L s 1 31).1) x y := z_nm H (by rw [nI_toInt (by omega)]; rfl) (by omega) (by omega)
/-- the check that there is room -/
theorem z_room (H : w_zo S0 S L B s x y) (j m : Nat) (hm : m < 100) (hR : s.1.1 = 0 → am_i S 140 j = nI (s_n (s.2.2 j)) ∧ s_n (s.2.2 j) < 100) : ∃ b : Int32, (nI m ≤ am_i S 140 j ∧ b = nI 0 ∨ ¬ nI m ≤ am_i S 140 j ∧ b = nI 1) ∧ ∃ S', fX11_check w_N [.ref 138, .int b, .int (nI 3)] S = some (.inl none, S') ∧ w_zo S0 S' L B (if s_n (s.2.2 j) < m then s else p_fail s 3) x y := by
  by_cases e : s.1.1 = 0
  · obtain ⟨r1, r2⟩ := hR e
    by_cases c : s_n (s.2.2 j) < m
    · rw [if_pos c]
      refine ⟨nI 1, Or.inr ⟨?_, rfl⟩, S, z_ck1 _, H⟩
      rw [r1, fa_le, nI_toInt (by omega), nI_toInt (by omega)]
      omega
    · rw [if_neg c]
      obtain ⟨S', f1, f2⟩ := z_ck0 H (c := 3) (by omega) (by omega)
      refine ⟨nI 0, Or.inl ⟨?_, rfl⟩, S', f1, f2⟩
      rw [r1, fa_le, nI_toInt (by omega), nI_toInt (by omega)]
      omega
  · have ee : (if s_n (s.2.2 j) < m then s else p_fail s 3) = s := by
      split
      · rfl
      · exact p_fail_e e
    rw [ee]
    by_cases c : nI m ≤ am_i S 140 j
    · obtain ⟨S', f1, f2⟩ := z_ck0 H (c := 3) (by omega) (by omega)
      rw [p_fail_e e] at f2
      exact ⟨nI 0, Or.inl ⟨c, rfl⟩, S', f1, f2⟩
    · exact ⟨nI 1, Or.inr ⟨c, rfl⟩, S, z_ck1 _, H⟩
theorem w_iA : am_i (am_putI S a j v) a = va_up (am_i S a) j v := by
  funext q
  rw [x_i_I, if_pos rfl, s_up]
/-- while a clause is put into the row -/
def w_ru (S4 S : am_S) (i j : Nat) : Prop := w_I (fun b => b = 140) S4 S ∧ w_Z S ∧ am_i S 138 22 = nI i ∧ am_i S 138 23 = nI j
theorem w_ru.put {S4 : am_S} (h : w_ru S4 S i j) (q : Nat) (v : Int32) : w_ru S4 (am_putI S 140 q v) i j := by
  have k : w_I (fun b => b = 140) S (am_putI S 140 q v) := w_I.put (P := fun b => b = 140) rfl
  exact ⟨h.1.tr k, k.Z h.2.1, by rw [k.i (by omega)]; exact h.2.2.1, by rw [k.i (by omega)]; exact h.2.2.2⟩
theorem z_unitR (H : w_zo S0 S L B s x y) (e0 : s.1.1 = 0) : ∃ S' x' y', fX11_readUnit w_N [.ref 138] S = some (.inl none, S') ∧ w_zo S0 S' L B (p_next B L (p_unit B L s)) x' y' := by
  have hZ := H.Z
  obtain ⟨hV0, hl0⟩ := H.2.2.2.2.2.2 e0
  have b2 := hV0.1.B.2.1
  obtain ⟨b, hb, S1, f1, f2⟩ := z_room H 2 6 (by omega) (fun _ => ⟨by rw [hl0.1 2 (by omega)]; exact b2.1, by have := b2.2; omega⟩)
  have hZ1 := f2.Z
  obtain ⟨S2, g1, g2⟩ := z_adv f2
  have hZ2 := g2.Z
  obtain ⟨S3, k1, k2⟩ := z_cellF g2
  have hZ3 := k2.Z
  obtain ⟨S4, m1, m2⟩ := z_nm (lo := 1) (h := 4) (hi := nI 3) k2 (by rw [nI_toInt (by omega)]; rfl) (by omega) (by omega)
  have hZ4 := m2.Z
  have h18 := m2.k18
  rw [p_next_1] at h18
  have h22 := m2.2.2.2.1.1
  have h23 := m2.2.2.2.1.2
  unfold p_unit
  dsimp only
  have eR0 : (if s_n (s.2.2 2) < 6 then s else p_fail s 3).2.2 = s.2.2 := by
    split
    · rfl
    · rw [p_fail_2]
  generalize hs0 : (if s_n (s.2.2 2) < 6 then s else p_fail s 3) = s0 at *
  have eR : (p_num B L (p_free B L (p_col B L s0).1 (p_col B L s0).2).1 1 4).1.2.2 = s.2.2 := (p_num_R.trans (p_free_R.trans p_num_R)).trans eR0
  have lt4 := p_num_lt (B := B) (L := L) (s := (p_free B L (p_col B L s0).1 (p_col B L s0).2).1) (lo := 1) (h := 4) (m := 3) (by omega) (by omega)
  by_cases e : (p_num B L (p_free B L (p_col B L s0).1 (p_col B L s0).2).1 1 4).1.1.1 = 0
  · have q1 := p_num_ok e
    have q2 := p_free_ok q1.1 (by rw [eR0]; exact hV0.1.B)
    rw [eR0] at q2
    obtain ⟨lc, lr⟩ := p_cr_lt (B := B) (L := L) (s := s0) (fun _ => by rw [eR0]; exact hV0)
    have lr : (p_free B L (p_col B L s0).1 (p_col B L s0).2).2 < 12 := by
      rw [p_free_2]
      exact lr
    have hn : s_n (s.2.2 2) < 6 := by
      by_cases c : s_n (s.2.2 2) < 6
      · exact c
      · rw [if_neg c] at hs0
        rw [← hs0] at q2
        exact absurd q2.1 (p_fail_0 (by omega))
    rw [if_pos hn]
    obtain ⟨hV1, hl1⟩ := m2.2.2.2.2.2.2 e
    have hV : p_V (p_num B L (p_free B L (p_col B L s0).1 (p_col B L s0).2).1 1 4).1.2.2 := hV1
    have hl : w_lk (am_i S4 140) (p_num B L (p_free B L (p_col B L s0).1 (p_col B L s0).2).1 1 4).1.2.2 := hl1
    clear hV1 hl1
    rw [eR] at hV hl
    rw [e] at h18
    have h18 := h18.1
    have i2 : am_i S4 140 2 = nI (s_n (s.2.2 2)) := (hl.1 2 (by omega)).trans b2.1
    generalize hno : s_n (s.2.2 2) = no at *
    have P0 : w_ru S4 S4 (p_col B L s0).2 (p_free B L (p_col B L s0).1 (p_col B L s0).2).2 := ⟨w_I.rf, hZ4, h22, h23⟩
    generalize hc : p_col B L s0 = c at *
    generalize hr : p_free B L c.1 c.2 = r at *
    generalize hw : p_num B L r.1 1 4 = w at *
    have P1 := P0.put (12 + 4 * no + 0) (nI c.2)
    have P2 := P1.put (12 + 4 * no + 1) (nI r.2)
    have P3 := P2.put (12 + 4 * no + 2) (nI w.2)
    have P4 := P3.put (12 + 4 * no + 3) (-nI 1)
    have P5 := P4.put (928 + 501 * no + 0) (nI (100 * r.2 + c.2))
    have P6 := P5.put 2 (nI (no + 1))
    have hv : nI (100 * r.2 + c.2) = nI 100 * nI r.2 + nI c.2 := by
      simp (disch := omega) only [fa_lit, nI_add, w_mul, nI_ltI, nI_leI, nI_eq, nI_clamp, nI_toInt, if_pos, if_neg, w_div, w_rem2]
    have lk := hl.unit (x := nI c.2) (y := nI r.2) (z := nI w.2) hno.symm hn hv
    have j2 : am_i (am_putI (am_putI (am_putI (am_putI (am_putI S4 140 (12 + 4 * no + 0) (nI c.2)) 140 (12 + 4 * no + 1) (nI r.2)) 140 (12 + 4 * no + 2) (nI w.2)) 140 (12 + 4 * no + 3) (-nI 1)) 140 (928 + 501 * no + 0) (nI (100 * r.2 + c.2))) 140 2 = nI no := by
      rw [x_i_I, if_pos rfl, if_neg (by omega), x_i_I, if_pos rfl, if_neg (by omega), x_i_I, if_pos rfl, if_neg (by omega), x_i_I, if_pos rfl, if_neg (by omega), x_i_I, if_pos rfl, if_neg (by omega)]
      exact i2
    rw [← w_iA, ← w_iA, ← w_iA, ← w_iA, ← w_iA, ← w_iA] at lk
    have q3 : s_addU s.2.2 no (nI c.2) (nI r.2) (nI w.2) 3 = w.1.2.2 3 := by
      rw [eR]
      unfold s_addU
      rw [s_up_n (by omega), s_up_n (by omega), s_up_n (by omega), s_up_n (by omega), s_up_n (by omega)]
    refine ⟨_, _, _, ?_, m2.row e P6.1 (hV.addU hno.symm hn q2.2.1 q2.2.2 ⟨s_nnI (by omega) (by omega), by rw [w_snI (by omega)]; omega⟩) lk q3⟩
    generalize hT1 : am_putI S4 140 (12 + 4 * no + 0) (nI c.2) = T1 at *
    generalize hT2 : am_putI T1 140 (12 + 4 * no + 1) (nI r.2) = T2 at *
    generalize hT3 : am_putI T2 140 (12 + 4 * no + 2) (nI w.2) = T3 at *
    generalize hT4 : am_putI T3 140 (12 + 4 * no + 3) (-nI 1) = T4 at *
    generalize hT5 : am_putI T4 140 (928 + 501 * no + 0) (nI (100 * r.2 + c.2)) = T5 at *
    have z1 := P1.2.1
    have z2 := P2.2.1
    have z3 := P3.2.1
    have z4 := P4.2.1
    have z5 := P5.2.1
    have a1 := P1.2.2.2
    have a2 := P4.2.2.1
    have a3 := P4.2.2.2
    rcases hb with ⟨hb, rfl⟩ | ⟨hb, rfl⟩
    · simp (disch := omega) only [fX11_readUnit, kX11_readUnit_134, kX11_readUnit_17, kX11_readUnit_0, x_cs0, x_csi, x_csr, x_csn, x_csl, x_ret_v, x_ret_t, x_ret_n, x_tl_s, x_tl_n, x_lk0, x_lk, x_rem0, x_rem_i, x_rem_r, x_rem_l, x_rem2_0, x_rem2_i, x_rem2_r, x_rem2_l, x_pick0, x_pick_c, x_st1, x_st2, x_live, x_i, x_l, x_a, x_ild, x_lld, x_rld, x_ist, x_lst, x_rst, x_inc, x_ii, x_ll, x_li, x_cmp, x_ui, x_il, x_lti, x_idiv, x_irem, x_dup_i, x_dup_r, x_pop_i, x_pop_r, x_dupx_ir, x_dup2_ir, x_ifeq, x_iceq, x_iflt, x_iclt, x_ifge, x_icge, x_ifgt, x_icgt, x_ifle, x_icle, x_ifne, x_icne, x_ifnull_r, x_ifnull_n, x_ifnonnull_r, x_ifnonnull_n, x_sw, x_vret, x_iret, x_lret, x_zret, x_zret0, x_zret1, x_rf_s, x_rf_n, x_geti, x_getr, x_puti, x_putz, x_putr, x_ial, x_ias, x_lal, x_las, x_aal, x_aas, x_aast, x_alen, x_new, x_newa, x_copy, x_min, x_abs, x_minl, x_oinit, x_throw, x_callS0, x_callS1, x_callS2, x_callS3, x_callS4, x_callV0, x_callV1, x_callV2, x_callV3, x_callV4, x_callV5, x_retI_v, x_callI0, x_callI1, x_callI2, x_retN_v, x_callSN1, x_callSN2, x_callT0, x_callT1, x_fn, x_sl0, x_sli, x_slr, x_sll, x_ar0, x_ari, x_arr, x_arl, ↓reduceIte, Nat.reduceAdd, Nat.reduceSub, Nat.reduceMul, Nat.reduceEqDiff, Nat.reduceLeDiff, Nat.reduceLT, if_true, if_false, Nat.le_refl, and_true, true_and, and_self, reduceCtorEq, or_false, false_or, or_true, true_or, Nat.zero_le, fa_lit, nI_add, w_mul, nI_ltI, nI_leI, nI_eq, nI_clamp, nI_toInt, if_pos, if_neg, w_div, w_rem2, zk138 hZ, zk139 hZ, zk140 hZ, zk141 hZ, zk142 hZ, zk143 hZ, zk144 hZ, zk145 hZ, zk146 hZ, zk147 hZ, zk148 hZ, zk149 hZ, zk150 hZ, zk151 hZ, zl139 hZ, zl140 hZ, zl141 hZ, zl142 hZ, zl143 hZ, zl144 hZ, zl145 hZ, zl146 hZ, zl147 hZ, zl148 hZ, zl149 hZ, zl150 hZ, zl151 hZ, zr138_0 hZ, zr138_1 hZ, zr138_2 hZ, zr138_3 hZ, zr138_4 hZ, zr138_8 hZ, zr138_9 hZ, zr138_10 hZ, zr138_12 hZ, zr138_24 hZ, zr138_25 hZ, zr138_26 hZ, zr148_0 hZ, zr148_1 hZ, zr148_2 hZ, zr148_3 hZ, zr148_4 hZ, zr148_5 hZ, zr148_6 hZ, zr148_7 hZ, zr148_8 hZ, zk138 hZ1, zk139 hZ1, zk140 hZ1, zk141 hZ1, zk142 hZ1, zk143 hZ1, zk144 hZ1, zk145 hZ1, zk146 hZ1, zk147 hZ1, zk148 hZ1, zk149 hZ1, zk150 hZ1, zk151 hZ1, zl139 hZ1, zl140 hZ1, zl141 hZ1, zl142 hZ1, zl143 hZ1, zl144 hZ1, zl145 hZ1, zl146 hZ1, zl147 hZ1, zl148 hZ1, zl149 hZ1, zl150 hZ1, zl151 hZ1, zr138_0 hZ1, zr138_1 hZ1, zr138_2 hZ1, zr138_3 hZ1, zr138_4 hZ1, zr138_8 hZ1, zr138_9 hZ1, zr138_10 hZ1, zr138_12 hZ1, zr138_24 hZ1, zr138_25 hZ1, zr138_26 hZ1, zr148_0 hZ1, zr148_1 hZ1, zr148_2 hZ1, zr148_3 hZ1, zr148_4 hZ1, zr148_5 hZ1, zr148_6 hZ1, zr148_7 hZ1, zr148_8 hZ1, zk138 hZ2, zk139 hZ2, zk140 hZ2, zk141 hZ2, zk142 hZ2, zk143 hZ2, zk144 hZ2, zk145 hZ2, zk146 hZ2, zk147 hZ2, zk148 hZ2, zk149 hZ2, zk150 hZ2, zk151 hZ2, zl139 hZ2, zl140 hZ2, zl141 hZ2, zl142 hZ2, zl143 hZ2, zl144 hZ2, zl145 hZ2, zl146 hZ2, zl147 hZ2, zl148 hZ2, zl149 hZ2, zl150 hZ2, zl151 hZ2, zr138_0 hZ2, zr138_1 hZ2, zr138_2 hZ2, zr138_3 hZ2, zr138_4 hZ2, zr138_8 hZ2, zr138_9 hZ2, zr138_10 hZ2, zr138_12 hZ2, zr138_24 hZ2, zr138_25 hZ2, zr138_26 hZ2, zr148_0 hZ2, zr148_1 hZ2, zr148_2 hZ2, zr148_3 hZ2, zr148_4 hZ2, zr148_5 hZ2, zr148_6 hZ2, zr148_7 hZ2, zr148_8 hZ2, zk138 hZ3, zk139 hZ3, zk140 hZ3, zk141 hZ3, zk142 hZ3, zk143 hZ3, zk144 hZ3, zk145 hZ3, zk146 hZ3, zk147 hZ3, zk148 hZ3, zk149 hZ3, zk150 hZ3, zk151 hZ3, zl139 hZ3, zl140 hZ3, zl141 hZ3, zl142 hZ3, zl143 hZ3, zl144 hZ3, zl145 hZ3, zl146 hZ3, zl147 hZ3, zl148 hZ3, zl149 hZ3, zl150 hZ3, zl151 hZ3, zr138_0 hZ3, zr138_1 hZ3, zr138_2 hZ3, zr138_3 hZ3, zr138_4 hZ3, zr138_8 hZ3, zr138_9 hZ3, zr138_10 hZ3, zr138_12 hZ3, zr138_24 hZ3, zr138_25 hZ3, zr138_26 hZ3, zr148_0 hZ3, zr148_1 hZ3, zr148_2 hZ3, zr148_3 hZ3, zr148_4 hZ3, zr148_5 hZ3, zr148_6 hZ3, zr148_7 hZ3, zr148_8 hZ3, zk138 hZ4, zk139 hZ4, zk140 hZ4, zk141 hZ4, zk142 hZ4, zk143 hZ4, zk144 hZ4, zk145 hZ4, zk146 hZ4, zk147 hZ4, zk148 hZ4, zk149 hZ4, zk150 hZ4, zk151 hZ4, zl139 hZ4, zl140 hZ4, zl141 hZ4, zl142 hZ4, zl143 hZ4, zl144 hZ4, zl145 hZ4, zl146 hZ4, zl147 hZ4, zl148 hZ4, zl149 hZ4, zl150 hZ4, zl151 hZ4, zr138_0 hZ4, zr138_1 hZ4, zr138_2 hZ4, zr138_3 hZ4, zr138_4 hZ4, zr138_8 hZ4, zr138_9 hZ4, zr138_10 hZ4, zr138_12 hZ4, zr138_24 hZ4, zr138_25 hZ4, zr138_26 hZ4, zr148_0 hZ4, zr148_1 hZ4, zr148_2 hZ4, zr148_3 hZ4, zr148_4 hZ4, zr148_5 hZ4, zr148_6 hZ4, zr148_7 hZ4, zr148_8 hZ4, zk138 z1, zk139 z1, zk140 z1, zk141 z1, zk142 z1, zk143 z1, zk144 z1, zk145 z1, zk146 z1, zk147 z1, zk148 z1, zk149 z1, zk150 z1, zk151 z1, zl139 z1, zl140 z1, zl141 z1, zl142 z1, zl143 z1, zl144 z1, zl145 z1, zl146 z1, zl147 z1, zl148 z1, zl149 z1, zl150 z1, zl151 z1, zr138_0 z1, zr138_1 z1, zr138_2 z1, zr138_3 z1, zr138_4 z1, zr138_8 z1, zr138_9 z1, zr138_10 z1, zr138_12 z1, zr138_24 z1, zr138_25 z1, zr138_26 z1, zr148_0 z1, zr148_1 z1, zr148_2 z1, zr148_3 z1, zr148_4 z1, zr148_5 z1, zr148_6 z1, zr148_7 z1, zr148_8 z1, zk138 z2, zk139 z2, zk140 z2, zk141 z2, zk142 z2, zk143 z2, zk144 z2, zk145 z2, zk146 z2, zk147 z2, zk148 z2, zk149 z2, zk150 z2, zk151 z2, zl139 z2, zl140 z2, zl141 z2, zl142 z2, zl143 z2, zl144 z2, zl145 z2, zl146 z2, zl147 z2, zl148 z2, zl149 z2, zl150 z2, zl151 z2, zr138_0 z2, zr138_1 z2, zr138_2 z2, zr138_3 z2, zr138_4 z2, zr138_8 z2, zr138_9 z2, zr138_10 z2, zr138_12 z2, zr138_24 z2, zr138_25 z2, zr138_26 z2, zr148_0 z2, zr148_1 z2, zr148_2 z2, zr148_3 z2, zr148_4 z2, zr148_5 z2, zr148_6 z2, zr148_7 z2, zr148_8 z2, zk138 z3, zk139 z3, zk140 z3, zk141 z3, zk142 z3, zk143 z3, zk144 z3, zk145 z3, zk146 z3, zk147 z3, zk148 z3, zk149 z3, zk150 z3, zk151 z3, zl139 z3, zl140 z3, zl141 z3, zl142 z3, zl143 z3, zl144 z3, zl145 z3, zl146 z3, zl147 z3, zl148 z3, zl149 z3, zl150 z3, zl151 z3, zr138_0 z3, zr138_1 z3, zr138_2 z3, zr138_3 z3, zr138_4 z3, zr138_8 z3, zr138_9 z3, zr138_10 z3, zr138_12 z3, zr138_24 z3, zr138_25 z3, zr138_26 z3, zr148_0 z3, zr148_1 z3, zr148_2 z3, zr148_3 z3, zr148_4 z3, zr148_5 z3, zr148_6 z3, zr148_7 z3, zr148_8 z3, zk138 z4, zk139 z4, zk140 z4, zk141 z4, zk142 z4, zk143 z4, zk144 z4, zk145 z4, zk146 z4, zk147 z4, zk148 z4, zk149 z4, zk150 z4, zk151 z4, zl139 z4, zl140 z4, zl141 z4, zl142 z4, zl143 z4, zl144 z4, zl145 z4, zl146 z4, zl147 z4, zl148 z4, zl149 z4, zl150 z4, zl151 z4, zr138_0 z4, zr138_1 z4, zr138_2 z4, zr138_3 z4, zr138_4 z4, zr138_8 z4, zr138_9 z4, zr138_10 z4, zr138_12 z4, zr138_24 z4, zr138_25 z4, zr138_26 z4, zr148_0 z4, zr148_1 z4, zr148_2 z4, zr148_3 z4, zr148_4 z4, zr148_5 z4, zr148_6 z4, zr148_7 z4, zr148_8 z4, zk138 z5, zk139 z5, zk140 z5, zk141 z5, zk142 z5, zk143 z5, zk144 z5, zk145 z5, zk146 z5, zk147 z5, zk148 z5, zk149 z5, zk150 z5, zk151 z5, zl139 z5, zl140 z5, zl141 z5, zl142 z5, zl143 z5, zl144 z5, zl145 z5, zl146 z5, zl147 z5, zl148 z5, zl149 z5, zl150 z5, zl151 z5, zr138_0 z5, zr138_1 z5, zr138_2 z5, zr138_3 z5, zr138_4 z5, zr138_8 z5, zr138_9 z5, zr138_10 z5, zr138_12 z5, zr138_24 z5, zr138_25 z5, zr138_26 z5, zr148_0 z5, zr148_1 z5, zr148_2 z5, zr148_3 z5, zr148_4 z5, zr148_5 z5, zr148_6 z5, zr148_7 z5, zr148_8 z5, hb, f1, g1, k1, m1, h18, h22, i2, a1, a2, a3, j2, z_unitAt, z_wasSlot, hT1, hT2, hT3, hT4, hT5]
    · simp (disch := omega) only [fX11_readUnit, kX11_readUnit_134, kX11_readUnit_17, kX11_readUnit_0, x_cs0, x_csi, x_csr, x_csn, x_csl, x_ret_v, x_ret_t, x_ret_n, x_tl_s, x_tl_n, x_lk0, x_lk, x_rem0, x_rem_i, x_rem_r, x_rem_l, x_rem2_0, x_rem2_i, x_rem2_r, x_rem2_l, x_pick0, x_pick_c, x_st1, x_st2, x_live, x_i, x_l, x_a, x_ild, x_lld, x_rld, x_ist, x_lst, x_rst, x_inc, x_ii, x_ll, x_li, x_cmp, x_ui, x_il, x_lti, x_idiv, x_irem, x_dup_i, x_dup_r, x_pop_i, x_pop_r, x_dupx_ir, x_dup2_ir, x_ifeq, x_iceq, x_iflt, x_iclt, x_ifge, x_icge, x_ifgt, x_icgt, x_ifle, x_icle, x_ifne, x_icne, x_ifnull_r, x_ifnull_n, x_ifnonnull_r, x_ifnonnull_n, x_sw, x_vret, x_iret, x_lret, x_zret, x_zret0, x_zret1, x_rf_s, x_rf_n, x_geti, x_getr, x_puti, x_putz, x_putr, x_ial, x_ias, x_lal, x_las, x_aal, x_aas, x_aast, x_alen, x_new, x_newa, x_copy, x_min, x_abs, x_minl, x_oinit, x_throw, x_callS0, x_callS1, x_callS2, x_callS3, x_callS4, x_callV0, x_callV1, x_callV2, x_callV3, x_callV4, x_callV5, x_retI_v, x_callI0, x_callI1, x_callI2, x_retN_v, x_callSN1, x_callSN2, x_callT0, x_callT1, x_fn, x_sl0, x_sli, x_slr, x_sll, x_ar0, x_ari, x_arr, x_arl, ↓reduceIte, Nat.reduceAdd, Nat.reduceSub, Nat.reduceMul, Nat.reduceEqDiff, Nat.reduceLeDiff, Nat.reduceLT, if_true, if_false, Nat.le_refl, and_true, true_and, and_self, reduceCtorEq, or_false, false_or, or_true, true_or, Nat.zero_le, fa_lit, nI_add, w_mul, nI_ltI, nI_leI, nI_eq, nI_clamp, nI_toInt, if_pos, if_neg, w_div, w_rem2, zk138 hZ, zk139 hZ, zk140 hZ, zk141 hZ, zk142 hZ, zk143 hZ, zk144 hZ, zk145 hZ, zk146 hZ, zk147 hZ, zk148 hZ, zk149 hZ, zk150 hZ, zk151 hZ, zl139 hZ, zl140 hZ, zl141 hZ, zl142 hZ, zl143 hZ, zl144 hZ, zl145 hZ, zl146 hZ, zl147 hZ, zl148 hZ, zl149 hZ, zl150 hZ, zl151 hZ, zr138_0 hZ, zr138_1 hZ, zr138_2 hZ, zr138_3 hZ, zr138_4 hZ, zr138_8 hZ, zr138_9 hZ, zr138_10 hZ, zr138_12 hZ, zr138_24 hZ, zr138_25 hZ, zr138_26 hZ, zr148_0 hZ, zr148_1 hZ, zr148_2 hZ, zr148_3 hZ, zr148_4 hZ, zr148_5 hZ, zr148_6 hZ, zr148_7 hZ, zr148_8 hZ, zk138 hZ1, zk139 hZ1, zk140 hZ1, zk141 hZ1, zk142 hZ1, zk143 hZ1, zk144 hZ1, zk145 hZ1, zk146 hZ1, zk147 hZ1, zk148 hZ1, zk149 hZ1, zk150 hZ1, zk151 hZ1, zl139 hZ1, zl140 hZ1, zl141 hZ1, zl142 hZ1, zl143 hZ1, zl144 hZ1, zl145 hZ1, zl146 hZ1, zl147 hZ1, zl148 hZ1, zl149 hZ1, zl150 hZ1, zl151 hZ1, zr138_0 hZ1, zr138_1 hZ1, zr138_2 hZ1, zr138_3 hZ1, zr138_4 hZ1, zr138_8 hZ1, zr138_9 hZ1, zr138_10 hZ1, zr138_12 hZ1, zr138_24 hZ1, zr138_25 hZ1, zr138_26 hZ1, zr148_0 hZ1, zr148_1 hZ1, zr148_2 hZ1, zr148_3 hZ1, zr148_4 hZ1, zr148_5 hZ1, zr148_6 hZ1, zr148_7 hZ1, zr148_8 hZ1, zk138 hZ2, zk139 hZ2, zk140 hZ2, zk141 hZ2, zk142 hZ2, zk143 hZ2, zk144 hZ2, zk145 hZ2, zk146 hZ2, zk147 hZ2, zk148 hZ2, zk149 hZ2, zk150 hZ2, zk151 hZ2, zl139 hZ2, zl140 hZ2, zl141 hZ2, zl142 hZ2, zl143 hZ2, zl144 hZ2, zl145 hZ2, zl146 hZ2, zl147 hZ2, zl148 hZ2, zl149 hZ2, zl150 hZ2, zl151 hZ2, zr138_0 hZ2, zr138_1 hZ2, zr138_2 hZ2, zr138_3 hZ2, zr138_4 hZ2, zr138_8 hZ2, zr138_9 hZ2, zr138_10 hZ2, zr138_12 hZ2, zr138_24 hZ2, zr138_25 hZ2, zr138_26 hZ2, zr148_0 hZ2, zr148_1 hZ2, zr148_2 hZ2, zr148_3 hZ2, zr148_4 hZ2, zr148_5 hZ2, zr148_6 hZ2, zr148_7 hZ2, zr148_8 hZ2, zk138 hZ3, zk139 hZ3, zk140 hZ3, zk141 hZ3, zk142 hZ3, zk143 hZ3, zk144 hZ3, zk145 hZ3, zk146 hZ3, zk147 hZ3, zk148 hZ3, zk149 hZ3, zk150 hZ3, zk151 hZ3, zl139 hZ3, zl140 hZ3, zl141 hZ3, zl142 hZ3, zl143 hZ3, zl144 hZ3, zl145 hZ3, zl146 hZ3, zl147 hZ3, zl148 hZ3, zl149 hZ3, zl150 hZ3, zl151 hZ3, zr138_0 hZ3, zr138_1 hZ3, zr138_2 hZ3, zr138_3 hZ3, zr138_4 hZ3, zr138_8 hZ3, zr138_9 hZ3, zr138_10 hZ3, zr138_12 hZ3, zr138_24 hZ3, zr138_25 hZ3, zr138_26 hZ3, zr148_0 hZ3, zr148_1 hZ3, zr148_2 hZ3, zr148_3 hZ3, zr148_4 hZ3, zr148_5 hZ3, zr148_6 hZ3, zr148_7 hZ3, zr148_8 hZ3, zk138 hZ4, zk139 hZ4, zk140 hZ4, zk141 hZ4, zk142 hZ4, zk143 hZ4, zk144 hZ4, zk145 hZ4, zk146 hZ4, zk147 hZ4, zk148 hZ4, zk149 hZ4, zk150 hZ4, zk151 hZ4, zl139 hZ4, zl140 hZ4, zl141 hZ4, zl142 hZ4, zl143 hZ4, zl144 hZ4, zl145 hZ4, zl146 hZ4, zl147 hZ4, zl148 hZ4, zl149 hZ4, zl150 hZ4, zl151 hZ4, zr138_0 hZ4, zr138_1 hZ4, zr138_2 hZ4, zr138_3 hZ4, zr138_4 hZ4, zr138_8 hZ4, zr138_9 hZ4, zr138_10 hZ4, zr138_12 hZ4, zr138_24 hZ4, zr138_25 hZ4, zr138_26 hZ4, zr148_0 hZ4, zr148_1 hZ4, zr148_2 hZ4, zr148_3 hZ4, zr148_4 hZ4, zr148_5 hZ4, zr148_6 hZ4, zr148_7 hZ4, zr148_8 hZ4, zk138 z1, zk139 z1, zk140 z1, zk141 z1, zk142 z1, zk143 z1, zk144 z1, zk145 z1, zk146 z1, zk147 z1, zk148 z1, zk149 z1, zk150 z1, zk151 z1, zl139 z1, zl140 z1, zl141 z1, zl142 z1, zl143 z1, zl144 z1, zl145 z1, zl146 z1, zl147 z1, zl148 z1, zl149 z1, zl150 z1, zl151 z1, zr138_0 z1, zr138_1 z1, zr138_2 z1, zr138_3 z1, zr138_4 z1, zr138_8 z1, zr138_9 z1, zr138_10 z1, zr138_12 z1, zr138_24 z1, zr138_25 z1, zr138_26 z1, zr148_0 z1, zr148_1 z1, zr148_2 z1, zr148_3 z1, zr148_4 z1, zr148_5 z1, zr148_6 z1, zr148_7 z1, zr148_8 z1, zk138 z2, zk139 z2, zk140 z2, zk141 z2, zk142 z2, zk143 z2, zk144 z2, zk145 z2, zk146 z2, zk147 z2, zk148 z2, zk149 z2, zk150 z2, zk151 z2, zl139 z2, zl140 z2, zl141 z2, zl142 z2, zl143 z2, zl144 z2, zl145 z2, zl146 z2, zl147 z2, zl148 z2, zl149 z2, zl150 z2, zl151 z2, zr138_0 z2, zr138_1 z2, zr138_2 z2, zr138_3 z2, zr138_4 z2, zr138_8 z2, zr138_9 z2, zr138_10 z2, zr138_12 z2, zr138_24 z2, zr138_25 z2, zr138_26 z2, zr148_0 z2, zr148_1 z2, zr148_2 z2, zr148_3 z2, zr148_4 z2, zr148_5 z2, zr148_6 z2, zr148_7 z2, zr148_8 z2, zk138 z3, zk139 z3, zk140 z3, zk141 z3, zk142 z3, zk143 z3, zk144 z3, zk145 z3, zk146 z3, zk147 z3, zk148 z3, zk149 z3, zk150 z3, zk151 z3, zl139 z3, zl140 z3, zl141 z3, zl142 z3, zl143 z3, zl144 z3, zl145 z3, zl146 z3, zl147 z3, zl148 z3, zl149 z3, zl150 z3, zl151 z3, zr138_0 z3, zr138_1 z3, zr138_2 z3, zr138_3 z3, zr138_4 z3, zr138_8 z3, zr138_9 z3, zr138_10 z3, zr138_12 z3, zr138_24 z3, zr138_25 z3, zr138_26 z3, zr148_0 z3, zr148_1 z3, zr148_2 z3, zr148_3 z3, zr148_4 z3, zr148_5 z3, zr148_6 z3, zr148_7 z3, zr148_8 z3, zk138 z4, zk139 z4, zk140 z4, zk141 z4, zk142 z4, zk143 z4, zk144 z4, zk145 z4, zk146 z4, zk147 z4, zk148 z4, zk149 z4, zk150 z4, zk151 z4, zl139 z4, zl140 z4, zl141 z4, zl142 z4, zl143 z4, zl144 z4, zl145 z4, zl146 z4, zl147 z4, zl148 z4, zl149 z4, zl150 z4, zl151 z4, zr138_0 z4, zr138_1 z4, zr138_2 z4, zr138_3 z4, zr138_4 z4, zr138_8 z4, zr138_9 z4, zr138_10 z4, zr138_12 z4, zr138_24 z4, zr138_25 z4, zr138_26 z4, zr148_0 z4, zr148_1 z4, zr148_2 z4, zr148_3 z4, zr148_4 z4, zr148_5 z4, zr148_6 z4, zr148_7 z4, zr148_8 z4, zk138 z5, zk139 z5, zk140 z5, zk141 z5, zk142 z5, zk143 z5, zk144 z5, zk145 z5, zk146 z5, zk147 z5, zk148 z5, zk149 z5, zk150 z5, zk151 z5, zl139 z5, zl140 z5, zl141 z5, zl142 z5, zl143 z5, zl144 z5, zl145 z5, zl146 z5, zl147 z5, zl148 z5, zl149 z5, zl150 z5, zl151 z5, zr138_0 z5, zr138_1 z5, zr138_2 z5, zr138_3 z5, zr138_4 z5, zr138_8 z5, zr138_9 z5, zr138_10 z5, zr138_12 z5, zr138_24 z5, zr138_25 z5, zr138_26 z5, zr148_0 z5, zr148_1 z5, zr148_2 z5, zr148_3 z5, zr148_4 z5, zr148_5 z5, zr148_6 z5, zr148_7 z5, zr148_8 z5, hb, f1, g1, k1, m1, h18, h22, i2, a1, a2, a3, j2, z_unitAt, z_wasSlot, hT1, hT2, hT3, hT4, hT5]
  · refine ⟨S4, _, _, ?_, m2.er e rfl⟩
    generalize (p_num B L (p_free B L (p_col B L s0).1 (p_col B L s0).2).1 1 4).1.1.1 = w at *
    obtain ⟨h18, hw⟩ := h18
    rcases hb with ⟨hb, rfl⟩ | ⟨hb, rfl⟩
    · simp (disch := omega) only [fX11_readUnit, kX11_readUnit_134, kX11_readUnit_17, kX11_readUnit_0, x_cs0, x_csi, x_csr, x_csn, x_csl, x_ret_v, x_ret_t, x_ret_n, x_tl_s, x_tl_n, x_lk0, x_lk, x_rem0, x_rem_i, x_rem_r, x_rem_l, x_rem2_0, x_rem2_i, x_rem2_r, x_rem2_l, x_pick0, x_pick_c, x_st1, x_st2, x_live, x_i, x_l, x_a, x_ild, x_lld, x_rld, x_ist, x_lst, x_rst, x_inc, x_ii, x_ll, x_li, x_cmp, x_ui, x_il, x_lti, x_idiv, x_irem, x_dup_i, x_dup_r, x_pop_i, x_pop_r, x_dupx_ir, x_dup2_ir, x_ifeq, x_iceq, x_iflt, x_iclt, x_ifge, x_icge, x_ifgt, x_icgt, x_ifle, x_icle, x_ifne, x_icne, x_ifnull_r, x_ifnull_n, x_ifnonnull_r, x_ifnonnull_n, x_sw, x_vret, x_iret, x_lret, x_zret, x_zret0, x_zret1, x_rf_s, x_rf_n, x_geti, x_getr, x_puti, x_putz, x_putr, x_ial, x_ias, x_lal, x_las, x_aal, x_aas, x_aast, x_alen, x_new, x_newa, x_copy, x_min, x_abs, x_minl, x_oinit, x_throw, x_callS0, x_callS1, x_callS2, x_callS3, x_callS4, x_callV0, x_callV1, x_callV2, x_callV3, x_callV4, x_callV5, x_retI_v, x_callI0, x_callI1, x_callI2, x_retN_v, x_callSN1, x_callSN2, x_callT0, x_callT1, x_fn, x_sl0, x_sli, x_slr, x_sll, x_ar0, x_ari, x_arr, x_arl, ↓reduceIte, Nat.reduceAdd, Nat.reduceSub, Nat.reduceMul, Nat.reduceEqDiff, Nat.reduceLeDiff, Nat.reduceLT, if_true, if_false, Nat.le_refl, and_true, true_and, and_self, reduceCtorEq, or_false, false_or, or_true, true_or, Nat.zero_le, fa_lit, nI_add, w_mul, nI_ltI, nI_leI, nI_eq, nI_clamp, nI_toInt, if_pos, if_neg, w_div, w_rem2, zk138 hZ, zk139 hZ, zk140 hZ, zk141 hZ, zk142 hZ, zk143 hZ, zk144 hZ, zk145 hZ, zk146 hZ, zk147 hZ, zk148 hZ, zk149 hZ, zk150 hZ, zk151 hZ, zl139 hZ, zl140 hZ, zl141 hZ, zl142 hZ, zl143 hZ, zl144 hZ, zl145 hZ, zl146 hZ, zl147 hZ, zl148 hZ, zl149 hZ, zl150 hZ, zl151 hZ, zr138_0 hZ, zr138_1 hZ, zr138_2 hZ, zr138_3 hZ, zr138_4 hZ, zr138_8 hZ, zr138_9 hZ, zr138_10 hZ, zr138_12 hZ, zr138_24 hZ, zr138_25 hZ, zr138_26 hZ, zr148_0 hZ, zr148_1 hZ, zr148_2 hZ, zr148_3 hZ, zr148_4 hZ, zr148_5 hZ, zr148_6 hZ, zr148_7 hZ, zr148_8 hZ, zk138 hZ1, zk139 hZ1, zk140 hZ1, zk141 hZ1, zk142 hZ1, zk143 hZ1, zk144 hZ1, zk145 hZ1, zk146 hZ1, zk147 hZ1, zk148 hZ1, zk149 hZ1, zk150 hZ1, zk151 hZ1, zl139 hZ1, zl140 hZ1, zl141 hZ1, zl142 hZ1, zl143 hZ1, zl144 hZ1, zl145 hZ1, zl146 hZ1, zl147 hZ1, zl148 hZ1, zl149 hZ1, zl150 hZ1, zl151 hZ1, zr138_0 hZ1, zr138_1 hZ1, zr138_2 hZ1, zr138_3 hZ1, zr138_4 hZ1, zr138_8 hZ1, zr138_9 hZ1, zr138_10 hZ1, zr138_12 hZ1, zr138_24 hZ1, zr138_25 hZ1, zr138_26 hZ1, zr148_0 hZ1, zr148_1 hZ1, zr148_2 hZ1, zr148_3 hZ1, zr148_4 hZ1, zr148_5 hZ1, zr148_6 hZ1, zr148_7 hZ1, zr148_8 hZ1, zk138 hZ2, zk139 hZ2, zk140 hZ2, zk141 hZ2, zk142 hZ2, zk143 hZ2, zk144 hZ2, zk145 hZ2, zk146 hZ2, zk147 hZ2, zk148 hZ2, zk149 hZ2, zk150 hZ2, zk151 hZ2, zl139 hZ2, zl140 hZ2, zl141 hZ2, zl142 hZ2, zl143 hZ2, zl144 hZ2, zl145 hZ2, zl146 hZ2, zl147 hZ2, zl148 hZ2, zl149 hZ2, zl150 hZ2, zl151 hZ2, zr138_0 hZ2, zr138_1 hZ2, zr138_2 hZ2, zr138_3 hZ2, zr138_4 hZ2, zr138_8 hZ2, zr138_9 hZ2, zr138_10 hZ2, zr138_12 hZ2, zr138_24 hZ2, zr138_25 hZ2, zr138_26 hZ2, zr148_0 hZ2, zr148_1 hZ2, zr148_2 hZ2, zr148_3 hZ2, zr148_4 hZ2, zr148_5 hZ2, zr148_6 hZ2, zr148_7 hZ2, zr148_8 hZ2, zk138 hZ3, zk139 hZ3, zk140 hZ3, zk141 hZ3, zk142 hZ3, zk143 hZ3, zk144 hZ3, zk145 hZ3, zk146 hZ3, zk147 hZ3, zk148 hZ3, zk149 hZ3, zk150 hZ3, zk151 hZ3, zl139 hZ3, zl140 hZ3, zl141 hZ3, zl142 hZ3, zl143 hZ3, zl144 hZ3, zl145 hZ3, zl146 hZ3, zl147 hZ3, zl148 hZ3, zl149 hZ3, zl150 hZ3, zl151 hZ3, zr138_0 hZ3, zr138_1 hZ3, zr138_2 hZ3, zr138_3 hZ3, zr138_4 hZ3, zr138_8 hZ3, zr138_9 hZ3, zr138_10 hZ3, zr138_12 hZ3, zr138_24 hZ3, zr138_25 hZ3, zr138_26 hZ3, zr148_0 hZ3, zr148_1 hZ3, zr148_2 hZ3, zr148_3 hZ3, zr148_4 hZ3, zr148_5 hZ3, zr148_6 hZ3, zr148_7 hZ3, zr148_8 hZ3, zk138 hZ4, zk139 hZ4, zk140 hZ4, zk141 hZ4, zk142 hZ4, zk143 hZ4, zk144 hZ4, zk145 hZ4, zk146 hZ4, zk147 hZ4, zk148 hZ4, zk149 hZ4, zk150 hZ4, zk151 hZ4, zl139 hZ4, zl140 hZ4, zl141 hZ4, zl142 hZ4, zl143 hZ4, zl144 hZ4, zl145 hZ4, zl146 hZ4, zl147 hZ4, zl148 hZ4, zl149 hZ4, zl150 hZ4, zl151 hZ4, zr138_0 hZ4, zr138_1 hZ4, zr138_2 hZ4, zr138_3 hZ4, zr138_4 hZ4, zr138_8 hZ4, zr138_9 hZ4, zr138_10 hZ4, zr138_12 hZ4, zr138_24 hZ4, zr138_25 hZ4, zr138_26 hZ4, zr148_0 hZ4, zr148_1 hZ4, zr148_2 hZ4, zr148_3 hZ4, zr148_4 hZ4, zr148_5 hZ4, zr148_6 hZ4, zr148_7 hZ4, zr148_8 hZ4, hb, f1, g1, k1, m1, h18]
    · simp (disch := omega) only [fX11_readUnit, kX11_readUnit_134, kX11_readUnit_17, kX11_readUnit_0, x_cs0, x_csi, x_csr, x_csn, x_csl, x_ret_v, x_ret_t, x_ret_n, x_tl_s, x_tl_n, x_lk0, x_lk, x_rem0, x_rem_i, x_rem_r, x_rem_l, x_rem2_0, x_rem2_i, x_rem2_r, x_rem2_l, x_pick0, x_pick_c, x_st1, x_st2, x_live, x_i, x_l, x_a, x_ild, x_lld, x_rld, x_ist, x_lst, x_rst, x_inc, x_ii, x_ll, x_li, x_cmp, x_ui, x_il, x_lti, x_idiv, x_irem, x_dup_i, x_dup_r, x_pop_i, x_pop_r, x_dupx_ir, x_dup2_ir, x_ifeq, x_iceq, x_iflt, x_iclt, x_ifge, x_icge, x_ifgt, x_icgt, x_ifle, x_icle, x_ifne, x_icne, x_ifnull_r, x_ifnull_n, x_ifnonnull_r, x_ifnonnull_n, x_sw, x_vret, x_iret, x_lret, x_zret, x_zret0, x_zret1, x_rf_s, x_rf_n, x_geti, x_getr, x_puti, x_putz, x_putr, x_ial, x_ias, x_lal, x_las, x_aal, x_aas, x_aast, x_alen, x_new, x_newa, x_copy, x_min, x_abs, x_minl, x_oinit, x_throw, x_callS0, x_callS1, x_callS2, x_callS3, x_callS4, x_callV0, x_callV1, x_callV2, x_callV3, x_callV4, x_callV5, x_retI_v, x_callI0, x_callI1, x_callI2, x_retN_v, x_callSN1, x_callSN2, x_callT0, x_callT1, x_fn, x_sl0, x_sli, x_slr, x_sll, x_ar0, x_ari, x_arr, x_arl, ↓reduceIte, Nat.reduceAdd, Nat.reduceSub, Nat.reduceMul, Nat.reduceEqDiff, Nat.reduceLeDiff, Nat.reduceLT, if_true, if_false, Nat.le_refl, and_true, true_and, and_self, reduceCtorEq, or_false, false_or, or_true, true_or, Nat.zero_le, fa_lit, nI_add, w_mul, nI_ltI, nI_leI, nI_eq, nI_clamp, nI_toInt, if_pos, if_neg, w_div, w_rem2, zk138 hZ, zk139 hZ, zk140 hZ, zk141 hZ, zk142 hZ, zk143 hZ, zk144 hZ, zk145 hZ, zk146 hZ, zk147 hZ, zk148 hZ, zk149 hZ, zk150 hZ, zk151 hZ, zl139 hZ, zl140 hZ, zl141 hZ, zl142 hZ, zl143 hZ, zl144 hZ, zl145 hZ, zl146 hZ, zl147 hZ, zl148 hZ, zl149 hZ, zl150 hZ, zl151 hZ, zr138_0 hZ, zr138_1 hZ, zr138_2 hZ, zr138_3 hZ, zr138_4 hZ, zr138_8 hZ, zr138_9 hZ, zr138_10 hZ, zr138_12 hZ, zr138_24 hZ, zr138_25 hZ, zr138_26 hZ, zr148_0 hZ, zr148_1 hZ, zr148_2 hZ, zr148_3 hZ, zr148_4 hZ, zr148_5 hZ, zr148_6 hZ, zr148_7 hZ, zr148_8 hZ, zk138 hZ1, zk139 hZ1, zk140 hZ1, zk141 hZ1, zk142 hZ1, zk143 hZ1, zk144 hZ1, zk145 hZ1, zk146 hZ1, zk147 hZ1, zk148 hZ1, zk149 hZ1, zk150 hZ1, zk151 hZ1, zl139 hZ1, zl140 hZ1, zl141 hZ1, zl142 hZ1, zl143 hZ1, zl144 hZ1, zl145 hZ1, zl146 hZ1, zl147 hZ1, zl148 hZ1, zl149 hZ1, zl150 hZ1, zl151 hZ1, zr138_0 hZ1, zr138_1 hZ1, zr138_2 hZ1, zr138_3 hZ1, zr138_4 hZ1, zr138_8 hZ1, zr138_9 hZ1, zr138_10 hZ1, zr138_12 hZ1, zr138_24 hZ1, zr138_25 hZ1, zr138_26 hZ1, zr148_0 hZ1, zr148_1 hZ1, zr148_2 hZ1, zr148_3 hZ1, zr148_4 hZ1, zr148_5 hZ1, zr148_6 hZ1, zr148_7 hZ1, zr148_8 hZ1, zk138 hZ2, zk139 hZ2, zk140 hZ2, zk141 hZ2, zk142 hZ2, zk143 hZ2, zk144 hZ2, zk145 hZ2, zk146 hZ2, zk147 hZ2, zk148 hZ2, zk149 hZ2, zk150 hZ2, zk151 hZ2, zl139 hZ2, zl140 hZ2, zl141 hZ2, zl142 hZ2, zl143 hZ2, zl144 hZ2, zl145 hZ2, zl146 hZ2, zl147 hZ2, zl148 hZ2, zl149 hZ2, zl150 hZ2, zl151 hZ2, zr138_0 hZ2, zr138_1 hZ2, zr138_2 hZ2, zr138_3 hZ2, zr138_4 hZ2, zr138_8 hZ2, zr138_9 hZ2, zr138_10 hZ2, zr138_12 hZ2, zr138_24 hZ2, zr138_25 hZ2, zr138_26 hZ2, zr148_0 hZ2, zr148_1 hZ2, zr148_2 hZ2, zr148_3 hZ2, zr148_4 hZ2, zr148_5 hZ2, zr148_6 hZ2, zr148_7 hZ2, zr148_8 hZ2, zk138 hZ3, zk139 hZ3, zk140 hZ3, zk141 hZ3, zk142 hZ3, zk143 hZ3, zk144 hZ3, zk145 hZ3, zk146 hZ3, zk147 hZ3, zk148 hZ3, zk149 hZ3, zk150 hZ3, zk151 hZ3, zl139 hZ3, zl140 hZ3, zl141 hZ3, zl142 hZ3, zl143 hZ3, zl144 hZ3, zl145 hZ3, zl146 hZ3, zl147 hZ3, zl148 hZ3, zl149 hZ3, zl150 hZ3, zl151 hZ3, zr138_0 hZ3, zr138_1 hZ3, zr138_2 hZ3, zr138_3 hZ3, zr138_4 hZ3, zr138_8 hZ3, zr138_9 hZ3, zr138_10 hZ3, zr138_12 hZ3, zr138_24 hZ3, zr138_25 hZ3, zr138_26 hZ3, zr148_0 hZ3, zr148_1 hZ3, zr148_2 hZ3, zr148_3 hZ3, zr148_4 hZ3, zr148_5 hZ3, zr148_6 hZ3, zr148_7 hZ3, zr148_8 hZ3, zk138 hZ4, zk139 hZ4, zk140 hZ4, zk141 hZ4, zk142 hZ4, zk143 hZ4, zk144 hZ4, zk145 hZ4, zk146 hZ4, zk147 hZ4, zk148 hZ4, zk149 hZ4, zk150 hZ4, zk151 hZ4, zl139 hZ4, zl140 hZ4, zl141 hZ4, zl142 hZ4, zl143 hZ4, zl144 hZ4, zl145 hZ4, zl146 hZ4, zl147 hZ4, zl148 hZ4, zl149 hZ4, zl150 hZ4, zl151 hZ4, zr138_0 hZ4, zr138_1 hZ4, zr138_2 hZ4, zr138_3 hZ4, zr138_4 hZ4, zr138_8 hZ4, zr138_9 hZ4, zr138_10 hZ4, zr138_12 hZ4, zr138_24 hZ4, zr138_25 hZ4, zr138_26 hZ4, zr148_0 hZ4, zr148_1 hZ4, zr148_2 hZ4, zr148_3 hZ4, zr148_4 hZ4, zr148_5 hZ4, zr148_6 hZ4, zr148_7 hZ4, zr148_8 hZ4, hb, f1, g1, k1, m1, h18]
end L34
