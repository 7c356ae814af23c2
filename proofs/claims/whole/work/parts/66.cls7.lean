/-! THE CLASS: rows of distances are made when first needed -/
def w_mk (S : am_S) (t : Nat) : am_S := am_putR (am_putR (am_new (am_new S 2 0 (am_nf 2)) 20 144 144) (am_n S) 0 (some (am_n S + 1))) 130 t (some (am_n S))
def w_un (S : am_S) : Nat := fb_sm (fun t => if am_r S 130 t = none then 1 else 0) 144
abbrev w_inT (S : am_S) (b : Nat) : Prop := ∃ t D, t < 144 ∧ am_r S 130 t = some D ∧ (b = D ∨ b = D + 1)
/-- the rows of distances that there are hold for the walls of R -/
def w_T (S : am_S) (R : Nat → Int32) : Prop := (∀ t D, t < 144 → am_r S 130 t = some D → (151 < D ∧ D + 1 < am_n S) ∧ w_D S D (D + 1) ∧ (am_i S D 1 = 0 ∨ am_i S D 1 = nI 1 ∧ (s_ok R t → ∀ c, c < 144 → am_i S (D + 1) c = s_cv (s_far R t c)))) ∧ ∀ t t' D, t < 144 → t' < 144 → am_r S 130 t = some D → am_r S 130 t' = some D → t = t'
/-- what finding ways may change -/
def w_H (S S' : am_S) : Prop := (am_n S ≤ am_n S' ∧ ∀ b, b < am_n S → am_j S' b = am_j S b) ∧ (∀ b, b < am_n S → am_k S' b = am_k S b ∧ am_l S' b = am_l S b) ∧ (∀ b, b < am_n S → b ≠ 130 → am_r S' b = am_r S b) ∧ (∀ b, b < am_n S → b ≠ 131 → ¬ w_inT S b → am_i S' b = am_i S b) ∧
  (∀ t D, t < 144 → am_r S 130 t = some D → am_r S' 130 t = some D) ∧ (∀ t D, t < 144 → am_r S' 130 t = some D → am_r S 130 t = some D ∨ am_n S ≤ D) ∧ am_n S' + 2 * w_un S' = am_n S + 2 * w_un S ∧ am_z S' + 146 * w_un S' = am_z S + 146 * w_un S
theorem w_H.rf {S : am_S} : w_H S S := ⟨⟨Nat.le_refl _, fun _ _ => rfl⟩, fun _ _ => ⟨rfl, rfl⟩, fun _ _ _ => rfl, fun _ _ _ _ => rfl, fun _ _ _ h => h, fun _ _ _ h => Or.inl h, rfl, rfl⟩
section Y7
variable {S S' S2 : am_S} {x y z v : Int32} {i j o u n w hh c d b m t p np ne no a T P Q C L f k D E hd j0 m0 : Nat} {R R' F : Nat → Int32} {q : s_Q} {r r4 : am_K}
theorem w_H.tr (h : w_H S S') (k : w_H S' S2) : w_H S S2 := by
  obtain ⟨⟨a1, aj⟩, a2, a3, a4, a5, a6, a7, a8⟩ := h
  obtain ⟨⟨b1, bj⟩, b2, b3, b4, b5, b6, b7, b8⟩ := k
  refine ⟨⟨by omega, fun b hb => (bj b (by omega)).trans (aj b hb)⟩, fun b hb => ?_, fun b hb h1 => ?_, fun b hb h1 h2 => ?_, fun t D ht hD => b5 t D ht (a5 t D ht hD), fun t D ht hD => ?_, by omega, by omega⟩
  · obtain ⟨c1, c2⟩ := a2 b hb
    obtain ⟨d1, d2⟩ := b2 b (by omega)
    exact ⟨d1.trans c1, d2.trans c2⟩
  · exact (b3 b (by omega) h1).trans (a3 b hb h1)
  · refine (b4 b (by omega) h1 (fun q => ?_)).trans (a4 b hb h1 h2)
    obtain ⟨t, D, ht, hD, e⟩ := q
    rcases a6 t D ht hD with g | g
    · exact h2 ⟨t, D, ht, g, e⟩
    · omega
  · rcases b6 t D ht hD with g | g
    · exact a6 t D ht g
    · exact Or.inr (by omega)
theorem w_nf2 : am_nf 2 = 2 := rfl
theorem w_mk_r (hn : 151 < am_n S) : am_r (w_mk S t) b i = if b = 130 ∧ i = t then some (am_n S) else if b = am_n S then (if i = 0 then some (am_n S + 1) else none) else if b = am_n S + 1 then none else am_r S b i := by
  unfold w_mk
  simp only [x_r_R, x_r_N, x_n_N]
  by_cases e1 : b = 130
  · subst e1
    by_cases e2 : i = t
    · simp [e2]
    · simp [e2, show (130 : Nat) ≠ am_n S by omega, show (130 : Nat) ≠ am_n S + 1 by omega]
  · by_cases e3 : b = am_n S
    · subst e3
      by_cases e4 : i = 0 <;> simp [e1, e4]
    · simp [e1, e3]
theorem w_mk_k : am_k (w_mk S t) b = if b = am_n S + 1 then 20 else if b = am_n S then 2 else am_k S b := rfl
theorem w_mk_l : am_l (w_mk S t) b = if b = am_n S + 1 then 144 else if b = am_n S then 0 else am_l S b := rfl
theorem w_mk_i : am_i (w_mk S t) b i = if b = am_n S + 1 then 0 else if b = am_n S then 0 else am_i S b i := by
  show am_i (am_new (am_new S 2 0 (am_nf 2)) 20 144 144) b i = _
  rw [x_i_N, x_i_N]
  rfl
theorem w_mk_io (h : b < am_n S) : am_i (w_mk S t) b = am_i S b := by
  funext i
  rw [w_mk_i, if_neg (by omega), if_neg (by omega)]
theorem y_to0a (hC : w_C S) (hn : 151 < am_n S) (ht : t < 144) (h : am_r S 130 t = none) : fX4_toward w_N [.ref 129, .int (nI t)] S = kX4_toward_37 w_N [(0, .ref 129), (1, .int (nI t))] [] (w_mk S t) := by
  have gi : fX2_init w_N [.ref (am_n S)] (am_new S 2 0 (am_nf 2)) = some (.inl none, am_putR (am_new (am_new S 2 0 (am_nf 2)) 20 144 144) (am_n S) 0 (some (am_n S + 1))) := by
    have e1 : am_n (am_new S 2 0 (am_nf 2)) = am_n S + 1 := rfl
    simp (disch := omega) only [fX2_init, kX2_init_0, x_cs0, x_csi, x_csr, x_csn, x_csl, x_ret_v, x_ret_t, x_ret_n, x_tl_s, x_tl_n, x_lk0, x_lk, x_rem0, x_rem_i, x_rem_r, x_rem_l, x_rem2_0, x_rem2_i, x_rem2_r, x_rem2_l, x_pick0, x_pick_c, x_st1, x_st2, x_live, x_i, x_l, x_a, x_ild, x_lld, x_rld, x_ist, x_lst, x_rst, x_inc, x_ii, x_ll, x_li, x_cmp, x_ui, x_il, x_lti, x_idiv, x_irem, x_dup_i, x_dup_r, x_pop_i, x_pop_r, x_dupx_ir, x_dup2_ir, x_ifeq, x_iceq, x_iflt, x_iclt, x_ifge, x_icge, x_ifgt, x_icgt, x_ifle, x_icle, x_ifne, x_icne, x_ifnull_r, x_ifnull_n, x_ifnonnull_r, x_ifnonnull_n, x_sw, x_vret, x_iret, x_lret, x_zret, x_zret0, x_zret1, x_rf_s, x_rf_n, x_geti, x_getr, x_puti, x_putz, x_putr, x_ial, x_ias, x_lal, x_las, x_aal, x_aas, x_aast, x_alen, x_new, x_newa, x_copy, x_min, x_abs, x_minl, x_oinit, x_throw, x_callS0, x_callS1, x_callS2, x_callS3, x_callS4, x_callV0, x_callV1, x_callV2, x_callV3, x_callV4, x_callV5, x_retI_v, x_callI0, x_callI1, x_callI2, x_retN_v, x_callSN1, x_callSN2, x_callT0, x_callT1, x_fn, x_sl0, x_sli, x_slr, x_sll, x_ar0, x_ari, x_arr, x_arl, ↓reduceIte, Nat.reduceAdd, Nat.reduceSub, Nat.reduceMul, Nat.reduceEqDiff, Nat.reduceLeDiff, Nat.reduceLT, if_true, if_false, Nat.le_refl, and_true, true_and, and_self, reduceCtorEq, or_false, false_or, or_true, true_or, Nat.zero_le, fa_lit, nI_add, w_mul, nI_ltI, nI_leI, nI_eq, nI_clamp, nI_toInt, if_pos, if_neg, w_div, w_rem2, x_k_I, x_l_I, x_r_I, x_j_I, x_n_I, x_z_I, x_i_Is, x_k_W, x_l_W, x_r_W, x_j_W, x_n_W, x_z_W, x_k_J, x_l_J, x_r_J, x_i_J, x_n_J, x_z_J, x_k_R, x_l_R, x_j_R, x_i_R, x_n_R, x_z_R, x_n_N, x_z_N, x_k_N, x_l_N, x_i_N, x_j_N, x_r_N, e1]
  have hk2 : am_k (am_putR (am_new (am_new S 2 0 (am_nf 2)) 20 144 144) (am_n S) 0 (some (am_n S + 1))) (am_n S) = 2 := by
    rw [x_k_R, x_k_N, x_k_N, if_neg (by rw [x_n_N]; omega), if_pos rfl]
  have hk130 : am_k (am_putR (am_new (am_new S 2 0 (am_nf 2)) 20 144 144) (am_n S) 0 (some (am_n S + 1))) 130 = 23 := by
    rw [x_k_R, x_k_N, x_k_N, if_neg (by rw [x_n_N]; omega), if_neg (by omega)]
    exact yk130 hC
  have hl130 : am_l (am_putR (am_new (am_new S 2 0 (am_nf 2)) 20 144 144) (am_n S) 0 (some (am_n S + 1))) 130 = 144 := by
    rw [x_l_R, x_l_N, x_l_N, if_neg (by rw [x_n_N]; omega), if_neg (by omega)]
    exact yl130 hC
  unfold w_mk
  simp (disch := omega) only [fX4_toward, kX4_toward_0, x_cs0, x_csi, x_csr, x_csn, x_csl, x_ret_v, x_ret_t, x_ret_n, x_tl_s, x_tl_n, x_lk0, x_lk, x_rem0, x_rem_i, x_rem_r, x_rem_l, x_rem2_0, x_rem2_i, x_rem2_r, x_rem2_l, x_pick0, x_pick_c, x_st1, x_st2, x_live, x_i, x_l, x_a, x_ild, x_lld, x_rld, x_ist, x_lst, x_rst, x_inc, x_ii, x_ll, x_li, x_cmp, x_ui, x_il, x_lti, x_idiv, x_irem, x_dup_i, x_dup_r, x_pop_i, x_pop_r, x_dupx_ir, x_dup2_ir, x_ifeq, x_iceq, x_iflt, x_iclt, x_ifge, x_icge, x_ifgt, x_icgt, x_ifle, x_icle, x_ifne, x_icne, x_ifnull_r, x_ifnull_n, x_ifnonnull_r, x_ifnonnull_n, x_sw, x_vret, x_iret, x_lret, x_zret, x_zret0, x_zret1, x_rf_s, x_rf_n, x_geti, x_getr, x_puti, x_putz, x_putr, x_ial, x_ias, x_lal, x_las, x_aal, x_aas, x_aast, x_alen, x_new, x_newa, x_copy, x_min, x_abs, x_minl, x_oinit, x_throw, x_callS0, x_callS1, x_callS2, x_callS3, x_callS4, x_callV0, x_callV1, x_callV2, x_callV3, x_callV4, x_callV5, x_retI_v, x_callI0, x_callI1, x_callI2, x_retN_v, x_callSN1, x_callSN2, x_callT0, x_callT1, x_fn, x_sl0, x_sli, x_slr, x_sll, x_ar0, x_ari, x_arr, x_arl, ↓reduceIte, Nat.reduceAdd, Nat.reduceSub, Nat.reduceMul, Nat.reduceEqDiff, Nat.reduceLeDiff, Nat.reduceLT, if_true, if_false, Nat.le_refl, and_true, true_and, and_self, reduceCtorEq, or_false, false_or, or_true, true_or, Nat.zero_le, fa_lit, nI_add, w_mul, nI_ltI, nI_leI, nI_eq, nI_clamp, nI_toInt, if_pos, if_neg, w_div, w_rem2, yk100 hC, yk125 hC, yk126 hC, yk127 hC, yk128 hC, yk129 hC, yk130 hC, yk131 hC, yk132 hC, yk133 hC, yk134 hC, yk135 hC, yk136 hC, yk137 hC, yl126 hC, yl128 hC, yl130 hC, yl131 hC, yl133 hC, yl137 hC, yr100_0 hC, yr100_1 hC, yr100_2 hC, yr100_3 hC, yr100_4 hC, yr100_5 hC, yr100_6 hC, yr100_7 hC, yr100_8 hC, yr100_9 hC, yr100_10 hC, yr125_0 hC, yr127_0 hC, yr129_0 hC, yr129_1 hC, yr129_2 hC, yr132_0 hC, yr134_0 hC, yr135_0 hC, yr135_1 hC, yr136_0 hC, yr136_1 hC, h, va_rf, gi, hk2, hk130, hl130]
theorem y_to0b (hC : w_C S) (ht : t < 144) (h : am_r S 130 t = some D) : fX4_toward w_N [.ref 129, .int (nI t)] S = kX4_toward_37 w_N [(0, .ref 129), (1, .int (nI t))] [] S := by
  simp (disch := omega) only [fX4_toward, kX4_toward_0, x_cs0, x_csi, x_csr, x_csn, x_csl, x_ret_v, x_ret_t, x_ret_n, x_tl_s, x_tl_n, x_lk0, x_lk, x_rem0, x_rem_i, x_rem_r, x_rem_l, x_rem2_0, x_rem2_i, x_rem2_r, x_rem2_l, x_pick0, x_pick_c, x_st1, x_st2, x_live, x_i, x_l, x_a, x_ild, x_lld, x_rld, x_ist, x_lst, x_rst, x_inc, x_ii, x_ll, x_li, x_cmp, x_ui, x_il, x_lti, x_idiv, x_irem, x_dup_i, x_dup_r, x_pop_i, x_pop_r, x_dupx_ir, x_dup2_ir, x_ifeq, x_iceq, x_iflt, x_iclt, x_ifge, x_icge, x_ifgt, x_icgt, x_ifle, x_icle, x_ifne, x_icne, x_ifnull_r, x_ifnull_n, x_ifnonnull_r, x_ifnonnull_n, x_sw, x_vret, x_iret, x_lret, x_zret, x_zret0, x_zret1, x_rf_s, x_rf_n, x_geti, x_getr, x_puti, x_putz, x_putr, x_ial, x_ias, x_lal, x_las, x_aal, x_aas, x_aast, x_alen, x_new, x_newa, x_copy, x_min, x_abs, x_minl, x_oinit, x_throw, x_callS0, x_callS1, x_callS2, x_callS3, x_callS4, x_callV0, x_callV1, x_callV2, x_callV3, x_callV4, x_callV5, x_retI_v, x_callI0, x_callI1, x_callI2, x_retN_v, x_callSN1, x_callSN2, x_callT0, x_callT1, x_fn, x_sl0, x_sli, x_slr, x_sll, x_ar0, x_ari, x_arr, x_arl, ↓reduceIte, Nat.reduceAdd, Nat.reduceSub, Nat.reduceMul, Nat.reduceEqDiff, Nat.reduceLeDiff, Nat.reduceLT, if_true, if_false, Nat.le_refl, and_true, true_and, and_self, reduceCtorEq, or_false, false_or, or_true, true_or, Nat.zero_le, fa_lit, nI_add, w_mul, nI_ltI, nI_leI, nI_eq, nI_clamp, nI_toInt, if_pos, if_neg, w_div, w_rem2, yk100 hC, yk125 hC, yk126 hC, yk127 hC, yk128 hC, yk129 hC, yk130 hC, yk131 hC, yk132 hC, yk133 hC, yk134 hC, yk135 hC, yk136 hC, yk137 hC, yl126 hC, yl128 hC, yl130 hC, yl131 hC, yl133 hC, yl137 hC, yr100_0 hC, yr100_1 hC, yr100_2 hC, yr100_3 hC, yr100_4 hC, yr100_5 hC, yr100_6 hC, yr100_7 hC, yr100_8 hC, yr100_9 hC, yr100_10 hC, yr125_0 hC, yr127_0 hC, yr129_0 hC, yr129_1 hC, yr129_2 hC, yr132_0 hC, yr134_0 hC, yr135_0 hC, yr135_1 hC, yr136_0 hC, yr136_1 hC, h, va_rf]
theorem w_mk_r0 (hn : 151 < am_n S) : am_r (w_mk S t) 130 i = if i = t then some (am_n S) else am_r S 130 i := by
  rw [w_mk_r hn]
  by_cases e : i = t
  · rw [if_pos ⟨rfl, e⟩, if_pos e]
  · rw [if_neg (fun q => e q.2), if_neg (by omega), if_neg (by omega), if_neg e]
theorem w_mk_j (h : b < am_n S) : am_j (w_mk S t) b = am_j S b := by
  show am_j (am_new (am_new S 2 0 (am_nf 2)) 20 144 144) b = _
  funext i
  rw [x_j_N, x_j_N, if_neg (by rw [x_n_N]; omega), if_neg (by omega)]
end Y7
