/-! THE CLASS: all its situations; the history's ring -/
def w_Si (S : am_S) (i : Nat) : Option Nat := if i = 0 then some 101 else if i = 1 then some 113 else if i = 2 then am_r S 100 11 else if i < 13 then am_r S 128 (i - 3) else none
/-- where things are that are made when needed -/
def w_sh (S : am_S) : Prop := (∀ i b, w_Si S i = some b → w_A S b ∧ b + 12 ≤ am_n S ∧ (i < 2 ∨ 151 < b)) ∧ (∀ i j b, w_Si S i = some b → w_Si S j = some b → i = j) ∧ ∀ t, am_r S 100 12 = some t → am_k S t = 9 ∧ am_k S (t + 1) = 20 ∧ am_l S (t + 1) = 3000 ∧ am_r S t 0 = some (t + 1) ∧ 151 < t ∧ t + 2 ≤ am_n S
section H1
variable {S S' T : am_S} {a b c o p q i j m n u t D : Nat} {P : Nat → Prop} {R R' : Nat → Int32}
theorem w_A_kind (h : w_A S a) (hi : i < 12) : am_k S (a + i) = if i = 0 then 6 else if i % 2 = 1 then 20 else 7 := by
  rcases (show i = 0 ∨ i = 1 ∨ i = 2 ∨ i = 3 ∨ i = 4 ∨ i = 5 ∨ i = 6 ∨ i = 7 ∨ i = 8 ∨ i = 9 ∨ i = 10 ∨ i = 11 by omega) with rfl | rfl | rfl | rfl | rfl | rfl | rfl | rfl | rfl | rfl | rfl | rfl
  · exact xk0 h
  · exact xk1 h
  · exact xk2 h
  · exact xk3 h
  · exact xk4 h
  · exact xk5 h
  · exact xk6 h
  · exact xk7 h
  · exact xk8 h
  · exact xk9 h
  · exact xk10 h
  · exact xk11 h
theorem w_sep1 (ha : w_A S a) (hb : w_A S b) (h : a < b) : a + 12 ≤ b := by
  rcases Nat.lt_or_ge b (a + 12) with c | c
  · have k1 := w_A_kind ha (i := b - a) (by omega)
    rw [show a + (b - a) = b by omega, xk0 hb, if_neg (by omega)] at k1
    split at k1 <;> omega
  · exact c
theorem w_sep (ha : w_A S a) (hb : w_A S b) (h : a ≠ b) : a + 12 ≤ b ∨ b + 12 ≤ a := by
  rcases Nat.lt_or_gt_of_ne h with c | c
  · exact Or.inl (w_sep1 ha hb c)
  · exact Or.inr (w_sep1 hb ha c)
/-- a thing of another kind, and the row behind it, lie outside -/
theorem w_sepK (ha : w_A S a) (hk : am_k S t ≠ 6 ∧ am_k S t ≠ 7 ∧ am_k S t ≠ 20) (hk2 : am_k S (t + 1) = 20) (h : q = t ∨ q = t + 1) : ¬ (a ≤ q ∧ q < a + 12) := by
  have h1 : ¬ (a ≤ t ∧ t < a + 12) := fun c => by
    have k1 := w_A_kind ha (i := t - a) (by omega)
    rw [show a + (t - a) = t by omega] at k1
    split at k1
    · exact hk.1 k1
    · split at k1
      · exact hk.2.2 k1
      · exact hk.2.1 k1
  intro c
  rcases h with e | e
  · exact h1 (by omega)
  · have e2 : a = t + 1 := by omega
    have := xk0 ha
    rw [e2, hk2] at this
    omega
theorem w_sepT (ha : w_A S a) (hT : w_T S R) (h : w_inT S q) : ¬ (a ≤ q ∧ q < a + 12) := by
  obtain ⟨t, D, ht, hD, e⟩ := h
  obtain ⟨g1, g2, g3⟩ := hT.1 t D ht hD
  exact w_sepK ha (by rw [g2.1]; omega) g2.2.2.1 e
theorem w_C.fr (h : w_C S) (hk : ∀ b, b < 152 → am_k S' b = am_k S b ∧ am_l S' b = am_l S b) (hr : ∀ b j, b < 138 → ¬ (101 ≤ b ∧ b < 127 ∧ b ≠ 125) → b ≠ 128 → b ≠ 130 → b ≠ 131 → ¬ (b = 100 ∧ 11 ≤ j) → am_r S' b j = am_r S b j) : w_C S' := by
  have k : ∀ b, b < 152 → am_k S' b = am_k S b := fun b hb => (hk b hb).1
  have l : ∀ b, b < 152 → am_l S' b = am_l S b := fun b hb => (hk b hb).2
  unfold w_C at h ⊢
  simp (disch := omega) only [k, l, hr]
  exact h
theorem w_Z.fr (h : w_Z S) (hn : 151 < am_n S) (hF : w_F P S S') (hP : ∀ b, 138 ≤ b → b ≤ 151 → ¬ P b) : w_Z S' := by
  have k : ∀ b, b < 152 → am_k S' b = am_k S b := fun b hb => hF.k (by omega)
  have l : ∀ b, b < 152 → am_l S' b = am_l S b := fun b hb => hF.l (by omega)
  have r : ∀ b, 138 ≤ b → b ≤ 151 → am_r S' b = am_r S b := fun b h1 h2 => hF.r (by omega) (hP b h1 h2)
  unfold w_Z at h ⊢
  simp (disch := omega) only [k, l, r]
  exact h
theorem w_T.fr (h : w_T S R) (hn : 151 < am_n S) (hF : w_F P S S') (h130 : am_r S' 130 = am_r S 130) (hP : ∀ q, w_inT S q → ¬ P q) : w_T S' R := by
  refine ⟨fun t D ht hD => ?_, fun t t' D ht ht' h1 h2 => h.2 t t' D ht ht' (by rw [← h130]; exact h1) (by rw [← h130]; exact h2)⟩
  rw [h130] at hD
  obtain ⟨g1, ⟨d1, d2, d3, d4⟩, g3⟩ := h.1 t D ht hD
  have p0 := hP D ⟨t, D, ht, hD, Or.inl rfl⟩
  have p1 := hP (D + 1) ⟨t, D, ht, hD, Or.inr rfl⟩
  have hn2 := hF.1
  refine ⟨⟨g1.1, by omega⟩, ⟨by rw [hF.k (by omega)]; exact d1, by rw [hF.r (by omega) p0]; exact d2, by rw [hF.k (by omega)]; exact d3, by rw [hF.l (by omega)]; exact d4⟩, ?_⟩
  rw [hF.i (b := D) (by omega) p0, hF.i (b := D + 1) (by omega) p1]
  exact g3
/-! the ring -/
theorem y_hcount (hC : w_C S) : fX3_count w_N [.ref 127] S = some (.inl (some (.int (am_i S 127 2))), S) := by
  simp (disch := omega) only [fX3_count, kX3_count_0, x_cs0, x_csi, x_csr, x_csn, x_csl, x_ret_v, x_ret_t, x_ret_n, x_tl_s, x_tl_n, x_lk0, x_lk, x_rem0, x_rem_i, x_rem_r, x_rem_l, x_rem2_0, x_rem2_i, x_rem2_r, x_rem2_l, x_pick0, x_pick_c, x_st1, x_st2, x_live, x_i, x_l, x_a, x_ild, x_lld, x_rld, x_ist, x_lst, x_rst, x_inc, x_ii, x_ll, x_li, x_cmp, x_ui, x_il, x_lti, x_idiv, x_irem, x_dup_i, x_dup_r, x_pop_i, x_pop_r, x_dupx_ir, x_dup2_ir, x_ifeq, x_iceq, x_iflt, x_iclt, x_ifge, x_icge, x_ifgt, x_icgt, x_ifle, x_icle, x_ifne, x_icne, x_ifnull_r, x_ifnull_n, x_ifnonnull_r, x_ifnonnull_n, x_sw, x_vret, x_iret, x_lret, x_zret, x_zret0, x_zret1, x_rf_s, x_rf_n, x_geti, x_getr, x_puti, x_putz, x_putr, x_ial, x_ias, x_lal, x_las, x_aal, x_aas, x_aast, x_alen, x_new, x_newa, x_copy, x_min, x_abs, x_minl, x_oinit, x_throw, x_callS0, x_callS1, x_callS2, x_callS3, x_callS4, x_callV0, x_callV1, x_callV2, x_callV3, x_callV4, x_callV5, x_retI_v, x_callI0, x_callI1, x_callI2, x_retN_v, x_callSN1, x_callSN2, x_callT0, x_callT1, x_fn, x_sl0, x_sli, x_slr, x_sll, x_ar0, x_ari, x_arr, x_arl, ↓reduceIte, Nat.reduceAdd, Nat.reduceSub, Nat.reduceMul, Nat.reduceEqDiff, Nat.reduceLeDiff, Nat.reduceLT, if_true, if_false, Nat.le_refl, and_true, true_and, and_self, reduceCtorEq, or_false, false_or, or_true, true_or, Nat.zero_le, fa_lit, nI_add, w_mul, nI_ltI, nI_leI, nI_eq, nI_clamp, nI_toInt, if_pos, if_neg, w_div, w_rem2, yk100 hC, yk125 hC, yk126 hC, yk127 hC, yk128 hC, yk129 hC, yk130 hC, yk131 hC, yk132 hC, yk133 hC, yk134 hC, yk135 hC, yk136 hC, yk137 hC, yl126 hC, yl128 hC, yl130 hC, yl131 hC, yl133 hC, yl137 hC, yr100_0 hC, yr100_1 hC, yr100_2 hC, yr100_3 hC, yr100_4 hC, yr100_5 hC, yr100_6 hC, yr100_7 hC, yr100_8 hC, yr100_9 hC, yr100_10 hC, yr125_0 hC, yr127_0 hC, yr129_0 hC, yr129_1 hC, yr129_2 hC, yr132_0 hC, yr134_0 hC, yr135_0 hC, yr135_1 hC, yr136_0 hC, yr136_1 hC]
theorem y_hclear (hC : w_C S) : fX3_clear w_N [.ref 127] S = some (.inl none, am_putI (am_putI S 127 1 (nI 0)) 127 2 (nI 0)) := by
  simp (disch := omega) only [fX3_clear, kX3_clear_0, x_cs0, x_csi, x_csr, x_csn, x_csl, x_ret_v, x_ret_t, x_ret_n, x_tl_s, x_tl_n, x_lk0, x_lk, x_rem0, x_rem_i, x_rem_r, x_rem_l, x_rem2_0, x_rem2_i, x_rem2_r, x_rem2_l, x_pick0, x_pick_c, x_st1, x_st2, x_live, x_i, x_l, x_a, x_ild, x_lld, x_rld, x_ist, x_lst, x_rst, x_inc, x_ii, x_ll, x_li, x_cmp, x_ui, x_il, x_lti, x_idiv, x_irem, x_dup_i, x_dup_r, x_pop_i, x_pop_r, x_dupx_ir, x_dup2_ir, x_ifeq, x_iceq, x_iflt, x_iclt, x_ifge, x_icge, x_ifgt, x_icgt, x_ifle, x_icle, x_ifne, x_icne, x_ifnull_r, x_ifnull_n, x_ifnonnull_r, x_ifnonnull_n, x_sw, x_vret, x_iret, x_lret, x_zret, x_zret0, x_zret1, x_rf_s, x_rf_n, x_geti, x_getr, x_puti, x_putz, x_putr, x_ial, x_ias, x_lal, x_las, x_aal, x_aas, x_aast, x_alen, x_new, x_newa, x_copy, x_min, x_abs, x_minl, x_oinit, x_throw, x_callS0, x_callS1, x_callS2, x_callS3, x_callS4, x_callV0, x_callV1, x_callV2, x_callV3, x_callV4, x_callV5, x_retI_v, x_callI0, x_callI1, x_callI2, x_retN_v, x_callSN1, x_callSN2, x_callT0, x_callT1, x_fn, x_sl0, x_sli, x_slr, x_sll, x_ar0, x_ari, x_arr, x_arl, ↓reduceIte, Nat.reduceAdd, Nat.reduceSub, Nat.reduceMul, Nat.reduceEqDiff, Nat.reduceLeDiff, Nat.reduceLT, if_true, if_false, Nat.le_refl, and_true, true_and, and_self, reduceCtorEq, or_false, false_or, or_true, true_or, Nat.zero_le, fa_lit, nI_add, w_mul, nI_ltI, nI_leI, nI_eq, nI_clamp, nI_toInt, if_pos, if_neg, w_div, w_rem2, yk100 hC, yk125 hC, yk126 hC, yk127 hC, yk128 hC, yk129 hC, yk130 hC, yk131 hC, yk132 hC, yk133 hC, yk134 hC, yk135 hC, yk136 hC, yk137 hC, yl126 hC, yl128 hC, yl130 hC, yl131 hC, yl133 hC, yl137 hC, yr100_0 hC, yr100_1 hC, yr100_2 hC, yr100_3 hC, yr100_4 hC, yr100_5 hC, yr100_6 hC, yr100_7 hC, yr100_8 hC, yr100_9 hC, yr100_10 hC, yr125_0 hC, yr127_0 hC, yr129_0 hC, yr129_1 hC, yr129_2 hC, yr132_0 hC, yr134_0 hC, yr135_0 hC, yr135_1 hC, yr136_0 hC, yr136_1 hC, x_k_I, x_l_I, x_r_I, x_j_I, x_n_I, x_z_I, x_i_Is, x_k_W, x_l_W, x_r_W, x_j_W, x_n_W, x_z_W, x_k_J, x_l_J, x_r_J, x_i_J, x_n_J, x_z_J, x_k_R, x_l_R, x_j_R, x_i_R, x_n_R, x_z_R, x_n_N, x_z_N, x_k_N, x_l_N, x_i_N, x_j_N, x_r_N]
/-- what may differ behind remember -/
abbrev w_PH (b q : Nat) : Prop := q = 127 ∨ q = 128 ∨ b ≤ q ∧ q < b + 12
def s_ho (c o : Nat) : Nat := if c = 10 then (o + 1) % 10 else o
def s_hc (c : Nat) : Nat := if c = 10 then 9 else c
abbrev s_hp (c o : Nat) : Nat := (s_ho c o + s_hc c) % 10
theorem y_rem77 (hC : w_C S) (hA : w_A S 101) (hR : w_R S 101 R) (hB : s_VB R) (hb : w_A S b) (hd : 151 < b) (hp : p < 10) (hr : am_r S 128 p = some b) (hc : am_i S 127 2 = nI c) (hc2 : c < 10) :
    ∃ S', kX3_remember_77 w_N [(2, .int (nI p)), (0, .ref 127), (1, .ref 101)] [] S = some (.inl none, S') ∧ w_R S' b R ∧ w_I (fun q => q = 127 ∨ b ≤ q ∧ q < b + 12) S S' ∧ w_A S' b ∧ am_i S' 127 2 = nI (c + 1) ∧ am_i S' 127 1 = am_i S 127 1 := by
  obtain ⟨f1, f2, f3⟩ := y_copyS hA hb hR hB (by omega)
  generalize w_cS7 S 101 b R = T at *
  have kT : am_k T = am_k S := f3.1.2.2.1
  have iT : am_i T 127 = am_i S 127 := f3.1.i (by omega)
  have k6 := xk0 hb
  refine ⟨am_putI T 127 2 (nI (c + 1)), ?_, ?_, (f3.1.mono (fun q hq => Or.inr hq)).tr (w_I.put (Or.inl rfl)), ?_, x_i_Is, ?_⟩
  · simp (disch := omega) only [kX3_remember_77, x_cs0, x_csi, x_csr, x_csn, x_csl, x_ret_v, x_ret_t, x_ret_n, x_tl_s, x_tl_n, x_lk0, x_lk, x_rem0, x_rem_i, x_rem_r, x_rem_l, x_rem2_0, x_rem2_i, x_rem2_r, x_rem2_l, x_pick0, x_pick_c, x_st1, x_st2, x_live, x_i, x_l, x_a, x_ild, x_lld, x_rld, x_ist, x_lst, x_rst, x_inc, x_ii, x_ll, x_li, x_cmp, x_ui, x_il, x_lti, x_idiv, x_irem, x_dup_i, x_dup_r, x_pop_i, x_pop_r, x_dupx_ir, x_dup2_ir, x_ifeq, x_iceq, x_iflt, x_iclt, x_ifge, x_icge, x_ifgt, x_icgt, x_ifle, x_icle, x_ifne, x_icne, x_ifnull_r, x_ifnull_n, x_ifnonnull_r, x_ifnonnull_n, x_sw, x_vret, x_iret, x_lret, x_zret, x_zret0, x_zret1, x_rf_s, x_rf_n, x_geti, x_getr, x_puti, x_putz, x_putr, x_ial, x_ias, x_lal, x_las, x_aal, x_aas, x_aast, x_alen, x_new, x_newa, x_copy, x_min, x_abs, x_minl, x_oinit, x_throw, x_callS0, x_callS1, x_callS2, x_callS3, x_callS4, x_callV0, x_callV1, x_callV2, x_callV3, x_callV4, x_callV5, x_retI_v, x_callI0, x_callI1, x_callI2, x_retN_v, x_callSN1, x_callSN2, x_callT0, x_callT1, x_fn, x_sl0, x_sli, x_slr, x_sll, x_ar0, x_ari, x_arr, x_arl, ↓reduceIte, Nat.reduceAdd, Nat.reduceSub, Nat.reduceMul, Nat.reduceEqDiff, Nat.reduceLeDiff, Nat.reduceLT, if_true, if_false, Nat.le_refl, and_true, true_and, and_self, reduceCtorEq, or_false, false_or, or_true, true_or, Nat.zero_le, fa_lit, nI_add, w_mul, nI_ltI, nI_leI, nI_eq, nI_clamp, nI_toInt, if_pos, if_neg, w_div, w_rem2, yk100 hC, yk125 hC, yk126 hC, yk127 hC, yk128 hC, yk129 hC, yk130 hC, yk131 hC, yk132 hC, yk133 hC, yk134 hC, yk135 hC, yk136 hC, yk137 hC, yl126 hC, yl128 hC, yl130 hC, yl131 hC, yl133 hC, yl137 hC, yr100_0 hC, yr100_1 hC, yr100_2 hC, yr100_3 hC, yr100_4 hC, yr100_5 hC, yr100_6 hC, yr100_7 hC, yr100_8 hC, yr100_9 hC, yr100_10 hC, yr125_0 hC, yr127_0 hC, yr129_0 hC, yr129_1 hC, yr129_2 hC, yr132_0 hC, yr134_0 hC, yr135_0 hC, yr135_1 hC, yr136_0 hC, yr136_1 hC, x_k_I, x_l_I, x_r_I, x_j_I, x_n_I, x_z_I, x_i_Is, x_k_W, x_l_W, x_r_W, x_j_W, x_n_W, x_z_W, x_k_J, x_l_J, x_r_J, x_i_J, x_n_J, x_z_J, x_k_R, x_l_R, x_j_R, x_i_R, x_n_R, x_z_R, x_n_N, x_z_N, x_k_N, x_l_N, x_i_N, x_j_N, x_r_N, hr, va_rf, k6, f1, kT, iT, hc]
  · exact (w_I.put (P := fun q => q = 127) rfl).Ra f2 (fun q h1 h2 => by omega)
  · exact (w_I.put (P := fun q => q = 127) rfl).Aa (f3.A hb) (fun q h1 h2 => by omega)
  · rw [x_i_I, if_pos rfl, if_neg (by omega), iT]
theorem y_newSit' : ∃ W, fX6_init w_N [.ref (am_n S)] (am_new S 6 0 13) = some (.inl none, W) ∧ w_A W (am_n S) ∧ w_R W (am_n S) s_R0 ∧ w_F (fun _ => False) S W ∧ am_n W = am_n S + 12 ∧ am_z W = am_z S + 953 := ⟨_, y_newSit, w_nS_A, w_nS_R, w_F.nS, x_n_nS, x_z_nS⟩
theorem y_rem28 (hC : w_C S) (hs : w_sh S) (hn : 151 < am_n S) (hR : w_R S 101 R) (hB : s_VB R) (hc : am_i S 127 2 = nI c) (hc2 : c < 10) (ho : am_i S 127 1 = nI o) (ho2 : o < 10) :
    ∃ S' b, kX3_remember_28 w_N [(0, .ref 127), (1, .ref 101)] [] S = some (.inl none, S') ∧ w_R S' b R ∧ w_A S' b ∧ am_i S' 127 2 = nI (c + 1) ∧ am_i S' 127 1 = nI o ∧ w_F (w_PH b) S S' ∧ am_r S' 127 = am_r S 127 ∧ am_r S' 128 ((o + c) % 10) = some b ∧ (∀ k, k ≠ (o + c) % 10 → am_r S' 128 k = am_r S 128 k) ∧ 151 < b ∧ b + 12 ≤ am_n S' ∧ (am_r S 128 ((o + c) % 10) = some b ∨ am_n S ≤ b) ∧ (∀ q, b ≤ q → q < b + 12 → q < am_n S → am_r S' q = am_r S q) ∧ am_n S' ≤ am_n S + 12 ∧ am_z S' ≤ am_z S + 953 := by
  have hA : w_A S 101 := (hs.1 0 101 rfl).1
  have hp : (o + c) % 10 < 10 := Nat.mod_lt _ (by omega)
  have head : ∀ r, kX3_remember_77 w_N [(2, .int (nI ((o + c) % 10))), (0, .ref 127), (1, .ref 101)] [] S = r → am_r S 128 ((o + c) % 10) ≠ none → kX3_remember_28 w_N [(0, .ref 127), (1, .ref 101)] [] S = r := fun r hr hne => by
    cases e : am_r S 128 ((o + c) % 10) with
    | none => exact absurd e hne
    | some b => 
      rw [← hr]
      simp (disch := omega) only [kX3_remember_28, x_cs0, x_csi, x_csr, x_csn, x_csl, x_ret_v, x_ret_t, x_ret_n, x_tl_s, x_tl_n, x_lk0, x_lk, x_rem0, x_rem_i, x_rem_r, x_rem_l, x_rem2_0, x_rem2_i, x_rem2_r, x_rem2_l, x_pick0, x_pick_c, x_st1, x_st2, x_live, x_i, x_l, x_a, x_ild, x_lld, x_rld, x_ist, x_lst, x_rst, x_inc, x_ii, x_ll, x_li, x_cmp, x_ui, x_il, x_lti, x_idiv, x_irem, x_dup_i, x_dup_r, x_pop_i, x_pop_r, x_dupx_ir, x_dup2_ir, x_ifeq, x_iceq, x_iflt, x_iclt, x_ifge, x_icge, x_ifgt, x_icgt, x_ifle, x_icle, x_ifne, x_icne, x_ifnull_r, x_ifnull_n, x_ifnonnull_r, x_ifnonnull_n, x_sw, x_vret, x_iret, x_lret, x_zret, x_zret0, x_zret1, x_rf_s, x_rf_n, x_geti, x_getr, x_puti, x_putz, x_putr, x_ial, x_ias, x_lal, x_las, x_aal, x_aas, x_aast, x_alen, x_new, x_newa, x_copy, x_min, x_abs, x_minl, x_oinit, x_throw, x_callS0, x_callS1, x_callS2, x_callS3, x_callS4, x_callV0, x_callV1, x_callV2, x_callV3, x_callV4, x_callV5, x_retI_v, x_callI0, x_callI1, x_callI2, x_retN_v, x_callSN1, x_callSN2, x_callT0, x_callT1, x_fn, x_sl0, x_sli, x_slr, x_sll, x_ar0, x_ari, x_arr, x_arl, ↓reduceIte, Nat.reduceAdd, Nat.reduceSub, Nat.reduceMul, Nat.reduceEqDiff, Nat.reduceLeDiff, Nat.reduceLT, if_true, if_false, Nat.le_refl, and_true, true_and, and_self, reduceCtorEq, or_false, false_or, or_true, true_or, Nat.zero_le, fa_lit, nI_add, w_mul, nI_ltI, nI_leI, nI_eq, nI_clamp, nI_toInt, if_pos, if_neg, w_div, w_rem2, yk100 hC, yk125 hC, yk126 hC, yk127 hC, yk128 hC, yk129 hC, yk130 hC, yk131 hC, yk132 hC, yk133 hC, yk134 hC, yk135 hC, yk136 hC, yk137 hC, yl126 hC, yl128 hC, yl130 hC, yl131 hC, yl133 hC, yl137 hC, yr100_0 hC, yr100_1 hC, yr100_2 hC, yr100_3 hC, yr100_4 hC, yr100_5 hC, yr100_6 hC, yr100_7 hC, yr100_8 hC, yr100_9 hC, yr100_10 hC, yr125_0 hC, yr127_0 hC, yr129_0 hC, yr129_1 hC, yr129_2 hC, yr132_0 hC, yr134_0 hC, yr135_0 hC, yr135_1 hC, yr136_0 hC, yr136_1 hC, hc, ho, e, va_rf]
  cases e : am_r S 128 ((o + c) % 10) with
  | some b =>
    have hi := hs.1 (3 + (o + c) % 10) b (by
      unfold w_Si
      rw [if_neg (by omega), if_neg (by omega), if_neg (by omega), if_pos (by omega), Nat.add_sub_cancel_left]
      exact e)
    have h151 : 151 < b := by
      rcases hi.2.2 with h | h
      · omega
      · exact h
    obtain ⟨S', f1, f2, f3, f4, f5, f6⟩ := y_rem77 (p := (o + c) % 10) hC hA hR hB hi.1 h151 hp e hc hc2
    have er : am_r S' = am_r S := f3.2.2.2.2.2.1
    have en : am_n S' = am_n S := f3.1
    have ez : am_z S' = am_z S := f3.2.1
    refine ⟨S', b, head _ f1 (by rw [e]; exact fun q => by cases q), f2, f4, f5, f6.trans ho, (w_F.of f3).mono (fun q hq => hq.imp id (fun w => Or.inr w)), by rw [er], by rw [er]; exact e, fun k _ => by rw [er], h151, by rw [en]; exact hi.2.1, Or.inl rfl, fun q _ _ _ => by rw [er], by omega, by omega⟩
  | none =>
    obtain ⟨W, gi, wA, -, F1, n1, z1⟩ := y_newSit' (S := S)
    have k6 : am_k W (am_n S) = 6 := xk0 wA
    have hC1 : w_C W := hC.fr (fun b hb => ⟨F1.k (by omega), F1.l (by omega)⟩) (fun b j hb _ _ _ _ _ => by rw [F1.r (by omega) (fun q => q)])
    have hC2 : w_C (am_putR W 128 ((o + c) % 10) (some (am_n S))) := hC1.fr (fun b hb => ⟨by rw [x_k_R], by rw [x_l_R]⟩) (fun b j hb _ h3 _ _ _ => by rw [x_r_R, if_neg h3])
    have I2 : ∀ b, b ≠ 128 → am_r (am_putR W 128 ((o + c) % 10) (some (am_n S))) b = am_r W b := fun b hb => by
      funext i
      rw [x_r_R, if_neg hb]
    have F2 : w_F (fun q => q = 128) W (am_putR W 128 ((o + c) % 10) (some (am_n S))) := w_F.putR (Or.inl rfl)
    have hA1 := F1.A hA (by omega) (fun _ _ _ q => q)
    have hA2 := F2.A hA1 (by omega) (fun q h1 h2 => by omega)
    have hR2 := F2.Rw (F1.Rw hR (by omega) (fun _ _ _ q => q)) (by omega) (fun q h1 h2 => by omega)
    have hb2 := F2.A wA (by omega) (fun q h1 h2 => by omega)
    have i127 : am_i (am_putR W 128 ((o + c) % 10) (some (am_n S))) 127 = am_i S 127 := by
      rw [x_i_R, F1.i (by omega) (fun q => q)]
    obtain ⟨S', f1, f2, f3, f4, f5, f6⟩ := y_rem77 (p := (o + c) % 10) hC2 hA2 hR2 hB hb2 (by omega) hp (by rw [x_r_R, if_pos rfl, if_pos rfl]) (by rw [i127]; exact hc) hc2
    have er : am_r S' = am_r (am_putR W 128 ((o + c) % 10) (some (am_n S))) := f3.2.2.2.2.2.1
    have en : am_n S' = am_n S + 12 := f3.1.trans (x_n_R.trans n1)
    have ez : am_z S' = am_z S + 953 := f3.2.1.trans (x_z_R.trans z1)
    have e1 : am_r S' 128 ((o + c) % 10) = some (am_n S) := by rw [er, x_r_R, if_pos rfl, if_pos rfl]
    have nf6 : am_nf 6 = 13 := rfl
    refine ⟨S', am_n S, ?_, f2, f4, f5, by rw [f6, i127]; exact ho, ?_, ?_, e1, fun k hk => ?_, hn, by omega, Or.inr (Nat.le_refl _), fun q h1 h2 h3 => by omega, by omega, by omega⟩
    · rw [← f1]
      simp (disch := omega) only [kX3_remember_28, x_cs0, x_csi, x_csr, x_csn, x_csl, x_ret_v, x_ret_t, x_ret_n, x_tl_s, x_tl_n, x_lk0, x_lk, x_rem0, x_rem_i, x_rem_r, x_rem_l, x_rem2_0, x_rem2_i, x_rem2_r, x_rem2_l, x_pick0, x_pick_c, x_st1, x_st2, x_live, x_i, x_l, x_a, x_ild, x_lld, x_rld, x_ist, x_lst, x_rst, x_inc, x_ii, x_ll, x_li, x_cmp, x_ui, x_il, x_lti, x_idiv, x_irem, x_dup_i, x_dup_r, x_pop_i, x_pop_r, x_dupx_ir, x_dup2_ir, x_ifeq, x_iceq, x_iflt, x_iclt, x_ifge, x_icge, x_ifgt, x_icgt, x_ifle, x_icle, x_ifne, x_icne, x_ifnull_r, x_ifnull_n, x_ifnonnull_r, x_ifnonnull_n, x_sw, x_vret, x_iret, x_lret, x_zret, x_zret0, x_zret1, x_rf_s, x_rf_n, x_geti, x_getr, x_puti, x_putz, x_putr, x_ial, x_ias, x_lal, x_las, x_aal, x_aas, x_aast, x_alen, x_new, x_newa, x_copy, x_min, x_abs, x_minl, x_oinit, x_throw, x_callS0, x_callS1, x_callS2, x_callS3, x_callS4, x_callV0, x_callV1, x_callV2, x_callV3, x_callV4, x_callV5, x_retI_v, x_callI0, x_callI1, x_callI2, x_retN_v, x_callSN1, x_callSN2, x_callT0, x_callT1, x_fn, x_sl0, x_sli, x_slr, x_sll, x_ar0, x_ari, x_arr, x_arl, ↓reduceIte, Nat.reduceAdd, Nat.reduceSub, Nat.reduceMul, Nat.reduceEqDiff, Nat.reduceLeDiff, Nat.reduceLT, if_true, if_false, Nat.le_refl, and_true, true_and, and_self, reduceCtorEq, or_false, false_or, or_true, true_or, Nat.zero_le, fa_lit, nI_add, w_mul, nI_ltI, nI_leI, nI_eq, nI_clamp, nI_toInt, if_pos, if_neg, w_div, w_rem2, yk100 hC, yk125 hC, yk126 hC, yk127 hC, yk128 hC, yk129 hC, yk130 hC, yk131 hC, yk132 hC, yk133 hC, yk134 hC, yk135 hC, yk136 hC, yk137 hC, yl126 hC, yl128 hC, yl130 hC, yl131 hC, yl133 hC, yl137 hC, yr100_0 hC, yr100_1 hC, yr100_2 hC, yr100_3 hC, yr100_4 hC, yr100_5 hC, yr100_6 hC, yr100_7 hC, yr100_8 hC, yr100_9 hC, yr100_10 hC, yr125_0 hC, yr127_0 hC, yr129_0 hC, yr129_1 hC, yr129_2 hC, yr132_0 hC, yr134_0 hC, yr135_0 hC, yr135_1 hC, yr136_0 hC, yr136_1 hC, yk100 hC1, yk125 hC1, yk126 hC1, yk127 hC1, yk128 hC1, yk129 hC1, yk130 hC1, yk131 hC1, yk132 hC1, yk133 hC1, yk134 hC1, yk135 hC1, yk136 hC1, yk137 hC1, yl126 hC1, yl128 hC1, yl130 hC1, yl131 hC1, yl133 hC1, yl137 hC1, yr100_0 hC1, yr100_1 hC1, yr100_2 hC1, yr100_3 hC1, yr100_4 hC1, yr100_5 hC1, yr100_6 hC1, yr100_7 hC1, yr100_8 hC1, yr100_9 hC1, yr100_10 hC1, yr125_0 hC1, yr127_0 hC1, yr129_0 hC1, yr129_1 hC1, yr129_2 hC1, yr132_0 hC1, yr134_0 hC1, yr135_0 hC1, yr135_1 hC1, yr136_0 hC1, yr136_1 hC1, x_k_I, x_l_I, x_r_I, x_j_I, x_n_I, x_z_I, x_i_Is, x_k_W, x_l_W, x_r_W, x_j_W, x_n_W, x_z_W, x_k_J, x_l_J, x_r_J, x_i_J, x_n_J, x_z_J, x_k_R, x_l_R, x_j_R, x_i_R, x_n_R, x_z_R, x_n_N, x_z_N, x_k_N, x_l_N, x_i_N, x_j_N, x_r_N, hc, ho, e, va_rf, nf6, gi, k6]
    · exact (F1.mono (fun _ q => q.elim)).tr ((F2.mono (fun q hq => Or.inr (Or.inl hq))).tr ((w_F.of f3).mono (fun q hq => hq.imp id (fun w => Or.inr w))))
    · rw [er, I2 127 (by omega), F1.r (by omega) (fun q => q)]
    · rw [er, x_r_R, if_pos rfl, if_neg hk, F1.r (by omega) (fun q => q)]
theorem y_remember (hC : w_C S) (hs : w_sh S) (hn : 151 < am_n S) (hR : w_R S 101 R) (hB : s_VB R) (hc : am_i S 127 2 = nI c) (hc2 : c ≤ 10) (ho : am_i S 127 1 = nI o) (ho2 : o < 10) :
    ∃ S' b, fX3_remember w_N [.ref 127, .ref 101] S = some (.inl none, S') ∧ w_R S' b R ∧ w_A S' b ∧ am_i S' 127 2 = nI (s_hc c + 1) ∧ am_i S' 127 1 = nI (s_ho c o) ∧ w_F (w_PH b) S S' ∧ am_r S' 127 = am_r S 127 ∧ am_r S' 128 (s_hp c o) = some b ∧ (∀ k, k ≠ s_hp c o → am_r S' 128 k = am_r S 128 k) ∧ 151 < b ∧ b + 12 ≤ am_n S' ∧ (am_r S 128 (s_hp c o) = some b ∨ am_n S ≤ b) ∧ (∀ q, b ≤ q → q < b + 12 → q < am_n S → am_r S' q = am_r S q) ∧ am_n S' ≤ am_n S + 12 ∧ am_z S' ≤ am_z S + 953 := by
  unfold s_hp s_ho s_hc
  by_cases e : c = 10
  · subst e
    rw [if_pos rfl, if_pos rfl]
    have hI : w_I (fun q => q = 127) S (am_putI (am_putI S 127 1 (nI ((o + 1) % 10))) 127 2 (nI 9)) := (w_I.put (P := fun q => q = 127) rfl).tr (w_I.put rfl)
    have hs' : w_sh (am_putI (am_putI S 127 1 (nI ((o + 1) % 10))) 127 2 (nI 9)) := ⟨fun i b hi => by
      obtain ⟨g1, g2, g3⟩ := hs.1 i b hi
      exact ⟨hI.Aa g1 (fun q h1 h2 => by
        rcases g3 with h | h
        · unfold w_Si at hi
          rcases (show i = 0 ∨ i = 1 by omega) with rfl | rfl
          · have : b = 101 := by cases hi; rfl
            omega
          · have : b = 113 := by cases hi; rfl
            omega
        · omega), g2, g3⟩, hs.2.1, hs.2.2⟩
    obtain ⟨S', b, f1, f2, f3, f4, f5, f6, f7, f8, f9, f10, f11, f12, f13, f14, f15⟩ := y_rem28 (c := 9) (o := (o + 1) % 10) (hI.C hC) hs' hn (hI.Ra hR (fun q h1 h2 => by omega)) hB (by rw [x_i_I, if_pos rfl, if_pos rfl]) (by omega) (by rw [x_i_I, if_pos rfl, if_neg (by omega), x_i_I, if_pos rfl, if_pos rfl]) (Nat.mod_lt _ (by omega))
    refine ⟨S', b, ?_, f2, f3, f4, f5, ((w_F.of hI).mono (fun q hq => Or.inl hq)).tr f6, f7, f8, f9, f10, f11, f12, f13, f14, f15⟩
    rw [← f1]
    simp (disch := omega) only [fX3_remember, kX3_remember_0, x_cs0, x_csi, x_csr, x_csn, x_csl, x_ret_v, x_ret_t, x_ret_n, x_tl_s, x_tl_n, x_lk0, x_lk, x_rem0, x_rem_i, x_rem_r, x_rem_l, x_rem2_0, x_rem2_i, x_rem2_r, x_rem2_l, x_pick0, x_pick_c, x_st1, x_st2, x_live, x_i, x_l, x_a, x_ild, x_lld, x_rld, x_ist, x_lst, x_rst, x_inc, x_ii, x_ll, x_li, x_cmp, x_ui, x_il, x_lti, x_idiv, x_irem, x_dup_i, x_dup_r, x_pop_i, x_pop_r, x_dupx_ir, x_dup2_ir, x_ifeq, x_iceq, x_iflt, x_iclt, x_ifge, x_icge, x_ifgt, x_icgt, x_ifle, x_icle, x_ifne, x_icne, x_ifnull_r, x_ifnull_n, x_ifnonnull_r, x_ifnonnull_n, x_sw, x_vret, x_iret, x_lret, x_zret, x_zret0, x_zret1, x_rf_s, x_rf_n, x_geti, x_getr, x_puti, x_putz, x_putr, x_ial, x_ias, x_lal, x_las, x_aal, x_aas, x_aast, x_alen, x_new, x_newa, x_copy, x_min, x_abs, x_minl, x_oinit, x_throw, x_callS0, x_callS1, x_callS2, x_callS3, x_callS4, x_callV0, x_callV1, x_callV2, x_callV3, x_callV4, x_callV5, x_retI_v, x_callI0, x_callI1, x_callI2, x_retN_v, x_callSN1, x_callSN2, x_callT0, x_callT1, x_fn, x_sl0, x_sli, x_slr, x_sll, x_ar0, x_ari, x_arr, x_arl, ↓reduceIte, Nat.reduceAdd, Nat.reduceSub, Nat.reduceMul, Nat.reduceEqDiff, Nat.reduceLeDiff, Nat.reduceLT, if_true, if_false, Nat.le_refl, and_true, true_and, and_self, reduceCtorEq, or_false, false_or, or_true, true_or, Nat.zero_le, fa_lit, nI_add, w_mul, nI_ltI, nI_leI, nI_eq, nI_clamp, nI_toInt, if_pos, if_neg, w_div, w_rem2, yk100 hC, yk125 hC, yk126 hC, yk127 hC, yk128 hC, yk129 hC, yk130 hC, yk131 hC, yk132 hC, yk133 hC, yk134 hC, yk135 hC, yk136 hC, yk137 hC, yl126 hC, yl128 hC, yl130 hC, yl131 hC, yl133 hC, yl137 hC, yr100_0 hC, yr100_1 hC, yr100_2 hC, yr100_3 hC, yr100_4 hC, yr100_5 hC, yr100_6 hC, yr100_7 hC, yr100_8 hC, yr100_9 hC, yr100_10 hC, yr125_0 hC, yr127_0 hC, yr129_0 hC, yr129_1 hC, yr129_2 hC, yr132_0 hC, yr134_0 hC, yr135_0 hC, yr135_1 hC, yr136_0 hC, yr136_1 hC, x_k_I, x_l_I, x_r_I, x_j_I, x_n_I, x_z_I, x_i_Is, x_k_W, x_l_W, x_r_W, x_j_W, x_n_W, x_z_W, x_k_J, x_l_J, x_r_J, x_i_J, x_n_J, x_z_J, x_k_R, x_l_R, x_j_R, x_i_R, x_n_R, x_z_R, x_n_N, x_z_N, x_k_N, x_l_N, x_i_N, x_j_N, x_r_N, hc, ho]
  · rw [if_neg e, if_neg e]
    obtain ⟨S', b, f1, f⟩ := y_rem28 hC hs hn hR hB hc (by omega) ho ho2
    refine ⟨S', b, ?_, f⟩
    rw [← f1]
    simp (disch := omega) only [fX3_remember, kX3_remember_0, x_cs0, x_csi, x_csr, x_csn, x_csl, x_ret_v, x_ret_t, x_ret_n, x_tl_s, x_tl_n, x_lk0, x_lk, x_rem0, x_rem_i, x_rem_r, x_rem_l, x_rem2_0, x_rem2_i, x_rem2_r, x_rem2_l, x_pick0, x_pick_c, x_st1, x_st2, x_live, x_i, x_l, x_a, x_ild, x_lld, x_rld, x_ist, x_lst, x_rst, x_inc, x_ii, x_ll, x_li, x_cmp, x_ui, x_il, x_lti, x_idiv, x_irem, x_dup_i, x_dup_r, x_pop_i, x_pop_r, x_dupx_ir, x_dup2_ir, x_ifeq, x_iceq, x_iflt, x_iclt, x_ifge, x_icge, x_ifgt, x_icgt, x_ifle, x_icle, x_ifne, x_icne, x_ifnull_r, x_ifnull_n, x_ifnonnull_r, x_ifnonnull_n, x_sw, x_vret, x_iret, x_lret, x_zret, x_zret0, x_zret1, x_rf_s, x_rf_n, x_geti, x_getr, x_puti, x_putz, x_putr, x_ial, x_ias, x_lal, x_las, x_aal, x_aas, x_aast, x_alen, x_new, x_newa, x_copy, x_min, x_abs, x_minl, x_oinit, x_throw, x_callS0, x_callS1, x_callS2, x_callS3, x_callS4, x_callV0, x_callV1, x_callV2, x_callV3, x_callV4, x_callV5, x_retI_v, x_callI0, x_callI1, x_callI2, x_retN_v, x_callSN1, x_callSN2, x_callT0, x_callT1, x_fn, x_sl0, x_sli, x_slr, x_sll, x_ar0, x_ari, x_arr, x_arl, ↓reduceIte, Nat.reduceAdd, Nat.reduceSub, Nat.reduceMul, Nat.reduceEqDiff, Nat.reduceLeDiff, Nat.reduceLT, if_true, if_false, Nat.le_refl, and_true, true_and, and_self, reduceCtorEq, or_false, false_or, or_true, true_or, Nat.zero_le, fa_lit, nI_add, w_mul, nI_ltI, nI_leI, nI_eq, nI_clamp, nI_toInt, if_pos, if_neg, w_div, w_rem2, yk100 hC, yk125 hC, yk126 hC, yk127 hC, yk128 hC, yk129 hC, yk130 hC, yk131 hC, yk132 hC, yk133 hC, yk134 hC, yk135 hC, yk136 hC, yk137 hC, yl126 hC, yl128 hC, yl130 hC, yl131 hC, yl133 hC, yl137 hC, yr100_0 hC, yr100_1 hC, yr100_2 hC, yr100_3 hC, yr100_4 hC, yr100_5 hC, yr100_6 hC, yr100_7 hC, yr100_8 hC, yr100_9 hC, yr100_10 hC, yr125_0 hC, yr127_0 hC, yr129_0 hC, yr129_1 hC, yr129_2 hC, yr132_0 hC, yr134_0 hC, yr135_0 hC, yr135_1 hC, yr136_0 hC, yr136_1 hC, hc]
end H1
