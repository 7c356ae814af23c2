/-! THE REFERENCE READS: the whole of a picket -/
/-- the end of a picket's reading: the array, the loop -/
noncomputable def k_ptail : am_K :=
  c_i (7) <|
  c_newa 20 <|
  c_dup <|
  c_i (0) <|
  c_rld 0 <|
  c_geti 11 22 <|
  c_ias <|
  c_dup <|
  c_i (1) <|
  c_rld 0 <|
  c_geti 11 23 <|
  c_ias <|
  c_dup <|
  c_i (2) <|
  c_ild 1 <|
  c_ias <|
  c_dup <|
  c_i (3) <|
  c_ild 2 <|
  c_ias <|
  c_dup <|
  c_i (4) <|
  c_ild 3 <|
  c_ias <|
  c_dup <|
  c_i (5) <|
  c_ild 4 <|
  c_ias <|
  c_dup <|
  c_i (6) <|
  c_i (0) <|
  c_ias <|
  c_rst 5 <|
  c_i (0) <|
  c_ist 6 <|
  kX11_readPicket_197 w_N
section L38
variable {S S' S0 T V : am_S} {a b c o p q i j k m n u t L e f κ v0 lo h ne A : Nat} {P : Nat → Prop} {B : Nat → Nat} {x y z v hi x' y' : Int32} {s s' : p_S} {R Q F : Nat → Int32}
theorem k_ptail_e : kX11_readPicket_131 w_N = (c_live [0, 1, 2, 3] <|
  c_i (4) <|
  c_callV 11 2 (fX11_check w_N) <|
  c_rld 0 <|
  c_callV 11 0 (fX11_value w_N) <|
  c_ist 4 <|
  c_rld 0 <|
  c_callV 11 0 (fX11_advance w_N) <|
  c_rld 0 <|
  c_geti 11 18 <|
  c_ifne (
  kX11_readPicket_241 w_N) <| k_ptail) := rfl
theorem p_num_v2 (h0 : (p_num B L s lo h).1.1.1 = 0) (hh : h ≤ 2000) : p_v2 B (p_num B L s lo h).1.2.1 = nI (p_num B L s lo h).2 := by
  by_cases e : s.1.1 = 0
  · by_cases g : (p_next B L s).2.1.2.2 = 2
    · by_cases r : lo ≤ p_val B (p_next B L s).2.1 ∧ p_val B (p_next B L s).2.1 < h
      · rw [p_num_g e g r]
        unfold p_v2
        dsimp only
        rw [if_pos g]
        congr 1
        omega
      · rw [p_num_b e g r, p_fail_c, p_next_1, if_pos e] at h0
        omega
    · rw [p_num_k e g, p_fail_c, p_next_1, if_pos e] at h0
      omega
  · rw [p_num_e e] at h0
    exact absurd h0 e
theorem p_row_ok (h0 : (p_row B L (p_col B L s).1).1.1.1 = 0) (hV : s_VB s.2.2) : s.1.1 = 0 ∧ s_in s.2.2 (nI (p_col B L s).2) (nI (p_row B L (p_col B L s).1).2) := by
  have eR : (p_col B L s).1.2.2 = s.2.2 := p_num_R
  have q0 := hV.1.1.2
  have q1 := hV.1.2.2.1.2
  have r := p_num_ok (B := B) (L := L) (s := (p_col B L s).1) (lo := 0) (h := s_n ((p_col B L s).1.2.2 1)) h0
  have r2 := p_num_ok (B := B) (L := L) (s := s) (lo := 0) (h := s_n (s.2.2 0)) r.1
  have r3 : (p_row B L (p_col B L s).1).2 < s_n ((p_col B L s).1.2.2 1) := r.2.2
  have r4 : (p_col B L s).2 < s_n (s.2.2 0) := r2.2.2
  rw [eR] at r3
  exact ⟨r2.1, s_nnI r4 (by omega), s_nnI r3 (by omega)⟩
theorem z_pF {K : am_K} {lv : List (Nat × Value)} {w : Int32} (hw : w = nI q) (hq : q < 7) (hl : am_lk lv 0 = some (.ref 138)) (kA : am_k V A = 20) (lA : am_l V A = 7) (hZ : w_Z V) (hv : am_i V 138 f = v) : (c_dup <| c_i w <| c_rld 0 <| c_geti 11 f <| c_ias <| K) lv [.ref A] V = K lv [.ref A] (am_putI V A q v) := by
  subst hw
  have k8 := zk138 hZ
  simp (disch := omega) only [x_cs0, x_csi, x_csr, x_csn, x_csl, x_ret_v, x_ret_t, x_ret_n, x_tl_s, x_tl_n, x_lk0, x_lk, x_rem0, x_rem_i, x_rem_r, x_rem_l, x_rem2_0, x_rem2_i, x_rem2_r, x_rem2_l, x_pick0, x_pick_c, x_st1, x_st2, x_live, x_i, x_l, x_a, x_ild, x_lld, x_rld, x_ist, x_lst, x_rst, x_inc, x_ii, x_ll, x_li, x_cmp, x_ui, x_il, x_lti, x_idiv, x_irem, x_dup_i, x_dup_r, x_pop_i, x_pop_r, x_dupx_ir, x_dup2_ir, x_ifeq, x_iceq, x_iflt, x_iclt, x_ifge, x_icge, x_ifgt, x_icgt, x_ifle, x_icle, x_ifne, x_icne, x_ifnull_r, x_ifnull_n, x_ifnonnull_r, x_ifnonnull_n, x_sw, x_vret, x_iret, x_lret, x_zret, x_zret0, x_zret1, x_rf_s, x_rf_n, x_geti, x_getr, x_puti, x_putz, x_putr, x_ial, x_ias, x_lal, x_las, x_aal, x_aas, x_aast, x_alen, x_new, x_newa, x_copy, x_min, x_abs, x_minl, x_oinit, x_throw, x_callS0, x_callS1, x_callS2, x_callS3, x_callS4, x_callV0, x_callV1, x_callV2, x_callV3, x_callV4, x_callV5, x_retI_v, x_callI0, x_callI1, x_callI2, x_retN_v, x_callSN1, x_callSN2, x_callT0, x_callT1, x_fn, x_sl0, x_sli, x_slr, x_sll, x_ar0, x_ari, x_arr, x_arl, ↓reduceIte, Nat.reduceAdd, Nat.reduceSub, Nat.reduceMul, Nat.reduceEqDiff, Nat.reduceLeDiff, Nat.reduceLT, if_true, if_false, Nat.le_refl, and_true, true_and, and_self, reduceCtorEq, or_false, false_or, or_true, true_or, Nat.zero_le, fa_lit, nI_add, w_mul, nI_ltI, nI_leI, nI_eq, nI_clamp, nI_toInt, if_pos, if_neg, w_div, w_rem2, hl, kA, lA, k8, hv]
theorem z_pJ {K : am_K} {lv : List (Nat × Value)} {w : Int32} (hw : w = nI q) (hq : q < 7) (hl : am_lk lv j = some (.int v)) (kA : am_k V A = 20) (lA : am_l V A = 7) : (c_dup <| c_i w <| c_ild j <| c_ias <| K) lv [.ref A] V = K lv [.ref A] (am_putI V A q v) := by
  subst hw
  simp (disch := omega) only [x_cs0, x_csi, x_csr, x_csn, x_csl, x_ret_v, x_ret_t, x_ret_n, x_tl_s, x_tl_n, x_lk0, x_lk, x_rem0, x_rem_i, x_rem_r, x_rem_l, x_rem2_0, x_rem2_i, x_rem2_r, x_rem2_l, x_pick0, x_pick_c, x_st1, x_st2, x_live, x_i, x_l, x_a, x_ild, x_lld, x_rld, x_ist, x_lst, x_rst, x_inc, x_ii, x_ll, x_li, x_cmp, x_ui, x_il, x_lti, x_idiv, x_irem, x_dup_i, x_dup_r, x_pop_i, x_pop_r, x_dupx_ir, x_dup2_ir, x_ifeq, x_iceq, x_iflt, x_iclt, x_ifge, x_icge, x_ifgt, x_icgt, x_ifle, x_icle, x_ifne, x_icne, x_ifnull_r, x_ifnull_n, x_ifnonnull_r, x_ifnonnull_n, x_sw, x_vret, x_iret, x_lret, x_zret, x_zret0, x_zret1, x_rf_s, x_rf_n, x_geti, x_getr, x_puti, x_putz, x_putr, x_ial, x_ias, x_lal, x_las, x_aal, x_aas, x_aast, x_alen, x_new, x_newa, x_copy, x_min, x_abs, x_minl, x_oinit, x_throw, x_callS0, x_callS1, x_callS2, x_callS3, x_callS4, x_callV0, x_callV1, x_callV2, x_callV3, x_callV4, x_callV5, x_retI_v, x_callI0, x_callI1, x_callI2, x_retN_v, x_callSN1, x_callSN2, x_callT0, x_callT1, x_fn, x_sl0, x_sli, x_slr, x_sll, x_ar0, x_ari, x_arr, x_arl, ↓reduceIte, Nat.reduceAdd, Nat.reduceSub, Nat.reduceMul, Nat.reduceEqDiff, Nat.reduceLeDiff, Nat.reduceLT, if_true, if_false, Nat.le_refl, and_true, true_and, and_self, reduceCtorEq, or_false, false_or, or_true, true_or, Nat.zero_le, fa_lit, nI_add, w_mul, nI_ltI, nI_leI, nI_eq, nI_clamp, nI_toInt, if_pos, if_neg, w_div, w_rem2, hl, kA, lA]
theorem z_pO {K : am_K} {lv : List (Nat × Value)} {w : Int32} (hw : w = nI q) (hq : q < 7) (kA : am_k V A = 20) (lA : am_l V A = 7) : (c_dup <| c_i w <| c_i v <| c_ias <| K) lv [.ref A] V = K lv [.ref A] (am_putI V A q v) := by
  subst hw
  simp (disch := omega) only [x_cs0, x_csi, x_csr, x_csn, x_csl, x_ret_v, x_ret_t, x_ret_n, x_tl_s, x_tl_n, x_lk0, x_lk, x_rem0, x_rem_i, x_rem_r, x_rem_l, x_rem2_0, x_rem2_i, x_rem2_r, x_rem2_l, x_pick0, x_pick_c, x_st1, x_st2, x_live, x_i, x_l, x_a, x_ild, x_lld, x_rld, x_ist, x_lst, x_rst, x_inc, x_ii, x_ll, x_li, x_cmp, x_ui, x_il, x_lti, x_idiv, x_irem, x_dup_i, x_dup_r, x_pop_i, x_pop_r, x_dupx_ir, x_dup2_ir, x_ifeq, x_iceq, x_iflt, x_iclt, x_ifge, x_icge, x_ifgt, x_icgt, x_ifle, x_icle, x_ifne, x_icne, x_ifnull_r, x_ifnull_n, x_ifnonnull_r, x_ifnonnull_n, x_sw, x_vret, x_iret, x_lret, x_zret, x_zret0, x_zret1, x_rf_s, x_rf_n, x_geti, x_getr, x_puti, x_putz, x_putr, x_ial, x_ias, x_lal, x_las, x_aal, x_aas, x_aast, x_alen, x_new, x_newa, x_copy, x_min, x_abs, x_minl, x_oinit, x_throw, x_callS0, x_callS1, x_callS2, x_callS3, x_callS4, x_callV0, x_callV1, x_callV2, x_callV3, x_callV4, x_callV5, x_retI_v, x_callI0, x_callI1, x_callI2, x_retN_v, x_callSN1, x_callSN2, x_callT0, x_callT1, x_fn, x_sl0, x_sli, x_slr, x_sll, x_ar0, x_ari, x_arr, x_arl, ↓reduceIte, Nat.reduceAdd, Nat.reduceSub, Nat.reduceMul, Nat.reduceEqDiff, Nat.reduceLeDiff, Nat.reduceLT, if_true, if_false, Nat.le_refl, and_true, true_and, and_self, reduceCtorEq, or_false, false_or, or_true, true_or, Nat.zero_le, fa_lit, nI_add, w_mul, nI_ltI, nI_leI, nI_eq, nI_clamp, nI_toInt, if_pos, if_neg, w_div, w_rem2, kA, lA]
theorem z_pN {K : am_K} {lv : List (Nat × Value)} {w : Int32} {m : Nat} (hw : w = nI m) (hm : m ≤ 60000) : (c_i w <| c_newa 20 <| K) lv [] S = K lv [.ref (am_n S)] (am_new S 20 m m) := by
  subst hw
  simp (disch := omega) only [x_cs0, x_csi, x_csr, x_csn, x_csl, x_ret_v, x_ret_t, x_ret_n, x_tl_s, x_tl_n, x_lk0, x_lk, x_rem0, x_rem_i, x_rem_r, x_rem_l, x_rem2_0, x_rem2_i, x_rem2_r, x_rem2_l, x_pick0, x_pick_c, x_st1, x_st2, x_live, x_i, x_l, x_a, x_ild, x_lld, x_rld, x_ist, x_lst, x_rst, x_inc, x_ii, x_ll, x_li, x_cmp, x_ui, x_il, x_lti, x_idiv, x_irem, x_dup_i, x_dup_r, x_pop_i, x_pop_r, x_dupx_ir, x_dup2_ir, x_ifeq, x_iceq, x_iflt, x_iclt, x_ifge, x_icge, x_ifgt, x_icgt, x_ifle, x_icle, x_ifne, x_icne, x_ifnull_r, x_ifnull_n, x_ifnonnull_r, x_ifnonnull_n, x_sw, x_vret, x_iret, x_lret, x_zret, x_zret0, x_zret1, x_rf_s, x_rf_n, x_geti, x_getr, x_puti, x_putz, x_putr, x_ial, x_ias, x_lal, x_las, x_aal, x_aas, x_aast, x_alen, x_new, x_newa, x_copy, x_min, x_abs, x_minl, x_oinit, x_throw, x_callS0, x_callS1, x_callS2, x_callS3, x_callS4, x_callV0, x_callV1, x_callV2, x_callV3, x_callV4, x_callV5, x_retI_v, x_callI0, x_callI1, x_callI2, x_retN_v, x_callSN1, x_callSN2, x_callT0, x_callT1, x_fn, x_sl0, x_sli, x_slr, x_sll, x_ar0, x_ari, x_arr, x_arl, ↓reduceIte, Nat.reduceAdd, Nat.reduceSub, Nat.reduceMul, Nat.reduceEqDiff, Nat.reduceLeDiff, Nat.reduceLT, if_true, if_false, Nat.le_refl, and_true, true_and, and_self, reduceCtorEq, or_false, false_or, or_true, true_or, Nat.zero_le, fa_lit, nI_add, w_mul, nI_ltI, nI_leI, nI_eq, nI_clamp, nI_toInt, if_pos, if_neg, w_div, w_rem2]
theorem w_rv.new {m : Nat} {S7 : am_S} (hm : m = 7) (hZ7 : w_Z S7) (h22 : am_i S7 138 22 = nI i) (h23 : am_i S7 138 23 = nI j) (hA : 151 < am_n S7) : w_rv S7 (am_new S7 20 m m) (am_n S7) i j ∧ am_i (am_new S7 20 m m) 140 = am_i S7 140 := by
  subst hm
  have hF0 : w_F (fun b => b = am_n S7) S7 (am_new S7 20 7 7) := w_F.new
  have hZ0 : w_Z (am_new S7 20 7 7) := by
    have hk : ∀ b, 138 ≤ b → b ≤ 151 → am_k (am_new S7 20 7 7) b = am_k S7 b := fun b h1 h2 => hF0.k (by omega)
    have hl : ∀ b, 138 ≤ b → b ≤ 151 → am_l (am_new S7 20 7 7) b = am_l S7 b := fun b h1 h2 => hF0.l (by omega)
    have hr : ∀ b, 138 ≤ b → b ≤ 151 → am_r (am_new S7 20 7 7) b = am_r S7 b := fun b h1 h2 => hF0.r (by omega) (by omega)
    have b1 := hZ7
    unfold w_Z at b1 ⊢
    simp (disch := omega) only [hk, hl, hr]
    exact b1
  have i0 : ∀ b, b < am_n S7 → am_i (am_new S7 20 7 7) b = am_i S7 b := fun b hb => hF0.i hb (by omega)
  exact ⟨⟨hF0, x_n_N, x_z_N, ⟨by rw [x_k_N, if_pos rfl], by rw [x_l_N, if_pos rfl]⟩, hZ0, by rw [i0 138 (by omega)]; exact h22, by rw [i0 138 (by omega)]; exact h23⟩, i0 140 (by omega)⟩
/-- the array is filled -/
theorem z_pfill {S7 V0 : am_S} (P0 : w_rv S7 V0 A i j) (hA : 151 < A) (x0 x1 x2 x3 x4 x5 x6 : Int32) : ∃ T1 T2 T3 T4 T5 T6 T7, am_putI V0 A 0 x0 = T1 ∧ am_putI T1 A 1 x1 = T2 ∧ am_putI T2 A 2 x2 = T3 ∧ am_putI T3 A 3 x3 = T4 ∧ am_putI T4 A 4 x4 = T5 ∧ am_putI T5 A 5 x5 = T6 ∧ am_putI T6 A 6 x6 = T7 ∧ w_rv S7 T1 A i j ∧ w_rv S7 T2 A i j ∧ w_rv S7 T3 A i j ∧ w_rv S7 T4 A i j ∧ w_rv S7 T5 A i j ∧ w_rv S7 T6 A i j ∧ w_rv S7 T7 A i j ∧ am_i T7 140 = am_i V0 140 ∧ (am_i T7 A 0 = x0 ∧ am_i T7 A 1 = x1 ∧ am_i T7 A 2 = x2 ∧ am_i T7 A 3 = x3 ∧ am_i T7 A 4 = x4 ∧ am_i T7 A 5 = x5 ∧ am_i T7 A 6 = x6) := by
  have P1 := P0.put hA 0 x0
  have P2 := P1.put hA 1 x1
  have P3 := P2.put hA 2 x2
  have P4 := P3.put hA 3 x3
  have P5 := P4.put hA 4 x4
  have P6 := P5.put hA 5 x5
  have P7 := P6.put hA 6 x6
  refine ⟨_, _, _, _, _, _, _, rfl, rfl, rfl, rfl, rfl, rfl, rfl, P1, P2, P3, P4, P5, P6, P7, ?_, ?_, ?_, ?_, ?_, ?_, ?_, ?_⟩
  · funext q
    rw [x_i_I, if_neg (by omega), x_i_I, if_neg (by omega), x_i_I, if_neg (by omega), x_i_I, if_neg (by omega), x_i_I, if_neg (by omega), x_i_I, if_neg (by omega), x_i_I, if_neg (by omega)]
  · rw [x_i_I, if_pos rfl, if_neg (by omega), x_i_I, if_pos rfl, if_neg (by omega), x_i_I, if_pos rfl, if_neg (by omega), x_i_I, if_pos rfl, if_neg (by omega), x_i_I, if_pos rfl, if_neg (by omega), x_i_I, if_pos rfl, if_neg (by omega), x_i_Is]
  · rw [x_i_I, if_pos rfl, if_neg (by omega), x_i_I, if_pos rfl, if_neg (by omega), x_i_I, if_pos rfl, if_neg (by omega), x_i_I, if_pos rfl, if_neg (by omega), x_i_I, if_pos rfl, if_neg (by omega), x_i_Is]
  · rw [x_i_I, if_pos rfl, if_neg (by omega), x_i_I, if_pos rfl, if_neg (by omega), x_i_I, if_pos rfl, if_neg (by omega), x_i_I, if_pos rfl, if_neg (by omega), x_i_Is]
  · rw [x_i_I, if_pos rfl, if_neg (by omega), x_i_I, if_pos rfl, if_neg (by omega), x_i_I, if_pos rfl, if_neg (by omega), x_i_Is]
  · rw [x_i_I, if_pos rfl, if_neg (by omega), x_i_I, if_pos rfl, if_neg (by omega), x_i_Is]
  · rw [x_i_I, if_pos rfl, if_neg (by omega), x_i_Is]
  · exact x_i_Is
theorem z_ptail {lv : List (Nat × Value)} {g d f' : Nat} (hlv : lv = [(4, .int v), (0, .ref 138), (1, .int (nI g)), (2, .int (nI d)), (3, .int (nI f'))]) {S7 : am_S} (hZ7 : w_Z S7) (h22 : am_i S7 138 22 = nI i) (h23 : am_i S7 138 23 = nI j) (hn : am_i S7 140 3 = nI ne) (hn4 : ne < 4) (hA : 151 < am_n S7) :
    ∃ T F, k_ptail lv [] S7 = some (.inl none, T) ∧ w_F (fun b => b = 140) S7 T ∧ am_n T = am_n S7 + 1 ∧ am_z T = am_z S7 + 7 ∧ am_i T 140 = va_up (s_pkr (am_i S7 140) F ne 7) 3 (nI (ne + 1)) ∧ F 0 = nI i ∧ F 1 = nI j ∧ F 2 = nI g ∧ F 3 = nI d ∧ F 4 = nI f' ∧ F 5 = v ∧ F 6 = nI 0 := by
  obtain ⟨m, hm⟩ : ∃ m, m = 7 := ⟨_, rfl⟩
  obtain ⟨P0, i140⟩ := w_rv.new hm hZ7 h22 h23 hA
  have e0 : k_ptail lv [] S7 = _ := z_pN (S := S7) (w := 7) (m := m) (by rw [hm]; rfl) (by omega)
  generalize hAA : am_n S7 = A at *
  generalize am_new S7 20 m m = V0 at *
  obtain ⟨T1, T2, T3, T4, T5, T6, T7, h1, h2, h3, h4, h5, h6, h7, P1, P2, P3, P4, P5, P6, P7, j140, f0, f1, f2, f3, f4, f5, f6⟩ := z_pfill P0 hA (nI i) (nI j) (nI g) (nI d) (nI f') v (nI 0)
  rw [i140] at j140
  have s0 := e0.trans (z_pF (q := 0) (f := 22) (w := 0) rfl (by omega) (by rw [hlv]; rfl) P0.2.2.2.1.1 P0.2.2.2.1.2 P0.2.2.2.2.1 P0.2.2.2.2.2.1)
  rw [h1] at s0
  have s1 := s0.trans (z_pF (q := 1) (f := 23) (w := 1) rfl (by omega) (by rw [hlv]; rfl) P1.2.2.2.1.1 P1.2.2.2.1.2 P1.2.2.2.2.1 P1.2.2.2.2.2.2)
  rw [h2] at s1
  have s2 := s1.trans (z_pJ (q := 2) (j := 1) (w := 2) (v := nI g) rfl (by omega) (by rw [hlv]; rfl) P2.2.2.2.1.1 P2.2.2.2.1.2)
  rw [h3] at s2
  have s3 := s2.trans (z_pJ (q := 3) (j := 2) (w := 3) (v := nI d) rfl (by omega) (by rw [hlv]; rfl) P3.2.2.2.1.1 P3.2.2.2.1.2)
  rw [h4] at s3
  have s4 := s3.trans (z_pJ (q := 4) (j := 3) (w := 4) (v := nI f') rfl (by omega) (by rw [hlv]; rfl) P4.2.2.2.1.1 P4.2.2.2.1.2)
  rw [h5] at s4
  have s5 := s4.trans (z_pJ (q := 5) (j := 4) (w := 5) (v := v) rfl (by omega) (by rw [hlv]; rfl) P5.2.2.2.1.1 P5.2.2.2.1.2)
  rw [h6] at s5
  have s6 := s5.trans (z_pO (q := 6) (w := 6) (v := nI 0) rfl (by omega) P6.2.2.2.1.1 P6.2.2.2.1.2)
  rw [h7] at s6
  obtain ⟨T, n1, n2, n3⟩ := z_pkL (A := A) P7.2.2.2.2.1 P7.2.2.2.1.1 P7.2.2.2.1.2 (by rw [j140]; exact hn) hn4 (by omega)
  rw [j140] at n3
  refine ⟨T, am_i T7 A, s6.trans ?_, ⟨?_, ?_, fun b hb => ?_, fun b hb hb2 => ?_⟩, by rw [n2.1]; exact P7.2.1, by rw [n2.2.1]; exact P7.2.2.1, n3, f0, f1, f2, f3, f4, f5, f6⟩
  · subst hlv
    exact n1
  · rw [n2.1, P7.2.1]
    omega
  · rw [n2.2.1, P7.2.2.1]
    omega
  · have g := P7.1.2.2.1 b hb
    rw [n2.2.2.1, n2.2.2.2.1]
    exact g
  · have g := P7.1.2.2.2 b hb (by omega)
    rw [n2.2.2.2.2.1, n2.2.2.2.2.2.1, n2.i hb2]
    exact g
theorem z_pickN {lv : List (Nat × Value)} {g d f' : Nat} (hlv : lv = [(0, .ref 138), (1, .int (nI g)), (2, .int (nI d)), (3, .int (nI f'))]) {S5 S6 S7 : am_S} {b : Int32} (q1 : fX11_check w_N [.ref 138, .int b, .int (nI 4)] S5 = some (.inl none, S6)) (hZ5 : w_Z S5) (hZ6 : w_Z S6) (hv : fX11_value w_N [.ref 138] S6 = some (.inl (some (.int v)), S6)) (ha : fX11_advance w_N [.ref 138] S6 = some (.inl none, S7)) (hZ7 : w_Z S7) (h18 : am_i S7 138 18 = nI 0) (h22 : am_i S7 138 22 = nI i) (h23 : am_i S7 138 23 = nI j) (hn : am_i S7 140 3 = nI ne) (hn4 : ne < 4) (hA : 151 < am_n S7) :
    ∃ T F, kX11_readPicket_131 w_N lv [.int b, .ref 138] S5 = some (.inl none, T) ∧ w_F (fun b => b = 140) S7 T ∧ am_n T = am_n S7 + 1 ∧ am_z T = am_z S7 + 7 ∧ am_i T 140 = va_up (s_pkr (am_i S7 140) F ne 7) 3 (nI (ne + 1)) ∧ F 0 = nI i ∧ F 1 = nI j ∧ F 2 = nI g ∧ F 3 = nI d ∧ F 4 = nI f' ∧ F 5 = v ∧ F 6 = nI 0 := by
  subst hlv
  obtain ⟨T, F, run2, r⟩ := z_ptail rfl hZ7 h22 h23 hn hn4 hA
  refine ⟨T, F, ?_, r⟩
  rw [k_ptail_e]
  simp (disch := omega) only [x_cs0, x_csi, x_csr, x_csn, x_csl, x_ret_v, x_ret_t, x_ret_n, x_tl_s, x_tl_n, x_lk0, x_lk, x_rem0, x_rem_i, x_rem_r, x_rem_l, x_rem2_0, x_rem2_i, x_rem2_r, x_rem2_l, x_pick0, x_pick_c, x_st1, x_st2, x_live, x_i, x_l, x_a, x_ild, x_lld, x_rld, x_ist, x_lst, x_rst, x_inc, x_ii, x_ll, x_li, x_cmp, x_ui, x_il, x_lti, x_idiv, x_irem, x_dup_i, x_dup_r, x_pop_i, x_pop_r, x_dupx_ir, x_dup2_ir, x_ifeq, x_iceq, x_iflt, x_iclt, x_ifge, x_icge, x_ifgt, x_icgt, x_ifle, x_icle, x_ifne, x_icne, x_ifnull_r, x_ifnull_n, x_ifnonnull_r, x_ifnonnull_n, x_sw, x_vret, x_iret, x_lret, x_zret, x_zret0, x_zret1, x_rf_s, x_rf_n, x_geti, x_getr, x_puti, x_putz, x_putr, x_ial, x_ias, x_lal, x_las, x_aal, x_aas, x_aast, x_alen, x_new, x_newa, x_copy, x_min, x_abs, x_minl, x_oinit, x_throw, x_callS0, x_callS1, x_callS2, x_callS3, x_callS4, x_callV0, x_callV1, x_callV2, x_callV3, x_callV4, x_callV5, x_retI_v, x_callI0, x_callI1, x_callI2, x_retN_v, x_callSN1, x_callSN2, x_callT0, x_callT1, x_fn, x_sl0, x_sli, x_slr, x_sll, x_ar0, x_ari, x_arr, x_arl, ↓reduceIte, Nat.reduceAdd, Nat.reduceSub, Nat.reduceMul, Nat.reduceEqDiff, Nat.reduceLeDiff, Nat.reduceLT, if_true, if_false, Nat.le_refl, and_true, true_and, and_self, reduceCtorEq, or_false, false_or, or_true, true_or, Nat.zero_le, fa_lit, nI_add, w_mul, nI_ltI, nI_leI, nI_eq, nI_clamp, nI_toInt, if_pos, if_neg, w_div, w_rem2, zk138 hZ5, zk139 hZ5, zk140 hZ5, zk141 hZ5, zk142 hZ5, zk143 hZ5, zk144 hZ5, zk145 hZ5, zk146 hZ5, zk147 hZ5, zk148 hZ5, zk149 hZ5, zk150 hZ5, zk151 hZ5, zl139 hZ5, zl140 hZ5, zl141 hZ5, zl142 hZ5, zl143 hZ5, zl144 hZ5, zl145 hZ5, zl146 hZ5, zl147 hZ5, zl148 hZ5, zl149 hZ5, zl150 hZ5, zl151 hZ5, zr138_0 hZ5, zr138_1 hZ5, zr138_2 hZ5, zr138_3 hZ5, zr138_4 hZ5, zr138_8 hZ5, zr138_9 hZ5, zr138_10 hZ5, zr138_12 hZ5, zr138_24 hZ5, zr138_25 hZ5, zr138_26 hZ5, zr148_0 hZ5, zr148_1 hZ5, zr148_2 hZ5, zr148_3 hZ5, zr148_4 hZ5, zr148_5 hZ5, zr148_6 hZ5, zr148_7 hZ5, zr148_8 hZ5, zk138 hZ6, zk139 hZ6, zk140 hZ6, zk141 hZ6, zk142 hZ6, zk143 hZ6, zk144 hZ6, zk145 hZ6, zk146 hZ6, zk147 hZ6, zk148 hZ6, zk149 hZ6, zk150 hZ6, zk151 hZ6, zl139 hZ6, zl140 hZ6, zl141 hZ6, zl142 hZ6, zl143 hZ6, zl144 hZ6, zl145 hZ6, zl146 hZ6, zl147 hZ6, zl148 hZ6, zl149 hZ6, zl150 hZ6, zl151 hZ6, zr138_0 hZ6, zr138_1 hZ6, zr138_2 hZ6, zr138_3 hZ6, zr138_4 hZ6, zr138_8 hZ6, zr138_9 hZ6, zr138_10 hZ6, zr138_12 hZ6, zr138_24 hZ6, zr138_25 hZ6, zr138_26 hZ6, zr148_0 hZ6, zr148_1 hZ6, zr148_2 hZ6, zr148_3 hZ6, zr148_4 hZ6, zr148_5 hZ6, zr148_6 hZ6, zr148_7 hZ6, zr148_8 hZ6, zk138 hZ7, zk139 hZ7, zk140 hZ7, zk141 hZ7, zk142 hZ7, zk143 hZ7, zk144 hZ7, zk145 hZ7, zk146 hZ7, zk147 hZ7, zk148 hZ7, zk149 hZ7, zk150 hZ7, zk151 hZ7, zl139 hZ7, zl140 hZ7, zl141 hZ7, zl142 hZ7, zl143 hZ7, zl144 hZ7, zl145 hZ7, zl146 hZ7, zl147 hZ7, zl148 hZ7, zl149 hZ7, zl150 hZ7, zl151 hZ7, zr138_0 hZ7, zr138_1 hZ7, zr138_2 hZ7, zr138_3 hZ7, zr138_4 hZ7, zr138_8 hZ7, zr138_9 hZ7, zr138_10 hZ7, zr138_12 hZ7, zr138_24 hZ7, zr138_25 hZ7, zr138_26 hZ7, zr148_0 hZ7, zr148_1 hZ7, zr148_2 hZ7, zr148_3 hZ7, zr148_4 hZ7, zr148_5 hZ7, zr148_6 hZ7, zr148_7 hZ7, zr148_8 hZ7, q1, hv, ha, h18, run2]
theorem z_pickR (H : w_zo S0 S L B s x y) (e0 : s.1.1 = 0) : ∃ S' x' y', fX11_readPicket w_N [.ref 138] S = some (.inl none, S') ∧ w_zo S0 S' L B (p_next B L (p_picket B L s)) x' y' := by
  obtain ⟨hV0, hl0⟩ := H.2.2.2.2.2.2 e0
  have b3 := hV0.1.B.2.2.1
  have eR0 : (if s_n (s.2.2 3) < 4 then s else p_fail s 3).2.2 = s.2.2 := by
    split
    · rfl
    · rw [p_fail_2]
  have es0 : (if s_n (s.2.2 3) < 4 then s else p_fail s 3).1.1 = 0 → s_n (s.2.2 3) < 4 := fun q => by
    split at q
    · assumption
    · exact absurd q (p_fail_0 (by omega))
  obtain ⟨S5, S6, b, r1, r2, hZ5, r3⟩ := z_pickA H e0 _ rfl _ _ _ _ _ rfl rfl rfl rfl rfl
  unfold p_picket
  dsimp only
  generalize hs0 : (if s_n (s.2.2 3) < 4 then s else p_fail s 3) = s0 at *
  have row := p_row_ok (B := B) (L := L) (s := s0)
  have lt := p_cr_lt (B := B) (L := L) (s := s0) (fun _ => by rw [eR0]; exact hV0)
  have eRr : (p_row B L (p_col B L s0).1).1.2.2 = s0.2.2 := p_num_R.trans p_num_R
  generalize hc : p_col B L s0 = c at *
  generalize hr : p_row B L c.1 = r at *
  have eRG : (p_num B L r.1 0 4).1.2.2 = r.1.2.2 := p_num_R
  have okG := p_num_ok (B := B) (L := L) (s := r.1) (lo := 0) (h := 4)
  generalize hG : p_num B L r.1 0 4 = G at *
  have eRD : (p_num B L G.1 1 21).1.2.2 = G.1.2.2 := p_num_R
  have okD := p_num_ok (B := B) (L := L) (s := G.1) (lo := 1) (h := 21)
  have dl := p_num_lt (B := B) (L := L) (s := G.1) (lo := 1) (h := 21) (m := 20) (by omega) (by omega)
  generalize hD : p_num B L G.1 1 21 = D at *
  have eRF : (p_num B L D.1 0 D.2).1.2.2 = D.1.2.2 := p_num_R
  have okF := p_num_ok (B := B) (L := L) (s := D.1) (lo := 0) (h := D.2)
  generalize hF : p_num B L D.1 0 D.2 = F at *
  have eRT : (p_num B L F.1 0 D.2).1.2.2 = F.1.2.2 := p_num_R
  have okT := p_num_ok (B := B) (L := L) (s := F.1) (lo := 0) (h := D.2)
  have vT := p_num_v2 (B := B) (L := L) (s := F.1) (lo := 0) (h := D.2)
  generalize hT : p_num B L F.1 0 D.2 = T at *
  have hZ6 := r3.Z
  obtain ⟨v, v1, v2⟩ := z_vl r3
  obtain ⟨S7, a1, a2⟩ := z_adv r3
  have hZ7 := a2.Z
  have h18 := a2.k18
  rw [p_next_1] at h18
  have h22 := a2.2.2.2.1.1
  have h23 := a2.2.2.2.1.2
  by_cases e : (if F.2 ≤ T.2 then T.1 else p_fail T.1 4).1.1 = 0
  · have hle : F.2 ≤ T.2 := by
      by_cases q : F.2 ≤ T.2
      · exact q
      · rw [if_neg q] at e
        exact absurd e (p_fail_0 (by omega))
    rw [if_pos hle] at e v2 a2 h18 ⊢
    have v2 := v2 e
    rw [vT e (by omega)] at v2
    have oT := okT e
    have oF := okF oT.1
    have oD := okD oF.1
    have oG := okG oD.1
    have oR := row oG.1 (by rw [eR0]; exact hV0.1.B)
    have hn := es0 oR.1
    rw [eR0] at oR eRr
    have eR : T.1.2.2 = s.2.2 := eRT.trans (eRF.trans (eRD.trans (eRG.trans eRr)))
    obtain ⟨hV1, hl1⟩ := a2.2.2.2.2.2.2 e
    have hV : p_V T.1.2.2 := hV1
    have hl : w_lk (am_i S7 140) T.1.2.2 := hl1
    clear hV1 hl1
    rw [eR] at hV hl
    rw [if_pos hn]
    rw [e] at h18
    have i3 : am_i S7 140 3 = nI (s_n (s.2.2 3)) := (hl.1 3 (by omega)).trans b3.1
    have n7 : 151 < am_n S7 := by
      obtain ⟨⟨q1, q2, -⟩, -⟩ := a2
      have := q1.1
      omega
    generalize hno : s_n (s.2.2 3) = no at *
    obtain ⟨U, FF, k1, k2, k3, k4, k5, f0, f1, f2, f3, f4, f5, f6⟩ := z_pickN rfl r2 hZ5 hZ6 v1 a1 hZ7 h18.1 h22 h23 i3 hn n7
    have lk := hl.pick (R := s.2.2) (by have := hV.1.B.2.1.2; omega) hn f0 f1 f2 f3 f4 (f5.trans v2) f6
    rw [← k5] at lk
    have q3 : s_n (s_addP s.2.2 no (nI c.2) (nI r.2) (nI G.2) (nI D.2) (nI F.2) (nI T.2) 3) = s_n (T.1.2.2 3) + 1 := by
      unfold s_addP
      rw [s_up_s, w_snI (by omega), eR, hno]
    exact ⟨U, _, _, r1.trans k1, a2.pk e k2 k3 k4 (hV.addP hno.symm hn oR.2 (s_nnI oG.2.2 (by omega)) ⟨s_nnI oD.2.2 (by omega), by rw [w_snI (by omega)]; omega⟩) lk q3⟩
  · refine ⟨S7, _, _, r1.trans ?_, a2.er e rfl⟩
    generalize (if F.2 ≤ T.2 then T.1 else p_fail T.1 4).1.1 = w at *
    obtain ⟨h18, hw⟩ := h18
    rw [k_ptail_e]
    simp (disch := omega) only [kX11_readPicket_241, x_cs0, x_csi, x_csr, x_csn, x_csl, x_ret_v, x_ret_t, x_ret_n, x_tl_s, x_tl_n, x_lk0, x_lk, x_rem0, x_rem_i, x_rem_r, x_rem_l, x_rem2_0, x_rem2_i, x_rem2_r, x_rem2_l, x_pick0, x_pick_c, x_st1, x_st2, x_live, x_i, x_l, x_a, x_ild, x_lld, x_rld, x_ist, x_lst, x_rst, x_inc, x_ii, x_ll, x_li, x_cmp, x_ui, x_il, x_lti, x_idiv, x_irem, x_dup_i, x_dup_r, x_pop_i, x_pop_r, x_dupx_ir, x_dup2_ir, x_ifeq, x_iceq, x_iflt, x_iclt, x_ifge, x_icge, x_ifgt, x_icgt, x_ifle, x_icle, x_ifne, x_icne, x_ifnull_r, x_ifnull_n, x_ifnonnull_r, x_ifnonnull_n, x_sw, x_vret, x_iret, x_lret, x_zret, x_zret0, x_zret1, x_rf_s, x_rf_n, x_geti, x_getr, x_puti, x_putz, x_putr, x_ial, x_ias, x_lal, x_las, x_aal, x_aas, x_aast, x_alen, x_new, x_newa, x_copy, x_min, x_abs, x_minl, x_oinit, x_throw, x_callS0, x_callS1, x_callS2, x_callS3, x_callS4, x_callV0, x_callV1, x_callV2, x_callV3, x_callV4, x_callV5, x_retI_v, x_callI0, x_callI1, x_callI2, x_retN_v, x_callSN1, x_callSN2, x_callT0, x_callT1, x_fn, x_sl0, x_sli, x_slr, x_sll, x_ar0, x_ari, x_arr, x_arl, ↓reduceIte, Nat.reduceAdd, Nat.reduceSub, Nat.reduceMul, Nat.reduceEqDiff, Nat.reduceLeDiff, Nat.reduceLT, if_true, if_false, Nat.le_refl, and_true, true_and, and_self, reduceCtorEq, or_false, false_or, or_true, true_or, Nat.zero_le, fa_lit, nI_add, w_mul, nI_ltI, nI_leI, nI_eq, nI_clamp, nI_toInt, if_pos, if_neg, w_div, w_rem2, zk138 hZ5, zk139 hZ5, zk140 hZ5, zk141 hZ5, zk142 hZ5, zk143 hZ5, zk144 hZ5, zk145 hZ5, zk146 hZ5, zk147 hZ5, zk148 hZ5, zk149 hZ5, zk150 hZ5, zk151 hZ5, zl139 hZ5, zl140 hZ5, zl141 hZ5, zl142 hZ5, zl143 hZ5, zl144 hZ5, zl145 hZ5, zl146 hZ5, zl147 hZ5, zl148 hZ5, zl149 hZ5, zl150 hZ5, zl151 hZ5, zr138_0 hZ5, zr138_1 hZ5, zr138_2 hZ5, zr138_3 hZ5, zr138_4 hZ5, zr138_8 hZ5, zr138_9 hZ5, zr138_10 hZ5, zr138_12 hZ5, zr138_24 hZ5, zr138_25 hZ5, zr138_26 hZ5, zr148_0 hZ5, zr148_1 hZ5, zr148_2 hZ5, zr148_3 hZ5, zr148_4 hZ5, zr148_5 hZ5, zr148_6 hZ5, zr148_7 hZ5, zr148_8 hZ5, zk138 hZ6, zk139 hZ6, zk140 hZ6, zk141 hZ6, zk142 hZ6, zk143 hZ6, zk144 hZ6, zk145 hZ6, zk146 hZ6, zk147 hZ6, zk148 hZ6, zk149 hZ6, zk150 hZ6, zk151 hZ6, zl139 hZ6, zl140 hZ6, zl141 hZ6, zl142 hZ6, zl143 hZ6, zl144 hZ6, zl145 hZ6, zl146 hZ6, zl147 hZ6, zl148 hZ6, zl149 hZ6, zl150 hZ6, zl151 hZ6, zr138_0 hZ6, zr138_1 hZ6, zr138_2 hZ6, zr138_3 hZ6, zr138_4 hZ6, zr138_8 hZ6, zr138_9 hZ6, zr138_10 hZ6, zr138_12 hZ6, zr138_24 hZ6, zr138_25 hZ6, zr138_26 hZ6, zr148_0 hZ6, zr148_1 hZ6, zr148_2 hZ6, zr148_3 hZ6, zr148_4 hZ6, zr148_5 hZ6, zr148_6 hZ6, zr148_7 hZ6, zr148_8 hZ6, zk138 hZ7, zk139 hZ7, zk140 hZ7, zk141 hZ7, zk142 hZ7, zk143 hZ7, zk144 hZ7, zk145 hZ7, zk146 hZ7, zk147 hZ7, zk148 hZ7, zk149 hZ7, zk150 hZ7, zk151 hZ7, zl139 hZ7, zl140 hZ7, zl141 hZ7, zl142 hZ7, zl143 hZ7, zl144 hZ7, zl145 hZ7, zl146 hZ7, zl147 hZ7, zl148 hZ7, zl149 hZ7, zl150 hZ7, zl151 hZ7, zr138_0 hZ7, zr138_1 hZ7, zr138_2 hZ7, zr138_3 hZ7, zr138_4 hZ7, zr138_8 hZ7, zr138_9 hZ7, zr138_10 hZ7, zr138_12 hZ7, zr138_24 hZ7, zr138_25 hZ7, zr138_26 hZ7, zr148_0 hZ7, zr148_1 hZ7, zr148_2 hZ7, zr148_3 hZ7, zr148_4 hZ7, zr148_5 hZ7, zr148_6 hZ7, zr148_7 hZ7, zr148_8 hZ7, r2, v1, a1, h18]
end L38
