/-! THE REFERENCE: load -/
def u_l8 (M : Nat → Nat → Int32) (e : Int32) : Nat → Int32 := va_up (va_up (M 138) 13 (nI 0)) 20 e
def u_load (M : Nat → Nat → Int32) (B : Nat → Nat) (Q : Nat → Int32) (x : Int32) : (Nat × Int32) × (Nat → Nat → Int32) :=
  if s_is x (s_n (M 138 13) + 1) then
    (if (p_all B (s_n x)).1.1 = 0 then ((0, (p_all B (s_n x)).2.2 2), va_up (va_up M 139 (s_ov0 Q (M 139))) 138 (va_up (va_up (u_l8 M (-nI 1)) 5 (nI 0)) 7 (nI 0)))
     else ((0, -nI 10 - nI (p_all B (s_n x)).1.1), va_up M 138 (u_l8 M (nI (p_all B (s_n x)).1.2))))
  else ((1, 0), M)
/-- an answer of the reference, with new cells -/
abbrev w_Zn (c z : Nat) (u : (Nat × Int32) × (Nat → Nat → Int32)) (f : am_F) (As : List Value) (S : am_S) : Prop := ∃ S', f As S = some (.inl (some (.int u.1.2)), S') ∧ am_i S' 138 6 = nI u.1.1 ∧ w_Mq u.2 S' ∧ w_Z S' ∧ w_F w_P7 S S' ∧ am_n S' ≤ am_n S + c ∧ am_z S' ≤ am_z S + z
section L42
variable {S S' S0 T V : am_S} {a b c o p q i j k m n u t L e f κ v0 lo h ne A : Nat} {P : Nat → Prop} {B : Nat → Nat} {x y z v hi x' y' : Int32} {s s' : p_S} {R Q F : Nat → Int32} {M M' : Nat → Nat → Int32}
theorem z_clear (hZ : w_Z S) : ∃ S', fX11_clear w_N [.ref 140] S = some (.inl none, S') ∧ w_I (fun b => b = 140) S S' ∧ ∀ j, j < 3934 → am_i S' 140 j = p_R0 j := by
  obtain ⟨T, r, n1, n2, n3⟩ := w_genR (σ := Unit) (body := bX11_clear_2 w_N) (lvf := fun i => [(0, .ref 140), (1, .int (nI i))]) (n := 3934) (g := fun _ s => s) (P := fun i T _ => w_I (fun b => b = 140) S T ∧ ∀ j, j < i → am_i T 140 j = nI 0)
    (fun i T s r hi hP => by
      obtain ⟨p1, p2⟩ := hP
      have hZT := p1.Z hZ
      refine ⟨am_putI T 140 i (nI 0), ?_, p1.tr (w_I.put (P := fun b => b = 140) rfl), fun j hj => ?_⟩
      · simp (disch := omega) only [bX11_clear_2, x_cs0, x_csi, x_csr, x_csn, x_csl, x_ret_v, x_ret_t, x_ret_n, x_tl_s, x_tl_n, x_lk0, x_lk, x_rem0, x_rem_i, x_rem_r, x_rem_l, x_rem2_0, x_rem2_i, x_rem2_r, x_rem2_l, x_pick0, x_pick_c, x_st1, x_st2, x_live, x_i, x_l, x_a, x_ild, x_lld, x_rld, x_ist, x_lst, x_rst, x_inc, x_ii, x_ll, x_li, x_cmp, x_ui, x_il, x_lti, x_idiv, x_irem, x_dup_i, x_dup_r, x_pop_i, x_pop_r, x_dupx_ir, x_dup2_ir, x_ifeq, x_iceq, x_iflt, x_iclt, x_ifge, x_icge, x_ifgt, x_icgt, x_ifle, x_icle, x_ifne, x_icne, x_ifnull_r, x_ifnull_n, x_ifnonnull_r, x_ifnonnull_n, x_sw, x_vret, x_iret, x_lret, x_zret, x_zret0, x_zret1, x_rf_s, x_rf_n, x_geti, x_getr, x_puti, x_putz, x_putr, x_ial, x_ias, x_lal, x_las, x_aal, x_aas, x_aast, x_alen, x_new, x_newa, x_copy, x_min, x_abs, x_minl, x_oinit, x_throw, x_callS0, x_callS1, x_callS2, x_callS3, x_callS4, x_callV0, x_callV1, x_callV2, x_callV3, x_callV4, x_callV5, x_retI_v, x_callI0, x_callI1, x_callI2, x_retN_v, x_callSN1, x_callSN2, x_callT0, x_callT1, x_fn, x_sl0, x_sli, x_slr, x_sll, x_ar0, x_ari, x_arr, x_arl, ↓reduceIte, Nat.reduceAdd, Nat.reduceSub, Nat.reduceMul, Nat.reduceEqDiff, Nat.reduceLeDiff, Nat.reduceLT, if_true, if_false, Nat.le_refl, and_true, true_and, and_self, reduceCtorEq, or_false, false_or, or_true, true_or, Nat.zero_le, fa_lit, nI_add, w_mul, nI_ltI, nI_leI, nI_eq, nI_clamp, nI_toInt, if_pos, if_neg, w_div, w_rem2, zk138 hZT, zk139 hZT, zk140 hZT, zk141 hZT, zk142 hZT, zk143 hZT, zk144 hZT, zk145 hZT, zk146 hZT, zk147 hZT, zk148 hZT, zk149 hZT, zk150 hZT, zk151 hZT, zl139 hZT, zl140 hZT, zl141 hZT, zl142 hZT, zl143 hZT, zl144 hZT, zl145 hZT, zl146 hZT, zl147 hZT, zl148 hZT, zl149 hZT, zl150 hZT, zl151 hZT, zr138_0 hZT, zr138_1 hZT, zr138_2 hZT, zr138_3 hZT, zr138_4 hZT, zr138_8 hZT, zr138_9 hZT, zr138_10 hZT, zr138_12 hZT, zr138_24 hZT, zr138_25 hZT, zr138_26 hZT, zr148_0 hZT, zr148_1 hZT, zr148_2 hZT, zr148_3 hZT, zr148_4 hZT, zr148_5 hZT, zr148_6 hZT, zr148_7 hZT, zr148_8 hZT]
      · rw [x_i_I, if_pos rfl]
        by_cases g : j = i
        · rw [if_pos g]
        · rw [if_neg g]
          exact p2 j (by omega)) w_N 0 S () (by show 3934 - 0 < 5000; omega) (Nat.zero_le _) ⟨w_I.rf, fun j hj => absurd hj (by omega)⟩
  have hZT := n2.Z hZ
  have k0 : w_I (fun b => b = 140) T (am_putI T 140 0 (nI 3)) := w_I.put (P := fun b => b = 140) rfl
  have hZ0 := k0.Z hZT
  have k1 : w_I (fun b => b = 140) (am_putI T 140 0 (nI 3)) (am_putI (am_putI T 140 0 (nI 3)) 140 1 (nI 3)) := w_I.put (P := fun b => b = 140) rfl
  have hZ1 := k1.Z hZ0
  refine ⟨am_putI (am_putI (am_putI T 140 0 (nI 3)) 140 1 (nI 3)) 140 9 (nI 30), ?_, n2.tr (k0.tr (k1.tr (w_I.put (P := fun b => b = 140) rfl))), fun j hj => ?_⟩
  · have g : am_loop (bX11_clear_2 w_N) w_N [(0, .ref 140), (1, .int (nI 0))] [] S = some (.inl none, am_putI (am_putI (am_putI T 140 0 (nI 3)) 140 1 (nI 3)) 140 9 (nI 30)) := by
      refine Eq.trans n1 ?_
      simp (disch := omega) only [bX11_clear_2, x_cs0, x_csi, x_csr, x_csn, x_csl, x_ret_v, x_ret_t, x_ret_n, x_tl_s, x_tl_n, x_lk0, x_lk, x_rem0, x_rem_i, x_rem_r, x_rem_l, x_rem2_0, x_rem2_i, x_rem2_r, x_rem2_l, x_pick0, x_pick_c, x_st1, x_st2, x_live, x_i, x_l, x_a, x_ild, x_lld, x_rld, x_ist, x_lst, x_rst, x_inc, x_ii, x_ll, x_li, x_cmp, x_ui, x_il, x_lti, x_idiv, x_irem, x_dup_i, x_dup_r, x_pop_i, x_pop_r, x_dupx_ir, x_dup2_ir, x_ifeq, x_iceq, x_iflt, x_iclt, x_ifge, x_icge, x_ifgt, x_icgt, x_ifle, x_icle, x_ifne, x_icne, x_ifnull_r, x_ifnull_n, x_ifnonnull_r, x_ifnonnull_n, x_sw, x_vret, x_iret, x_lret, x_zret, x_zret0, x_zret1, x_rf_s, x_rf_n, x_geti, x_getr, x_puti, x_putz, x_putr, x_ial, x_ias, x_lal, x_las, x_aal, x_aas, x_aast, x_alen, x_new, x_newa, x_copy, x_min, x_abs, x_minl, x_oinit, x_throw, x_callS0, x_callS1, x_callS2, x_callS3, x_callS4, x_callV0, x_callV1, x_callV2, x_callV3, x_callV4, x_callV5, x_retI_v, x_callI0, x_callI1, x_callI2, x_retN_v, x_callSN1, x_callSN2, x_callT0, x_callT1, x_fn, x_sl0, x_sli, x_slr, x_sll, x_ar0, x_ari, x_arr, x_arl, ↓reduceIte, Nat.reduceAdd, Nat.reduceSub, Nat.reduceMul, Nat.reduceEqDiff, Nat.reduceLeDiff, Nat.reduceLT, if_true, if_false, Nat.le_refl, and_true, true_and, and_self, reduceCtorEq, or_false, false_or, or_true, true_or, Nat.zero_le, fa_lit, nI_add, w_mul, nI_ltI, nI_leI, nI_eq, nI_clamp, nI_toInt, if_pos, if_neg, w_div, w_rem2, zk138 hZT, zk139 hZT, zk140 hZT, zk141 hZT, zk142 hZT, zk143 hZT, zk144 hZT, zk145 hZT, zk146 hZT, zk147 hZT, zk148 hZT, zk149 hZT, zk150 hZT, zk151 hZT, zl139 hZT, zl140 hZT, zl141 hZT, zl142 hZT, zl143 hZT, zl144 hZT, zl145 hZT, zl146 hZT, zl147 hZT, zl148 hZT, zl149 hZT, zl150 hZT, zl151 hZT, zr138_0 hZT, zr138_1 hZT, zr138_2 hZT, zr138_3 hZT, zr138_4 hZT, zr138_8 hZT, zr138_9 hZT, zr138_10 hZT, zr138_12 hZT, zr138_24 hZT, zr138_25 hZT, zr138_26 hZT, zr148_0 hZT, zr148_1 hZT, zr148_2 hZT, zr148_3 hZT, zr148_4 hZT, zr148_5 hZT, zr148_6 hZT, zr148_7 hZT, zr148_8 hZT, zk138 hZ0, zk139 hZ0, zk140 hZ0, zk141 hZ0, zk142 hZ0, zk143 hZ0, zk144 hZ0, zk145 hZ0, zk146 hZ0, zk147 hZ0, zk148 hZ0, zk149 hZ0, zk150 hZ0, zk151 hZ0, zl139 hZ0, zl140 hZ0, zl141 hZ0, zl142 hZ0, zl143 hZ0, zl144 hZ0, zl145 hZ0, zl146 hZ0, zl147 hZ0, zl148 hZ0, zl149 hZ0, zl150 hZ0, zl151 hZ0, zr138_0 hZ0, zr138_1 hZ0, zr138_2 hZ0, zr138_3 hZ0, zr138_4 hZ0, zr138_8 hZ0, zr138_9 hZ0, zr138_10 hZ0, zr138_12 hZ0, zr138_24 hZ0, zr138_25 hZ0, zr138_26 hZ0, zr148_0 hZ0, zr148_1 hZ0, zr148_2 hZ0, zr148_3 hZ0, zr148_4 hZ0, zr148_5 hZ0, zr148_6 hZ0, zr148_7 hZ0, zr148_8 hZ0, zk138 hZ1, zk139 hZ1, zk140 hZ1, zk141 hZ1, zk142 hZ1, zk143 hZ1, zk144 hZ1, zk145 hZ1, zk146 hZ1, zk147 hZ1, zk148 hZ1, zk149 hZ1, zk150 hZ1, zk151 hZ1, zl139 hZ1, zl140 hZ1, zl141 hZ1, zl142 hZ1, zl143 hZ1, zl144 hZ1, zl145 hZ1, zl146 hZ1, zl147 hZ1, zl148 hZ1, zl149 hZ1, zl150 hZ1, zl151 hZ1, zr138_0 hZ1, zr138_1 hZ1, zr138_2 hZ1, zr138_3 hZ1, zr138_4 hZ1, zr138_8 hZ1, zr138_9 hZ1, zr138_10 hZ1, zr138_12 hZ1, zr138_24 hZ1, zr138_25 hZ1, zr138_26 hZ1, zr148_0 hZ1, zr148_1 hZ1, zr148_2 hZ1, zr148_3 hZ1, zr148_4 hZ1, zr148_5 hZ1, zr148_6 hZ1, zr148_7 hZ1, zr148_8 hZ1]
    simp (disch := omega) only [fX11_clear, kX11_clear_0, kX11_clear_2, x_cs0, x_csi, x_csr, x_csn, x_csl, x_ret_v, x_ret_t, x_ret_n, x_tl_s, x_tl_n, x_lk0, x_lk, x_rem0, x_rem_i, x_rem_r, x_rem_l, x_rem2_0, x_rem2_i, x_rem2_r, x_rem2_l, x_pick0, x_pick_c, x_st1, x_st2, x_live, x_i, x_l, x_a, x_ild, x_lld, x_rld, x_ist, x_lst, x_rst, x_inc, x_ii, x_ll, x_li, x_cmp, x_ui, x_il, x_lti, x_idiv, x_irem, x_dup_i, x_dup_r, x_pop_i, x_pop_r, x_dupx_ir, x_dup2_ir, x_ifeq, x_iceq, x_iflt, x_iclt, x_ifge, x_icge, x_ifgt, x_icgt, x_ifle, x_icle, x_ifne, x_icne, x_ifnull_r, x_ifnull_n, x_ifnonnull_r, x_ifnonnull_n, x_sw, x_vret, x_iret, x_lret, x_zret, x_zret0, x_zret1, x_rf_s, x_rf_n, x_geti, x_getr, x_puti, x_putz, x_putr, x_ial, x_ias, x_lal, x_las, x_aal, x_aas, x_aast, x_alen, x_new, x_newa, x_copy, x_min, x_abs, x_minl, x_oinit, x_throw, x_callS0, x_callS1, x_callS2, x_callS3, x_callS4, x_callV0, x_callV1, x_callV2, x_callV3, x_callV4, x_callV5, x_retI_v, x_callI0, x_callI1, x_callI2, x_retN_v, x_callSN1, x_callSN2, x_callT0, x_callT1, x_fn, x_sl0, x_sli, x_slr, x_sll, x_ar0, x_ari, x_arr, x_arl, ↓reduceIte, Nat.reduceAdd, Nat.reduceSub, Nat.reduceMul, Nat.reduceEqDiff, Nat.reduceLeDiff, Nat.reduceLT, if_true, if_false, Nat.le_refl, and_true, true_and, and_self, reduceCtorEq, or_false, false_or, or_true, true_or, Nat.zero_le, fa_lit, nI_add, w_mul, nI_ltI, nI_leI, nI_eq, nI_clamp, nI_toInt, if_pos, if_neg, w_div, w_rem2, g]
  · unfold p_R0
    rw [x_i_I, if_pos rfl, x_i_I, if_pos rfl, x_i_I, if_pos rfl]
    by_cases g9 : j = 9
    · rw [if_pos g9, g9]
      rfl
    · rw [if_neg g9, if_neg g9]
      by_cases g1 : j = 1
      · rw [if_pos g1, g1]
        rfl
      · rw [if_neg g1, if_neg g1]
        by_cases g0 : j = 0
        · rw [if_pos g0, if_pos g0]
        · rw [if_neg g0, if_neg g0]
          exact n3 j hj
theorem z_start (hZ : w_Z S) (ht : w_tx S 147 L B) (hn : 151 < am_n S) (h140 : ∀ j, j < 3934 → am_i S 140 j = p_R0 j) : ∃ S2 S' x y, fX11_startText w_N [.ref 138, .int (nI L)] S = some (.inl none, S') ∧ w_I (fun b => b = 138) S S2 ∧ (∀ j, j ≠ 14 → j ≠ 15 → j ≠ 18 → j ≠ 21 → am_i S2 138 j = am_i S 138 j) ∧ am_i S2 138 21 = nI 0 ∧ w_zo S2 S' L B (p_next B L p_s0) x y := by
  have k1 : w_I (fun b => b = 138) S (am_putI S 138 14 (nI L)) := w_I.put (P := fun b => b = 138) rfl
  have hZ1 := k1.Z hZ
  have k2 : w_I (fun b => b = 138) (am_putI S 138 14 (nI L)) (am_putI (am_putI S 138 14 (nI L)) 138 15 (nI 0)) := w_I.put (P := fun b => b = 138) rfl
  have hZ2 := k2.Z hZ1
  have k3 : w_I (fun b => b = 138) (am_putI (am_putI S 138 14 (nI L)) 138 15 (nI 0)) (am_putI (am_putI (am_putI S 138 14 (nI L)) 138 15 (nI 0)) 138 18 (nI 0)) := w_I.put (P := fun b => b = 138) rfl
  have hZ3 := k3.Z hZ2
  have k4 : w_I (fun b => b = 138) (am_putI (am_putI (am_putI S 138 14 (nI L)) 138 15 (nI 0)) 138 18 (nI 0)) (am_putI (am_putI (am_putI (am_putI S 138 14 (nI L)) 138 15 (nI 0)) 138 18 (nI 0)) 138 21 (nI 0)) := w_I.put (P := fun b => b = 138) rfl
  have hZ4 := k4.Z hZ3
  have I4 := k1.tr (k2.tr (k3.tr k4))
  have j14 : am_i (am_putI (am_putI (am_putI (am_putI S 138 14 (nI L)) 138 15 (nI 0)) 138 18 (nI 0)) 138 21 (nI 0)) 138 14 = nI L := by simp (disch := omega) only [x_i_I, if_pos, if_neg, if_true]
  have j15 : am_i (am_putI (am_putI (am_putI (am_putI S 138 14 (nI L)) 138 15 (nI 0)) 138 18 (nI 0)) 138 21 (nI 0)) 138 15 = nI 0 := by simp (disch := omega) only [x_i_I, if_pos, if_neg, if_true]
  have j18 : am_i (am_putI (am_putI (am_putI (am_putI S 138 14 (nI L)) 138 15 (nI 0)) 138 18 (nI 0)) 138 21 (nI 0)) 138 18 = nI 0 := by simp (disch := omega) only [x_i_I, if_pos, if_neg, if_true]
  have j21 : am_i (am_putI (am_putI (am_putI (am_putI S 138 14 (nI L)) 138 15 (nI 0)) 138 18 (nI 0)) 138 21 (nI 0)) 138 21 = nI 0 := x_i_Is
  have jn : ∀ j, j ≠ 14 → j ≠ 15 → j ≠ 18 → j ≠ 21 → am_i (am_putI (am_putI (am_putI (am_putI S 138 14 (nI L)) 138 15 (nI 0)) 138 18 (nI 0)) 138 21 (nI 0)) 138 j = am_i S 138 j := fun j q1 q2 q3 q4 => by rw [x_i_I, if_pos rfl, if_neg q4, x_i_I, if_pos rfl, if_neg q3, x_i_I, if_pos rfl, if_neg q2, x_i_I, if_pos rfl, if_neg q1]
  have ht4 := ht.of I4 (by omega)
  have i140 : am_i (am_putI (am_putI (am_putI (am_putI S 138 14 (nI L)) 138 15 (nI 0)) 138 18 (nI 0)) 138 21 (nI 0)) 140 = am_i S 140 := I4.i (by omega)
  have n4 : am_n (am_putI (am_putI (am_putI (am_putI S 138 14 (nI L)) 138 15 (nI 0)) 138 18 (nI 0)) 138 21 (nI 0)) = am_n S := I4.1
  have run : ∀ S', fX11_scan w_N [.ref 138] (am_putI (am_putI (am_putI (am_putI S 138 14 (nI L)) 138 15 (nI 0)) 138 18 (nI 0)) 138 21 (nI 0)) = some (.inl none, S') → fX11_startText w_N [.ref 138, .int (nI L)] S = some (.inl none, S') := fun S' f => by
    simp (disch := omega) only [fX11_startText, kX11_startText_0, x_cs0, x_csi, x_csr, x_csn, x_csl, x_ret_v, x_ret_t, x_ret_n, x_tl_s, x_tl_n, x_lk0, x_lk, x_rem0, x_rem_i, x_rem_r, x_rem_l, x_rem2_0, x_rem2_i, x_rem2_r, x_rem2_l, x_pick0, x_pick_c, x_st1, x_st2, x_live, x_i, x_l, x_a, x_ild, x_lld, x_rld, x_ist, x_lst, x_rst, x_inc, x_ii, x_ll, x_li, x_cmp, x_ui, x_il, x_lti, x_idiv, x_irem, x_dup_i, x_dup_r, x_pop_i, x_pop_r, x_dupx_ir, x_dup2_ir, x_ifeq, x_iceq, x_iflt, x_iclt, x_ifge, x_icge, x_ifgt, x_icgt, x_ifle, x_icle, x_ifne, x_icne, x_ifnull_r, x_ifnull_n, x_ifnonnull_r, x_ifnonnull_n, x_sw, x_vret, x_iret, x_lret, x_zret, x_zret0, x_zret1, x_rf_s, x_rf_n, x_geti, x_getr, x_puti, x_putz, x_putr, x_ial, x_ias, x_lal, x_las, x_aal, x_aas, x_aast, x_alen, x_new, x_newa, x_copy, x_min, x_abs, x_minl, x_oinit, x_throw, x_callS0, x_callS1, x_callS2, x_callS3, x_callS4, x_callV0, x_callV1, x_callV2, x_callV3, x_callV4, x_callV5, x_retI_v, x_callI0, x_callI1, x_callI2, x_retN_v, x_callSN1, x_callSN2, x_callT0, x_callT1, x_fn, x_sl0, x_sli, x_slr, x_sll, x_ar0, x_ari, x_arr, x_arl, ↓reduceIte, Nat.reduceAdd, Nat.reduceSub, Nat.reduceMul, Nat.reduceEqDiff, Nat.reduceLeDiff, Nat.reduceLT, if_true, if_false, Nat.le_refl, and_true, true_and, and_self, reduceCtorEq, or_false, false_or, or_true, true_or, Nat.zero_le, fa_lit, nI_add, w_mul, nI_ltI, nI_leI, nI_eq, nI_clamp, nI_toInt, if_pos, if_neg, w_div, w_rem2, zk138 hZ, zk139 hZ, zk140 hZ, zk141 hZ, zk142 hZ, zk143 hZ, zk144 hZ, zk145 hZ, zk146 hZ, zk147 hZ, zk148 hZ, zk149 hZ, zk150 hZ, zk151 hZ, zl139 hZ, zl140 hZ, zl141 hZ, zl142 hZ, zl143 hZ, zl144 hZ, zl145 hZ, zl146 hZ, zl147 hZ, zl148 hZ, zl149 hZ, zl150 hZ, zl151 hZ, zr138_0 hZ, zr138_1 hZ, zr138_2 hZ, zr138_3 hZ, zr138_4 hZ, zr138_8 hZ, zr138_9 hZ, zr138_10 hZ, zr138_12 hZ, zr138_24 hZ, zr138_25 hZ, zr138_26 hZ, zr148_0 hZ, zr148_1 hZ, zr148_2 hZ, zr148_3 hZ, zr148_4 hZ, zr148_5 hZ, zr148_6 hZ, zr148_7 hZ, zr148_8 hZ, zk138 hZ1, zk139 hZ1, zk140 hZ1, zk141 hZ1, zk142 hZ1, zk143 hZ1, zk144 hZ1, zk145 hZ1, zk146 hZ1, zk147 hZ1, zk148 hZ1, zk149 hZ1, zk150 hZ1, zk151 hZ1, zl139 hZ1, zl140 hZ1, zl141 hZ1, zl142 hZ1, zl143 hZ1, zl144 hZ1, zl145 hZ1, zl146 hZ1, zl147 hZ1, zl148 hZ1, zl149 hZ1, zl150 hZ1, zl151 hZ1, zr138_0 hZ1, zr138_1 hZ1, zr138_2 hZ1, zr138_3 hZ1, zr138_4 hZ1, zr138_8 hZ1, zr138_9 hZ1, zr138_10 hZ1, zr138_12 hZ1, zr138_24 hZ1, zr138_25 hZ1, zr138_26 hZ1, zr148_0 hZ1, zr148_1 hZ1, zr148_2 hZ1, zr148_3 hZ1, zr148_4 hZ1, zr148_5 hZ1, zr148_6 hZ1, zr148_7 hZ1, zr148_8 hZ1, zk138 hZ2, zk139 hZ2, zk140 hZ2, zk141 hZ2, zk142 hZ2, zk143 hZ2, zk144 hZ2, zk145 hZ2, zk146 hZ2, zk147 hZ2, zk148 hZ2, zk149 hZ2, zk150 hZ2, zk151 hZ2, zl139 hZ2, zl140 hZ2, zl141 hZ2, zl142 hZ2, zl143 hZ2, zl144 hZ2, zl145 hZ2, zl146 hZ2, zl147 hZ2, zl148 hZ2, zl149 hZ2, zl150 hZ2, zl151 hZ2, zr138_0 hZ2, zr138_1 hZ2, zr138_2 hZ2, zr138_3 hZ2, zr138_4 hZ2, zr138_8 hZ2, zr138_9 hZ2, zr138_10 hZ2, zr138_12 hZ2, zr138_24 hZ2, zr138_25 hZ2, zr138_26 hZ2, zr148_0 hZ2, zr148_1 hZ2, zr148_2 hZ2, zr148_3 hZ2, zr148_4 hZ2, zr148_5 hZ2, zr148_6 hZ2, zr148_7 hZ2, zr148_8 hZ2, zk138 hZ3, zk139 hZ3, zk140 hZ3, zk141 hZ3, zk142 hZ3, zk143 hZ3, zk144 hZ3, zk145 hZ3, zk146 hZ3, zk147 hZ3, zk148 hZ3, zk149 hZ3, zk150 hZ3, zk151 hZ3, zl139 hZ3, zl140 hZ3, zl141 hZ3, zl142 hZ3, zl143 hZ3, zl144 hZ3, zl145 hZ3, zl146 hZ3, zl147 hZ3, zl148 hZ3, zl149 hZ3, zl150 hZ3, zl151 hZ3, zr138_0 hZ3, zr138_1 hZ3, zr138_2 hZ3, zr138_3 hZ3, zr138_4 hZ3, zr138_8 hZ3, zr138_9 hZ3, zr138_10 hZ3, zr138_12 hZ3, zr138_24 hZ3, zr138_25 hZ3, zr138_26 hZ3, zr148_0 hZ3, zr148_1 hZ3, zr148_2 hZ3, zr148_3 hZ3, zr148_4 hZ3, zr148_5 hZ3, zr148_6 hZ3, zr148_7 hZ3, zr148_8 hZ3, zk138 hZ4, zk139 hZ4, zk140 hZ4, zk141 hZ4, zk142 hZ4, zk143 hZ4, zk144 hZ4, zk145 hZ4, zk146 hZ4, zk147 hZ4, zk148 hZ4, zk149 hZ4, zk150 hZ4, zk151 hZ4, zl139 hZ4, zl140 hZ4, zl141 hZ4, zl142 hZ4, zl143 hZ4, zl144 hZ4, zl145 hZ4, zl146 hZ4, zl147 hZ4, zl148 hZ4, zl149 hZ4, zl150 hZ4, zl151 hZ4, zr138_0 hZ4, zr138_1 hZ4, zr138_2 hZ4, zr138_3 hZ4, zr138_4 hZ4, zr138_8 hZ4, zr138_9 hZ4, zr138_10 hZ4, zr138_12 hZ4, zr138_24 hZ4, zr138_25 hZ4, zr138_26 hZ4, zr148_0 hZ4, zr148_1 hZ4, zr148_2 hZ4, zr148_3 hZ4, zr148_4 hZ4, zr148_5 hZ4, zr148_6 hZ4, zr148_7 hZ4, zr148_8 hZ4, f]
  generalize am_putI (am_putI (am_putI (am_putI S 138 14 (nI L)) 138 15 (nI 0)) 138 18 (nI 0)) 138 21 (nI 0) = S2 at *
  have hl : w_zl S2 S2 L 0 B := ⟨w_I.rf, hZ4, ht4, j14, j15, fun _ _ _ _ => rfl⟩
  obtain ⟨S', f1, f2, f3, f4⟩ := z_scan hl (Nat.zero_le _)
  have ij := f2.2.2.2.2.2
  refine ⟨S2, S', _, _, run S' f1, I4, jn, j21, ⟨(w_F.of f2.1).mono (fun b hb => Or.inl hb), by omega, 0, Nat.zero_le _, f2.1.1, f2.1.2.1, fun _ => ?_⟩, ⟨f2.2.1, f2.2.2.1, f2.2.2.2.1⟩, fun j hj => ij j (by omega) (by omega) (by omega), ⟨rfl, rfl⟩, ⟨Nat.zero_le _, ?_, fun q => absurd rfl q⟩, ⟨l_nx B L 0, l_nx_ok (Nat.zero_le _), f3, f2.2.2.2.2.1, f4, fun _ => rfl⟩, fun _ => ⟨?_, fun j hj => ?_, fun u hu => ?_⟩⟩
  · show 0 = s_n (p_R0 3)
    rw [p_R0_0 (by omega) (by omega) (by omega), w_snI (by omega)]
  · rw [ij 18 (by omega) (by omega) (by omega)]
    exact j18
  · exact p_V.head (i := 3) (j := 3) (fun j a b c _ => p_R0_0 a b c) rfl rfl rfl (by omega) (by omega)
  · rw [f2.1.i (by omega), i140]
    exact h140 j (by omega)
  · have hu : u < s_n (p_R0 2) := hu
    rw [p_R0_0 (by omega) (by omega) (by omega), w_snI (by omega)] at hu
    omega
theorem z_load (hZ : w_Z S) (hM : w_Mq M S) (h13 : M 138 13 = nI n) (hn : n ≤ 600) (hB : ∀ i, i < n → M 147 i = nI (B i) ∧ B i < 256) (h151 : 151 < am_n S) : ∃ Q, (s_is x (n + 1) → (p_all B (s_n x)).1.1 = 0 → p_V (p_all B (s_n x)).2.2 ∧ w_lk Q (p_all B (s_n x)).2.2) ∧ w_Zn 4 28 (u_load M B Q x) (fX11_load w_N) [.ref 138, .int x] S := by
  have t0 : w_th 0 S (am_putI S 138 6 (nI 0)) := w_th.put
  have hZ1 := t0.Z hZ
  have hM1 := hM.th t0
  have e13 := (hM1.2.2.2.2.2 13 (by omega)).trans h13
  have gr := z_inRange (S := am_putI S 138 6 (nI 0)) (x := x) (y := nI 0) (z := nI n)
  rw [w_inRc (by omega)] at gr
  unfold u_load
  rw [h13, w_snI (by omega)]
  by_cases c : s_is x (n + 1)
  · rw [w_bt c] at gr
    obtain ⟨L, l1, l2, rfl⟩ := s_is_n c
    rw [w_snI (by omega)]
    have hL : L ≤ 600 := by omega
    obtain ⟨T1, c1, c2, c3⟩ := z_clear hZ1
    have zT1 := c2.Z hZ1
    have ht1 : w_tx T1 147 L B := ⟨hL, fun i hi => by
      rw [c2.i (by omega), hM1.2.2.2.2.1]
      exact hB i (by omega)⟩
    have n1 : am_n T1 = am_n S := c2.1.trans t0.1.1
    obtain ⟨T2, T3, X, Y, d1, d2, d3, d4, d5⟩ := z_start zT1 ht1 (by omega) c3
    have zT3 := d5.Z
    obtain ⟨T4, t, X4, Y4, f1, f2, f3, f4⟩ := z_readAll d5 hL
    have zT4 := f2.Z
    have k18 := f2.k18
    have k19 := f2.2.2.2.2.1.2.2
    rw [f3] at k18 k19
    have fr := f2.2.2.1
    have nT4 : am_n T4 ≤ am_n S + 4 ∧ am_z T4 ≤ am_z S + 28 ∧ w_F w_PD T2 T4 ∧ am_n T4 > 151 := by
      obtain ⟨⟨a1, a2, k, a3, a4, a5, -⟩, -⟩ := f2
      have e1 : am_n T2 = am_n S := d2.1.trans n1
      have e2 : am_z T2 = am_z S := d2.2.1.trans (c2.2.1.trans t0.1.2.1)
      exact ⟨by omega, by omega, a1, by omega⟩
    have h2n : am_n T2 = am_n S := d2.1.trans n1
    have I02 : w_I w_P7 S T2 := (t0.P7.tr (c2.mono (fun b hb => by show 138 ≤ b ∧ b ≤ 150; omega))).tr (d2.mono (fun b hb => by show 138 ≤ b ∧ b ≤ 150; omega))
    have F4 : w_F w_P7 S T4 := (w_F.of I02).tr (nT4.2.2.1.mono (fun b hb => by rcases hb with hb | hb <;> (show 138 ≤ b ∧ b ≤ 150; omega)))
    have io : ∀ b, 138 ≤ b → b ≤ 151 → b ≠ 138 → b ≠ 140 → am_i T4 b = am_i (am_putI S 138 6 (nI 0)) b := fun b b1 b2 b3 b4 => by
      rw [nT4.2.2.1.i (by omega) (by show ¬ (b = 138 ∨ b = 140); omega), d2.i b3, c2.i b4]
    have i8 : ∀ j, j = 5 ∨ j = 6 ∨ j = 7 ∨ j = 11 ∨ j = 13 ∨ j = 20 → am_i T4 138 j = am_i (am_putI S 138 6 (nI 0)) 138 j := fun j hj => by
      rw [fr j (by omega), d3 j (by omega) (by omega) (by omega) (by omega), c2.i (by omega)]
    -- finish
    have g1 : w_I (fun b => b = 138) T4 (am_putI T4 138 13 (nI 0)) := w_I.put (P := fun b => b = 138) rfl
    have zT5 := g1.Z zT4
    by_cases e : (p_all B L).1.1 = 0
    · rw [e] at k18
      obtain ⟨hV, hl⟩ := f2.2.2.2.2.2.2 (by rw [f3]; exact e)
      rw [f4 (by rw [f3]; exact e)] at hV hl
      have g2 : w_I (fun b => b = 138) (am_putI T4 138 13 (nI 0)) (am_putI (am_putI T4 138 13 (nI 0)) 138 20 (-nI 1)) := w_I.put (P := fun b => b = 138) rfl
      have zT6 := g2.Z zT5
      have k18b : am_i (am_putI T4 138 13 (nI 0)) 138 18 = nI 0 := by rw [x_i_I, if_pos rfl, if_neg (by omega)]; exact k18.1
      have k18c : am_i (am_putI (am_putI T4 138 13 (nI 0)) 138 20 (-nI 1)) 138 18 = nI 0 := by rw [x_i_I, if_pos rfl, if_neg (by omega)]; exact k18b
      have fin : fX11_finish w_N [.ref 138] T4 = some (.inl (some (.int (nI 0))), am_putI (am_putI T4 138 13 (nI 0)) 138 20 (-nI 1)) := by
        simp (disch := omega) only [fX11_finish, kX11_finish_21, kX11_finish_0, x_cs0, x_csi, x_csr, x_csn, x_csl, x_ret_v, x_ret_t, x_ret_n, x_tl_s, x_tl_n, x_lk0, x_lk, x_rem0, x_rem_i, x_rem_r, x_rem_l, x_rem2_0, x_rem2_i, x_rem2_r, x_rem2_l, x_pick0, x_pick_c, x_st1, x_st2, x_live, x_i, x_l, x_a, x_ild, x_lld, x_rld, x_ist, x_lst, x_rst, x_inc, x_ii, x_ll, x_li, x_cmp, x_ui, x_il, x_lti, x_idiv, x_irem, x_dup_i, x_dup_r, x_pop_i, x_pop_r, x_dupx_ir, x_dup2_ir, x_ifeq, x_iceq, x_iflt, x_iclt, x_ifge, x_icge, x_ifgt, x_icgt, x_ifle, x_icle, x_ifne, x_icne, x_ifnull_r, x_ifnull_n, x_ifnonnull_r, x_ifnonnull_n, x_sw, x_vret, x_iret, x_lret, x_zret, x_zret0, x_zret1, x_rf_s, x_rf_n, x_geti, x_getr, x_puti, x_putz, x_putr, x_ial, x_ias, x_lal, x_las, x_aal, x_aas, x_aast, x_alen, x_new, x_newa, x_copy, x_min, x_abs, x_minl, x_oinit, x_throw, x_callS0, x_callS1, x_callS2, x_callS3, x_callS4, x_callV0, x_callV1, x_callV2, x_callV3, x_callV4, x_callV5, x_retI_v, x_callI0, x_callI1, x_callI2, x_retN_v, x_callSN1, x_callSN2, x_callT0, x_callT1, x_fn, x_sl0, x_sli, x_slr, x_sll, x_ar0, x_ari, x_arr, x_arl, ↓reduceIte, Nat.reduceAdd, Nat.reduceSub, Nat.reduceMul, Nat.reduceEqDiff, Nat.reduceLeDiff, Nat.reduceLT, if_true, if_false, Nat.le_refl, and_true, true_and, and_self, reduceCtorEq, or_false, false_or, or_true, true_or, Nat.zero_le, fa_lit, nI_add, w_mul, nI_ltI, nI_leI, nI_eq, nI_clamp, nI_toInt, if_pos, if_neg, w_div, w_rem2, zk138 zT4, zk139 zT4, zk140 zT4, zk141 zT4, zk142 zT4, zk143 zT4, zk144 zT4, zk145 zT4, zk146 zT4, zk147 zT4, zk148 zT4, zk149 zT4, zk150 zT4, zk151 zT4, zl139 zT4, zl140 zT4, zl141 zT4, zl142 zT4, zl143 zT4, zl144 zT4, zl145 zT4, zl146 zT4, zl147 zT4, zl148 zT4, zl149 zT4, zl150 zT4, zl151 zT4, zr138_0 zT4, zr138_1 zT4, zr138_2 zT4, zr138_3 zT4, zr138_4 zT4, zr138_8 zT4, zr138_9 zT4, zr138_10 zT4, zr138_12 zT4, zr138_24 zT4, zr138_25 zT4, zr138_26 zT4, zr148_0 zT4, zr148_1 zT4, zr148_2 zT4, zr148_3 zT4, zr148_4 zT4, zr148_5 zT4, zr148_6 zT4, zr148_7 zT4, zr148_8 zT4, zk138 zT5, zk139 zT5, zk140 zT5, zk141 zT5, zk142 zT5, zk143 zT5, zk144 zT5, zk145 zT5, zk146 zT5, zk147 zT5, zk148 zT5, zk149 zT5, zk150 zT5, zk151 zT5, zl139 zT5, zl140 zT5, zl141 zT5, zl142 zT5, zl143 zT5, zl144 zT5, zl145 zT5, zl146 zT5, zl147 zT5, zl148 zT5, zl149 zT5, zl150 zT5, zl151 zT5, zr138_0 zT5, zr138_1 zT5, zr138_2 zT5, zr138_3 zT5, zr138_4 zT5, zr138_8 zT5, zr138_9 zT5, zr138_10 zT5, zr138_12 zT5, zr138_24 zT5, zr138_25 zT5, zr138_26 zT5, zr148_0 zT5, zr148_1 zT5, zr148_2 zT5, zr148_3 zT5, zr148_4 zT5, zr148_5 zT5, zr148_6 zT5, zr148_7 zT5, zr148_8 zT5, zk138 zT6, zk139 zT6, zk140 zT6, zk141 zT6, zk142 zT6, zk143 zT6, zk144 zT6, zk145 zT6, zk146 zT6, zk147 zT6, zk148 zT6, zk149 zT6, zk150 zT6, zk151 zT6, zl139 zT6, zl140 zT6, zl141 zT6, zl142 zT6, zl143 zT6, zl144 zT6, zl145 zT6, zl146 zT6, zl147 zT6, zl148 zT6, zl149 zT6, zl150 zT6, zl151 zT6, zr138_0 zT6, zr138_1 zT6, zr138_2 zT6, zr138_3 zT6, zr138_4 zT6, zr138_8 zT6, zr138_9 zT6, zr138_10 zT6, zr138_12 zT6, zr138_24 zT6, zr138_25 zT6, zr138_26 zT6, zr148_0 zT6, zr148_1 zT6, zr148_2 zT6, zr148_3 zT6, zr148_4 zT6, zr148_5 zT6, zr148_6 zT6, zr148_7 zT6, zr148_8 zT6, k18b, k18c]
      have i139 : am_i (am_putI (am_putI T4 138 13 (nI 0)) 138 20 (-nI 1)) 139 = M 139 := by
        rw [g2.i (by omega), g1.i (by omega), io 139 (by omega) (by omega) (by omega) (by omega)]
        exact hM1.1
      have i140 : am_i (am_putI (am_putI T4 138 13 (nI 0)) 138 20 (-nI 1)) 140 = am_i T4 140 := by
        rw [g2.i (by omega), g1.i (by omega)]
      have cp := z_copy (S := am_putI (am_putI T4 138 13 (nI 0)) 138 20 (-nI 1)) (a := 140) (b := 139) (p := 0) (q := 0) (zk140 zT6) (zk139 zT6) (zl140 zT6) (zl139 zT6) (by omega) (by omega) (by omega) (by omega) (by omega)
      have eq : w_cp (am_putI (am_putI T4 138 13 (nI 0)) 138 20 (-nI 1)) 140 0 139 0 3934 = am_row (am_putI (am_putI T4 138 13 (nI 0)) 138 20 (-nI 1)) 139 (s_ov0 (am_i T4 140) (M 139)) := by
        unfold w_cp
        congr 1
        funext q
        unfold s_ov0
        rw [i139, i140, Nat.mul_zero, Nat.zero_add, Nat.zero_add, Nat.sub_zero]
        by_cases g : q < 3934
        · rw [if_pos g, if_pos (by omega)]
        · rw [if_neg g, if_neg (by omega)]
      rw [eq] at cp
      have k6 : w_I (fun b => b = 139) (am_putI (am_putI T4 138 13 (nI 0)) 138 20 (-nI 1)) (am_row (am_putI (am_putI T4 138 13 (nI 0)) 138 20 (-nI 1)) 139 (s_ov0 (am_i T4 140) (M 139))) := w_I.row rfl
      have zT7 := k6.Z zT6
      have v6 : ∀ j, j ≠ 13 → j ≠ 20 → am_i (am_putI (am_putI T4 138 13 (nI 0)) 138 20 (-nI 1)) 138 j = am_i T4 138 j := fun j j1 j2 => by rw [x_i_I, if_pos rfl, if_neg j2, x_i_I, if_pos rfl, if_neg j1]
      have v13 : am_i (am_putI (am_putI T4 138 13 (nI 0)) 138 20 (-nI 1)) 138 13 = nI 0 := by rw [x_i_I, if_pos rfl, if_neg (by omega), x_i_Is]
      have v20 : am_i (am_putI (am_putI T4 138 13 (nI 0)) 138 20 (-nI 1)) 138 20 = -nI 1 := x_i_Is
      have I6 := g1.tr g2
      generalize am_putI (am_putI T4 138 13 (nI 0)) 138 20 (-nI 1) = T6 at *
      have w9 : am_i (am_row T6 139 (s_ov0 (am_i T4 140) (M 139))) 139 = s_ov0 (am_i T4 140) (M 139) := x_rows
      have w8 : am_i (am_row T6 139 (s_ov0 (am_i T4 140) (M 139))) 138 = am_i T6 138 := k6.i (by omega)
      have w9' : s_ov0 (am_i T4 140) (M 139) 2 = (p_all B L).2.2 2 := by
        unfold s_ov0
        rw [if_pos (by omega)]
        exact hl.1 2 (by omega)
      generalize hT7 : am_row T6 139 (s_ov0 (am_i T4 140) (M 139)) = T7 at *
      have k7 : w_I (fun b => b = 138) T7 (am_putI T7 138 5 (nI 0)) := w_I.put (P := fun b => b = 138) rfl
      have zT8 := k7.Z zT7
      have k8 : w_I (fun b => b = 138) (am_putI T7 138 5 (nI 0)) (am_putI (am_putI T7 138 5 (nI 0)) 138 7 (nI 0)) := w_I.put (P := fun b => b = 138) rfl
      have zT9 := k8.Z zT8
      have w2 : am_i (am_putI (am_putI T7 138 5 (nI 0)) 138 7 (nI 0)) 139 2 = (p_all B L).2.2 2 := by
        rw [x_i_I, if_neg (by omega), x_i_I, if_neg (by omega), w9, w9']
      have wj : ∀ j, j ≠ 5 → j ≠ 7 → am_i (am_putI (am_putI T7 138 5 (nI 0)) 138 7 (nI 0)) 138 j = am_i T6 138 j := fun j j1 j2 => by
        rw [x_i_I, if_pos rfl, if_neg j2, x_i_I, if_pos rfl, if_neg j1, w8]
      have io9 : ∀ b, b ≠ 138 → b ≠ 139 → am_i (am_putI (am_putI T7 138 5 (nI 0)) 138 7 (nI 0)) b = am_i T4 b := fun b b1 b2 => by rw [k8.i b1, k7.i b1, k6.i b2, I6.i b1]
      have F9 : w_F w_P7 S (am_putI (am_putI T7 138 5 (nI 0)) 138 7 (nI 0)) := F4.tr ((w_F.of I6).mono (fun b hb => by show 138 ≤ b ∧ b ≤ 150; omega) |>.tr ((w_F.of k6).mono (fun b hb => by show 138 ≤ b ∧ b ≤ 150; omega) |>.tr ((w_F.of (k7.tr k8)).mono (fun b hb => by show 138 ≤ b ∧ b ≤ 150; omega))))
      have n9 : am_n (am_putI (am_putI T7 138 5 (nI 0)) 138 7 (nI 0)) = am_n T4 ∧ am_z (am_putI (am_putI T7 138 5 (nI 0)) 138 7 (nI 0)) = am_z T4 := ⟨by rw [k8.1, k7.1, k6.1, I6.1], by rw [k8.2.1, k7.2.1, k6.2.1, I6.2.1]⟩
      refine ⟨am_i T4 140, fun _ _ => ⟨hV, hl⟩, ?_⟩
      rw [if_pos c, if_pos e]
      refine ⟨am_putI (am_putI T7 138 5 (nI 0)) 138 7 (nI 0), ?_, ?_, ⟨?_, ?_, ?_, ?_, ?_, fun j hj => ?_⟩, zT9, F9, by omega, by omega⟩
      · simp (disch := omega) only [fX11_load, kX11_load_0, x_cs0, x_csi, x_csr, x_csn, x_csl, x_ret_v, x_ret_t, x_ret_n, x_tl_s, x_tl_n, x_lk0, x_lk, x_rem0, x_rem_i, x_rem_r, x_rem_l, x_rem2_0, x_rem2_i, x_rem2_r, x_rem2_l, x_pick0, x_pick_c, x_st1, x_st2, x_live, x_i, x_l, x_a, x_ild, x_lld, x_rld, x_ist, x_lst, x_rst, x_inc, x_ii, x_ll, x_li, x_cmp, x_ui, x_il, x_lti, x_idiv, x_irem, x_dup_i, x_dup_r, x_pop_i, x_pop_r, x_dupx_ir, x_dup2_ir, x_ifeq, x_iceq, x_iflt, x_iclt, x_ifge, x_icge, x_ifgt, x_icgt, x_ifle, x_icle, x_ifne, x_icne, x_ifnull_r, x_ifnull_n, x_ifnonnull_r, x_ifnonnull_n, x_sw, x_vret, x_iret, x_lret, x_zret, x_zret0, x_zret1, x_rf_s, x_rf_n, x_geti, x_getr, x_puti, x_putz, x_putr, x_ial, x_ias, x_lal, x_las, x_aal, x_aas, x_aast, x_alen, x_new, x_newa, x_copy, x_min, x_abs, x_minl, x_oinit, x_throw, x_callS0, x_callS1, x_callS2, x_callS3, x_callS4, x_callV0, x_callV1, x_callV2, x_callV3, x_callV4, x_callV5, x_retI_v, x_callI0, x_callI1, x_callI2, x_retN_v, x_callSN1, x_callSN2, x_callT0, x_callT1, x_fn, x_sl0, x_sli, x_slr, x_sll, x_ar0, x_ari, x_arr, x_arl, ↓reduceIte, Nat.reduceAdd, Nat.reduceSub, Nat.reduceMul, Nat.reduceEqDiff, Nat.reduceLeDiff, Nat.reduceLT, if_true, if_false, Nat.le_refl, and_true, true_and, and_self, reduceCtorEq, or_false, false_or, or_true, true_or, Nat.zero_le, fa_lit, nI_add, w_mul, nI_ltI, nI_leI, nI_eq, nI_clamp, nI_toInt, if_pos, if_neg, w_div, w_rem2, zk138 hZ, zk139 hZ, zk140 hZ, zk141 hZ, zk142 hZ, zk143 hZ, zk144 hZ, zk145 hZ, zk146 hZ, zk147 hZ, zk148 hZ, zk149 hZ, zk150 hZ, zk151 hZ, zl139 hZ, zl140 hZ, zl141 hZ, zl142 hZ, zl143 hZ, zl144 hZ, zl145 hZ, zl146 hZ, zl147 hZ, zl148 hZ, zl149 hZ, zl150 hZ, zl151 hZ, zr138_0 hZ, zr138_1 hZ, zr138_2 hZ, zr138_3 hZ, zr138_4 hZ, zr138_8 hZ, zr138_9 hZ, zr138_10 hZ, zr138_12 hZ, zr138_24 hZ, zr138_25 hZ, zr138_26 hZ, zr148_0 hZ, zr148_1 hZ, zr148_2 hZ, zr148_3 hZ, zr148_4 hZ, zr148_5 hZ, zr148_6 hZ, zr148_7 hZ, zr148_8 hZ, zk138 hZ1, zk139 hZ1, zk140 hZ1, zk141 hZ1, zk142 hZ1, zk143 hZ1, zk144 hZ1, zk145 hZ1, zk146 hZ1, zk147 hZ1, zk148 hZ1, zk149 hZ1, zk150 hZ1, zk151 hZ1, zl139 hZ1, zl140 hZ1, zl141 hZ1, zl142 hZ1, zl143 hZ1, zl144 hZ1, zl145 hZ1, zl146 hZ1, zl147 hZ1, zl148 hZ1, zl149 hZ1, zl150 hZ1, zl151 hZ1, zr138_0 hZ1, zr138_1 hZ1, zr138_2 hZ1, zr138_3 hZ1, zr138_4 hZ1, zr138_8 hZ1, zr138_9 hZ1, zr138_10 hZ1, zr138_12 hZ1, zr138_24 hZ1, zr138_25 hZ1, zr138_26 hZ1, zr148_0 hZ1, zr148_1 hZ1, zr148_2 hZ1, zr148_3 hZ1, zr148_4 hZ1, zr148_5 hZ1, zr148_6 hZ1, zr148_7 hZ1, zr148_8 hZ1, zk138 zT1, zk139 zT1, zk140 zT1, zk141 zT1, zk142 zT1, zk143 zT1, zk144 zT1, zk145 zT1, zk146 zT1, zk147 zT1, zk148 zT1, zk149 zT1, zk150 zT1, zk151 zT1, zl139 zT1, zl140 zT1, zl141 zT1, zl142 zT1, zl143 zT1, zl144 zT1, zl145 zT1, zl146 zT1, zl147 zT1, zl148 zT1, zl149 zT1, zl150 zT1, zl151 zT1, zr138_0 zT1, zr138_1 zT1, zr138_2 zT1, zr138_3 zT1, zr138_4 zT1, zr138_8 zT1, zr138_9 zT1, zr138_10 zT1, zr138_12 zT1, zr138_24 zT1, zr138_25 zT1, zr138_26 zT1, zr148_0 zT1, zr148_1 zT1, zr148_2 zT1, zr148_3 zT1, zr148_4 zT1, zr148_5 zT1, zr148_6 zT1, zr148_7 zT1, zr148_8 zT1, zk138 zT3, zk139 zT3, zk140 zT3, zk141 zT3, zk142 zT3, zk143 zT3, zk144 zT3, zk145 zT3, zk146 zT3, zk147 zT3, zk148 zT3, zk149 zT3, zk150 zT3, zk151 zT3, zl139 zT3, zl140 zT3, zl141 zT3, zl142 zT3, zl143 zT3, zl144 zT3, zl145 zT3, zl146 zT3, zl147 zT3, zl148 zT3, zl149 zT3, zl150 zT3, zl151 zT3, zr138_0 zT3, zr138_1 zT3, zr138_2 zT3, zr138_3 zT3, zr138_4 zT3, zr138_8 zT3, zr138_9 zT3, zr138_10 zT3, zr138_12 zT3, zr138_24 zT3, zr138_25 zT3, zr138_26 zT3, zr148_0 zT3, zr148_1 zT3, zr148_2 zT3, zr148_3 zT3, zr148_4 zT3, zr148_5 zT3, zr148_6 zT3, zr148_7 zT3, zr148_8 zT3, zk138 zT4, zk139 zT4, zk140 zT4, zk141 zT4, zk142 zT4, zk143 zT4, zk144 zT4, zk145 zT4, zk146 zT4, zk147 zT4, zk148 zT4, zk149 zT4, zk150 zT4, zk151 zT4, zl139 zT4, zl140 zT4, zl141 zT4, zl142 zT4, zl143 zT4, zl144 zT4, zl145 zT4, zl146 zT4, zl147 zT4, zl148 zT4, zl149 zT4, zl150 zT4, zl151 zT4, zr138_0 zT4, zr138_1 zT4, zr138_2 zT4, zr138_3 zT4, zr138_4 zT4, zr138_8 zT4, zr138_9 zT4, zr138_10 zT4, zr138_12 zT4, zr138_24 zT4, zr138_25 zT4, zr138_26 zT4, zr148_0 zT4, zr148_1 zT4, zr148_2 zT4, zr148_3 zT4, zr148_4 zT4, zr148_5 zT4, zr148_6 zT4, zr148_7 zT4, zr148_8 zT4, zk138 zT6, zk139 zT6, zk140 zT6, zk141 zT6, zk142 zT6, zk143 zT6, zk144 zT6, zk145 zT6, zk146 zT6, zk147 zT6, zk148 zT6, zk149 zT6, zk150 zT6, zk151 zT6, zl139 zT6, zl140 zT6, zl141 zT6, zl142 zT6, zl143 zT6, zl144 zT6, zl145 zT6, zl146 zT6, zl147 zT6, zl148 zT6, zl149 zT6, zl150 zT6, zl151 zT6, zr138_0 zT6, zr138_1 zT6, zr138_2 zT6, zr138_3 zT6, zr138_4 zT6, zr138_8 zT6, zr138_9 zT6, zr138_10 zT6, zr138_12 zT6, zr138_24 zT6, zr138_25 zT6, zr138_26 zT6, zr148_0 zT6, zr148_1 zT6, zr148_2 zT6, zr148_3 zT6, zr148_4 zT6, zr148_5 zT6, zr148_6 zT6, zr148_7 zT6, zr148_8 zT6, zk138 zT7, zk139 zT7, zk140 zT7, zk141 zT7, zk142 zT7, zk143 zT7, zk144 zT7, zk145 zT7, zk146 zT7, zk147 zT7, zk148 zT7, zk149 zT7, zk150 zT7, zk151 zT7, zl139 zT7, zl140 zT7, zl141 zT7, zl142 zT7, zl143 zT7, zl144 zT7, zl145 zT7, zl146 zT7, zl147 zT7, zl148 zT7, zl149 zT7, zl150 zT7, zl151 zT7, zr138_0 zT7, zr138_1 zT7, zr138_2 zT7, zr138_3 zT7, zr138_4 zT7, zr138_8 zT7, zr138_9 zT7, zr138_10 zT7, zr138_12 zT7, zr138_24 zT7, zr138_25 zT7, zr138_26 zT7, zr148_0 zT7, zr148_1 zT7, zr148_2 zT7, zr148_3 zT7, zr148_4 zT7, zr148_5 zT7, zr148_6 zT7, zr148_7 zT7, zr148_8 zT7, zk138 zT8, zk139 zT8, zk140 zT8, zk141 zT8, zk142 zT8, zk143 zT8, zk144 zT8, zk145 zT8, zk146 zT8, zk147 zT8, zk148 zT8, zk149 zT8, zk150 zT8, zk151 zT8, zl139 zT8, zl140 zT8, zl141 zT8, zl142 zT8, zl143 zT8, zl144 zT8, zl145 zT8, zl146 zT8, zl147 zT8, zl148 zT8, zl149 zT8, zl150 zT8, zl151 zT8, zr138_0 zT8, zr138_1 zT8, zr138_2 zT8, zr138_3 zT8, zr138_4 zT8, zr138_8 zT8, zr138_9 zT8, zr138_10 zT8, zr138_12 zT8, zr138_24 zT8, zr138_25 zT8, zr138_26 zT8, zr148_0 zT8, zr148_1 zT8, zr148_2 zT8, zr148_3 zT8, zr148_4 zT8, zr148_5 zT8, zr148_6 zT8, zr148_7 zT8, zr148_8 zT8, zk138 zT9, zk139 zT9, zk140 zT9, zk141 zT9, zk142 zT9, zk143 zT9, zk144 zT9, zk145 zT9, zk146 zT9, zk147 zT9, zk148 zT9, zk149 zT9, zk150 zT9, zk151 zT9, zl139 zT9, zl140 zT9, zl141 zT9, zl142 zT9, zl143 zT9, zl144 zT9, zl145 zT9, zl146 zT9, zl147 zT9, zl148 zT9, zl149 zT9, zl150 zT9, zl151 zT9, zr138_0 zT9, zr138_1 zT9, zr138_2 zT9, zr138_3 zT9, zr138_4 zT9, zr138_8 zT9, zr138_9 zT9, zr138_10 zT9, zr138_12 zT9, zr138_24 zT9, zr138_25 zT9, zr138_26 zT9, zr148_0 zT9, zr148_1 zT9, zr148_2 zT9, zr148_3 zT9, zr148_4 zT9, zr148_5 zT9, zr148_6 zT9, zr148_7 zT9, zr148_8 zT9, e13, gr, c1, d1, f1, fin, cp, hT7, w2]
      · show am_i _ 138 6 = nI 0
        rw [wj 6 (by omega) (by omega), v6 6 (by omega) (by omega), i8 6 (by omega)]
        exact x_i_Is
      · dsimp only
        rw [s_up_n (by omega), s_up_s, k8.i (by omega), k7.i (by omega), w9]
      · dsimp only
        rw [s_up_n (by omega), s_up_n (by omega), io9 _ (by omega) (by omega), io 142 (by omega) (by omega) (by omega) (by omega)]
        exact hM1.2.1
      · dsimp only
        rw [s_up_n (by omega), s_up_n (by omega), io9 _ (by omega) (by omega), io 143 (by omega) (by omega) (by omega) (by omega)]
        exact hM1.2.2.1
      · dsimp only
        rw [s_up_n (by omega), s_up_n (by omega), io9 _ (by omega) (by omega), io 146 (by omega) (by omega) (by omega) (by omega)]
        exact hM1.2.2.2.1
      · dsimp only
        rw [s_up_n (by omega), s_up_n (by omega), io9 _ (by omega) (by omega), io 147 (by omega) (by omega) (by omega) (by omega)]
        exact hM1.2.2.2.2.1
      · dsimp only
        rw [s_up_s]
        unfold u_l8
        rcases hj with rfl | rfl | rfl | rfl | rfl
        · rw [s_up_n (by omega), s_up_s, x_i_I, if_pos rfl, if_neg (by omega), x_i_Is]
        · rw [s_up_s, x_i_Is]
        · rw [s_up_n (by omega), s_up_n (by omega), s_up_n (by omega), s_up_n (by omega), wj 11 (by omega) (by omega), v6 11 (by omega) (by omega), i8 11 (by omega)]
          exact hM1.2.2.2.2.2 11 (by omega)
        · rw [s_up_n (by omega), s_up_n (by omega), s_up_n (by omega), s_up_s, wj 13 (by omega) (by omega), v13]
        · rw [s_up_n (by omega), s_up_n (by omega), s_up_s, wj 20 (by omega) (by omega), v20]
    · have k19b := k19 e
      generalize hpl : (p_all B L).1.2 = pl at *
      generalize hcd : (p_all B L).1.1 = cd at *
      have k18b : am_i (am_putI T4 138 13 (nI 0)) 138 18 = nI cd := by rw [x_i_I, if_pos rfl, if_neg (by omega)]; exact k18.1
      have k19c : am_i (am_putI T4 138 13 (nI 0)) 138 19 = nI pl := by rw [x_i_I, if_pos rfl, if_neg (by omega)]; exact k19b
      have g2 : w_I (fun b => b = 138) (am_putI T4 138 13 (nI 0)) (am_putI (am_putI T4 138 13 (nI 0)) 138 20 (nI pl)) := w_I.put (P := fun b => b = 138) rfl
      have zT6 := g2.Z zT5
      have k18c : am_i (am_putI (am_putI T4 138 13 (nI 0)) 138 20 (nI pl)) 138 18 = nI cd := by rw [x_i_I, if_pos rfl, if_neg (by omega)]; exact k18b
      have hcd4 := k18.2
      have fin : fX11_finish w_N [.ref 138] T4 = some (.inl (some (.int (nI cd))), am_putI (am_putI T4 138 13 (nI 0)) 138 20 (nI pl)) := by
        simp (disch := omega) only [fX11_finish, kX11_finish_21, kX11_finish_0, x_cs0, x_csi, x_csr, x_csn, x_csl, x_ret_v, x_ret_t, x_ret_n, x_tl_s, x_tl_n, x_lk0, x_lk, x_rem0, x_rem_i, x_rem_r, x_rem_l, x_rem2_0, x_rem2_i, x_rem2_r, x_rem2_l, x_pick0, x_pick_c, x_st1, x_st2, x_live, x_i, x_l, x_a, x_ild, x_lld, x_rld, x_ist, x_lst, x_rst, x_inc, x_ii, x_ll, x_li, x_cmp, x_ui, x_il, x_lti, x_idiv, x_irem, x_dup_i, x_dup_r, x_pop_i, x_pop_r, x_dupx_ir, x_dup2_ir, x_ifeq, x_iceq, x_iflt, x_iclt, x_ifge, x_icge, x_ifgt, x_icgt, x_ifle, x_icle, x_ifne, x_icne, x_ifnull_r, x_ifnull_n, x_ifnonnull_r, x_ifnonnull_n, x_sw, x_vret, x_iret, x_lret, x_zret, x_zret0, x_zret1, x_rf_s, x_rf_n, x_geti, x_getr, x_puti, x_putz, x_putr, x_ial, x_ias, x_lal, x_las, x_aal, x_aas, x_aast, x_alen, x_new, x_newa, x_copy, x_min, x_abs, x_minl, x_oinit, x_throw, x_callS0, x_callS1, x_callS2, x_callS3, x_callS4, x_callV0, x_callV1, x_callV2, x_callV3, x_callV4, x_callV5, x_retI_v, x_callI0, x_callI1, x_callI2, x_retN_v, x_callSN1, x_callSN2, x_callT0, x_callT1, x_fn, x_sl0, x_sli, x_slr, x_sll, x_ar0, x_ari, x_arr, x_arl, ↓reduceIte, Nat.reduceAdd, Nat.reduceSub, Nat.reduceMul, Nat.reduceEqDiff, Nat.reduceLeDiff, Nat.reduceLT, if_true, if_false, Nat.le_refl, and_true, true_and, and_self, reduceCtorEq, or_false, false_or, or_true, true_or, Nat.zero_le, fa_lit, nI_add, w_mul, nI_ltI, nI_leI, nI_eq, nI_clamp, nI_toInt, if_pos, if_neg, w_div, w_rem2, zk138 zT4, zk139 zT4, zk140 zT4, zk141 zT4, zk142 zT4, zk143 zT4, zk144 zT4, zk145 zT4, zk146 zT4, zk147 zT4, zk148 zT4, zk149 zT4, zk150 zT4, zk151 zT4, zl139 zT4, zl140 zT4, zl141 zT4, zl142 zT4, zl143 zT4, zl144 zT4, zl145 zT4, zl146 zT4, zl147 zT4, zl148 zT4, zl149 zT4, zl150 zT4, zl151 zT4, zr138_0 zT4, zr138_1 zT4, zr138_2 zT4, zr138_3 zT4, zr138_4 zT4, zr138_8 zT4, zr138_9 zT4, zr138_10 zT4, zr138_12 zT4, zr138_24 zT4, zr138_25 zT4, zr138_26 zT4, zr148_0 zT4, zr148_1 zT4, zr148_2 zT4, zr148_3 zT4, zr148_4 zT4, zr148_5 zT4, zr148_6 zT4, zr148_7 zT4, zr148_8 zT4, zk138 zT5, zk139 zT5, zk140 zT5, zk141 zT5, zk142 zT5, zk143 zT5, zk144 zT5, zk145 zT5, zk146 zT5, zk147 zT5, zk148 zT5, zk149 zT5, zk150 zT5, zk151 zT5, zl139 zT5, zl140 zT5, zl141 zT5, zl142 zT5, zl143 zT5, zl144 zT5, zl145 zT5, zl146 zT5, zl147 zT5, zl148 zT5, zl149 zT5, zl150 zT5, zl151 zT5, zr138_0 zT5, zr138_1 zT5, zr138_2 zT5, zr138_3 zT5, zr138_4 zT5, zr138_8 zT5, zr138_9 zT5, zr138_10 zT5, zr138_12 zT5, zr138_24 zT5, zr138_25 zT5, zr138_26 zT5, zr148_0 zT5, zr148_1 zT5, zr148_2 zT5, zr148_3 zT5, zr148_4 zT5, zr148_5 zT5, zr148_6 zT5, zr148_7 zT5, zr148_8 zT5, zk138 zT6, zk139 zT6, zk140 zT6, zk141 zT6, zk142 zT6, zk143 zT6, zk144 zT6, zk145 zT6, zk146 zT6, zk147 zT6, zk148 zT6, zk149 zT6, zk150 zT6, zk151 zT6, zl139 zT6, zl140 zT6, zl141 zT6, zl142 zT6, zl143 zT6, zl144 zT6, zl145 zT6, zl146 zT6, zl147 zT6, zl148 zT6, zl149 zT6, zl150 zT6, zl151 zT6, zr138_0 zT6, zr138_1 zT6, zr138_2 zT6, zr138_3 zT6, zr138_4 zT6, zr138_8 zT6, zr138_9 zT6, zr138_10 zT6, zr138_12 zT6, zr138_24 zT6, zr138_25 zT6, zr138_26 zT6, zr148_0 zT6, zr148_1 zT6, zr148_2 zT6, zr148_3 zT6, zr148_4 zT6, zr148_5 zT6, zr148_6 zT6, zr148_7 zT6, zr148_8 zT6, k18b, k18c, k19c]
      have v6 : ∀ j, j ≠ 13 → j ≠ 20 → am_i (am_putI (am_putI T4 138 13 (nI 0)) 138 20 (nI pl)) 138 j = am_i T4 138 j := fun j j1 j2 => by rw [x_i_I, if_pos rfl, if_neg j2, x_i_I, if_pos rfl, if_neg j1]
      have I6 := g1.tr g2
      refine ⟨M 139, fun _ q => absurd q (by omega), ?_⟩
      rw [if_pos c, if_neg e]
      refine ⟨am_putI (am_putI T4 138 13 (nI 0)) 138 20 (nI pl), ?_, ?_, ⟨?_, ?_, ?_, ?_, ?_, fun j hj => ?_⟩, zT6, F4.tr ((w_F.of I6).mono (fun b hb => by show 138 ≤ b ∧ b ≤ 150; omega)), by rw [I6.1]; exact nT4.1, by rw [I6.2.1]; exact nT4.2.1⟩
      · simp (disch := omega) only [fX11_load, kX11_load_0, x_cs0, x_csi, x_csr, x_csn, x_csl, x_ret_v, x_ret_t, x_ret_n, x_tl_s, x_tl_n, x_lk0, x_lk, x_rem0, x_rem_i, x_rem_r, x_rem_l, x_rem2_0, x_rem2_i, x_rem2_r, x_rem2_l, x_pick0, x_pick_c, x_st1, x_st2, x_live, x_i, x_l, x_a, x_ild, x_lld, x_rld, x_ist, x_lst, x_rst, x_inc, x_ii, x_ll, x_li, x_cmp, x_ui, x_il, x_lti, x_idiv, x_irem, x_dup_i, x_dup_r, x_pop_i, x_pop_r, x_dupx_ir, x_dup2_ir, x_ifeq, x_iceq, x_iflt, x_iclt, x_ifge, x_icge, x_ifgt, x_icgt, x_ifle, x_icle, x_ifne, x_icne, x_ifnull_r, x_ifnull_n, x_ifnonnull_r, x_ifnonnull_n, x_sw, x_vret, x_iret, x_lret, x_zret, x_zret0, x_zret1, x_rf_s, x_rf_n, x_geti, x_getr, x_puti, x_putz, x_putr, x_ial, x_ias, x_lal, x_las, x_aal, x_aas, x_aast, x_alen, x_new, x_newa, x_copy, x_min, x_abs, x_minl, x_oinit, x_throw, x_callS0, x_callS1, x_callS2, x_callS3, x_callS4, x_callV0, x_callV1, x_callV2, x_callV3, x_callV4, x_callV5, x_retI_v, x_callI0, x_callI1, x_callI2, x_retN_v, x_callSN1, x_callSN2, x_callT0, x_callT1, x_fn, x_sl0, x_sli, x_slr, x_sll, x_ar0, x_ari, x_arr, x_arl, ↓reduceIte, Nat.reduceAdd, Nat.reduceSub, Nat.reduceMul, Nat.reduceEqDiff, Nat.reduceLeDiff, Nat.reduceLT, if_true, if_false, Nat.le_refl, and_true, true_and, and_self, reduceCtorEq, or_false, false_or, or_true, true_or, Nat.zero_le, fa_lit, nI_add, w_mul, nI_ltI, nI_leI, nI_eq, nI_clamp, nI_toInt, if_pos, if_neg, w_div, w_rem2, zk138 hZ, zk139 hZ, zk140 hZ, zk141 hZ, zk142 hZ, zk143 hZ, zk144 hZ, zk145 hZ, zk146 hZ, zk147 hZ, zk148 hZ, zk149 hZ, zk150 hZ, zk151 hZ, zl139 hZ, zl140 hZ, zl141 hZ, zl142 hZ, zl143 hZ, zl144 hZ, zl145 hZ, zl146 hZ, zl147 hZ, zl148 hZ, zl149 hZ, zl150 hZ, zl151 hZ, zr138_0 hZ, zr138_1 hZ, zr138_2 hZ, zr138_3 hZ, zr138_4 hZ, zr138_8 hZ, zr138_9 hZ, zr138_10 hZ, zr138_12 hZ, zr138_24 hZ, zr138_25 hZ, zr138_26 hZ, zr148_0 hZ, zr148_1 hZ, zr148_2 hZ, zr148_3 hZ, zr148_4 hZ, zr148_5 hZ, zr148_6 hZ, zr148_7 hZ, zr148_8 hZ, zk138 hZ1, zk139 hZ1, zk140 hZ1, zk141 hZ1, zk142 hZ1, zk143 hZ1, zk144 hZ1, zk145 hZ1, zk146 hZ1, zk147 hZ1, zk148 hZ1, zk149 hZ1, zk150 hZ1, zk151 hZ1, zl139 hZ1, zl140 hZ1, zl141 hZ1, zl142 hZ1, zl143 hZ1, zl144 hZ1, zl145 hZ1, zl146 hZ1, zl147 hZ1, zl148 hZ1, zl149 hZ1, zl150 hZ1, zl151 hZ1, zr138_0 hZ1, zr138_1 hZ1, zr138_2 hZ1, zr138_3 hZ1, zr138_4 hZ1, zr138_8 hZ1, zr138_9 hZ1, zr138_10 hZ1, zr138_12 hZ1, zr138_24 hZ1, zr138_25 hZ1, zr138_26 hZ1, zr148_0 hZ1, zr148_1 hZ1, zr148_2 hZ1, zr148_3 hZ1, zr148_4 hZ1, zr148_5 hZ1, zr148_6 hZ1, zr148_7 hZ1, zr148_8 hZ1, zk138 zT1, zk139 zT1, zk140 zT1, zk141 zT1, zk142 zT1, zk143 zT1, zk144 zT1, zk145 zT1, zk146 zT1, zk147 zT1, zk148 zT1, zk149 zT1, zk150 zT1, zk151 zT1, zl139 zT1, zl140 zT1, zl141 zT1, zl142 zT1, zl143 zT1, zl144 zT1, zl145 zT1, zl146 zT1, zl147 zT1, zl148 zT1, zl149 zT1, zl150 zT1, zl151 zT1, zr138_0 zT1, zr138_1 zT1, zr138_2 zT1, zr138_3 zT1, zr138_4 zT1, zr138_8 zT1, zr138_9 zT1, zr138_10 zT1, zr138_12 zT1, zr138_24 zT1, zr138_25 zT1, zr138_26 zT1, zr148_0 zT1, zr148_1 zT1, zr148_2 zT1, zr148_3 zT1, zr148_4 zT1, zr148_5 zT1, zr148_6 zT1, zr148_7 zT1, zr148_8 zT1, zk138 zT3, zk139 zT3, zk140 zT3, zk141 zT3, zk142 zT3, zk143 zT3, zk144 zT3, zk145 zT3, zk146 zT3, zk147 zT3, zk148 zT3, zk149 zT3, zk150 zT3, zk151 zT3, zl139 zT3, zl140 zT3, zl141 zT3, zl142 zT3, zl143 zT3, zl144 zT3, zl145 zT3, zl146 zT3, zl147 zT3, zl148 zT3, zl149 zT3, zl150 zT3, zl151 zT3, zr138_0 zT3, zr138_1 zT3, zr138_2 zT3, zr138_3 zT3, zr138_4 zT3, zr138_8 zT3, zr138_9 zT3, zr138_10 zT3, zr138_12 zT3, zr138_24 zT3, zr138_25 zT3, zr138_26 zT3, zr148_0 zT3, zr148_1 zT3, zr148_2 zT3, zr148_3 zT3, zr148_4 zT3, zr148_5 zT3, zr148_6 zT3, zr148_7 zT3, zr148_8 zT3, zk138 zT4, zk139 zT4, zk140 zT4, zk141 zT4, zk142 zT4, zk143 zT4, zk144 zT4, zk145 zT4, zk146 zT4, zk147 zT4, zk148 zT4, zk149 zT4, zk150 zT4, zk151 zT4, zl139 zT4, zl140 zT4, zl141 zT4, zl142 zT4, zl143 zT4, zl144 zT4, zl145 zT4, zl146 zT4, zl147 zT4, zl148 zT4, zl149 zT4, zl150 zT4, zl151 zT4, zr138_0 zT4, zr138_1 zT4, zr138_2 zT4, zr138_3 zT4, zr138_4 zT4, zr138_8 zT4, zr138_9 zT4, zr138_10 zT4, zr138_12 zT4, zr138_24 zT4, zr138_25 zT4, zr138_26 zT4, zr148_0 zT4, zr148_1 zT4, zr148_2 zT4, zr148_3 zT4, zr148_4 zT4, zr148_5 zT4, zr148_6 zT4, zr148_7 zT4, zr148_8 zT4, zk138 zT6, zk139 zT6, zk140 zT6, zk141 zT6, zk142 zT6, zk143 zT6, zk144 zT6, zk145 zT6, zk146 zT6, zk147 zT6, zk148 zT6, zk149 zT6, zk150 zT6, zk151 zT6, zl139 zT6, zl140 zT6, zl141 zT6, zl142 zT6, zl143 zT6, zl144 zT6, zl145 zT6, zl146 zT6, zl147 zT6, zl148 zT6, zl149 zT6, zl150 zT6, zl151 zT6, zr138_0 zT6, zr138_1 zT6, zr138_2 zT6, zr138_3 zT6, zr138_4 zT6, zr138_8 zT6, zr138_9 zT6, zr138_10 zT6, zr138_12 zT6, zr138_24 zT6, zr138_25 zT6, zr138_26 zT6, zr148_0 zT6, zr148_1 zT6, zr148_2 zT6, zr148_3 zT6, zr148_4 zT6, zr148_5 zT6, zr148_6 zT6, zr148_7 zT6, zr148_8 zT6, e13, gr, c1, d1, f1, fin, k18c]
      · show am_i _ 138 6 = nI 0
        rw [v6 6 (by omega) (by omega), i8 6 (by omega)]
        exact x_i_Is
      · dsimp only
        rw [s_up_n (by omega), I6.i (by omega), io 139 (by omega) (by omega) (by omega) (by omega)]
        exact hM1.1
      · dsimp only
        rw [s_up_n (by omega), I6.i (by omega), io 142 (by omega) (by omega) (by omega) (by omega)]
        exact hM1.2.1
      · dsimp only
        rw [s_up_n (by omega), I6.i (by omega), io 143 (by omega) (by omega) (by omega) (by omega)]
        exact hM1.2.2.1
      · dsimp only
        rw [s_up_n (by omega), I6.i (by omega), io 146 (by omega) (by omega) (by omega) (by omega)]
        exact hM1.2.2.2.1
      · dsimp only
        rw [s_up_n (by omega), I6.i (by omega), io 147 (by omega) (by omega) (by omega) (by omega)]
        exact hM1.2.2.2.2.1
      · dsimp only
        rw [s_up_s]
        unfold u_l8
        by_cases j20 : j = 20
        · rw [j20, s_up_s, x_i_Is]
        · rw [s_up_n j20, x_i_I, if_pos rfl, if_neg j20, s_up, x_i_I, if_pos rfl]
          by_cases j13 : j = 13
          · rw [if_pos j13, if_pos j13]
          · rw [if_neg j13, if_neg j13, i8 j (by omega)]
            exact hM1.2.2.2.2.2 j hj
  · rw [w_bf c] at gr
    have gf := z_raise (x := nI 1) hZ1
    have t1 : w_th 1 S (am_putI (am_putI S 138 6 (nI 0)) 138 6 (nI 1)) := w_th.put2
    refine ⟨M 139, fun q _ => absurd q c, ?_⟩
    rw [if_neg c]
    refine ⟨_, ?_, t1.2.2, hM.th t1, t1.Z hZ, w_F.of t1.P7, by rw [t1.1.1]; omega, by rw [t1.1.2.1]; omega⟩
    simp (disch := omega) only [fX11_load, kX11_load_0, x_cs0, x_csi, x_csr, x_csn, x_csl, x_ret_v, x_ret_t, x_ret_n, x_tl_s, x_tl_n, x_lk0, x_lk, x_rem0, x_rem_i, x_rem_r, x_rem_l, x_rem2_0, x_rem2_i, x_rem2_r, x_rem2_l, x_pick0, x_pick_c, x_st1, x_st2, x_live, x_i, x_l, x_a, x_ild, x_lld, x_rld, x_ist, x_lst, x_rst, x_inc, x_ii, x_ll, x_li, x_cmp, x_ui, x_il, x_lti, x_idiv, x_irem, x_dup_i, x_dup_r, x_pop_i, x_pop_r, x_dupx_ir, x_dup2_ir, x_ifeq, x_iceq, x_iflt, x_iclt, x_ifge, x_icge, x_ifgt, x_icgt, x_ifle, x_icle, x_ifne, x_icne, x_ifnull_r, x_ifnull_n, x_ifnonnull_r, x_ifnonnull_n, x_sw, x_vret, x_iret, x_lret, x_zret, x_zret0, x_zret1, x_rf_s, x_rf_n, x_geti, x_getr, x_puti, x_putz, x_putr, x_ial, x_ias, x_lal, x_las, x_aal, x_aas, x_aast, x_alen, x_new, x_newa, x_copy, x_min, x_abs, x_minl, x_oinit, x_throw, x_callS0, x_callS1, x_callS2, x_callS3, x_callS4, x_callV0, x_callV1, x_callV2, x_callV3, x_callV4, x_callV5, x_retI_v, x_callI0, x_callI1, x_callI2, x_retN_v, x_callSN1, x_callSN2, x_callT0, x_callT1, x_fn, x_sl0, x_sli, x_slr, x_sll, x_ar0, x_ari, x_arr, x_arl, ↓reduceIte, Nat.reduceAdd, Nat.reduceSub, Nat.reduceMul, Nat.reduceEqDiff, Nat.reduceLeDiff, Nat.reduceLT, if_true, if_false, Nat.le_refl, and_true, true_and, and_self, reduceCtorEq, or_false, false_or, or_true, true_or, Nat.zero_le, fa_lit, nI_add, w_mul, nI_ltI, nI_leI, nI_eq, nI_clamp, nI_toInt, if_pos, if_neg, w_div, w_rem2, zk138 hZ, zk139 hZ, zk140 hZ, zk141 hZ, zk142 hZ, zk143 hZ, zk144 hZ, zk145 hZ, zk146 hZ, zk147 hZ, zk148 hZ, zk149 hZ, zk150 hZ, zk151 hZ, zl139 hZ, zl140 hZ, zl141 hZ, zl142 hZ, zl143 hZ, zl144 hZ, zl145 hZ, zl146 hZ, zl147 hZ, zl148 hZ, zl149 hZ, zl150 hZ, zl151 hZ, zr138_0 hZ, zr138_1 hZ, zr138_2 hZ, zr138_3 hZ, zr138_4 hZ, zr138_8 hZ, zr138_9 hZ, zr138_10 hZ, zr138_12 hZ, zr138_24 hZ, zr138_25 hZ, zr138_26 hZ, zr148_0 hZ, zr148_1 hZ, zr148_2 hZ, zr148_3 hZ, zr148_4 hZ, zr148_5 hZ, zr148_6 hZ, zr148_7 hZ, zr148_8 hZ, zk138 hZ1, zk139 hZ1, zk140 hZ1, zk141 hZ1, zk142 hZ1, zk143 hZ1, zk144 hZ1, zk145 hZ1, zk146 hZ1, zk147 hZ1, zk148 hZ1, zk149 hZ1, zk150 hZ1, zk151 hZ1, zl139 hZ1, zl140 hZ1, zl141 hZ1, zl142 hZ1, zl143 hZ1, zl144 hZ1, zl145 hZ1, zl146 hZ1, zl147 hZ1, zl148 hZ1, zl149 hZ1, zl150 hZ1, zl151 hZ1, zr138_0 hZ1, zr138_1 hZ1, zr138_2 hZ1, zr138_3 hZ1, zr138_4 hZ1, zr138_8 hZ1, zr138_9 hZ1, zr138_10 hZ1, zr138_12 hZ1, zr138_24 hZ1, zr138_25 hZ1, zr138_26 hZ1, zr148_0 hZ1, zr148_1 hZ1, zr148_2 hZ1, zr148_3 hZ1, zr148_4 hZ1, zr148_5 hZ1, zr148_6 hZ1, zr148_7 hZ1, zr148_8 hZ1, e13, gr, gf]
end L42
