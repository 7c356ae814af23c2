/-! ONE ORDER IS RECKONED -/
section L63
variable {S S' T S0 S1 : am_S} {a b p q i j k m n u t L e f κ v0 lo h op d dd l r o : Nat} {P : Nat → Prop} {B : Nat → Nat} {c y z hi : Int32} {v v1 v2 w : Int64} {s s' s2 : p_S} {R : Nat → Int32} {C C1 C2 : List Int32} {G : Nat → p_S → q_T}
theorem q_p140 : kX11_holdsFor_140 w_N [] [.int (nI 1)] S = some (.inl (some (.int (nI 1))), S) ∧ kX11_holdsFor_140 w_N [] [.int (nI 0)] S = some (.inl (some (.int (nI 0))), S) := ⟨rfl, rfl⟩
theorem q_pE {K K8 K18 K40 : am_K} {fP fO : am_F} {j0 : Int64} {x : Int32} (hK : kX11_holdsFor_81 w_N K = K8) (hK2 : kX11_holdsFor_118 w_N K = K18) (hK4 : kX11_holdsFor_140 w_N = K40) (hF : fX11_property w_N = fP) (hO : fX11_operate w_N = fO) (hZ : w_Z S) (h27 : am_i S 138 27 = nI n) (hn : n ≤ 200) (hj : am_j S 150 0 = j0) (hx : lg_cmp j0 1 = x) : bX11_holdsFor_4 w_N K [(0, .ref 138), (1, .int (nI o)), (2, .int y), (3, .int (nI n))] [] S = if x = nI 0 then K40 [(0, .ref 138), (1, .int (nI o)), (2, .int y), (3, .int (nI n))] [.int (nI 1)] S else K40 [(0, .ref 138), (1, .int (nI o)), (2, .int y), (3, .int (nI n))] [.int (nI 0)] S := by
  have k8 := zk138 hZ
  have k9 := zk150 hZ
  have l9 := zl150 hZ
  have r6 := zr138_26 hZ
  by_cases hx0 : x = nI 0
  · rw [if_pos hx0]
    unfold bX11_holdsFor_4
    rw [hK, hK2, hK4, hF, hO]
    simp (disch := omega) only [x_cs0, x_csi, x_csr, x_csn, x_csl, x_ret_v, x_ret_t, x_ret_n, x_tl_s, x_tl_n, x_lk0, x_lk, x_rem0, x_rem_i, x_rem_r, x_rem_l, x_rem2_0, x_rem2_i, x_rem2_r, x_rem2_l, x_pick0, x_pick_c, x_st1, x_st2, x_live, x_i, x_l, x_a, x_ild, x_lld, x_rld, x_ist, x_lst, x_rst, x_inc, x_ii, x_ll, x_li, x_cmp, x_ui, x_il, x_lti, x_idiv, x_irem, x_dup_i, x_dup_r, x_pop_i, x_pop_r, x_dupx_ir, x_dup2_ir, x_ifeq, x_iceq, x_iflt, x_iclt, x_ifge, x_icge, x_ifgt, x_icgt, x_ifle, x_icle, x_ifne, x_icne, x_ifnull_r, x_ifnull_n, x_ifnonnull_r, x_ifnonnull_n, x_sw, x_vret, x_iret, x_lret, x_zret, x_zret0, x_zret1, x_rf_s, x_rf_n, x_geti, x_getr, x_puti, x_putz, x_putr, x_ial, x_ias, x_lal, x_las, x_aal, x_aas, x_aast, x_alen, x_new, x_newa, x_copy, x_min, x_abs, x_minl, x_oinit, x_throw, x_callS0, x_callS1, x_callS2, x_callS3, x_callS4, x_callV0, x_callV1, x_callV2, x_callV3, x_callV4, x_callV5, x_retI_v, x_callI0, x_callI1, x_callI2, x_retN_v, x_callSN1, x_callSN2, x_callT0, x_callT1, x_fn, x_sl0, x_sli, x_slr, x_sll, x_ar0, x_ari, x_arr, x_arl, ↓reduceIte, Nat.reduceAdd, Nat.reduceSub, Nat.reduceMul, Nat.reduceEqDiff, Nat.reduceLeDiff, Nat.reduceLT, if_true, if_false, Nat.le_refl, and_true, true_and, and_self, reduceCtorEq, or_false, false_or, or_true, true_or, Nat.zero_le, fa_lit, nI_add, w_mul, nI_ltI, nI_leI, nI_eq, nI_clamp, nI_toInt, if_pos, if_neg, w_div, w_rem2, k8, k9, l9, r6, h27, hj, hx, hx0]
  · rw [if_neg hx0]
    unfold bX11_holdsFor_4
    rw [hK, hK2, hK4, hF, hO]
    simp (disch := omega) only [x_cs0, x_csi, x_csr, x_csn, x_csl, x_ret_v, x_ret_t, x_ret_n, x_tl_s, x_tl_n, x_lk0, x_lk, x_rem0, x_rem_i, x_rem_r, x_rem_l, x_rem2_0, x_rem2_i, x_rem2_r, x_rem2_l, x_pick0, x_pick_c, x_st1, x_st2, x_live, x_i, x_l, x_a, x_ild, x_lld, x_rld, x_ist, x_lst, x_rst, x_inc, x_ii, x_ll, x_li, x_cmp, x_ui, x_il, x_lti, x_idiv, x_irem, x_dup_i, x_dup_r, x_pop_i, x_pop_r, x_dupx_ir, x_dup2_ir, x_ifeq, x_iceq, x_iflt, x_iclt, x_ifge, x_icge, x_ifgt, x_icgt, x_ifle, x_icle, x_ifne, x_icne, x_ifnull_r, x_ifnull_n, x_ifnonnull_r, x_ifnonnull_n, x_sw, x_vret, x_iret, x_lret, x_zret, x_zret0, x_zret1, x_rf_s, x_rf_n, x_geti, x_getr, x_puti, x_putz, x_putr, x_ial, x_ias, x_lal, x_las, x_aal, x_aas, x_aast, x_alen, x_new, x_newa, x_copy, x_min, x_abs, x_minl, x_oinit, x_throw, x_callS0, x_callS1, x_callS2, x_callS3, x_callS4, x_callV0, x_callV1, x_callV2, x_callV3, x_callV4, x_callV5, x_retI_v, x_callI0, x_callI1, x_callI2, x_retN_v, x_callSN1, x_callSN2, x_callT0, x_callT1, x_fn, x_sl0, x_sli, x_slr, x_sll, x_ar0, x_ari, x_arr, x_arl, ↓reduceIte, Nat.reduceAdd, Nat.reduceSub, Nat.reduceMul, Nat.reduceEqDiff, Nat.reduceLeDiff, Nat.reduceLT, if_true, if_false, Nat.le_refl, and_true, true_and, and_self, reduceCtorEq, or_false, false_or, or_true, true_or, Nat.zero_le, fa_lit, nI_add, w_mul, nI_ltI, nI_leI, nI_eq, nI_clamp, nI_toInt, if_pos, if_neg, w_div, w_rem2, k8, k9, l9, r6, h27, hj, hx, hx0]
theorem z_holds {H : Bool} (hZ : w_Z S) (hR : am_i S 139 = R) (hr : q_run o R C (q_b H)) (h27 : am_i S 138 27 = nI C.length) (hl : C.length ≤ 200) (hc : ∀ j, j < C.length → am_i S 149 j = q_at C j) : ∃ S', fX11_holdsFor w_N [.ref 138, .int (nI o)] S = some (.inl (some (.int (if H = true then nI 1 else nI 0))), S') ∧ w_V S S' := by
  obtain ⟨m, hm⟩ : ∃ m, m + 1 + C.length = w_N := ⟨4999 - C.length, by show _ = 5000; omega⟩
  obtain ⟨S', f1, f2, f3, f4⟩ := hr (m + 1) 0 0 C.length S hZ hR h27 hl (by omega) (by omega) (fun j hj => by rw [Nat.zero_add]; exact hc j hj)
  have hZ1 := f4.Z hZ
  have j27 : am_i S' 138 27 = nI C.length := by rw [f4.2.2.2.2.1]; exact h27
  rw [hm, am_loop_s (n := m), Nat.zero_add 1, Nat.zero_add C.length] at f1
  refine ⟨S', ?_, f4⟩
  have gE := q_pE (K := am_loop (bX11_holdsFor_4 w_N) m) (o := o) (y := nI 1) rfl rfl rfl rfl rfl hZ1 j27 hl f2 rfl
  have g : am_loop (bX11_holdsFor_4 w_N) w_N [(0, .ref 138), (1, .int (nI o)), (2, .int (nI 0)), (3, .int (nI 0))] [] S = some (.inl (some (.int (if H = true then nI 1 else nI 0))), S') := by
    refine f1.trans (gE.trans ?_)
    cases H with
    | true =>
      have t1 : lg_cmp (q_b true) 1 = nI 0 := by decide
      rw [if_pos t1, if_pos rfl]
      exact q_p140.1
    | false =>
      have t1 : ¬ lg_cmp (q_b false) 1 = nI 0 := by decide
      rw [if_neg t1, if_neg (by decide)]
      exact q_p140.2
  have k8 := zk138 hZ
  generalize (if H = true then nI 1 else nI 0) = ans at *
  have e : fX11_holdsFor w_N [.ref 138, .int (nI o)] S = am_loop (bX11_holdsFor_4 w_N) w_N [(0, .ref 138), (1, .int (nI o)), (2, .int (nI 0)), (3, .int (nI 0))] [] S := by
    unfold fX11_holdsFor kX11_holdsFor_0 kX11_holdsFor_4
    generalize am_loop (bX11_holdsFor_4 w_N) w_N = K
    simp (disch := omega) only [x_cs0, x_csi, x_csr, x_csn, x_csl, x_ret_v, x_ret_t, x_ret_n, x_tl_s, x_tl_n, x_lk0, x_lk, x_rem0, x_rem_i, x_rem_r, x_rem_l, x_rem2_0, x_rem2_i, x_rem2_r, x_rem2_l, x_pick0, x_pick_c, x_st1, x_st2, x_live, x_i, x_l, x_a, x_ild, x_lld, x_rld, x_ist, x_lst, x_rst, x_inc, x_ii, x_ll, x_li, x_cmp, x_ui, x_il, x_lti, x_idiv, x_irem, x_dup_i, x_dup_r, x_pop_i, x_pop_r, x_dupx_ir, x_dup2_ir, x_ifeq, x_iceq, x_iflt, x_iclt, x_ifge, x_icge, x_ifgt, x_icgt, x_ifle, x_icle, x_ifne, x_icne, x_ifnull_r, x_ifnull_n, x_ifnonnull_r, x_ifnonnull_n, x_sw, x_vret, x_iret, x_lret, x_zret, x_zret0, x_zret1, x_rf_s, x_rf_n, x_geti, x_getr, x_puti, x_putz, x_putr, x_ial, x_ias, x_lal, x_las, x_aal, x_aas, x_aast, x_alen, x_new, x_newa, x_copy, x_min, x_abs, x_minl, x_oinit, x_throw, x_callS0, x_callS1, x_callS2, x_callS3, x_callS4, x_callV0, x_callV1, x_callV2, x_callV3, x_callV4, x_callV5, x_retI_v, x_callI0, x_callI1, x_callI2, x_retN_v, x_callSN1, x_callSN2, x_callT0, x_callT1, x_fn, x_sl0, x_sli, x_slr, x_sll, x_ar0, x_ari, x_arr, x_arl, ↓reduceIte, Nat.reduceAdd, Nat.reduceSub, Nat.reduceMul, Nat.reduceEqDiff, Nat.reduceLeDiff, Nat.reduceLT, if_true, if_false, Nat.le_refl, and_true, true_and, and_self, reduceCtorEq, or_false, false_or, or_true, true_or, Nat.zero_le, fa_lit, nI_add, w_mul, nI_ltI, nI_leI, nI_eq, nI_clamp, nI_toInt, if_pos, if_neg, w_div, w_rem2]
  exact e.trans g
end L63
