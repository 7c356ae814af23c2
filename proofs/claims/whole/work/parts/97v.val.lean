/-! THE REFERENCE'S NUMBERS -/
/-- a number's value, as it is -/
def l_vn (B : Nat → Nat) : Nat → Nat → Nat → Nat
  | 0, _, v => v
  | k + 1, p, v => l_vn B k (p + 1) (10 * v + (B p - 48))
section L7
variable {S S' T : am_S} {a b c o p q i j k m n u t L e f κ v0 : Nat} {P : Nat → Prop} {B : Nat → Nat} {x y z v : Int32}
theorem l_vn_s : ∀ k p v, l_vn B (k + 1) p v = 10 * l_vn B k p v + (B (p + k) - 48)
  | 0, p, v => rfl
  | k + 1, p, v => by
    rw [l_vn, l_vn_s k (p + 1), l_vn, show p + 1 + k = p + (k + 1) by omega]
theorem l_vc_n : ∀ k p v, l_vc B k p (min v 100000) = min (l_vn B k p v) 100000
  | 0, p, v => rfl
  | k + 1, p, v => by
    rw [l_vc, l_vn, ← l_vc_n k (p + 1), show min (10 * min v 100000 + (B p - 48)) 100000 = min (10 * v + (B p - 48)) 100000 by omega]
theorem w_mulN (hm : m ≤ 2000000000) : ((10 : Int64) * (nI m).toInt64).toInt = 10 * (m : Int) := by
  rw [Int64.toInt_mul, Int32.toInt_toInt64, nI_toInt (by omega)]
  have e : (10 : Int64).toInt = 10 := by decide
  rw [e, Int.bmod_eq_of_le (by omega) (by omega)]
theorem w_val (hm : m ≤ 2000000000) (h1 : 48 ≤ b) (h2 : b < 256) : (w_minl 2000000000 ((10 : Int64) * (nI m).toInt64 + (nI b).toInt64 - 48)).toInt32 = nI (min (10 * m + (b - 48)) 2000000000) := by
  have e48 : (48 : Int64).toInt = 48 := by decide
  have e2 : (2000000000 : Int64).toInt = 2000000000 := by decide
  have eb : ((nI b).toInt64).toInt = (b : Int) := by rw [Int32.toInt_toInt64, nI_toInt (by omega)]
  have ha : ((10 : Int64) * (nI m).toInt64 + (nI b).toInt64).toInt = 10 * (m : Int) + b := by
    rw [Int64.toInt_add, w_mulN hm, eb, Int.bmod_eq_of_le (by omega) (by omega)]
  have hs : ((10 : Int64) * (nI m).toInt64 + (nI b).toInt64 - 48).toInt = 10 * (m : Int) + b - 48 := by
    rw [Int64.toInt_sub, ha, e48, Int.bmod_eq_of_le (by omega) (by omega)]
  generalize (10 : Int64) * (nI m).toInt64 + (nI b).toInt64 - 48 = w at *
  rw [fa_eq, Int64.toInt_toInt32, nI_toInt (by omega)]
  unfold w_minl
  by_cases c : w < 2000000000
  · rw [if_pos c]
    rw [Int64.lt_iff_toInt_lt, hs, e2] at c
    rw [hs, Int.bmod_eq_of_le (by omega) (by omega)]
    omega
  · rw [if_neg c]
    rw [Int64.lt_iff_toInt_lt, hs, e2] at c
    rw [e2, Int.bmod_eq_of_le (by omega) (by omega)]
    omega
/-- the value of the number from p to q, no greater than 2000000000 -/
theorem z_value (hZ : w_Z S) (ht : w_tx S 147 L B) (h2 : am_i S 138 16 = nI p) (h3 : am_i S 138 15 = nI q) (h4 : am_i S 138 17 = nI 2) (hpq : p ≤ q) (hq : q ≤ L) (hd : ∀ i, p ≤ i → i < q → l_kc (B i) = 2) : fX11_value w_N [.ref 138] S = some (.inl (some (.int (nI (min (l_vn B (q - p) p 0) 2000000000)))), S) := by
  have hL := ht.1
  obtain ⟨T, r, n1, n2, n3⟩ := w_genR (σ := Unit) (body := bX11_value_7 w_N) (lvf := fun i => [(0, .ref 138), (1, .int (nI (min (l_vn B i p 0) 2000000000))), (2, .int (nI (p + i)))]) (n := q - p) (g := fun _ s => s) (P := fun i T _ => T = S ∧ True)
    (fun i T s r hi hP => by
      obtain ⟨hP, -⟩ := hP
      subst hP
      obtain ⟨e1, e2⟩ := ht.2 (p + i) (by omega)
      have hd2 := l_k2.mp (hd (p + i) (by omega) (by omega))
      have hm : min (l_vn B i p 0) 2000000000 ≤ 2000000000 := Nat.min_le_right _ _
      have ev := w_val (m := min (l_vn B i p 0) 2000000000) (b := B (p + i)) hm hd2.1 e2
      have es : min (l_vn B (i + 1) p 0) 2000000000 = min (10 * min (l_vn B i p 0) 2000000000 + (B (p + i) - 48)) 2000000000 := by
        rw [l_vn_s]
        omega
      refine ⟨T, ?_, rfl, trivial⟩
      rw [es]
      simp (disch := omega) only [bX11_value_7, x_cs0, x_csi, x_csr, x_csn, x_csl, x_ret_v, x_ret_t, x_ret_n, x_tl_s, x_tl_n, x_lk0, x_lk, x_rem0, x_rem_i, x_rem_r, x_rem_l, x_rem2_0, x_rem2_i, x_rem2_r, x_rem2_l, x_pick0, x_pick_c, x_st1, x_st2, x_live, x_i, x_l, x_a, x_ild, x_lld, x_rld, x_ist, x_lst, x_rst, x_inc, x_ii, x_ll, x_li, x_cmp, x_ui, x_il, x_lti, x_idiv, x_irem, x_dup_i, x_dup_r, x_pop_i, x_pop_r, x_dupx_ir, x_dup2_ir, x_ifeq, x_iceq, x_iflt, x_iclt, x_ifge, x_icge, x_ifgt, x_icgt, x_ifle, x_icle, x_ifne, x_icne, x_ifnull_r, x_ifnull_n, x_ifnonnull_r, x_ifnonnull_n, x_sw, x_vret, x_iret, x_lret, x_zret, x_zret0, x_zret1, x_rf_s, x_rf_n, x_geti, x_getr, x_puti, x_putz, x_putr, x_ial, x_ias, x_lal, x_las, x_aal, x_aas, x_aast, x_alen, x_new, x_newa, x_copy, x_min, x_abs, x_minl, x_oinit, x_throw, x_callS0, x_callS1, x_callS2, x_callS3, x_callS4, x_callV0, x_callV1, x_callV2, x_callV3, x_callV4, x_callV5, x_retI_v, x_callI0, x_callI1, x_callI2, x_retN_v, x_callSN1, x_callSN2, x_callT0, x_callT1, x_fn, x_sl0, x_sli, x_slr, x_sll, x_ar0, x_ari, x_arr, x_arl, ↓reduceIte, Nat.reduceAdd, Nat.reduceSub, Nat.reduceMul, Nat.reduceEqDiff, Nat.reduceLeDiff, Nat.reduceLT, if_true, if_false, Nat.le_refl, and_true, true_and, and_self, reduceCtorEq, or_false, false_or, or_true, true_or, Nat.zero_le, fa_lit, nI_add, w_mul, nI_ltI, nI_leI, nI_eq, nI_clamp, nI_toInt, if_pos, if_neg, w_div, w_rem2, zk138 hZ, zk139 hZ, zk140 hZ, zk141 hZ, zk142 hZ, zk143 hZ, zk144 hZ, zk145 hZ, zk146 hZ, zk147 hZ, zk148 hZ, zk149 hZ, zk150 hZ, zk151 hZ, zl139 hZ, zl140 hZ, zl141 hZ, zl142 hZ, zl143 hZ, zl144 hZ, zl145 hZ, zl146 hZ, zl147 hZ, zl148 hZ, zl149 hZ, zl150 hZ, zl151 hZ, zr138_0 hZ, zr138_1 hZ, zr138_2 hZ, zr138_3 hZ, zr138_4 hZ, zr138_8 hZ, zr138_9 hZ, zr138_10 hZ, zr138_12 hZ, zr138_24 hZ, zr138_25 hZ, zr138_26 hZ, zr148_0 hZ, zr148_1 hZ, zr148_2 hZ, zr148_3 hZ, zr148_4 hZ, zr148_5 hZ, zr148_6 hZ, zr148_7 hZ, zr148_8 hZ, h3, h4, e1, ev]
      rfl) w_N 0 S () (by show q - p - 0 < 5000; omega) (Nat.zero_le _) ⟨rfl, trivial⟩
  subst n2
  have n1' : am_loop (bX11_value_7 w_N) w_N [(0, .ref 138), (1, .int (nI 0)), (2, .int (nI p))] [] T = some (.inl (some (.int (nI (min (l_vn B (q - p) p 0) 2000000000)))), T) := by
    refine Eq.trans n1 ?_
    simp (disch := omega) only [bX11_value_7, kX11_value_55, x_cs0, x_csi, x_csr, x_csn, x_csl, x_ret_v, x_ret_t, x_ret_n, x_tl_s, x_tl_n, x_lk0, x_lk, x_rem0, x_rem_i, x_rem_r, x_rem_l, x_rem2_0, x_rem2_i, x_rem2_r, x_rem2_l, x_pick0, x_pick_c, x_st1, x_st2, x_live, x_i, x_l, x_a, x_ild, x_lld, x_rld, x_ist, x_lst, x_rst, x_inc, x_ii, x_ll, x_li, x_cmp, x_ui, x_il, x_lti, x_idiv, x_irem, x_dup_i, x_dup_r, x_pop_i, x_pop_r, x_dupx_ir, x_dup2_ir, x_ifeq, x_iceq, x_iflt, x_iclt, x_ifge, x_icge, x_ifgt, x_icgt, x_ifle, x_icle, x_ifne, x_icne, x_ifnull_r, x_ifnull_n, x_ifnonnull_r, x_ifnonnull_n, x_sw, x_vret, x_iret, x_lret, x_zret, x_zret0, x_zret1, x_rf_s, x_rf_n, x_geti, x_getr, x_puti, x_putz, x_putr, x_ial, x_ias, x_lal, x_las, x_aal, x_aas, x_aast, x_alen, x_new, x_newa, x_copy, x_min, x_abs, x_minl, x_oinit, x_throw, x_callS0, x_callS1, x_callS2, x_callS3, x_callS4, x_callV0, x_callV1, x_callV2, x_callV3, x_callV4, x_callV5, x_retI_v, x_callI0, x_callI1, x_callI2, x_retN_v, x_callSN1, x_callSN2, x_callT0, x_callT1, x_fn, x_sl0, x_sli, x_slr, x_sll, x_ar0, x_ari, x_arr, x_arl, ↓reduceIte, Nat.reduceAdd, Nat.reduceSub, Nat.reduceMul, Nat.reduceEqDiff, Nat.reduceLeDiff, Nat.reduceLT, if_true, if_false, Nat.le_refl, and_true, true_and, and_self, reduceCtorEq, or_false, false_or, or_true, true_or, Nat.zero_le, fa_lit, nI_add, w_mul, nI_ltI, nI_leI, nI_eq, nI_clamp, nI_toInt, if_pos, if_neg, w_div, w_rem2, zk138 hZ, zk139 hZ, zk140 hZ, zk141 hZ, zk142 hZ, zk143 hZ, zk144 hZ, zk145 hZ, zk146 hZ, zk147 hZ, zk148 hZ, zk149 hZ, zk150 hZ, zk151 hZ, zl139 hZ, zl140 hZ, zl141 hZ, zl142 hZ, zl143 hZ, zl144 hZ, zl145 hZ, zl146 hZ, zl147 hZ, zl148 hZ, zl149 hZ, zl150 hZ, zl151 hZ, zr138_0 hZ, zr138_1 hZ, zr138_2 hZ, zr138_3 hZ, zr138_4 hZ, zr138_8 hZ, zr138_9 hZ, zr138_10 hZ, zr138_12 hZ, zr138_24 hZ, zr138_25 hZ, zr138_26 hZ, zr148_0 hZ, zr148_1 hZ, zr148_2 hZ, zr148_3 hZ, zr148_4 hZ, zr148_5 hZ, zr148_6 hZ, zr148_7 hZ, zr148_8 hZ, h3]
  simp (disch := omega) only [fX11_value, kX11_value_0, kX11_value_7, x_cs0, x_csi, x_csr, x_csn, x_csl, x_ret_v, x_ret_t, x_ret_n, x_tl_s, x_tl_n, x_lk0, x_lk, x_rem0, x_rem_i, x_rem_r, x_rem_l, x_rem2_0, x_rem2_i, x_rem2_r, x_rem2_l, x_pick0, x_pick_c, x_st1, x_st2, x_live, x_i, x_l, x_a, x_ild, x_lld, x_rld, x_ist, x_lst, x_rst, x_inc, x_ii, x_ll, x_li, x_cmp, x_ui, x_il, x_lti, x_idiv, x_irem, x_dup_i, x_dup_r, x_pop_i, x_pop_r, x_dupx_ir, x_dup2_ir, x_ifeq, x_iceq, x_iflt, x_iclt, x_ifge, x_icge, x_ifgt, x_icgt, x_ifle, x_icle, x_ifne, x_icne, x_ifnull_r, x_ifnull_n, x_ifnonnull_r, x_ifnonnull_n, x_sw, x_vret, x_iret, x_lret, x_zret, x_zret0, x_zret1, x_rf_s, x_rf_n, x_geti, x_getr, x_puti, x_putz, x_putr, x_ial, x_ias, x_lal, x_las, x_aal, x_aas, x_aast, x_alen, x_new, x_newa, x_copy, x_min, x_abs, x_minl, x_oinit, x_throw, x_callS0, x_callS1, x_callS2, x_callS3, x_callS4, x_callV0, x_callV1, x_callV2, x_callV3, x_callV4, x_callV5, x_retI_v, x_callI0, x_callI1, x_callI2, x_retN_v, x_callSN1, x_callSN2, x_callT0, x_callT1, x_fn, x_sl0, x_sli, x_slr, x_sll, x_ar0, x_ari, x_arr, x_arl, ↓reduceIte, Nat.reduceAdd, Nat.reduceSub, Nat.reduceMul, Nat.reduceEqDiff, Nat.reduceLeDiff, Nat.reduceLT, if_true, if_false, Nat.le_refl, and_true, true_and, and_self, reduceCtorEq, or_false, false_or, or_true, true_or, Nat.zero_le, fa_lit, nI_add, w_mul, nI_ltI, nI_leI, nI_eq, nI_clamp, nI_toInt, if_pos, if_neg, w_div, w_rem2, zk138 hZ, zk139 hZ, zk140 hZ, zk141 hZ, zk142 hZ, zk143 hZ, zk144 hZ, zk145 hZ, zk146 hZ, zk147 hZ, zk148 hZ, zk149 hZ, zk150 hZ, zk151 hZ, zl139 hZ, zl140 hZ, zl141 hZ, zl142 hZ, zl143 hZ, zl144 hZ, zl145 hZ, zl146 hZ, zl147 hZ, zl148 hZ, zl149 hZ, zl150 hZ, zl151 hZ, zr138_0 hZ, zr138_1 hZ, zr138_2 hZ, zr138_3 hZ, zr138_4 hZ, zr138_8 hZ, zr138_9 hZ, zr138_10 hZ, zr138_12 hZ, zr138_24 hZ, zr138_25 hZ, zr138_26 hZ, zr148_0 hZ, zr148_1 hZ, zr148_2 hZ, zr148_3 hZ, zr148_4 hZ, zr148_5 hZ, zr148_6 hZ, zr148_7 hZ, zr148_8 hZ, h2, n1']
end L7
