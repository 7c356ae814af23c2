/-! THE CLASS: a new situation; the history's ring -/
def w_mkT (T : am_S) (a b : Nat) : am_S := am_putR (am_new (am_putI (am_putI (am_new T 7 0 4) (am_n T) 0 (nI a)) (am_n T) 1 (nI b)) 20 (a * b) (a * b)) (am_n T) 2 (some (am_n T + 1))
def s_R0 : Nat → Int32 := fun j => if j = 0 then nI 3 else if j = 1 then nI 3 else if j = 9 then nI 30 else nI 0
section N1
variable {S S' T : am_S} {a b c o p q i m n u : Nat} {P : Nat → Prop} {R : Nat → Int32}
theorem x_n_mkT : am_n (w_mkT T a b) = am_n T + 2 := rfl
theorem x_z_mkT : am_z (w_mkT T a b) = am_z T + 4 + a * b := rfl
theorem x_k_mkT : am_k (w_mkT T a b) q = if q = am_n T + 1 then 20 else if q = am_n T then 7 else am_k T q := rfl
theorem x_l_mkT : am_l (w_mkT T a b) q = if q = am_n T + 1 then a * b else if q = am_n T then 0 else am_l T q := rfl
theorem x_r_mkT : am_r (w_mkT T a b) q i = if q = am_n T then (if i = 2 then some (am_n T + 1) else none) else if q = am_n T + 1 then none else am_r T q i := by
  have e : am_n (am_new T 7 0 4) = am_n T + 1 := rfl
  unfold w_mkT
  simp only [x_r_R, x_r_N, x_r_I, x_n_I, e]
  by_cases h1 : q = am_n T
  · subst h1
    by_cases h2 : i = 2
    · simp [h2]
    · simp [h2]
  · simp [h1]
theorem x_i_mkT : am_i (w_mkT T a b) q i = if q = am_n T + 1 then 0 else if q = am_n T then (if i = 1 then nI b else if i = 0 then nI a else 0) else am_i T q i := by
  have e : am_n (am_new T 7 0 4) = am_n T + 1 := rfl
  unfold w_mkT
  simp only [x_i_R, x_i_N, x_i_I, x_n_I, e]
  by_cases h1 : q = am_n T + 1
  · simp [h1]
  · by_cases h2 : q = am_n T
    · subst h2
      by_cases h3 : i = 1
      · simp [h3]
      · by_cases h4 : i = 0
        · simp [h4]
        · simp [h3, h4]
    · simp [h1, h2]
theorem x_j_mkT : am_j (w_mkT T a b) q i = if q = am_n T + 1 then 0 else if q = am_n T then 0 else am_j T q i := by
  have e : am_n (am_new T 7 0 4) = am_n T + 1 := rfl
  unfold w_mkT
  simp only [x_j_R, x_j_N, x_j_I, x_n_I, e]
theorem w_F.mkT : w_F P T (w_mkT T a b) := by
  refine ⟨by rw [x_n_mkT]; omega, by rw [x_z_mkT]; omega, fun q hq => ⟨by rw [x_k_mkT, if_neg (by omega), if_neg (by omega)], by rw [x_l_mkT, if_neg (by omega), if_neg (by omega)]⟩, fun q hq _ => ⟨?_, ?_, ?_⟩⟩
  · funext i
    rw [x_i_mkT, if_neg (by omega), if_neg (by omega)]
  · funext i
    rw [x_j_mkT, if_neg (by omega), if_neg (by omega)]
  · funext i
    rw [x_r_mkT, if_neg (by omega), if_neg (by omega)]
theorem y_initT (ha : a ≤ 80) (hb : b ≤ 10) : fX7_init w_N [.ref (am_n T), .int (nI a), .int (nI b)] (am_new T 7 0 4) = some (.inl none, w_mkT T a b) := by
  have e : am_n (am_new T 7 0 4) = am_n T + 1 := rfl
  have e2 : a * b ≤ 800 := Nat.le_trans (Nat.mul_le_mul ha hb) (by omega)
  unfold w_mkT
  simp (disch := omega) only [fX7_init, kX7_init_68, kX7_init_53, kX7_init_40, kX7_init_29, kX7_init_28, kX7_init_0, x_cs0, x_csi, x_csr, x_csn, x_csl, x_ret_v, x_ret_t, x_ret_n, x_tl_s, x_tl_n, x_lk0, x_lk, x_rem0, x_rem_i, x_rem_r, x_rem_l, x_rem2_0, x_rem2_i, x_rem2_r, x_rem2_l, x_pick0, x_pick_c, x_st1, x_st2, x_live, x_i, x_l, x_a, x_ild, x_lld, x_rld, x_ist, x_lst, x_rst, x_inc, x_ii, x_ll, x_li, x_cmp, x_ui, x_il, x_lti, x_idiv, x_irem, x_dup_i, x_dup_r, x_pop_i, x_pop_r, x_dupx_ir, x_dup2_ir, x_ifeq, x_iceq, x_iflt, x_iclt, x_ifge, x_icge, x_ifgt, x_icgt, x_ifle, x_icle, x_ifne, x_icne, x_ifnull_r, x_ifnull_n, x_ifnonnull_r, x_ifnonnull_n, x_sw, x_vret, x_iret, x_lret, x_zret, x_zret0, x_zret1, x_rf_s, x_rf_n, x_geti, x_getr, x_puti, x_putz, x_putr, x_ial, x_ias, x_lal, x_las, x_aal, x_aas, x_aast, x_alen, x_new, x_newa, x_copy, x_min, x_abs, x_minl, x_oinit, x_throw, x_callS0, x_callS1, x_callS2, x_callS3, x_callS4, x_callV0, x_callV1, x_callV2, x_callV3, x_callV4, x_callV5, x_retI_v, x_callI0, x_callI1, x_callI2, x_retN_v, x_callSN1, x_callSN2, x_callT0, x_callT1, x_fn, x_sl0, x_sli, x_slr, x_sll, x_ar0, x_ari, x_arr, x_arl, ↓reduceIte, Nat.reduceAdd, Nat.reduceSub, Nat.reduceMul, Nat.reduceEqDiff, Nat.reduceLeDiff, Nat.reduceLT, if_true, if_false, Nat.le_refl, and_true, true_and, and_self, reduceCtorEq, or_false, false_or, or_true, true_or, Nat.zero_le, fa_lit, nI_add, w_mul, nI_ltI, nI_leI, nI_eq, nI_clamp, nI_toInt, if_pos, if_neg, w_div, w_rem2, x_k_I, x_l_I, x_r_I, x_j_I, x_n_I, x_z_I, x_i_Is, x_k_W, x_l_W, x_r_W, x_j_W, x_n_W, x_z_W, x_k_J, x_l_J, x_r_J, x_i_J, x_n_J, x_z_J, x_k_R, x_l_R, x_j_R, x_i_R, x_n_R, x_z_R, x_n_N, x_z_N, x_k_N, x_l_N, x_i_N, x_j_N, x_r_N, e]
def w_n0 (S : am_S) : am_S := am_putR (am_new (am_new S 6 0 13) 20 144 144) (am_n S) 7 (some (am_n S + 1))
def w_n1 (S : am_S) : am_S := am_putR (w_mkT (w_n0 S) 6 4) (am_n S) 8 (some (am_n S + 2))
def w_n2 (S : am_S) : am_S := am_putR (w_mkT (w_n1 S) 4 8) (am_n S) 9 (some (am_n S + 4))
def w_n3 (S : am_S) : am_S := am_putR (w_mkT (w_n2 S) 20 4) (am_n S) 10 (some (am_n S + 6))
def w_n4 (S : am_S) : am_S := am_putR (w_mkT (w_n3 S) 40 10) (am_n S) 11 (some (am_n S + 8))
def w_n5 (S : am_S) : am_S := am_putR (w_mkT (w_n4 S) 80 3) (am_n S) 12 (some (am_n S + 10))
def w_nS (S : am_S) : am_S := am_putI (am_putI (am_putI (w_n5 S) (am_n S) 0 (nI 3)) (am_n S) 1 (nI 3)) (am_n S) 5 (nI 30)
theorem x_n_n0 : am_n (w_n0 S) = am_n S + 2 := by
  unfold w_n0
  rw [x_n_R, x_n_N, x_n_N]
theorem x_n_n1 : am_n (w_n1 S) = am_n S + 4 := by
  unfold w_n1
  rw [x_n_R, x_n_mkT, x_n_n0]
theorem x_n_n2 : am_n (w_n2 S) = am_n S + 6 := by
  unfold w_n2
  rw [x_n_R, x_n_mkT, x_n_n1]
theorem x_n_n3 : am_n (w_n3 S) = am_n S + 8 := by
  unfold w_n3
  rw [x_n_R, x_n_mkT, x_n_n2]
theorem x_n_n4 : am_n (w_n4 S) = am_n S + 10 := by
  unfold w_n4
  rw [x_n_R, x_n_mkT, x_n_n3]
theorem x_n_n5 : am_n (w_n5 S) = am_n S + 12 := by
  unfold w_n5
  rw [x_n_R, x_n_mkT, x_n_n4]
theorem x_n_nS : am_n (w_nS S) = am_n S + 12 := by
  unfold w_nS
  rw [x_n_I, x_n_I, x_n_I, x_n_n5]
theorem x_z_n0 : am_z (w_n0 S) = am_z S + 157 := by
  unfold w_n0
  rw [x_z_R, x_z_N, x_z_N]
theorem x_z_n1 : am_z (w_n1 S) = am_z S + 185 := by
  unfold w_n1
  rw [x_z_R, x_z_mkT, x_z_n0]
theorem x_z_n2 : am_z (w_n2 S) = am_z S + 221 := by
  unfold w_n2
  rw [x_z_R, x_z_mkT, x_z_n1]
theorem x_z_n3 : am_z (w_n3 S) = am_z S + 305 := by
  unfold w_n3
  rw [x_z_R, x_z_mkT, x_z_n2]
theorem x_z_n4 : am_z (w_n4 S) = am_z S + 709 := by
  unfold w_n4
  rw [x_z_R, x_z_mkT, x_z_n3]
theorem x_z_n5 : am_z (w_n5 S) = am_z S + 953 := by
  unfold w_n5
  rw [x_z_R, x_z_mkT, x_z_n4]
theorem x_z_nS : am_z (w_nS S) = am_z S + 953 := by
  unfold w_nS
  rw [x_z_I, x_z_I, x_z_I, x_z_n5]
theorem x_k_n0 : am_k (w_n0 S) q = if q = am_n S + 1 then 20 else if q = am_n S then 6 else am_k S q := rfl
theorem x_l_n0 : am_l (w_n0 S) q = if q = am_n S + 1 then 144 else if q = am_n S then 0 else am_l S q := rfl
theorem x_i_n0 : am_i (w_n0 S) q i = if q = am_n S + 1 then 0 else if q = am_n S then 0 else am_i S q i := by
  have e : am_n (am_new S 6 0 13) = am_n S + 1 := rfl
  unfold w_n0
  simp only [x_i_R, x_i_N, e]
theorem x_r_n0 : am_r (w_n0 S) q i = if q = am_n S then (if i = 7 then some (am_n S + 1) else none) else if q = am_n S + 1 then none else am_r S q i := by
  have e : am_n (am_new S 6 0 13) = am_n S + 1 := rfl
  unfold w_n0
  simp only [x_r_R, x_r_N, e]
  by_cases h1 : q = am_n S
  · subst h1
    simp
  · simp [h1]
theorem x_k_n1 : am_k (w_n1 S) q = if q = am_n S + 3 then 20 else if q = am_n S + 2 then 7 else am_k (w_n0 S) q := by
  unfold w_n1
  rw [x_k_R, x_k_mkT, x_n_n0]
theorem x_l_n1 : am_l (w_n1 S) q = if q = am_n S + 3 then 24 else if q = am_n S + 2 then 0 else am_l (w_n0 S) q := by
  unfold w_n1
  rw [x_l_R, x_l_mkT, x_n_n0]
theorem x_i_n1 : am_i (w_n1 S) q i = if q = am_n S + 3 then 0 else if q = am_n S + 2 then (if i = 1 then nI 4 else if i = 0 then nI 6 else 0) else am_i (w_n0 S) q i := by
  unfold w_n1
  rw [x_i_R, x_i_mkT, x_n_n0]
theorem x_j_n1 : am_j (w_n1 S) q i = if q = am_n S + 3 then 0 else if q = am_n S + 2 then 0 else am_j (w_n0 S) q i := by
  unfold w_n1
  rw [x_j_R, x_j_mkT, x_n_n0]
theorem x_r_n1 : am_r (w_n1 S) q i = if q = am_n S then (if i = 8 then some (am_n S + 2) else am_r (w_n0 S) q i) else if q = am_n S + 2 then (if i = 2 then some (am_n S + 3) else none) else if q = am_n S + 3 then none else am_r (w_n0 S) q i := by
  unfold w_n1
  rw [x_r_R, x_r_mkT, x_n_n0]
  by_cases h : q = am_n S
  · rw [if_pos h, if_pos h]
    by_cases h2 : i = 8
    · rw [if_pos h2, if_pos h2]
    · rw [if_neg h2, if_neg h2, if_neg (by omega), if_neg (by omega)]
  · rw [if_neg h, if_neg h]
theorem x_k_n2 : am_k (w_n2 S) q = if q = am_n S + 5 then 20 else if q = am_n S + 4 then 7 else am_k (w_n1 S) q := by
  unfold w_n2
  rw [x_k_R, x_k_mkT, x_n_n1]
theorem x_l_n2 : am_l (w_n2 S) q = if q = am_n S + 5 then 32 else if q = am_n S + 4 then 0 else am_l (w_n1 S) q := by
  unfold w_n2
  rw [x_l_R, x_l_mkT, x_n_n1]
theorem x_i_n2 : am_i (w_n2 S) q i = if q = am_n S + 5 then 0 else if q = am_n S + 4 then (if i = 1 then nI 8 else if i = 0 then nI 4 else 0) else am_i (w_n1 S) q i := by
  unfold w_n2
  rw [x_i_R, x_i_mkT, x_n_n1]
theorem x_j_n2 : am_j (w_n2 S) q i = if q = am_n S + 5 then 0 else if q = am_n S + 4 then 0 else am_j (w_n1 S) q i := by
  unfold w_n2
  rw [x_j_R, x_j_mkT, x_n_n1]
theorem x_r_n2 : am_r (w_n2 S) q i = if q = am_n S then (if i = 9 then some (am_n S + 4) else am_r (w_n1 S) q i) else if q = am_n S + 4 then (if i = 2 then some (am_n S + 5) else none) else if q = am_n S + 5 then none else am_r (w_n1 S) q i := by
  unfold w_n2
  rw [x_r_R, x_r_mkT, x_n_n1]
  by_cases h : q = am_n S
  · rw [if_pos h, if_pos h]
    by_cases h2 : i = 9
    · rw [if_pos h2, if_pos h2]
    · rw [if_neg h2, if_neg h2, if_neg (by omega), if_neg (by omega)]
  · rw [if_neg h, if_neg h]
theorem x_k_n3 : am_k (w_n3 S) q = if q = am_n S + 7 then 20 else if q = am_n S + 6 then 7 else am_k (w_n2 S) q := by
  unfold w_n3
  rw [x_k_R, x_k_mkT, x_n_n2]
theorem x_l_n3 : am_l (w_n3 S) q = if q = am_n S + 7 then 80 else if q = am_n S + 6 then 0 else am_l (w_n2 S) q := by
  unfold w_n3
  rw [x_l_R, x_l_mkT, x_n_n2]
theorem x_i_n3 : am_i (w_n3 S) q i = if q = am_n S + 7 then 0 else if q = am_n S + 6 then (if i = 1 then nI 4 else if i = 0 then nI 20 else 0) else am_i (w_n2 S) q i := by
  unfold w_n3
  rw [x_i_R, x_i_mkT, x_n_n2]
theorem x_j_n3 : am_j (w_n3 S) q i = if q = am_n S + 7 then 0 else if q = am_n S + 6 then 0 else am_j (w_n2 S) q i := by
  unfold w_n3
  rw [x_j_R, x_j_mkT, x_n_n2]
theorem x_r_n3 : am_r (w_n3 S) q i = if q = am_n S then (if i = 10 then some (am_n S + 6) else am_r (w_n2 S) q i) else if q = am_n S + 6 then (if i = 2 then some (am_n S + 7) else none) else if q = am_n S + 7 then none else am_r (w_n2 S) q i := by
  unfold w_n3
  rw [x_r_R, x_r_mkT, x_n_n2]
  by_cases h : q = am_n S
  · rw [if_pos h, if_pos h]
    by_cases h2 : i = 10
    · rw [if_pos h2, if_pos h2]
    · rw [if_neg h2, if_neg h2, if_neg (by omega), if_neg (by omega)]
  · rw [if_neg h, if_neg h]
theorem x_k_n4 : am_k (w_n4 S) q = if q = am_n S + 9 then 20 else if q = am_n S + 8 then 7 else am_k (w_n3 S) q := by
  unfold w_n4
  rw [x_k_R, x_k_mkT, x_n_n3]
theorem x_l_n4 : am_l (w_n4 S) q = if q = am_n S + 9 then 400 else if q = am_n S + 8 then 0 else am_l (w_n3 S) q := by
  unfold w_n4
  rw [x_l_R, x_l_mkT, x_n_n3]
theorem x_i_n4 : am_i (w_n4 S) q i = if q = am_n S + 9 then 0 else if q = am_n S + 8 then (if i = 1 then nI 10 else if i = 0 then nI 40 else 0) else am_i (w_n3 S) q i := by
  unfold w_n4
  rw [x_i_R, x_i_mkT, x_n_n3]
theorem x_j_n4 : am_j (w_n4 S) q i = if q = am_n S + 9 then 0 else if q = am_n S + 8 then 0 else am_j (w_n3 S) q i := by
  unfold w_n4
  rw [x_j_R, x_j_mkT, x_n_n3]
theorem x_r_n4 : am_r (w_n4 S) q i = if q = am_n S then (if i = 11 then some (am_n S + 8) else am_r (w_n3 S) q i) else if q = am_n S + 8 then (if i = 2 then some (am_n S + 9) else none) else if q = am_n S + 9 then none else am_r (w_n3 S) q i := by
  unfold w_n4
  rw [x_r_R, x_r_mkT, x_n_n3]
  by_cases h : q = am_n S
  · rw [if_pos h, if_pos h]
    by_cases h2 : i = 11
    · rw [if_pos h2, if_pos h2]
    · rw [if_neg h2, if_neg h2, if_neg (by omega), if_neg (by omega)]
  · rw [if_neg h, if_neg h]
theorem x_k_n5 : am_k (w_n5 S) q = if q = am_n S + 11 then 20 else if q = am_n S + 10 then 7 else am_k (w_n4 S) q := by
  unfold w_n5
  rw [x_k_R, x_k_mkT, x_n_n4]
theorem x_l_n5 : am_l (w_n5 S) q = if q = am_n S + 11 then 240 else if q = am_n S + 10 then 0 else am_l (w_n4 S) q := by
  unfold w_n5
  rw [x_l_R, x_l_mkT, x_n_n4]
theorem x_i_n5 : am_i (w_n5 S) q i = if q = am_n S + 11 then 0 else if q = am_n S + 10 then (if i = 1 then nI 3 else if i = 0 then nI 80 else 0) else am_i (w_n4 S) q i := by
  unfold w_n5
  rw [x_i_R, x_i_mkT, x_n_n4]
theorem x_j_n5 : am_j (w_n5 S) q i = if q = am_n S + 11 then 0 else if q = am_n S + 10 then 0 else am_j (w_n4 S) q i := by
  unfold w_n5
  rw [x_j_R, x_j_mkT, x_n_n4]
theorem x_r_n5 : am_r (w_n5 S) q i = if q = am_n S then (if i = 12 then some (am_n S + 10) else am_r (w_n4 S) q i) else if q = am_n S + 10 then (if i = 2 then some (am_n S + 11) else none) else if q = am_n S + 11 then none else am_r (w_n4 S) q i := by
  unfold w_n5
  rw [x_r_R, x_r_mkT, x_n_n4]
  by_cases h : q = am_n S
  · rw [if_pos h, if_pos h]
    by_cases h2 : i = 12
    · rw [if_pos h2, if_pos h2]
    · rw [if_neg h2, if_neg h2, if_neg (by omega), if_neg (by omega)]
  · rw [if_neg h, if_neg h]
theorem x_j_n0 : am_j (w_n0 S) q i = if q = am_n S + 1 then 0 else if q = am_n S then 0 else am_j S q i := by
  have e : am_n (am_new S 6 0 13) = am_n S + 1 := rfl
  unfold w_n0
  simp only [x_j_R, x_j_N, e]
theorem x_k_nS : am_k (w_nS S) q = am_k (w_n5 S) q := by
  unfold w_nS
  rw [x_k_I, x_k_I, x_k_I]
theorem x_l_nS : am_l (w_nS S) q = am_l (w_n5 S) q := by
  unfold w_nS
  rw [x_l_I, x_l_I, x_l_I]
theorem x_r_nS : am_r (w_nS S) q i = am_r (w_n5 S) q i := by
  unfold w_nS
  rw [x_r_I, x_r_I, x_r_I]
theorem x_j_nS : am_j (w_nS S) q i = am_j (w_n5 S) q i := by
  unfold w_nS
  rw [x_j_I, x_j_I, x_j_I]
theorem x_i_nSn (h : q ≠ am_n S) : am_i (w_nS S) q i = am_i (w_n5 S) q i := by
  unfold w_nS
  rw [x_i_I, if_neg h, x_i_I, if_neg h, x_i_I, if_neg h]
theorem w_F.nS : w_F P S (w_nS S) := by
  refine ⟨by rw [x_n_nS]; omega, by rw [x_z_nS]; omega, fun q hq => ⟨?_, ?_⟩, fun q hq _ => ⟨?_, ?_, ?_⟩⟩
  · simp (disch := omega) only [x_k_nS, x_k_n5, x_k_n4, x_k_n3, x_k_n2, x_k_n1, x_k_n0, if_neg]
  · simp (disch := omega) only [x_l_nS, x_l_n5, x_l_n4, x_l_n3, x_l_n2, x_l_n1, x_l_n0, if_neg]
  · funext i
    rw [x_i_nSn (by omega)]
    simp (disch := omega) only [x_i_n5, x_i_n4, x_i_n3, x_i_n2, x_i_n1, x_i_n0, if_neg]
  · funext i
    simp (disch := omega) only [x_j_nS, x_j_n5, x_j_n4, x_j_n3, x_j_n2, x_j_n1, x_j_n0, if_neg]
  · funext i
    simp (disch := omega) only [x_r_nS, x_r_n5, x_r_n4, x_r_n3, x_r_n2, x_r_n1, x_r_n0, if_neg]
theorem y_newSit : fX6_init w_N [.ref (am_n S)] (am_new S 6 0 13) = some (.inl none, w_nS S) := by
  have e : am_n (am_new S 6 0 13) = am_n S + 1 := rfl
  have nf : am_nf 7 = 4 := rfl
  have g1 := y_initT (T := w_n0 S) (a := 6) (b := 4) (by omega) (by omega)
  have g2 := y_initT (T := w_n1 S) (a := 4) (b := 8) (by omega) (by omega)
  have g3 := y_initT (T := w_n2 S) (a := 20) (b := 4) (by omega) (by omega)
  have g4 := y_initT (T := w_n3 S) (a := 40) (b := 10) (by omega) (by omega)
  have g5 := y_initT (T := w_n4 S) (a := 80) (b := 3) (by omega) (by omega)
  rw [x_n_n0] at g1
  rw [x_n_n1] at g2
  rw [x_n_n2] at g3
  rw [x_n_n3] at g4
  rw [x_n_n4] at g5
  have m1 : am_n (w_mkT (w_n0 S) 6 4) = am_n S + 4 := by rw [x_n_mkT, x_n_n0]
  have m2 : am_n (w_mkT (w_n1 S) 4 8) = am_n S + 6 := by rw [x_n_mkT, x_n_n1]
  have m3 : am_n (w_mkT (w_n2 S) 20 4) = am_n S + 8 := by rw [x_n_mkT, x_n_n2]
  have m4 : am_n (w_mkT (w_n3 S) 40 10) = am_n S + 10 := by rw [x_n_mkT, x_n_n3]
  have m5 : am_n (w_mkT (w_n4 S) 80 3) = am_n S + 12 := by rw [x_n_mkT, x_n_n4]
  have h0 : am_putR (am_new (am_new S 6 0 13) 20 144 144) (am_n S) 7 (some (am_n S + 1)) = w_n0 S := rfl
  have h1 : am_putR (w_mkT (w_n0 S) 6 4) (am_n S) 8 (some (am_n S + 2)) = w_n1 S := rfl
  have h2 : am_putR (w_mkT (w_n1 S) 4 8) (am_n S) 9 (some (am_n S + 4)) = w_n2 S := rfl
  have h3 : am_putR (w_mkT (w_n2 S) 20 4) (am_n S) 10 (some (am_n S + 6)) = w_n3 S := rfl
  have h4 : am_putR (w_mkT (w_n3 S) 40 10) (am_n S) 11 (some (am_n S + 8)) = w_n4 S := rfl
  have h5 : am_putR (w_mkT (w_n4 S) 80 3) (am_n S) 12 (some (am_n S + 10)) = w_n5 S := rfl
  have k1 : am_k (w_mkT (w_n0 S) 6 4) (am_n S) = 6 := by simp (disch := omega) only [x_k_mkT, x_k_n0, x_n_n0, if_neg, ↓reduceIte]
  have k2 : am_k (w_mkT (w_n1 S) 4 8) (am_n S) = 6 := by
    have : am_k (w_n1 S) (am_n S) = 6 := k1
    simp (disch := omega) only [x_k_mkT, x_n_n1, if_neg, this]
  have k3 : am_k (w_mkT (w_n2 S) 20 4) (am_n S) = 6 := by
    have : am_k (w_n2 S) (am_n S) = 6 := k2
    simp (disch := omega) only [x_k_mkT, x_n_n2, if_neg, this]
  have k4 : am_k (w_mkT (w_n3 S) 40 10) (am_n S) = 6 := by
    have : am_k (w_n3 S) (am_n S) = 6 := k3
    simp (disch := omega) only [x_k_mkT, x_n_n3, if_neg, this]
  have k5 : am_k (w_mkT (w_n4 S) 80 3) (am_n S) = 6 := by
    have : am_k (w_n4 S) (am_n S) = 6 := k4
    simp (disch := omega) only [x_k_mkT, x_n_n4, if_neg, this]
  have k6 : am_k (w_n5 S) (am_n S) = 6 := k5
  unfold w_nS
  simp (disch := omega) only [fX6_init, kX6_init_0, x_cs0, x_csi, x_csr, x_csn, x_csl, x_ret_v, x_ret_t, x_ret_n, x_tl_s, x_tl_n, x_lk0, x_lk, x_rem0, x_rem_i, x_rem_r, x_rem_l, x_rem2_0, x_rem2_i, x_rem2_r, x_rem2_l, x_pick0, x_pick_c, x_st1, x_st2, x_live, x_i, x_l, x_a, x_ild, x_lld, x_rld, x_ist, x_lst, x_rst, x_inc, x_ii, x_ll, x_li, x_cmp, x_ui, x_il, x_lti, x_idiv, x_irem, x_dup_i, x_dup_r, x_pop_i, x_pop_r, x_dupx_ir, x_dup2_ir, x_ifeq, x_iceq, x_iflt, x_iclt, x_ifge, x_icge, x_ifgt, x_icgt, x_ifle, x_icle, x_ifne, x_icne, x_ifnull_r, x_ifnull_n, x_ifnonnull_r, x_ifnonnull_n, x_sw, x_vret, x_iret, x_lret, x_zret, x_zret0, x_zret1, x_rf_s, x_rf_n, x_geti, x_getr, x_puti, x_putz, x_putr, x_ial, x_ias, x_lal, x_las, x_aal, x_aas, x_aast, x_alen, x_new, x_newa, x_copy, x_min, x_abs, x_minl, x_oinit, x_throw, x_callS0, x_callS1, x_callS2, x_callS3, x_callS4, x_callV0, x_callV1, x_callV2, x_callV3, x_callV4, x_callV5, x_retI_v, x_callI0, x_callI1, x_callI2, x_retN_v, x_callSN1, x_callSN2, x_callT0, x_callT1, x_fn, x_sl0, x_sli, x_slr, x_sll, x_ar0, x_ari, x_arr, x_arl, ↓reduceIte, Nat.reduceAdd, Nat.reduceSub, Nat.reduceMul, Nat.reduceEqDiff, Nat.reduceLeDiff, Nat.reduceLT, if_true, if_false, Nat.le_refl, and_true, true_and, and_self, reduceCtorEq, or_false, false_or, or_true, true_or, Nat.zero_le, fa_lit, nI_add, w_mul, nI_ltI, nI_leI, nI_eq, nI_clamp, nI_toInt, if_pos, if_neg, w_div, w_rem2, x_k_I, x_l_I, x_r_I, x_j_I, x_n_I, x_z_I, x_i_Is, x_k_W, x_l_W, x_r_W, x_j_W, x_n_W, x_z_W, x_k_J, x_l_J, x_r_J, x_i_J, x_n_J, x_z_J, x_k_R, x_l_R, x_j_R, x_i_R, x_n_R, x_z_R, x_n_N, x_z_N, x_k_N, x_l_N, x_i_N, x_j_N, x_r_N, e, nf, m1, m2, m3, m4, m5, h0, h1, h2, h3, h4, h5, g1, g2, g3, g4, g5, k1, k2, k3, k4, k5, k6, x_n_n0, x_n_n1, x_n_n2, x_n_n3, x_n_n4]
theorem w_nS_A : w_A (w_nS S) (am_n S) :=
  ⟨by simp (disch := omega) only [x_k_nS, x_k_n5, x_k_n4, x_k_n3, x_k_n2, x_k_n1, x_k_n0, if_neg, ↓reduceIte],
  by simp (disch := omega) only [x_k_nS, x_k_n5, x_k_n4, x_k_n3, x_k_n2, x_k_n1, x_k_n0, if_neg, ↓reduceIte],
  by simp (disch := omega) only [x_l_nS, x_l_n5, x_l_n4, x_l_n3, x_l_n2, x_l_n1, x_l_n0, if_neg, ↓reduceIte],
  by simp (disch := omega) only [x_k_nS, x_k_n5, x_k_n4, x_k_n3, x_k_n2, x_k_n1, x_k_n0, if_neg, ↓reduceIte],
  by simp (disch := omega) only [x_k_nS, x_k_n5, x_k_n4, x_k_n3, x_k_n2, x_k_n1, x_k_n0, if_neg, ↓reduceIte],
  by simp (disch := omega) only [x_l_nS, x_l_n5, x_l_n4, x_l_n3, x_l_n2, x_l_n1, x_l_n0, if_neg, ↓reduceIte],
  by simp (disch := omega) only [x_r_nS, x_r_n5, x_r_n4, x_r_n3, x_r_n2, x_r_n1, x_r_n0, if_neg, ↓reduceIte, Nat.reduceEqDiff, reduceCtorEq],
  by rw [x_i_nSn (by omega)]; simp (disch := omega) only [x_i_n5, x_i_n4, x_i_n3, x_i_n2, x_i_n1, x_i_n0, if_neg, ↓reduceIte, Nat.reduceEqDiff, reduceCtorEq],
  by rw [x_i_nSn (by omega)]; simp (disch := omega) only [x_i_n5, x_i_n4, x_i_n3, x_i_n2, x_i_n1, x_i_n0, if_neg, ↓reduceIte, Nat.reduceEqDiff, reduceCtorEq],
  by simp (disch := omega) only [x_k_nS, x_k_n5, x_k_n4, x_k_n3, x_k_n2, x_k_n1, x_k_n0, if_neg, ↓reduceIte],
  by simp (disch := omega) only [x_k_nS, x_k_n5, x_k_n4, x_k_n3, x_k_n2, x_k_n1, x_k_n0, if_neg, ↓reduceIte],
  by simp (disch := omega) only [x_l_nS, x_l_n5, x_l_n4, x_l_n3, x_l_n2, x_l_n1, x_l_n0, if_neg, ↓reduceIte],
  by simp (disch := omega) only [x_r_nS, x_r_n5, x_r_n4, x_r_n3, x_r_n2, x_r_n1, x_r_n0, if_neg, ↓reduceIte, Nat.reduceEqDiff, reduceCtorEq],
  by rw [x_i_nSn (by omega)]; simp (disch := omega) only [x_i_n5, x_i_n4, x_i_n3, x_i_n2, x_i_n1, x_i_n0, if_neg, ↓reduceIte, Nat.reduceEqDiff, reduceCtorEq],
  by rw [x_i_nSn (by omega)]; simp (disch := omega) only [x_i_n5, x_i_n4, x_i_n3, x_i_n2, x_i_n1, x_i_n0, if_neg, ↓reduceIte, Nat.reduceEqDiff, reduceCtorEq],
  by simp (disch := omega) only [x_k_nS, x_k_n5, x_k_n4, x_k_n3, x_k_n2, x_k_n1, x_k_n0, if_neg, ↓reduceIte],
  by simp (disch := omega) only [x_k_nS, x_k_n5, x_k_n4, x_k_n3, x_k_n2, x_k_n1, x_k_n0, if_neg, ↓reduceIte],
  by simp (disch := omega) only [x_l_nS, x_l_n5, x_l_n4, x_l_n3, x_l_n2, x_l_n1, x_l_n0, if_neg, ↓reduceIte],
  by simp (disch := omega) only [x_r_nS, x_r_n5, x_r_n4, x_r_n3, x_r_n2, x_r_n1, x_r_n0, if_neg, ↓reduceIte, Nat.reduceEqDiff, reduceCtorEq],
  by rw [x_i_nSn (by omega)]; simp (disch := omega) only [x_i_n5, x_i_n4, x_i_n3, x_i_n2, x_i_n1, x_i_n0, if_neg, ↓reduceIte, Nat.reduceEqDiff, reduceCtorEq],
  by rw [x_i_nSn (by omega)]; simp (disch := omega) only [x_i_n5, x_i_n4, x_i_n3, x_i_n2, x_i_n1, x_i_n0, if_neg, ↓reduceIte, Nat.reduceEqDiff, reduceCtorEq],
  by simp (disch := omega) only [x_k_nS, x_k_n5, x_k_n4, x_k_n3, x_k_n2, x_k_n1, x_k_n0, if_neg, ↓reduceIte],
  by simp (disch := omega) only [x_k_nS, x_k_n5, x_k_n4, x_k_n3, x_k_n2, x_k_n1, x_k_n0, if_neg, ↓reduceIte],
  by simp (disch := omega) only [x_l_nS, x_l_n5, x_l_n4, x_l_n3, x_l_n2, x_l_n1, x_l_n0, if_neg, ↓reduceIte],
  by simp (disch := omega) only [x_r_nS, x_r_n5, x_r_n4, x_r_n3, x_r_n2, x_r_n1, x_r_n0, if_neg, ↓reduceIte, Nat.reduceEqDiff, reduceCtorEq],
  by rw [x_i_nSn (by omega)]; simp (disch := omega) only [x_i_n5, x_i_n4, x_i_n3, x_i_n2, x_i_n1, x_i_n0, if_neg, ↓reduceIte, Nat.reduceEqDiff, reduceCtorEq],
  by rw [x_i_nSn (by omega)]; simp (disch := omega) only [x_i_n5, x_i_n4, x_i_n3, x_i_n2, x_i_n1, x_i_n0, if_neg, ↓reduceIte, Nat.reduceEqDiff, reduceCtorEq],
  by simp (disch := omega) only [x_k_nS, x_k_n5, x_k_n4, x_k_n3, x_k_n2, x_k_n1, x_k_n0, if_neg, ↓reduceIte],
  by simp (disch := omega) only [x_k_nS, x_k_n5, x_k_n4, x_k_n3, x_k_n2, x_k_n1, x_k_n0, if_neg, ↓reduceIte],
  by simp (disch := omega) only [x_l_nS, x_l_n5, x_l_n4, x_l_n3, x_l_n2, x_l_n1, x_l_n0, if_neg, ↓reduceIte],
  by simp (disch := omega) only [x_r_nS, x_r_n5, x_r_n4, x_r_n3, x_r_n2, x_r_n1, x_r_n0, if_neg, ↓reduceIte, Nat.reduceEqDiff, reduceCtorEq],
  by rw [x_i_nSn (by omega)]; simp (disch := omega) only [x_i_n5, x_i_n4, x_i_n3, x_i_n2, x_i_n1, x_i_n0, if_neg, ↓reduceIte, Nat.reduceEqDiff, reduceCtorEq],
  by rw [x_i_nSn (by omega)]; simp (disch := omega) only [x_i_n5, x_i_n4, x_i_n3, x_i_n2, x_i_n1, x_i_n0, if_neg, ↓reduceIte, Nat.reduceEqDiff, reduceCtorEq],
  by simp (disch := omega) only [x_r_nS, x_r_n5, x_r_n4, x_r_n3, x_r_n2, x_r_n1, x_r_n0, if_neg, ↓reduceIte, Nat.reduceEqDiff, reduceCtorEq],
  by simp (disch := omega) only [x_r_nS, x_r_n5, x_r_n4, x_r_n3, x_r_n2, x_r_n1, x_r_n0, if_neg, ↓reduceIte, Nat.reduceEqDiff, reduceCtorEq],
  by simp (disch := omega) only [x_r_nS, x_r_n5, x_r_n4, x_r_n3, x_r_n2, x_r_n1, x_r_n0, if_neg, ↓reduceIte, Nat.reduceEqDiff, reduceCtorEq],
  by simp (disch := omega) only [x_r_nS, x_r_n5, x_r_n4, x_r_n3, x_r_n2, x_r_n1, x_r_n0, if_neg, ↓reduceIte, Nat.reduceEqDiff, reduceCtorEq],
  by simp (disch := omega) only [x_r_nS, x_r_n5, x_r_n4, x_r_n3, x_r_n2, x_r_n1, x_r_n0, if_neg, ↓reduceIte, Nat.reduceEqDiff, reduceCtorEq],
  by simp (disch := omega) only [x_r_nS, x_r_n5, x_r_n4, x_r_n3, x_r_n2, x_r_n1, x_r_n0, if_neg, ↓reduceIte, Nat.reduceEqDiff, reduceCtorEq]⟩
theorem w_nS_R : w_R (w_nS S) (am_n S) s_R0 := by
  have e0 : ∀ j, j ≠ 0 → j ≠ 1 → j ≠ 9 → s_R0 j = nI 0 := fun j h1 h2 h3 => by
    unfold s_R0
    rw [if_neg h1, if_neg h2, if_neg h3]
  have n0 : ∀ j, j ≠ 0 → j ≠ 1 → j ≠ 9 → s_n (s_R0 j) = 0 := fun j h1 h2 h3 => by rw [e0 j h1 h2 h3]; rfl
  have ib : ∀ f, am_i (w_nS S) (am_n S) f = if f = 5 then nI 30 else if f = 1 then nI 3 else if f = 0 then nI 3 else nI 0 := fun f => by
    unfold w_nS
    rw [x_i_I, if_pos rfl, x_i_I, if_pos rfl, x_i_I, if_pos rfl]
    simp (disch := omega) only [x_i_n5, x_i_n4, x_i_n3, x_i_n2, x_i_n1, x_i_n0, if_neg, ↓reduceIte]
    rfl
  have z2 := n0 2 (by omega) (by omega) (by omega)
  have z3 := n0 3 (by omega) (by omega) (by omega)
  have z4 := n0 4 (by omega) (by omega) (by omega)
  have z7 := n0 7 (by omega) (by omega) (by omega)
  have z8 := n0 8 (by omega) (by omega) (by omega)
  refine ⟨⟨by rw [ib]; rfl, by rw [ib]; rfl, by rw [ib]; rfl, by rw [ib]; rfl, by rw [ib]; rfl, by rw [ib]; rfl, by rw [ib]; rfl⟩, ⟨?_, ?_, ?_, ?_, ?_⟩, fun c hc => ?_, fun u f hu => by omega, fun u f hu => by omega, fun u hu => by omega, fun u f hu => by omega, fun u f hu => by omega, fun u f hu => by omega⟩
  · rw [x_i_nSn (by omega), e0 2 (by omega) (by omega) (by omega)]
    simp (disch := omega) only [x_i_n5, x_i_n4, x_i_n3, x_i_n2, x_i_n1, if_neg, ↓reduceIte]
    rfl
  · rw [x_i_nSn (by omega), e0 3 (by omega) (by omega) (by omega)]
    simp (disch := omega) only [x_i_n5, x_i_n4, x_i_n3, x_i_n2, x_i_n1, if_neg, ↓reduceIte]
    rfl
  · rw [x_i_nSn (by omega), e0 8 (by omega) (by omega) (by omega)]
    simp (disch := omega) only [x_i_n5, x_i_n4, x_i_n3, x_i_n2, x_i_n1, if_neg, ↓reduceIte]
    rfl
  · rw [x_i_nSn (by omega), e0 4 (by omega) (by omega) (by omega)]
    simp (disch := omega) only [x_i_n5, x_i_n4, x_i_n3, x_i_n2, x_i_n1, if_neg, ↓reduceIte]
    rfl
  · rw [x_i_nSn (by omega), e0 7 (by omega) (by omega) (by omega)]
    simp (disch := omega) only [x_i_n5, x_i_n4, x_i_n3, x_i_n2, x_i_n1, if_neg, ↓reduceIte]
    rfl
  · rw [x_i_nSn (by omega), e0 _ (by omega) (by omega) (by omega)]
    simp (disch := omega) only [x_i_n5, x_i_n4, x_i_n3, x_i_n2, x_i_n1, x_i_n0, if_neg, ↓reduceIte]
    rfl
end N1
