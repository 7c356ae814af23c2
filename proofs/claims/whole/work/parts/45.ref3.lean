/-! THE REFERENCE: the search runs as the pure one -/
/-- only ints of the cells P may differ -/
def w_I (P : Nat → Prop) (S S' : am_S) : Prop := am_n S' = am_n S ∧ am_z S' = am_z S ∧ am_k S' = am_k S ∧ am_l S' = am_l S ∧ am_j S' = am_j S ∧ am_r S' = am_r S ∧ ∀ b, ¬ P b → am_i S' b = am_i S b
theorem w_I.rf {P : Nat → Prop} {S : am_S} : w_I P S S := ⟨rfl, rfl, rfl, rfl, rfl, rfl, fun _ _ => rfl⟩
theorem w_I.tr {P : Nat → Prop} {S T U : am_S} (h : w_I P S T) (k : w_I P T U) : w_I P S U := ⟨k.1.trans h.1, k.2.1.trans h.2.1, k.2.2.1.trans h.2.2.1, k.2.2.2.1.trans h.2.2.2.1, k.2.2.2.2.1.trans h.2.2.2.2.1, k.2.2.2.2.2.1.trans h.2.2.2.2.2.1, fun b hb => (k.2.2.2.2.2.2 b hb).trans (h.2.2.2.2.2.2 b hb)⟩
theorem w_I.mono {P Q : Nat → Prop} {S T : am_S} (h : w_I P S T) (hq : ∀ b, P b → Q b) : w_I Q S T := ⟨h.1, h.2.1, h.2.2.1, h.2.2.2.1, h.2.2.2.2.1, h.2.2.2.2.2.1, fun b hb => h.2.2.2.2.2.2 b (fun q => hb (hq b q))⟩
theorem w_I.put {P : Nat → Prop} {S : am_S} {a j : Nat} {v : Int32} (h : P a) : w_I P S (am_putI S a j v) := ⟨rfl, rfl, rfl, rfl, rfl, rfl, fun b hb => va_up_ne _ _ (fun e => hb (e ▸ h))⟩
theorem w_I.Z {P : Nat → Prop} {S T : am_S} (h : w_I P S T) (z : w_Z S) : w_Z T := by
  unfold w_Z
  rw [h.2.2.1, h.2.2.2.1, h.2.2.2.2.2.1]
  exact z
theorem w_I.i {P : Nat → Prop} {S T : am_S} (h : w_I P S T) {b : Nat} (hb : ¬ P b) : am_i T b = am_i S b := h.2.2.2.2.2.2 b hb
/-- the rows of the search in S are those of q -/
def w_q (S : am_S) (q : s_Q) : Prop := (∀ k, k < 144 → am_i S 144 k = q.1 k) ∧ ∀ k, k < q.2.2 → am_i S 145 k = q.2.1 k
abbrev w_P2 (b : Nat) : Prop := b = 144 ∨ b = 145
section Z4
variable {S : am_S} {x y z X Y bx bz : Int32} {i j o u n w hh c d b m t : Nat} {r : am_K} {q : s_Q}
theorem z_spA (h : w_Z S) (hd : d < 4) (hc : c < 144) (e1 : fX11_beside w_N [.int (nI d), .int (nI 1)] S = some (.inl (some (.int bx)), S)) (e2 : fX11_beside w_N [.int (nI d), .int (nI 0)] S = some (.inl (some (.int bz)), S)) (ex : nI (c % 12) + bx = X) (ey : nI (c / 12) + bz = Y)
    (hf : fX11_isFree w_N [.ref 138, .int X, .int Y] S = some (.inl (some (.int 0)), S)) : bX11_spread_5 w_N r [(0, .ref 138), (1, .int (nI c)), (3, .int (nI m)), (4, .int (nI d))] [] S = r [(0, .ref 138), (1, .int (nI c)), (3, .int (nI m)), (4, .int (nI (d + 1)))] [] S := by
  simp (disch := omega) only [bX11_spread_5, kX11_spread_105, x_cs0, x_csi, x_csr, x_csn, x_csl, x_ret_v, x_ret_t, x_ret_n, x_tl_s, x_tl_n, x_lk0, x_lk, x_rem0, x_rem_i, x_rem_r, x_rem_l, x_rem2_0, x_rem2_i, x_rem2_r, x_rem2_l, x_pick0, x_pick_c, x_st1, x_st2, x_live, x_i, x_l, x_a, x_ild, x_lld, x_rld, x_ist, x_lst, x_rst, x_inc, x_ii, x_ll, x_li, x_cmp, x_ui, x_il, x_lti, x_idiv, x_irem, x_dup_i, x_dup_r, x_pop_i, x_pop_r, x_dupx_ir, x_dup2_ir, x_ifeq, x_iceq, x_iflt, x_iclt, x_ifge, x_icge, x_ifgt, x_icgt, x_ifle, x_icle, x_ifne, x_icne, x_ifnull_r, x_ifnull_n, x_ifnonnull_r, x_ifnonnull_n, x_sw, x_vret, x_iret, x_lret, x_zret, x_zret0, x_zret1, x_rf_s, x_rf_n, x_geti, x_getr, x_puti, x_putz, x_putr, x_ial, x_ias, x_lal, x_las, x_aal, x_aas, x_aast, x_alen, x_new, x_newa, x_copy, x_min, x_abs, x_minl, x_oinit, x_throw, x_callS0, x_callS1, x_callS2, x_callS3, x_callS4, x_callV0, x_callV1, x_callV2, x_callV3, x_callV4, x_callV5, x_retI_v, x_callI0, x_callI1, x_callI2, x_retN_v, x_callSN1, x_callSN2, x_callT0, x_callT1, x_fn, x_sl0, x_sli, x_slr, x_sll, x_ar0, x_ari, x_arr, x_arl, ↓reduceIte, Nat.reduceAdd, Nat.reduceSub, Nat.reduceMul, Nat.reduceEqDiff, Nat.reduceLeDiff, Nat.reduceLT, if_true, if_false, Nat.le_refl, and_true, true_and, and_self, reduceCtorEq, or_false, false_or, or_true, true_or, Nat.zero_le, fa_lit, nI_add, w_mul, nI_ltI, nI_leI, nI_eq, nI_clamp, nI_toInt, if_pos, if_neg, w_div, w_rem2, zk138 h, zk139 h, zk140 h, zk141 h, zk142 h, zk143 h, zk144 h, zk145 h, zk146 h, zk147 h, zk148 h, zk149 h, zk150 h, zk151 h, zl139 h, zl140 h, zl141 h, zl142 h, zl143 h, zl144 h, zl145 h, zl146 h, zl147 h, zl148 h, zl149 h, zl150 h, zl151 h, zr138_0 h, zr138_1 h, zr138_2 h, zr138_3 h, zr138_4 h, zr138_8 h, zr138_9 h, zr138_10 h, zr138_12 h, zr138_24 h, zr138_25 h, zr138_26 h, zr148_0 h, zr148_1 h, zr148_2 h, zr148_3 h, zr148_4 h, zr148_5 h, zr148_6 h, zr148_7 h, zr148_8 h, e1, e2, ex, ey, hf]
theorem z_spB (h : w_Z S) (hd : d < 4) (hc : c < 144) (e1 : fX11_beside w_N [.int (nI d), .int (nI 1)] S = some (.inl (some (.int bx)), S)) (e2 : fX11_beside w_N [.int (nI d), .int (nI 0)] S = some (.inl (some (.int bz)), S)) (ex : nI (c % 12) + bx = nI i) (ey : nI (c / 12) + bz = nI j) (hi : i < 12) (hj : j < 12)
    (hf : fX11_isFree w_N [.ref 138, .int (nI i), .int (nI j)] S = some (.inl (some (.int 1)), S)) (hn : am_i S 144 (12 * j + i) ≠ nI 1000) : bX11_spread_5 w_N r [(0, .ref 138), (1, .int (nI c)), (3, .int (nI m)), (4, .int (nI d))] [] S = r [(0, .ref 138), (1, .int (nI c)), (3, .int (nI m)), (4, .int (nI (d + 1)))] [] S := by
  simp (disch := omega) only [bX11_spread_5, kX11_spread_105, x_cs0, x_csi, x_csr, x_csn, x_csl, x_ret_v, x_ret_t, x_ret_n, x_tl_s, x_tl_n, x_lk0, x_lk, x_rem0, x_rem_i, x_rem_r, x_rem_l, x_rem2_0, x_rem2_i, x_rem2_r, x_rem2_l, x_pick0, x_pick_c, x_st1, x_st2, x_live, x_i, x_l, x_a, x_ild, x_lld, x_rld, x_ist, x_lst, x_rst, x_inc, x_ii, x_ll, x_li, x_cmp, x_ui, x_il, x_lti, x_idiv, x_irem, x_dup_i, x_dup_r, x_pop_i, x_pop_r, x_dupx_ir, x_dup2_ir, x_ifeq, x_iceq, x_iflt, x_iclt, x_ifge, x_icge, x_ifgt, x_icgt, x_ifle, x_icle, x_ifne, x_icne, x_ifnull_r, x_ifnull_n, x_ifnonnull_r, x_ifnonnull_n, x_sw, x_vret, x_iret, x_lret, x_zret, x_zret0, x_zret1, x_rf_s, x_rf_n, x_geti, x_getr, x_puti, x_putz, x_putr, x_ial, x_ias, x_lal, x_las, x_aal, x_aas, x_aast, x_alen, x_new, x_newa, x_copy, x_min, x_abs, x_minl, x_oinit, x_throw, x_callS0, x_callS1, x_callS2, x_callS3, x_callS4, x_callV0, x_callV1, x_callV2, x_callV3, x_callV4, x_callV5, x_retI_v, x_callI0, x_callI1, x_callI2, x_retN_v, x_callSN1, x_callSN2, x_callT0, x_callT1, x_fn, x_sl0, x_sli, x_slr, x_sll, x_ar0, x_ari, x_arr, x_arl, ↓reduceIte, Nat.reduceAdd, Nat.reduceSub, Nat.reduceMul, Nat.reduceEqDiff, Nat.reduceLeDiff, Nat.reduceLT, if_true, if_false, Nat.le_refl, and_true, true_and, and_self, reduceCtorEq, or_false, false_or, or_true, true_or, Nat.zero_le, fa_lit, nI_add, w_mul, nI_ltI, nI_leI, nI_eq, nI_clamp, nI_toInt, if_pos, if_neg, w_div, w_rem2, zk138 h, zk139 h, zk140 h, zk141 h, zk142 h, zk143 h, zk144 h, zk145 h, zk146 h, zk147 h, zk148 h, zk149 h, zk150 h, zk151 h, zl139 h, zl140 h, zl141 h, zl142 h, zl143 h, zl144 h, zl145 h, zl146 h, zl147 h, zl148 h, zl149 h, zl150 h, zl151 h, zr138_0 h, zr138_1 h, zr138_2 h, zr138_3 h, zr138_4 h, zr138_8 h, zr138_9 h, zr138_10 h, zr138_12 h, zr138_24 h, zr138_25 h, zr138_26 h, zr148_0 h, zr148_1 h, zr148_2 h, zr148_3 h, zr148_4 h, zr148_5 h, zr148_6 h, zr148_7 h, zr148_8 h, e1, e2, ex, ey, hf, hn]
theorem z_spC (h : w_Z S) (hd : d < 4) (hc : c < 144) (e1 : fX11_beside w_N [.int (nI d), .int (nI 1)] S = some (.inl (some (.int bx)), S)) (e2 : fX11_beside w_N [.int (nI d), .int (nI 0)] S = some (.inl (some (.int bz)), S)) (ex : nI (c % 12) + bx = nI i) (ey : nI (c / 12) + bz = nI j) (hi : i < 12) (hj : j < 12) (hm : m < 144)
    (hf : fX11_isFree w_N [.ref 138, .int (nI i), .int (nI j)] S = some (.inl (some (.int 1)), S)) (hn : am_i S 144 (12 * j + i) = nI 1000) : bX11_spread_5 w_N r [(0, .ref 138), (1, .int (nI c)), (3, .int (nI m)), (4, .int (nI d))] [] S = r [(0, .ref 138), (1, .int (nI c)), (3, .int (nI (m + 1))), (4, .int (nI (d + 1)))] [] (am_putI (am_putI S 144 (12 * j + i) (am_i S 144 c + nI 1)) 145 m (nI (12 * j + i))) := by
  simp (disch := omega) only [bX11_spread_5, kX11_spread_105, x_cs0, x_csi, x_csr, x_csn, x_csl, x_ret_v, x_ret_t, x_ret_n, x_tl_s, x_tl_n, x_lk0, x_lk, x_rem0, x_rem_i, x_rem_r, x_rem_l, x_rem2_0, x_rem2_i, x_rem2_r, x_rem2_l, x_pick0, x_pick_c, x_st1, x_st2, x_live, x_i, x_l, x_a, x_ild, x_lld, x_rld, x_ist, x_lst, x_rst, x_inc, x_ii, x_ll, x_li, x_cmp, x_ui, x_il, x_lti, x_idiv, x_irem, x_dup_i, x_dup_r, x_pop_i, x_pop_r, x_dupx_ir, x_dup2_ir, x_ifeq, x_iceq, x_iflt, x_iclt, x_ifge, x_icge, x_ifgt, x_icgt, x_ifle, x_icle, x_ifne, x_icne, x_ifnull_r, x_ifnull_n, x_ifnonnull_r, x_ifnonnull_n, x_sw, x_vret, x_iret, x_lret, x_zret, x_zret0, x_zret1, x_rf_s, x_rf_n, x_geti, x_getr, x_puti, x_putz, x_putr, x_ial, x_ias, x_lal, x_las, x_aal, x_aas, x_aast, x_alen, x_new, x_newa, x_copy, x_min, x_abs, x_minl, x_oinit, x_throw, x_callS0, x_callS1, x_callS2, x_callS3, x_callS4, x_callV0, x_callV1, x_callV2, x_callV3, x_callV4, x_callV5, x_retI_v, x_callI0, x_callI1, x_callI2, x_retN_v, x_callSN1, x_callSN2, x_callT0, x_callT1, x_fn, x_sl0, x_sli, x_slr, x_sll, x_ar0, x_ari, x_arr, x_arl, ↓reduceIte, Nat.reduceAdd, Nat.reduceSub, Nat.reduceMul, Nat.reduceEqDiff, Nat.reduceLeDiff, Nat.reduceLT, if_true, if_false, Nat.le_refl, and_true, true_and, and_self, reduceCtorEq, or_false, false_or, or_true, true_or, Nat.zero_le, fa_lit, nI_add, w_mul, nI_ltI, nI_leI, nI_eq, nI_clamp, nI_toInt, if_pos, if_neg, w_div, w_rem2, zk138 h, zk139 h, zk140 h, zk141 h, zk142 h, zk143 h, zk144 h, zk145 h, zk146 h, zk147 h, zk148 h, zk149 h, zk150 h, zk151 h, zl139 h, zl140 h, zl141 h, zl142 h, zl143 h, zl144 h, zl145 h, zl146 h, zl147 h, zl148 h, zl149 h, zl150 h, zl151 h, zr138_0 h, zr138_1 h, zr138_2 h, zr138_3 h, zr138_4 h, zr138_8 h, zr138_9 h, zr138_10 h, zr138_12 h, zr138_24 h, zr138_25 h, zr138_26 h, zr148_0 h, zr148_1 h, zr148_2 h, zr148_3 h, zr148_4 h, zr148_5 h, zr148_6 h, zr148_7 h, zr148_8 h, x_k_I, x_l_I, x_r_I, x_j_I, x_n_I, x_z_I, x_i_Is, x_k_W, x_l_W, x_r_W, x_j_W, x_n_W, x_z_W, x_k_J, x_l_J, x_r_J, x_i_J, x_n_J, x_z_J, x_k_R, x_l_R, x_j_R, x_i_R, x_n_R, x_z_R, x_n_N, x_z_N, x_k_N, x_l_N, x_i_N, x_j_N, x_r_N, e1, e2, ex, ey, hf, hn]
end Z4
theorem w_pm1' {n : Nat} (h : 0 < n) : nI n + (-1) = nI (n - 1) := by
  have := w_pm1 h
  exact this
theorem w_0m1' : nI 0 + (-1) = (-1 : Int32) := by decide
theorem w_p0 (n : Nat) : nI n + 0 = nI n := Int32.add_zero _
theorem w_p1 (n : Nat) : nI n + 1 = nI (n + 1) := nI_1 n
theorem w_snI {n : Nat} (h : n < 2 ^ 31) : s_n (nI n) = n := nI_clamp h
section Z5
variable {S : am_S} {x y z X Y bx bz : Int32} {i j o u n w hh c d b m t : Nat} {r : am_K} {q : s_Q}
/-- beside in the board -/
theorem z_sp_in (h : w_Z S) (H : w_WH (am_i S 139) w hh) (hd : d < 4) (hc : c < 144) (hq : w_q S q) (hJ : (s_sp1 (am_i S 139) c d q).2.2 ≤ 144)
    (e1 : fX11_beside w_N [.int (nI d), .int (nI 1)] S = some (.inl (some (.int bx)), S)) (e2 : fX11_beside w_N [.int (nI d), .int (nI 0)] S = some (.inl (some (.int bz)), S)) (ex : nI (c % 12) + bx = nI i) (ey : nI (c / 12) + bz = nI j) (hi : i < w) (hj : j < hh)
    (hnb : s_nb (am_i S 139) c d = if am_i S 139 (784 + (12 * j + i)) = 0 then some (12 * j + i) else none) :
    ∃ S', bX11_spread_5 w_N r [(0, .ref 138), (1, .int (nI c)), (3, .int (nI q.2.2)), (4, .int (nI d))] [] S = r [(0, .ref 138), (1, .int (nI c)), (3, .int (nI (s_sp1 (am_i S 139) c d q).2.2)), (4, .int (nI (d + 1)))] [] S' ∧ w_q S' (s_sp1 (am_i S 139) c d q) ∧ w_I w_P2 S S' := by
  have a1 := H.2.2.1.2
  have a2 := H.2.2.2.2
  have hf := z_isFree (S := S) h H hi hj
  rw [show 784 + 12 * j + i = 784 + (12 * j + i) by omega] at hf
  by_cases hz : am_i S 139 (784 + (12 * j + i)) = 0
  · rw [if_pos hz] at hnb
    rw [w_bt hz] at hf
    by_cases hn : am_i S 144 (12 * j + i) = nI 1000
    · have hn2 : q.1 (12 * j + i) = 1000 := by rw [← hq.1 _ (by omega)]; exact hn
      have es : s_sp1 (am_i S 139) c d q = (va_up q.1 (12 * j + i) (q.1 c + 1), va_up q.2.1 q.2.2 (nI (12 * j + i)), q.2.2 + 1) := by
        unfold s_sp1
        rw [hnb]
        exact if_pos hn2
      rw [es] at hJ ⊢
      refine ⟨_, z_spC h hd hc e1 e2 ex ey (by omega) (by omega) (by have : q.2.2 + 1 ≤ 144 := hJ; omega) hf hn, ⟨fun k hk => ?_, fun k hk => ?_⟩, (w_I.put (Or.inl rfl)).tr (w_I.put (Or.inr rfl))⟩
      · dsimp only
        rw [x_i_I, if_neg (by omega), x_i_I, if_pos rfl, s_up]
        by_cases e : k = 12 * j + i
        · rw [if_pos e, if_pos e, hq.1 c hc]
          rfl
        · rw [if_neg e, if_neg e, hq.1 k hk]
      · have hk' : k < q.2.2 + 1 := hk
        dsimp only
        rw [x_i_I, if_pos rfl, s_up]
        by_cases e : k = q.2.2
        · rw [if_pos e, if_pos e]
        · rw [if_neg e, if_neg e, x_i_I, if_neg (by omega)]
          exact hq.2 k (by omega)
    · have hn2 : ¬ q.1 (12 * j + i) = 1000 := by rw [← hq.1 _ (by omega)]; exact hn
      have es : s_sp1 (am_i S 139) c d q = q := by
        unfold s_sp1
        rw [hnb]
        exact if_neg hn2
      rw [es]
      exact ⟨S, z_spB h hd hc e1 e2 ex ey (by omega) (by omega) hf hn, hq, w_I.rf⟩
  · rw [if_neg hz] at hnb
    rw [w_bf hz] at hf
    have es : s_sp1 (am_i S 139) c d q = q := by
      unfold s_sp1
      rw [hnb]
    rw [es]
    exact ⟨S, z_spA h hd hc e1 e2 ex ey hf, hq, w_I.rf⟩
theorem z_sp_out (h : w_Z S) (H : w_WH (am_i S 139) w hh) (hd : d < 4) (hc : c < 144) (hq : w_q S q)
    (e1 : fX11_beside w_N [.int (nI d), .int (nI 1)] S = some (.inl (some (.int bx)), S)) (e2 : fX11_beside w_N [.int (nI d), .int (nI 0)] S = some (.inl (some (.int bz)), S)) (ex : nI (c % 12) + bx = X) (ey : nI (c / 12) + bz = Y) (hn : ¬ (0 ≤ X.toInt ∧ X.toInt < w ∧ 0 ≤ Y.toInt ∧ Y.toInt < hh))
    (hnb : s_nb (am_i S 139) c d = none) :
    ∃ S', bX11_spread_5 w_N r [(0, .ref 138), (1, .int (nI c)), (3, .int (nI q.2.2)), (4, .int (nI d))] [] S = r [(0, .ref 138), (1, .int (nI c)), (3, .int (nI (s_sp1 (am_i S 139) c d q).2.2)), (4, .int (nI (d + 1)))] [] S' ∧ w_q S' (s_sp1 (am_i S 139) c d q) ∧ w_I w_P2 S S' := by
  have es : s_sp1 (am_i S 139) c d q = q := by
    unfold s_sp1
    rw [hnb]
  rw [es]
  exact ⟨S, z_spA h hd hc e1 e2 ex ey (z_isFree_no h H hn), hq, w_I.rf⟩
/-- a cell's neighbour in a direction, as the program reckons it -/
theorem z_besid {R : Nat → Int32} (H : w_WH R w hh) (hd : d < 4) (hc : s_ok R c) : ∃ bx bz : Int32, (∀ S, fX11_beside w_N [.int (nI d), .int (nI 1)] S = some (.inl (some (.int bx)), S)) ∧ (∀ S, fX11_beside w_N [.int (nI d), .int (nI 0)] S = some (.inl (some (.int bz)), S)) ∧
    ((¬ (0 ≤ (nI (c % 12) + bx).toInt ∧ (nI (c % 12) + bx).toInt < w ∧ 0 ≤ (nI (c / 12) + bz).toInt ∧ (nI (c / 12) + bz).toInt < hh) ∧ s_nb R c d = none) ∨
     ∃ i j, nI (c % 12) + bx = nI i ∧ nI (c / 12) + bz = nI j ∧ i < w ∧ j < hh ∧ s_nb R c d = if R (784 + (12 * j + i)) = 0 then some (12 * j + i) else none) := by
  have a1 := H.2.2.1.2
  have a2 := H.2.2.2.2
  have ew : s_w R = w := by
    show s_n (R 0) = w
    rw [H.1, w_snI (by omega)]
  have eh : s_h R = hh := by
    show s_n (R 1) = hh
    rw [H.2.1, w_snI (by omega)]
  obtain ⟨hc1, hc2⟩ := hc
  rw [ew] at hc1
  rw [eh] at hc2
  have hc3 : c < 144 := by omega
  have tm1 : (-1 : Int32).toInt = -1 := by decide
  rcases (show d = 0 ∨ d = 1 ∨ d = 2 ∨ d = 3 by omega) with rfl | rfl | rfl | rfl
  · refine ⟨0, -1, fun S => z_bs.1, fun S => z_bs.2.2.2.2.1, ?_⟩
    by_cases hy : c / 12 = 0
    · refine Or.inl ⟨?_, ?_⟩
      · rw [hy, w_0m1', tm1]
        omega
      · unfold s_nb
        rw [if_pos rfl, if_neg (by omega)]
    · refine Or.inr ⟨c % 12, c / 12 - 1, w_p0 _, w_pm1' (by omega), hc1, by omega, ?_⟩
      have e : 12 * (c / 12 - 1) + c % 12 = c - 12 := by omega
      rw [e]
      unfold s_nb s_fr s_ok
      rw [if_pos rfl, ew, eh]
      by_cases hz : R (784 + (c - 12)) = 0
      · rw [if_pos hz, if_pos ⟨by omega, ⟨by omega, by omega⟩, hz⟩]
      · rw [if_neg hz, if_neg (fun q => hz q.2.2)]
  · refine ⟨1, 0, fun S => z_bs.2.1, fun S => z_bs.2.2.2.2.2.1, ?_⟩
    by_cases hy : c % 12 + 1 < w
    · refine Or.inr ⟨c % 12 + 1, c / 12, w_p1 _, w_p0 _, hy, hc2, ?_⟩
      have e : 12 * (c / 12) + (c % 12 + 1) = c + 1 := by omega
      rw [e]
      unfold s_nb s_fr s_ok
      rw [if_neg (by omega), if_pos rfl, ew, eh]
      by_cases hz : R (784 + (c + 1)) = 0
      · rw [if_pos hz, if_pos ⟨by omega, ⟨by omega, by omega⟩, hz⟩]
      · rw [if_neg hz, if_neg (fun q => hz q.2.2)]
    · refine Or.inl ⟨?_, ?_⟩
      · rw [w_p1, nI_toInt (n := c % 12 + 1) (by omega)]
        omega
      · unfold s_nb
        rw [if_neg (by omega), if_pos rfl, if_neg (fun q => hy (by rw [← ew]; exact q.1))]
  · refine ⟨0, 1, fun S => z_bs.2.2.1, fun S => z_bs.2.2.2.2.2.2.1, ?_⟩
    by_cases hy : c / 12 + 1 < hh
    · refine Or.inr ⟨c % 12, c / 12 + 1, w_p0 _, w_p1 _, hc1, hy, ?_⟩
      have e : 12 * (c / 12 + 1) + c % 12 = c + 12 := by omega
      rw [e]
      unfold s_nb s_fr s_ok
      rw [if_neg (by omega), if_neg (by omega), if_pos rfl, ew, eh]
      by_cases hz : R (784 + (c + 12)) = 0
      · rw [if_pos hz, if_pos ⟨⟨by omega, by omega⟩, hz⟩]
      · rw [if_neg hz, if_neg (fun q => hz q.2)]
    · refine Or.inl ⟨?_, ?_⟩
      · rw [w_p1, nI_toInt (n := c / 12 + 1) (by omega)]
        omega
      · unfold s_nb s_fr s_ok
        rw [if_neg (by omega), if_neg (by omega), if_pos rfl, ew, eh, if_neg (by omega)]
  · refine ⟨-1, 0, fun S => z_bs.2.2.2.1, fun S => z_bs.2.2.2.2.2.2.2, ?_⟩
    by_cases hy : c % 12 = 0
    · refine Or.inl ⟨?_, ?_⟩
      · rw [hy, w_0m1', tm1]
        omega
      · unfold s_nb
        rw [if_neg (by omega), if_neg (by omega), if_neg (by omega), if_neg (by omega)]
    · refine Or.inr ⟨c % 12 - 1, c / 12, w_pm1' (by omega), w_p0 _, by omega, hc2, ?_⟩
      have e : 12 * (c / 12) + (c % 12 - 1) = c - 1 := by omega
      rw [e]
      unfold s_nb s_fr s_ok
      rw [if_neg (by omega), if_neg (by omega), if_neg (by omega), ew, eh]
      by_cases hz : R (784 + (c - 1)) = 0
      · rw [if_pos hz, if_pos ⟨by omega, ⟨by omega, by omega⟩, hz⟩]
      · rw [if_neg hz, if_neg (fun q => hz q.2.2)]
theorem s_ok_144 {R : Nat → Int32} (H : w_WH R w hh) (hc : s_ok R c) : c % 12 < w ∧ c / 12 < hh ∧ c < 144 := by
  have a1 := H.2.2.1.2
  have a2 := H.2.2.2.2
  have ew : s_w R = w := by
    show s_n (R 0) = w
    rw [H.1, w_snI (by omega)]
  have eh : s_h R = hh := by
    show s_n (R 1) = hh
    rw [H.2.1, w_snI (by omega)]
  obtain ⟨hc1, hc2⟩ := hc
  rw [ew] at hc1
  rw [eh] at hc2
  exact ⟨hc1, hc2, by omega⟩
theorem s_BWH {R : Nat → Int32} (H : w_WH R w hh) : s_B R := by
  have a1 := H.2.2.1.2
  have a2 := H.2.2.2.2
  constructor
  · show s_n (R 0) ≤ 12
    rw [H.1, w_snI (by omega)]
    exact a1
  · show s_n (R 1) ≤ 12
    rw [H.2.1, w_snI (by omega)]
    exact a2
theorem z_spread1 (h : w_Z S) (H : w_WH (am_i S 139) w hh) (hd : d < 4) (hc : s_ok (am_i S 139) c) (hq : w_q S q) (hJ : (s_sp1 (am_i S 139) c d q).2.2 ≤ 144) :
    ∃ S', bX11_spread_5 w_N r [(0, .ref 138), (1, .int (nI c)), (3, .int (nI q.2.2)), (4, .int (nI d))] [] S = r [(0, .ref 138), (1, .int (nI c)), (3, .int (nI (s_sp1 (am_i S 139) c d q).2.2)), (4, .int (nI (d + 1)))] [] S' ∧ w_q S' (s_sp1 (am_i S 139) c d q) ∧ w_I w_P2 S S' := by
  obtain ⟨-, -, hc3⟩ := s_ok_144 H hc
  obtain ⟨bx, bz, e1, e2, ⟨hn, hnb⟩ | ⟨i, j, ex, ey, hi, hj, hnb⟩⟩ := z_besid H hd hc
  · exact z_sp_out h H hd hc3 hq (e1 S) (e2 S) rfl rfl hn hnb
  · exact z_sp_in h H hd hc3 hq hJ (e1 S) (e2 S) ex ey hi hj hnb
end Z5
section Z6
variable {S : am_S} {x y z X Y bx bz : Int32} {i j o u n w hh c d b m t j0 m0 : Nat} {r : am_K} {q : s_Q}
theorem z_spreadL {R : Nat → Int32} (H : w_WH R w hh) (hc : s_ok R c) (hJ : s_J R q) (hj : j0 < q.2.2) (hq : q.2.1 j0 = nI c) (hcm : q.1 c = nI m0) (hm : m0 ≤ j0) : ∀ k m, k ≤ 4 → k < m → ∀ S, w_Z S → am_i S 139 = R → w_q S (s_sp R c (4 - k) q) →
    ∃ S', am_loop (bX11_spread_5 w_N) m [(0, .ref 138), (1, .int (nI c)), (3, .int (nI (s_sp R c (4 - k) q).2.2)), (4, .int (nI (4 - k)))] [] S = some (.inl (some (.int (nI (s_sp R c 4 q).2.2))), S') ∧ w_q S' (s_sp R c 4 q) ∧ w_I w_P2 S S' := by
  intro k
  induction k with
  | zero =>
    intro m hk hmm S hZ hR hw
    obtain ⟨m', rfl⟩ : ∃ m', m = m' + 1 := ⟨m - 1, by omega⟩
    refine ⟨S, ?_, hw, w_I.rf⟩
    rw [am_loop_s]
    simp (disch := omega) only [bX11_spread_5, x_cs0, x_csi, x_csr, x_csn, x_csl, x_ret_v, x_ret_t, x_ret_n, x_tl_s, x_tl_n, x_lk0, x_lk, x_rem0, x_rem_i, x_rem_r, x_rem_l, x_rem2_0, x_rem2_i, x_rem2_r, x_rem2_l, x_pick0, x_pick_c, x_st1, x_st2, x_live, x_i, x_l, x_a, x_ild, x_lld, x_rld, x_ist, x_lst, x_rst, x_inc, x_ii, x_ll, x_li, x_cmp, x_ui, x_il, x_lti, x_idiv, x_irem, x_dup_i, x_dup_r, x_pop_i, x_pop_r, x_dupx_ir, x_dup2_ir, x_ifeq, x_iceq, x_iflt, x_iclt, x_ifge, x_icge, x_ifgt, x_icgt, x_ifle, x_icle, x_ifne, x_icne, x_ifnull_r, x_ifnull_n, x_ifnonnull_r, x_ifnonnull_n, x_sw, x_vret, x_iret, x_lret, x_zret, x_zret0, x_zret1, x_rf_s, x_rf_n, x_geti, x_getr, x_puti, x_putz, x_putr, x_ial, x_ias, x_lal, x_las, x_aal, x_aas, x_aast, x_alen, x_new, x_newa, x_copy, x_min, x_abs, x_minl, x_oinit, x_throw, x_callS0, x_callS1, x_callS2, x_callS3, x_callS4, x_callV0, x_callV1, x_callV2, x_callV3, x_callV4, x_callV5, x_retI_v, x_callI0, x_callI1, x_callI2, x_retN_v, x_callSN1, x_callSN2, x_callT0, x_callT1, x_fn, x_sl0, x_sli, x_slr, x_sll, x_ar0, x_ari, x_arr, x_arl, ↓reduceIte, Nat.reduceAdd, Nat.reduceSub, Nat.reduceMul, Nat.reduceEqDiff, Nat.reduceLeDiff, Nat.reduceLT, if_true, if_false, Nat.le_refl, and_true, true_and, and_self, reduceCtorEq, or_false, false_or, or_true, true_or, Nat.zero_le, fa_lit, nI_add, w_mul, nI_ltI, nI_leI, nI_eq, nI_clamp, nI_toInt, if_pos, if_neg, w_div, w_rem2, Nat.sub_zero]
  | succ k ih =>
    intro m hk hmm S hZ hR hw
    obtain ⟨m', rfl⟩ : ∃ m', m = m' + 1 := ⟨m - 1, by omega⟩
    rw [am_loop_s]
    obtain ⟨g1, g2, g3, g4, g5⟩ := s_J.sp (s_BWH H) hJ hj hq hcm hm (4 - (k + 1))
    obtain ⟨k1, -⟩ := s_J.sp (s_BWH H) hJ hj hq hcm hm (4 - k)
    have e : s_sp1 R c (4 - (k + 1)) (s_sp R c (4 - (k + 1)) q) = s_sp R c (4 - k) q := by
      rw [show 4 - k = (4 - (k + 1)) + 1 by omega]
      rfl
    subst hR
    obtain ⟨S1, f1, f2, f3⟩ := z_spread1 (d := 4 - (k + 1)) (r := am_loop (bX11_spread_5 w_N) m') hZ H (by omega) hc hw (by rw [e]; exact k1.many)
    rw [e] at f1 f2
    rw [show 4 - (k + 1) + 1 = 4 - k by omega] at f1
    obtain ⟨S2, f4, f5, f6⟩ := ih m' (by omega) (by omega) S1 (f3.Z hZ) (f3.i (by omega)) f2
    exact ⟨S2, f1.trans f4, f5, f3.tr f6⟩
theorem z_spread {R : Nat → Int32} (H : w_WH R w hh) (hc : s_ok R c) (hJ : s_J R q) (hj : j0 < q.2.2) (hq : q.2.1 j0 = nI c) (hcm : q.1 c = nI m0) (hm : m0 ≤ j0) (hZ : w_Z S) (hR : am_i S 139 = R) (hw : w_q S q) :
    ∃ S', fX11_spread w_N [.ref 138, .int (nI c), .int (nI q.2.2)] S = some (.inl (some (.int (nI (s_sp R c 4 q).2.2))), S') ∧ w_q S' (s_sp R c 4 q) ∧ w_I w_P2 S S' := by
  obtain ⟨S', f1, f2, f3⟩ := z_spreadL H hc hJ hj hq hcm hm 4 w_N (Nat.le_refl _) (by show 4 < 5000; omega) S hZ hR hw
  have f1 : am_loop (bX11_spread_5 w_N) w_N [(0, .ref 138), (1, .int (nI c)), (3, .int (nI q.2.2)), (4, .int (nI 0))] [] S = some (.inl (some (.int (nI (s_sp R c 4 q).2.2))), S') := f1
  refine ⟨S', ?_, f2, f3⟩
  simp (disch := omega) only [fX11_spread, kX11_spread_105, kX11_spread_0, kX11_spread_5, x_cs0, x_csi, x_csr, x_csn, x_csl, x_ret_v, x_ret_t, x_ret_n, x_tl_s, x_tl_n, x_lk0, x_lk, x_rem0, x_rem_i, x_rem_r, x_rem_l, x_rem2_0, x_rem2_i, x_rem2_r, x_rem2_l, x_pick0, x_pick_c, x_st1, x_st2, x_live, x_i, x_l, x_a, x_ild, x_lld, x_rld, x_ist, x_lst, x_rst, x_inc, x_ii, x_ll, x_li, x_cmp, x_ui, x_il, x_lti, x_idiv, x_irem, x_dup_i, x_dup_r, x_pop_i, x_pop_r, x_dupx_ir, x_dup2_ir, x_ifeq, x_iceq, x_iflt, x_iclt, x_ifge, x_icge, x_ifgt, x_icgt, x_ifle, x_icle, x_ifne, x_icne, x_ifnull_r, x_ifnull_n, x_ifnonnull_r, x_ifnonnull_n, x_sw, x_vret, x_iret, x_lret, x_zret, x_zret0, x_zret1, x_rf_s, x_rf_n, x_geti, x_getr, x_puti, x_putz, x_putr, x_ial, x_ias, x_lal, x_las, x_aal, x_aas, x_aast, x_alen, x_new, x_newa, x_copy, x_min, x_abs, x_minl, x_oinit, x_throw, x_callS0, x_callS1, x_callS2, x_callS3, x_callS4, x_callV0, x_callV1, x_callV2, x_callV3, x_callV4, x_callV5, x_retI_v, x_callI0, x_callI1, x_callI2, x_retN_v, x_callSN1, x_callSN2, x_callT0, x_callT1, x_fn, x_sl0, x_sli, x_slr, x_sll, x_ar0, x_ari, x_arr, x_arl, ↓reduceIte, Nat.reduceAdd, Nat.reduceSub, Nat.reduceMul, Nat.reduceEqDiff, Nat.reduceLeDiff, Nat.reduceLT, if_true, if_false, Nat.le_refl, and_true, true_and, and_self, reduceCtorEq, or_false, false_or, or_true, true_or, Nat.zero_le, fa_lit, nI_add, w_mul, nI_ltI, nI_leI, nI_eq, nI_clamp, nI_toInt, if_pos, if_neg, w_div, w_rem2, f1]
/-- the search goes on as the pure one -/
theorem z_bfsL {R : Nat → Int32} (H : w_WH R w hh) : ∀ (f k m : Nat) (q : s_Q) (S : am_S), f < m → w_Z S → am_i S 139 = R → w_q S q → s_J R q → k ≤ q.2.2 → 144 < f + k →
    ∃ S', am_loop (bX11_layFar_63 w_N) m [(0, .ref 138), (3, .int (nI q.2.2)), (4, .int (nI k))] [] S = some (.inl none, S') ∧ w_q S' (s_bfs R f k q) ∧ w_I w_P2 S S' := by
  intro f
  induction f with
  | zero =>
    intro k m q S hm hZ hR hw hJ hk hf
    have := hJ.many
    omega
  | succ f ih =>
    intro k m q S hm hZ hR hw hJ hk hf
    obtain ⟨m', rfl⟩ : ∃ m', m = m' + 1 := ⟨m - 1, by omega⟩
    have hmany := hJ.many
    rw [am_loop_s]
    unfold s_bfs
    by_cases hlt : k < q.2.2
    · rw [if_pos hlt]
      obtain ⟨c, e1, e2, e3, m0, e4, e5⟩ := hJ.1 k hlt
      have e6 : s_n (q.2.1 k) = c := by
        rw [e1]
        exact nI_clamp (by omega)
      rw [e6]
      have e7 : am_i S 145 k = nI c := by rw [hw.2 k hlt, e1]
      obtain ⟨S1, f1, f2, f3⟩ := z_spread H e3.1 hJ hlt e1 e4 e5 hZ hR hw
      obtain ⟨g1, g2, -⟩ := s_J.sp (s_BWH H) hJ hlt e1 e4 e5 4
      obtain ⟨S2, f4, f5, f6⟩ := ih (k + 1) m' (s_sp R c 4 q) S1 (by omega) (f3.Z hZ) ((f3.i (by omega)).trans hR) f2 g1 (by omega) (by omega)
      refine ⟨S2, ?_, f5, f3.tr f6⟩
      simp (disch := omega) only [bX11_layFar_63, x_cs0, x_csi, x_csr, x_csn, x_csl, x_ret_v, x_ret_t, x_ret_n, x_tl_s, x_tl_n, x_lk0, x_lk, x_rem0, x_rem_i, x_rem_r, x_rem_l, x_rem2_0, x_rem2_i, x_rem2_r, x_rem2_l, x_pick0, x_pick_c, x_st1, x_st2, x_live, x_i, x_l, x_a, x_ild, x_lld, x_rld, x_ist, x_lst, x_rst, x_inc, x_ii, x_ll, x_li, x_cmp, x_ui, x_il, x_lti, x_idiv, x_irem, x_dup_i, x_dup_r, x_pop_i, x_pop_r, x_dupx_ir, x_dup2_ir, x_ifeq, x_iceq, x_iflt, x_iclt, x_ifge, x_icge, x_ifgt, x_icgt, x_ifle, x_icle, x_ifne, x_icne, x_ifnull_r, x_ifnull_n, x_ifnonnull_r, x_ifnonnull_n, x_sw, x_vret, x_iret, x_lret, x_zret, x_zret0, x_zret1, x_rf_s, x_rf_n, x_geti, x_getr, x_puti, x_putz, x_putr, x_ial, x_ias, x_lal, x_las, x_aal, x_aas, x_aast, x_alen, x_new, x_newa, x_copy, x_min, x_abs, x_minl, x_oinit, x_throw, x_callS0, x_callS1, x_callS2, x_callS3, x_callS4, x_callV0, x_callV1, x_callV2, x_callV3, x_callV4, x_callV5, x_retI_v, x_callI0, x_callI1, x_callI2, x_retN_v, x_callSN1, x_callSN2, x_callT0, x_callT1, x_fn, x_sl0, x_sli, x_slr, x_sll, x_ar0, x_ari, x_arr, x_arl, ↓reduceIte, Nat.reduceAdd, Nat.reduceSub, Nat.reduceMul, Nat.reduceEqDiff, Nat.reduceLeDiff, Nat.reduceLT, if_true, if_false, Nat.le_refl, and_true, true_and, and_self, reduceCtorEq, or_false, false_or, or_true, true_or, Nat.zero_le, fa_lit, nI_add, w_mul, nI_ltI, nI_leI, nI_eq, nI_clamp, nI_toInt, if_pos, if_neg, w_div, w_rem2, zk138 hZ, zk139 hZ, zk140 hZ, zk141 hZ, zk142 hZ, zk143 hZ, zk144 hZ, zk145 hZ, zk146 hZ, zk147 hZ, zk148 hZ, zk149 hZ, zk150 hZ, zk151 hZ, zl139 hZ, zl140 hZ, zl141 hZ, zl142 hZ, zl143 hZ, zl144 hZ, zl145 hZ, zl146 hZ, zl147 hZ, zl148 hZ, zl149 hZ, zl150 hZ, zl151 hZ, zr138_0 hZ, zr138_1 hZ, zr138_2 hZ, zr138_3 hZ, zr138_4 hZ, zr138_8 hZ, zr138_9 hZ, zr138_10 hZ, zr138_12 hZ, zr138_24 hZ, zr138_25 hZ, zr138_26 hZ, zr148_0 hZ, zr148_1 hZ, zr148_2 hZ, zr148_3 hZ, zr148_4 hZ, zr148_5 hZ, zr148_6 hZ, zr148_7 hZ, zr148_8 hZ, e7, f1, f4]
    · rw [if_neg hlt]
      refine ⟨S, ?_, hw, w_I.rf⟩
      simp (disch := omega) only [bX11_layFar_63, x_cs0, x_csi, x_csr, x_csn, x_csl, x_ret_v, x_ret_t, x_ret_n, x_tl_s, x_tl_n, x_lk0, x_lk, x_rem0, x_rem_i, x_rem_r, x_rem_l, x_rem2_0, x_rem2_i, x_rem2_r, x_rem2_l, x_pick0, x_pick_c, x_st1, x_st2, x_live, x_i, x_l, x_a, x_ild, x_lld, x_rld, x_ist, x_lst, x_rst, x_inc, x_ii, x_ll, x_li, x_cmp, x_ui, x_il, x_lti, x_idiv, x_irem, x_dup_i, x_dup_r, x_pop_i, x_pop_r, x_dupx_ir, x_dup2_ir, x_ifeq, x_iceq, x_iflt, x_iclt, x_ifge, x_icge, x_ifgt, x_icgt, x_ifle, x_icle, x_ifne, x_icne, x_ifnull_r, x_ifnull_n, x_ifnonnull_r, x_ifnonnull_n, x_sw, x_vret, x_iret, x_lret, x_zret, x_zret0, x_zret1, x_rf_s, x_rf_n, x_geti, x_getr, x_puti, x_putz, x_putr, x_ial, x_ias, x_lal, x_las, x_aal, x_aas, x_aast, x_alen, x_new, x_newa, x_copy, x_min, x_abs, x_minl, x_oinit, x_throw, x_callS0, x_callS1, x_callS2, x_callS3, x_callS4, x_callV0, x_callV1, x_callV2, x_callV3, x_callV4, x_callV5, x_retI_v, x_callI0, x_callI1, x_callI2, x_retN_v, x_callSN1, x_callSN2, x_callT0, x_callT1, x_fn, x_sl0, x_sli, x_slr, x_sll, x_ar0, x_ari, x_arr, x_arl, ↓reduceIte, Nat.reduceAdd, Nat.reduceSub, Nat.reduceMul, Nat.reduceEqDiff, Nat.reduceLeDiff, Nat.reduceLT, if_true, if_false, Nat.le_refl, and_true, true_and, and_self, reduceCtorEq, or_false, false_or, or_true, true_or, Nat.zero_le, fa_lit, nI_add, w_mul, nI_ltI, nI_leI, nI_eq, nI_clamp, nI_toInt, if_pos, if_neg, w_div, w_rem2]
theorem z_fillL : ∀ (k m : Nat) (S : am_S), k ≤ 144 → k < m → w_Z S → (∀ j, j < 144 - k → am_i S 144 j = nI 1000) →
    ∃ S', am_loop (bX11_layFar_2 w_N) m [(0, .ref 138), (1, .int x), (2, .int y), (3, .int (nI (144 - k)))] [] S = am_loop (bX11_layFar_2 w_N) (m - k) [(0, .ref 138), (1, .int x), (2, .int y), (3, .int (nI 144))] [] S' ∧ (∀ j, j < 144 → am_i S' 144 j = nI 1000) ∧ w_I w_P2 S S' := by
  intro k
  induction k with
  | zero =>
    intro m S h1 h2 hZ hf
    exact ⟨S, rfl, hf, w_I.rf⟩
  | succ k ih =>
    intro m S h1 h2 hZ hf
    obtain ⟨m', rfl⟩ : ∃ m', m = m' + 1 := ⟨m - 1, by omega⟩
    rw [am_loop_s]
    have g : w_I w_P2 S (am_putI S 144 (144 - (k + 1)) (nI 1000)) := w_I.put (Or.inl rfl)
    obtain ⟨S', f1, f2, f3⟩ := ih m' (am_putI S 144 (144 - (k + 1)) (nI 1000)) (by omega) (by omega) (g.Z hZ) (fun j hj => by
      rw [x_i_I, if_pos rfl]
      by_cases e : j = 144 - (k + 1)
      · rw [if_pos e]
      · rw [if_neg e]
        exact hf j (by omega))
    refine ⟨S', ?_, f2, g.tr f3⟩
    rw [show m' + 1 - (k + 1) = m' - k by omega, ← f1]
    simp (disch := omega) only [bX11_layFar_2, x_cs0, x_csi, x_csr, x_csn, x_csl, x_ret_v, x_ret_t, x_ret_n, x_tl_s, x_tl_n, x_lk0, x_lk, x_rem0, x_rem_i, x_rem_r, x_rem_l, x_rem2_0, x_rem2_i, x_rem2_r, x_rem2_l, x_pick0, x_pick_c, x_st1, x_st2, x_live, x_i, x_l, x_a, x_ild, x_lld, x_rld, x_ist, x_lst, x_rst, x_inc, x_ii, x_ll, x_li, x_cmp, x_ui, x_il, x_lti, x_idiv, x_irem, x_dup_i, x_dup_r, x_pop_i, x_pop_r, x_dupx_ir, x_dup2_ir, x_ifeq, x_iceq, x_iflt, x_iclt, x_ifge, x_icge, x_ifgt, x_icgt, x_ifle, x_icle, x_ifne, x_icne, x_ifnull_r, x_ifnull_n, x_ifnonnull_r, x_ifnonnull_n, x_sw, x_vret, x_iret, x_lret, x_zret, x_zret0, x_zret1, x_rf_s, x_rf_n, x_geti, x_getr, x_puti, x_putz, x_putr, x_ial, x_ias, x_lal, x_las, x_aal, x_aas, x_aast, x_alen, x_new, x_newa, x_copy, x_min, x_abs, x_minl, x_oinit, x_throw, x_callS0, x_callS1, x_callS2, x_callS3, x_callS4, x_callV0, x_callV1, x_callV2, x_callV3, x_callV4, x_callV5, x_retI_v, x_callI0, x_callI1, x_callI2, x_retN_v, x_callSN1, x_callSN2, x_callT0, x_callT1, x_fn, x_sl0, x_sli, x_slr, x_sll, x_ar0, x_ari, x_arr, x_arl, ↓reduceIte, Nat.reduceAdd, Nat.reduceSub, Nat.reduceMul, Nat.reduceEqDiff, Nat.reduceLeDiff, Nat.reduceLT, if_true, if_false, Nat.le_refl, and_true, true_and, and_self, reduceCtorEq, or_false, false_or, or_true, true_or, Nat.zero_le, fa_lit, nI_add, w_mul, nI_ltI, nI_leI, nI_eq, nI_clamp, nI_toInt, if_pos, if_neg, w_div, w_rem2, zk138 hZ, zk139 hZ, zk140 hZ, zk141 hZ, zk142 hZ, zk143 hZ, zk144 hZ, zk145 hZ, zk146 hZ, zk147 hZ, zk148 hZ, zk149 hZ, zk150 hZ, zk151 hZ, zl139 hZ, zl140 hZ, zl141 hZ, zl142 hZ, zl143 hZ, zl144 hZ, zl145 hZ, zl146 hZ, zl147 hZ, zl148 hZ, zl149 hZ, zl150 hZ, zl151 hZ, zr138_0 hZ, zr138_1 hZ, zr138_2 hZ, zr138_3 hZ, zr138_4 hZ, zr138_8 hZ, zr138_9 hZ, zr138_10 hZ, zr138_12 hZ, zr138_24 hZ, zr138_25 hZ, zr138_26 hZ, zr148_0 hZ, zr148_1 hZ, zr148_2 hZ, zr148_3 hZ, zr148_4 hZ, zr148_5 hZ, zr148_6 hZ, zr148_7 hZ, zr148_8 hZ, show 144 - (k + 1) + 1 = 144 - k by omega]
theorem z_layFar (hZ : w_Z S) (H : w_WH (am_i S 139) w hh) (ht : s_ok (am_i S 139) t) : ∃ S', fX11_layFar w_N [.ref 138, .int (nI (t % 12)), .int (nI (t / 12))] S = some (.inl none, S') ∧ (∀ c, c < 144 → am_i S' 144 c = s_far (am_i S 139) t c) ∧ w_I w_P2 S S' := by
  obtain ⟨t1, t2, t3⟩ := s_ok_144 H ht
  obtain ⟨S1, f1, f2, f3⟩ := z_fillL (x := nI (t % 12)) (y := nI (t / 12)) 144 w_N S (Nat.le_refl _) (by show 144 < 5000; omega) hZ (fun j hj => absurd hj (by omega))
  have f1 : am_loop (bX11_layFar_2 w_N) w_N [(0, .ref 138), (1, .int (nI (t % 12))), (2, .int (nI (t / 12))), (3, .int (nI 0))] [] S = am_loop (bX11_layFar_2 w_N) (4855 + 1) [(0, .ref 138), (1, .int (nI (t % 12))), (2, .int (nI (t / 12))), (3, .int (nI 144))] [] S1 := f1
  have hZ1 := f3.Z hZ
  have hR1 : am_i S1 139 = am_i S 139 := f3.i (by omega)
  have hfree := z_isFree (S := S1) (i := t % 12) (j := t / 12) hZ1 (by rw [hR1]; exact H) t1 t2
  rw [hR1, show 784 + 12 * (t / 12) + t % 12 = 784 + t by omega] at hfree
  by_cases hz : am_i S 139 (784 + t) = 0
  · rw [w_bt hz] at hfree
    have e0 : s_lay0 (am_i S 139) t = (va_up (fun _ => 1000) t 0, va_up (fun _ => 0) 0 (nI t), 1) := if_pos ⟨ht, hz⟩
    have g : w_I w_P2 S1 (am_putI (am_putI S1 144 t (nI 0)) 145 0 (nI t)) := (w_I.put (Or.inl rfl)).tr (w_I.put (Or.inr rfl))
    obtain ⟨S2, f4, f5, f6⟩ := z_bfsL H 145 0 w_N (s_lay0 (am_i S 139) t) (am_putI (am_putI S1 144 t (nI 0)) 145 0 (nI t)) (by show 145 < 5000; omega) (g.Z hZ1) ((g.i (by omega)).trans hR1) (by
      rw [e0]
      refine ⟨fun k hk => ?_, fun k hk => ?_⟩
      · dsimp only
        rw [x_i_I, if_neg (by omega), x_i_I, if_pos rfl, s_up]
        by_cases e : k = t
        · rw [if_pos e, if_pos e]
          rfl
        · rw [if_neg e, if_neg e, f2 k hk]
          rfl
      · have hk0 : k < 1 := hk
        have hk1 : k = 0 := by omega
        subst hk1
        dsimp only
        rw [x_i_I, if_pos rfl, if_pos rfl]
        exact (va_up_self _ _ _).symm) (s_lay0_J (s_BWH H) t) (Nat.zero_le _) (by omega)
    rw [e0] at f4
    have f4 : am_loop (bX11_layFar_63 w_N) w_N [(0, .ref 138), (3, .int (nI 1)), (4, .int (nI 0))] [] (am_putI (am_putI S1 144 t (nI 0)) 145 0 (nI t)) = some (.inl none, S2) := f4
    refine ⟨S2, ?_, f5.1, f3.tr (g.tr f6)⟩
    rw [am_loop_s] at f1
    simp (disch := omega) only [fX11_layFar, kX11_layFar_0, kX11_layFar_2, kX11_layFar_63, x_cs0, x_csi, x_csr, x_csn, x_csl, x_ret_v, x_ret_t, x_ret_n, x_tl_s, x_tl_n, x_lk0, x_lk, x_rem0, x_rem_i, x_rem_r, x_rem_l, x_rem2_0, x_rem2_i, x_rem2_r, x_rem2_l, x_pick0, x_pick_c, x_st1, x_st2, x_live, x_i, x_l, x_a, x_ild, x_lld, x_rld, x_ist, x_lst, x_rst, x_inc, x_ii, x_ll, x_li, x_cmp, x_ui, x_il, x_lti, x_idiv, x_irem, x_dup_i, x_dup_r, x_pop_i, x_pop_r, x_dupx_ir, x_dup2_ir, x_ifeq, x_iceq, x_iflt, x_iclt, x_ifge, x_icge, x_ifgt, x_icgt, x_ifle, x_icle, x_ifne, x_icne, x_ifnull_r, x_ifnull_n, x_ifnonnull_r, x_ifnonnull_n, x_sw, x_vret, x_iret, x_lret, x_zret, x_zret0, x_zret1, x_rf_s, x_rf_n, x_geti, x_getr, x_puti, x_putz, x_putr, x_ial, x_ias, x_lal, x_las, x_aal, x_aas, x_aast, x_alen, x_new, x_newa, x_copy, x_min, x_abs, x_minl, x_oinit, x_throw, x_callS0, x_callS1, x_callS2, x_callS3, x_callS4, x_callV0, x_callV1, x_callV2, x_callV3, x_callV4, x_callV5, x_retI_v, x_callI0, x_callI1, x_callI2, x_retN_v, x_callSN1, x_callSN2, x_callT0, x_callT1, x_fn, x_sl0, x_sli, x_slr, x_sll, x_ar0, x_ari, x_arr, x_arl, ↓reduceIte, Nat.reduceAdd, Nat.reduceSub, Nat.reduceMul, Nat.reduceEqDiff, Nat.reduceLeDiff, Nat.reduceLT, if_true, if_false, Nat.le_refl, and_true, true_and, and_self, reduceCtorEq, or_false, false_or, or_true, true_or, Nat.zero_le, fa_lit, nI_add, w_mul, nI_ltI, nI_leI, nI_eq, nI_clamp, nI_toInt, if_pos, if_neg, w_div, w_rem2, f1]
    simp (disch := omega) only [bX11_layFar_2, kX11_layFar_63, x_cs0, x_csi, x_csr, x_csn, x_csl, x_ret_v, x_ret_t, x_ret_n, x_tl_s, x_tl_n, x_lk0, x_lk, x_rem0, x_rem_i, x_rem_r, x_rem_l, x_rem2_0, x_rem2_i, x_rem2_r, x_rem2_l, x_pick0, x_pick_c, x_st1, x_st2, x_live, x_i, x_l, x_a, x_ild, x_lld, x_rld, x_ist, x_lst, x_rst, x_inc, x_ii, x_ll, x_li, x_cmp, x_ui, x_il, x_lti, x_idiv, x_irem, x_dup_i, x_dup_r, x_pop_i, x_pop_r, x_dupx_ir, x_dup2_ir, x_ifeq, x_iceq, x_iflt, x_iclt, x_ifge, x_icge, x_ifgt, x_icgt, x_ifle, x_icle, x_ifne, x_icne, x_ifnull_r, x_ifnull_n, x_ifnonnull_r, x_ifnonnull_n, x_sw, x_vret, x_iret, x_lret, x_zret, x_zret0, x_zret1, x_rf_s, x_rf_n, x_geti, x_getr, x_puti, x_putz, x_putr, x_ial, x_ias, x_lal, x_las, x_aal, x_aas, x_aast, x_alen, x_new, x_newa, x_copy, x_min, x_abs, x_minl, x_oinit, x_throw, x_callS0, x_callS1, x_callS2, x_callS3, x_callS4, x_callV0, x_callV1, x_callV2, x_callV3, x_callV4, x_callV5, x_retI_v, x_callI0, x_callI1, x_callI2, x_retN_v, x_callSN1, x_callSN2, x_callT0, x_callT1, x_fn, x_sl0, x_sli, x_slr, x_sll, x_ar0, x_ari, x_arr, x_arl, ↓reduceIte, Nat.reduceAdd, Nat.reduceSub, Nat.reduceMul, Nat.reduceEqDiff, Nat.reduceLeDiff, Nat.reduceLT, if_true, if_false, Nat.le_refl, and_true, true_and, and_self, reduceCtorEq, or_false, false_or, or_true, true_or, Nat.zero_le, fa_lit, nI_add, w_mul, nI_ltI, nI_leI, nI_eq, nI_clamp, nI_toInt, if_pos, if_neg, w_div, w_rem2, zk138 hZ1, zk139 hZ1, zk140 hZ1, zk141 hZ1, zk142 hZ1, zk143 hZ1, zk144 hZ1, zk145 hZ1, zk146 hZ1, zk147 hZ1, zk148 hZ1, zk149 hZ1, zk150 hZ1, zk151 hZ1, zl139 hZ1, zl140 hZ1, zl141 hZ1, zl142 hZ1, zl143 hZ1, zl144 hZ1, zl145 hZ1, zl146 hZ1, zl147 hZ1, zl148 hZ1, zl149 hZ1, zl150 hZ1, zl151 hZ1, zr138_0 hZ1, zr138_1 hZ1, zr138_2 hZ1, zr138_3 hZ1, zr138_4 hZ1, zr138_8 hZ1, zr138_9 hZ1, zr138_10 hZ1, zr138_12 hZ1, zr138_24 hZ1, zr138_25 hZ1, zr138_26 hZ1, zr148_0 hZ1, zr148_1 hZ1, zr148_2 hZ1, zr148_3 hZ1, zr148_4 hZ1, zr148_5 hZ1, zr148_6 hZ1, zr148_7 hZ1, zr148_8 hZ1, x_k_I, x_l_I, x_r_I, x_j_I, x_n_I, x_z_I, x_i_Is, x_k_W, x_l_W, x_r_W, x_j_W, x_n_W, x_z_W, x_k_J, x_l_J, x_r_J, x_i_J, x_n_J, x_z_J, x_k_R, x_l_R, x_j_R, x_i_R, x_n_R, x_z_R, x_n_N, x_z_N, x_k_N, x_l_N, x_i_N, x_j_N, x_r_N, hfree, show 12 * (t / 12) + t % 12 = t by omega, f4]
  · rw [w_bf hz] at hfree
    have e0 : s_lay (am_i S 139) t = (fun _ => 1000, fun _ => 0, 0) := by
      unfold s_lay s_lay0
      rw [if_neg (fun q => hz q.2)]
      rfl
    refine ⟨S1, ?_, fun c hc => ?_, f3⟩
    · rw [am_loop_s] at f1
      simp (disch := omega) only [fX11_layFar, kX11_layFar_0, kX11_layFar_2, x_cs0, x_csi, x_csr, x_csn, x_csl, x_ret_v, x_ret_t, x_ret_n, x_tl_s, x_tl_n, x_lk0, x_lk, x_rem0, x_rem_i, x_rem_r, x_rem_l, x_rem2_0, x_rem2_i, x_rem2_r, x_rem2_l, x_pick0, x_pick_c, x_st1, x_st2, x_live, x_i, x_l, x_a, x_ild, x_lld, x_rld, x_ist, x_lst, x_rst, x_inc, x_ii, x_ll, x_li, x_cmp, x_ui, x_il, x_lti, x_idiv, x_irem, x_dup_i, x_dup_r, x_pop_i, x_pop_r, x_dupx_ir, x_dup2_ir, x_ifeq, x_iceq, x_iflt, x_iclt, x_ifge, x_icge, x_ifgt, x_icgt, x_ifle, x_icle, x_ifne, x_icne, x_ifnull_r, x_ifnull_n, x_ifnonnull_r, x_ifnonnull_n, x_sw, x_vret, x_iret, x_lret, x_zret, x_zret0, x_zret1, x_rf_s, x_rf_n, x_geti, x_getr, x_puti, x_putz, x_putr, x_ial, x_ias, x_lal, x_las, x_aal, x_aas, x_aast, x_alen, x_new, x_newa, x_copy, x_min, x_abs, x_minl, x_oinit, x_throw, x_callS0, x_callS1, x_callS2, x_callS3, x_callS4, x_callV0, x_callV1, x_callV2, x_callV3, x_callV4, x_callV5, x_retI_v, x_callI0, x_callI1, x_callI2, x_retN_v, x_callSN1, x_callSN2, x_callT0, x_callT1, x_fn, x_sl0, x_sli, x_slr, x_sll, x_ar0, x_ari, x_arr, x_arl, ↓reduceIte, Nat.reduceAdd, Nat.reduceSub, Nat.reduceMul, Nat.reduceEqDiff, Nat.reduceLeDiff, Nat.reduceLT, if_true, if_false, Nat.le_refl, and_true, true_and, and_self, reduceCtorEq, or_false, false_or, or_true, true_or, Nat.zero_le, fa_lit, nI_add, w_mul, nI_ltI, nI_leI, nI_eq, nI_clamp, nI_toInt, if_pos, if_neg, w_div, w_rem2, f1]
      simp (disch := omega) only [bX11_layFar_2, x_cs0, x_csi, x_csr, x_csn, x_csl, x_ret_v, x_ret_t, x_ret_n, x_tl_s, x_tl_n, x_lk0, x_lk, x_rem0, x_rem_i, x_rem_r, x_rem_l, x_rem2_0, x_rem2_i, x_rem2_r, x_rem2_l, x_pick0, x_pick_c, x_st1, x_st2, x_live, x_i, x_l, x_a, x_ild, x_lld, x_rld, x_ist, x_lst, x_rst, x_inc, x_ii, x_ll, x_li, x_cmp, x_ui, x_il, x_lti, x_idiv, x_irem, x_dup_i, x_dup_r, x_pop_i, x_pop_r, x_dupx_ir, x_dup2_ir, x_ifeq, x_iceq, x_iflt, x_iclt, x_ifge, x_icge, x_ifgt, x_icgt, x_ifle, x_icle, x_ifne, x_icne, x_ifnull_r, x_ifnull_n, x_ifnonnull_r, x_ifnonnull_n, x_sw, x_vret, x_iret, x_lret, x_zret, x_zret0, x_zret1, x_rf_s, x_rf_n, x_geti, x_getr, x_puti, x_putz, x_putr, x_ial, x_ias, x_lal, x_las, x_aal, x_aas, x_aast, x_alen, x_new, x_newa, x_copy, x_min, x_abs, x_minl, x_oinit, x_throw, x_callS0, x_callS1, x_callS2, x_callS3, x_callS4, x_callV0, x_callV1, x_callV2, x_callV3, x_callV4, x_callV5, x_retI_v, x_callI0, x_callI1, x_callI2, x_retN_v, x_callSN1, x_callSN2, x_callT0, x_callT1, x_fn, x_sl0, x_sli, x_slr, x_sll, x_ar0, x_ari, x_arr, x_arl, ↓reduceIte, Nat.reduceAdd, Nat.reduceSub, Nat.reduceMul, Nat.reduceEqDiff, Nat.reduceLeDiff, Nat.reduceLT, if_true, if_false, Nat.le_refl, and_true, true_and, and_self, reduceCtorEq, or_false, false_or, or_true, true_or, Nat.zero_le, fa_lit, nI_add, w_mul, nI_ltI, nI_leI, nI_eq, nI_clamp, nI_toInt, if_pos, if_neg, w_div, w_rem2, zk138 hZ1, zk139 hZ1, zk140 hZ1, zk141 hZ1, zk142 hZ1, zk143 hZ1, zk144 hZ1, zk145 hZ1, zk146 hZ1, zk147 hZ1, zk148 hZ1, zk149 hZ1, zk150 hZ1, zk151 hZ1, zl139 hZ1, zl140 hZ1, zl141 hZ1, zl142 hZ1, zl143 hZ1, zl144 hZ1, zl145 hZ1, zl146 hZ1, zl147 hZ1, zl148 hZ1, zl149 hZ1, zl150 hZ1, zl151 hZ1, zr138_0 hZ1, zr138_1 hZ1, zr138_2 hZ1, zr138_3 hZ1, zr138_4 hZ1, zr138_8 hZ1, zr138_9 hZ1, zr138_10 hZ1, zr138_12 hZ1, zr138_24 hZ1, zr138_25 hZ1, zr138_26 hZ1, zr148_0 hZ1, zr148_1 hZ1, zr148_2 hZ1, zr148_3 hZ1, zr148_4 hZ1, zr148_5 hZ1, zr148_6 hZ1, zr148_7 hZ1, zr148_8 hZ1, hfree]
    · unfold s_far
      rw [e0, f2 c hc]
      rfl
end Z6
