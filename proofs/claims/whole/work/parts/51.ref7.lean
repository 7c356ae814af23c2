/-! THE REFERENCE: a turn's loops -/
abbrev w_P3 (b : Nat) : Prop := b = 139 ∨ b = 144 ∨ b = 145
theorem w_I.row {P : Nat → Prop} {S : am_S} {a : Nat} {f : Nat → Int32} (h : P a) : w_I P S (am_row S a f) := ⟨rfl, rfl, rfl, rfl, rfl, rfl, fun b hb => va_up_ne _ _ (fun e => hb (e ▸ h))⟩
theorem w_rowL {body : am_K → am_K} {lvf : Nat → List (Nat × Value)} {n : Nat} {g : Nat → (Nat → Int32) → Nat → Int32} {inv : Nat → (Nat → Int32) → Prop} {res : am_S → Option (am_O × am_S)}
    (hstep : ∀ i S r, i < n → w_Z S → inv i (am_i S 139) → ∃ S', body r (lvf i) [] S = r (lvf (i + 1)) [] S' ∧ am_i S' 139 = g i (am_i S 139) ∧ w_I w_P3 S S' ∧ inv (i + 1) (g i (am_i S 139)))
    (hend : ∀ S r, w_Z S → inv n (am_i S 139) → body r (lvf n) [] S = res S) : ∀ m i S, n - i < m → i ≤ n → w_Z S → inv i (am_i S 139) → ∃ S', am_loop body m (lvf i) [] S = res S' ∧ am_i S' 139 = s_it g (n - i) i (am_i S 139) ∧ w_I w_P3 S S' ∧ inv n (s_it g (n - i) i (am_i S 139)) := by
  intro m
  induction m with
  | zero => intro i S hi; omega
  | succ m ih =>
    intro i S hi hle hZ hI
    rw [am_loop_s]
    rcases Nat.lt_or_ge i n with hc | hc
    · obtain ⟨S1, f1, f2, f3, f4⟩ := hstep i S (am_loop body m) hc hZ hI
      obtain ⟨S2, f5, f6, f7, f8⟩ := ih (i + 1) S1 (by omega) (by omega) (f3.Z hZ) (by rw [f2]; exact f4)
      rw [f2] at f6 f8
      rw [show n - i = (n - (i + 1)) + 1 by omega, s_it]
      exact ⟨S2, f1.trans f5, f6, f3.tr f7, f8⟩
    · have e : i = n := by omega
      subst e
      rw [Nat.sub_self, s_it]
      exact ⟨S, hend S _ hZ hI, rfl, w_I.rf, hI⟩
section Z11
variable {S : am_S} {x y z X Y : Int32} {i j o u n w hh c d b m t p np ne no : Nat} {R F : Nat → Int32}
theorem s_ride_st (h : ¬ (s_ride R F o).2 = nI 0) : (s_ride R F o).1 (64 + 10 * o + 3) = nI 0 := by
  unfold s_ride at h ⊢
  split at h
  · exact absurd rfl h
  · by_cases q : s_ride1 R o ‹Nat› (64 + 10 * o + 3) = nI 0
    · exact q
    · exact absurd (w_bf q) h
theorem s_V.carry (h : s_V R) (ho : o < s_n (R 4)) (hs : R (64 + 10 * o + 3) = nI 0) : s_V (s_carry R o) ∧ s_K R (s_carry R o) := by
  unfold s_carry
  split
  · exact h.arrive ho hs
  · dsimp only
    have h1 := h.ride (F := s_far R (s_ce (R (12 + 4 * s_n (R (64 + 10 * o + 0)) + 0)) (R (12 + 4 * s_n (R (64 + 10 * o + 0)) + 1)))) ho hs
    split
    · exact h1
    · next q =>
      have h2 := h1.1.ride (o := o) (F := s_far R (s_ce (R (12 + 4 * s_n (R (64 + 10 * o + 0)) + 0)) (R (12 + 4 * s_n (R (64 + 10 * o + 0)) + 1)))) (by rw [h1.2 4 (by omega)]; exact ho) (s_ride_st q)
      exact ⟨h2.1, h1.2.tr h2.2⟩
theorem z_carry (hZ : w_Z S) (hR : am_i S 139 = R) (h : s_V R) (ho : o < s_n (R 4)) (hs : R (64 + 10 * o + 3) = nI 0) : ∃ S', fX11_carry w_N [.ref 138, .int (nI o)] S = some (.inl none, S') ∧ am_i S' 139 = s_carry R o ∧ w_I w_P3 S S' := by
  have a2 := h.B.2.1.2
  have a4 := h.B.2.2.2.1.2
  have hu := (h.O o ho).1.1
  have hu2 := hu.2
  have gi := z_isThere (S := S) (R := R) (o := o) hZ hR (by omega) hu.1 (by omega)
  unfold s_carry
  by_cases hth : s_there R o
  · rw [if_pos hth]
    rw [w_bt hth] at gi
    have ga := z_arrive hZ hR h ho hs
    refine ⟨_, ?_, x_rows, w_I.row (Or.inl rfl)⟩
    simp (disch := omega) only [fX11_carry, kX11_carry_51, kX11_carry_0, x_cs0, x_csi, x_csr, x_csn, x_csl, x_ret_v, x_ret_t, x_ret_n, x_tl_s, x_tl_n, x_lk0, x_lk, x_rem0, x_rem_i, x_rem_r, x_rem_l, x_rem2_0, x_rem2_i, x_rem2_r, x_rem2_l, x_pick0, x_pick_c, x_st1, x_st2, x_live, x_i, x_l, x_a, x_ild, x_lld, x_rld, x_ist, x_lst, x_rst, x_inc, x_ii, x_ll, x_li, x_cmp, x_ui, x_il, x_lti, x_idiv, x_irem, x_dup_i, x_dup_r, x_pop_i, x_pop_r, x_dupx_ir, x_dup2_ir, x_ifeq, x_iceq, x_iflt, x_iclt, x_ifge, x_icge, x_ifgt, x_icgt, x_ifle, x_icle, x_ifne, x_icne, x_ifnull_r, x_ifnull_n, x_ifnonnull_r, x_ifnonnull_n, x_sw, x_vret, x_iret, x_lret, x_zret, x_zret0, x_zret1, x_rf_s, x_rf_n, x_geti, x_getr, x_puti, x_putz, x_putr, x_ial, x_ias, x_lal, x_las, x_aal, x_aas, x_aast, x_alen, x_new, x_newa, x_copy, x_min, x_abs, x_minl, x_oinit, x_throw, x_callS0, x_callS1, x_callS2, x_callS3, x_callS4, x_callV0, x_callV1, x_callV2, x_callV3, x_callV4, x_callV5, x_retI_v, x_callI0, x_callI1, x_callI2, x_retN_v, x_callSN1, x_callSN2, x_callT0, x_callT1, x_fn, x_sl0, x_sli, x_slr, x_sll, x_ar0, x_ari, x_arr, x_arl, ↓reduceIte, Nat.reduceAdd, Nat.reduceSub, Nat.reduceMul, Nat.reduceEqDiff, Nat.reduceLeDiff, Nat.reduceLT, if_true, if_false, Nat.le_refl, and_true, true_and, and_self, reduceCtorEq, or_false, false_or, or_true, true_or, Nat.zero_le, fa_lit, nI_add, w_mul, nI_ltI, nI_leI, nI_eq, nI_clamp, nI_toInt, if_pos, if_neg, w_div, w_rem2, zk138 hZ, zk139 hZ, zk140 hZ, zk141 hZ, zk142 hZ, zk143 hZ, zk144 hZ, zk145 hZ, zk146 hZ, zk147 hZ, zk148 hZ, zk149 hZ, zk150 hZ, zk151 hZ, zl139 hZ, zl140 hZ, zl141 hZ, zl142 hZ, zl143 hZ, zl144 hZ, zl145 hZ, zl146 hZ, zl147 hZ, zl148 hZ, zl149 hZ, zl150 hZ, zl151 hZ, zr138_0 hZ, zr138_1 hZ, zr138_2 hZ, zr138_3 hZ, zr138_4 hZ, zr138_8 hZ, zr138_9 hZ, zr138_10 hZ, zr138_12 hZ, zr138_24 hZ, zr138_25 hZ, zr138_26 hZ, zr148_0 hZ, zr148_1 hZ, zr148_2 hZ, zr148_3 hZ, zr148_4 hZ, zr148_5 hZ, zr148_6 hZ, zr148_7 hZ, zr148_8 hZ, gi, ga]
  · rw [if_neg hth]
    rw [w_bf hth] at gi
    have e0 := z_ofOrder (S := S) (u := o) (j := 0) hZ (by omega)
    rw [hR, hu.1] at e0
    have hUu := h.U _ hu2
    revert hu2 e0 hUu
    generalize s_n (R (64 + 10 * o + 0)) = u
    intro hu2 e0 hUu
    have hin := hUu.1.1
    obtain ⟨k1, k2, k3, k4⟩ := hin.ok h.B
    have g0 := z_ofUnit (S := S) (u := u) (j := 0) hZ (by omega)
    have g1 := z_ofUnit (S := S) (u := u) (j := 1) hZ (by omega)
    rw [hR, hin.1.1, ← k2] at g0
    rw [hR, hin.2.1, ← k3] at g1
    obtain ⟨S1, f1, f2, f3⟩ := z_layFar (t := s_ce (R (12 + 4 * u + 0)) (R (12 + 4 * u + 1))) hZ (by rw [hR]; exact h.B.WH) (by rw [hR]; exact k1)
    rw [hR] at f2
    dsimp only
    generalize hF : s_far R (s_ce (R (12 + 4 * u + 0)) (R (12 + 4 * u + 1))) = F at *
    have hR1 : am_i S1 139 = R := (f3.i (by omega)).trans hR
    have hZ1 := f3.Z hZ
    have gr := z_ride hZ1 hR1 h ho hs f2
    have f3' : w_I w_P3 S S1 := f3.mono (fun b hb => Or.inr hb)
    by_cases q : (s_ride R F o).2 = nI 0
    · rw [if_pos q]
      rw [q] at gr
      refine ⟨_, ?_, x_rows, f3'.tr (w_I.row (Or.inl rfl))⟩
      simp (disch := omega) only [fX11_carry, kX11_carry_51, kX11_carry_0, x_cs0, x_csi, x_csr, x_csn, x_csl, x_ret_v, x_ret_t, x_ret_n, x_tl_s, x_tl_n, x_lk0, x_lk, x_rem0, x_rem_i, x_rem_r, x_rem_l, x_rem2_0, x_rem2_i, x_rem2_r, x_rem2_l, x_pick0, x_pick_c, x_st1, x_st2, x_live, x_i, x_l, x_a, x_ild, x_lld, x_rld, x_ist, x_lst, x_rst, x_inc, x_ii, x_ll, x_li, x_cmp, x_ui, x_il, x_lti, x_idiv, x_irem, x_dup_i, x_dup_r, x_pop_i, x_pop_r, x_dupx_ir, x_dup2_ir, x_ifeq, x_iceq, x_iflt, x_iclt, x_ifge, x_icge, x_ifgt, x_icgt, x_ifle, x_icle, x_ifne, x_icne, x_ifnull_r, x_ifnull_n, x_ifnonnull_r, x_ifnonnull_n, x_sw, x_vret, x_iret, x_lret, x_zret, x_zret0, x_zret1, x_rf_s, x_rf_n, x_geti, x_getr, x_puti, x_putz, x_putr, x_ial, x_ias, x_lal, x_las, x_aal, x_aas, x_aast, x_alen, x_new, x_newa, x_copy, x_min, x_abs, x_minl, x_oinit, x_throw, x_callS0, x_callS1, x_callS2, x_callS3, x_callS4, x_callV0, x_callV1, x_callV2, x_callV3, x_callV4, x_callV5, x_retI_v, x_callI0, x_callI1, x_callI2, x_retN_v, x_callSN1, x_callSN2, x_callT0, x_callT1, x_fn, x_sl0, x_sli, x_slr, x_sll, x_ar0, x_ari, x_arr, x_arl, ↓reduceIte, Nat.reduceAdd, Nat.reduceSub, Nat.reduceMul, Nat.reduceEqDiff, Nat.reduceLeDiff, Nat.reduceLT, if_true, if_false, Nat.le_refl, and_true, true_and, and_self, reduceCtorEq, or_false, false_or, or_true, true_or, Nat.zero_le, fa_lit, nI_add, w_mul, nI_ltI, nI_leI, nI_eq, nI_clamp, nI_toInt, if_pos, if_neg, w_div, w_rem2, zk138 hZ, zk139 hZ, zk140 hZ, zk141 hZ, zk142 hZ, zk143 hZ, zk144 hZ, zk145 hZ, zk146 hZ, zk147 hZ, zk148 hZ, zk149 hZ, zk150 hZ, zk151 hZ, zl139 hZ, zl140 hZ, zl141 hZ, zl142 hZ, zl143 hZ, zl144 hZ, zl145 hZ, zl146 hZ, zl147 hZ, zl148 hZ, zl149 hZ, zl150 hZ, zl151 hZ, zr138_0 hZ, zr138_1 hZ, zr138_2 hZ, zr138_3 hZ, zr138_4 hZ, zr138_8 hZ, zr138_9 hZ, zr138_10 hZ, zr138_12 hZ, zr138_24 hZ, zr138_25 hZ, zr138_26 hZ, zr148_0 hZ, zr148_1 hZ, zr148_2 hZ, zr148_3 hZ, zr148_4 hZ, zr148_5 hZ, zr148_6 hZ, zr148_7 hZ, zr148_8 hZ, zk138 hZ1, zk139 hZ1, zk140 hZ1, zk141 hZ1, zk142 hZ1, zk143 hZ1, zk144 hZ1, zk145 hZ1, zk146 hZ1, zk147 hZ1, zk148 hZ1, zk149 hZ1, zk150 hZ1, zk151 hZ1, zl139 hZ1, zl140 hZ1, zl141 hZ1, zl142 hZ1, zl143 hZ1, zl144 hZ1, zl145 hZ1, zl146 hZ1, zl147 hZ1, zl148 hZ1, zl149 hZ1, zl150 hZ1, zl151 hZ1, zr138_0 hZ1, zr138_1 hZ1, zr138_2 hZ1, zr138_3 hZ1, zr138_4 hZ1, zr138_8 hZ1, zr138_9 hZ1, zr138_10 hZ1, zr138_12 hZ1, zr138_24 hZ1, zr138_25 hZ1, zr138_26 hZ1, zr148_0 hZ1, zr148_1 hZ1, zr148_2 hZ1, zr148_3 hZ1, zr148_4 hZ1, zr148_5 hZ1, zr148_6 hZ1, zr148_7 hZ1, zr148_8 hZ1, gi, e0, g0, g1, f1, gr]
    · rw [if_neg q]
      have h1 := h.ride (F := F) ho hs
      have gr2 := z_ride (S := am_row S1 139 (s_ride R F o).1) (R := (s_ride R F o).1) (F := F) (o := o) (f3.Z hZ) x_rows h1.1 (by rw [h1.2 4 (by omega)]; exact ho) (s_ride_st q) (fun k hk => by rw [x_rown (by omega)]; exact f2 k hk)
      rw [x_rr] at gr2
      refine ⟨_, ?_, x_rows, f3'.tr (w_I.row (Or.inl rfl))⟩
      simp (disch := omega) only [fX11_carry, kX11_carry_51, kX11_carry_0, x_cs0, x_csi, x_csr, x_csn, x_csl, x_ret_v, x_ret_t, x_ret_n, x_tl_s, x_tl_n, x_lk0, x_lk, x_rem0, x_rem_i, x_rem_r, x_rem_l, x_rem2_0, x_rem2_i, x_rem2_r, x_rem2_l, x_pick0, x_pick_c, x_st1, x_st2, x_live, x_i, x_l, x_a, x_ild, x_lld, x_rld, x_ist, x_lst, x_rst, x_inc, x_ii, x_ll, x_li, x_cmp, x_ui, x_il, x_lti, x_idiv, x_irem, x_dup_i, x_dup_r, x_pop_i, x_pop_r, x_dupx_ir, x_dup2_ir, x_ifeq, x_iceq, x_iflt, x_iclt, x_ifge, x_icge, x_ifgt, x_icgt, x_ifle, x_icle, x_ifne, x_icne, x_ifnull_r, x_ifnull_n, x_ifnonnull_r, x_ifnonnull_n, x_sw, x_vret, x_iret, x_lret, x_zret, x_zret0, x_zret1, x_rf_s, x_rf_n, x_geti, x_getr, x_puti, x_putz, x_putr, x_ial, x_ias, x_lal, x_las, x_aal, x_aas, x_aast, x_alen, x_new, x_newa, x_copy, x_min, x_abs, x_minl, x_oinit, x_throw, x_callS0, x_callS1, x_callS2, x_callS3, x_callS4, x_callV0, x_callV1, x_callV2, x_callV3, x_callV4, x_callV5, x_retI_v, x_callI0, x_callI1, x_callI2, x_retN_v, x_callSN1, x_callSN2, x_callT0, x_callT1, x_fn, x_sl0, x_sli, x_slr, x_sll, x_ar0, x_ari, x_arr, x_arl, ↓reduceIte, Nat.reduceAdd, Nat.reduceSub, Nat.reduceMul, Nat.reduceEqDiff, Nat.reduceLeDiff, Nat.reduceLT, if_true, if_false, Nat.le_refl, and_true, true_and, and_self, reduceCtorEq, or_false, false_or, or_true, true_or, Nat.zero_le, fa_lit, nI_add, w_mul, nI_ltI, nI_leI, nI_eq, nI_clamp, nI_toInt, if_pos, if_neg, w_div, w_rem2, zk138 hZ, zk139 hZ, zk140 hZ, zk141 hZ, zk142 hZ, zk143 hZ, zk144 hZ, zk145 hZ, zk146 hZ, zk147 hZ, zk148 hZ, zk149 hZ, zk150 hZ, zk151 hZ, zl139 hZ, zl140 hZ, zl141 hZ, zl142 hZ, zl143 hZ, zl144 hZ, zl145 hZ, zl146 hZ, zl147 hZ, zl148 hZ, zl149 hZ, zl150 hZ, zl151 hZ, zr138_0 hZ, zr138_1 hZ, zr138_2 hZ, zr138_3 hZ, zr138_4 hZ, zr138_8 hZ, zr138_9 hZ, zr138_10 hZ, zr138_12 hZ, zr138_24 hZ, zr138_25 hZ, zr138_26 hZ, zr148_0 hZ, zr148_1 hZ, zr148_2 hZ, zr148_3 hZ, zr148_4 hZ, zr148_5 hZ, zr148_6 hZ, zr148_7 hZ, zr148_8 hZ, zk138 hZ1, zk139 hZ1, zk140 hZ1, zk141 hZ1, zk142 hZ1, zk143 hZ1, zk144 hZ1, zk145 hZ1, zk146 hZ1, zk147 hZ1, zk148 hZ1, zk149 hZ1, zk150 hZ1, zk151 hZ1, zl139 hZ1, zl140 hZ1, zl141 hZ1, zl142 hZ1, zl143 hZ1, zl144 hZ1, zl145 hZ1, zl146 hZ1, zl147 hZ1, zl148 hZ1, zl149 hZ1, zl150 hZ1, zl151 hZ1, zr138_0 hZ1, zr138_1 hZ1, zr138_2 hZ1, zr138_3 hZ1, zr138_4 hZ1, zr138_8 hZ1, zr138_9 hZ1, zr138_10 hZ1, zr138_12 hZ1, zr138_24 hZ1, zr138_25 hZ1, zr138_26 hZ1, zr148_0 hZ1, zr148_1 hZ1, zr148_2 hZ1, zr148_3 hZ1, zr148_4 hZ1, zr148_5 hZ1, zr148_6 hZ1, zr148_7 hZ1, zr148_8 hZ1, x_k_I, x_l_I, x_r_I, x_j_I, x_n_I, x_z_I, x_i_Is, x_k_W, x_l_W, x_r_W, x_j_W, x_n_W, x_z_W, x_k_J, x_l_J, x_r_J, x_i_J, x_n_J, x_z_J, x_k_R, x_l_R, x_j_R, x_i_R, x_n_R, x_z_R, x_n_N, x_z_N, x_k_N, x_l_N, x_i_N, x_j_N, x_r_N, gi, e0, g0, g1, f1, gr, q, gr2]
/-! planned orders -/
def s_KS (R R' : Nat → Int32) : Prop := ∀ j, (j < 12 ∧ j ≠ 7 ∧ j ≠ 4 ∨ 464 ≤ j ∧ j < 544 ∨ 784 ≤ j) → R' j = R j
theorem s_KS.rf : s_KS R R := fun _ _ => rfl
theorem s_KS.tr {R Q T : Nat → Int32} (h : s_KS R Q) (k : s_KS Q T) : s_KS R T := fun j hj => (k j hj).trans (h j hj)
theorem s_K.wk {R R' : Nat → Int32} (h : s_K R R') : s_KS R R' := fun j hj => h j (by omega)
theorem s_V.sendG (h : s_V R) (hp : p < s_n (R 8)) : s_V (s_sendG p R) ∧ s_KS R (s_sendG p R) := by
  have q := h.L p hp
  unfold s_sendG
  split
  · next c =>
    refine ⟨?_, fun j hj => s_disp_n (by omega) (by omega)⟩
    rw [q.1.1]
    exact h.send c.2 q.1.2 q.2.1
  · exact ⟨h, s_KS.rf⟩
theorem z_turnNow' (hZ : w_Z S) (hR : am_i S 139 = R) : fX11_turnNow w_N [.ref 138] S = some (.inl (some (.int (R 5))), S) := by rw [z_turnNow hZ, hR]
theorem z_sendG (hZ : w_Z S) (hR : am_i S 139 = R) (h : s_V R) (hp : p < s_n (R 8)) (r : am_K) : bX11_sendPlanned_2 w_N r [(0, .ref 138), (1, .int (nI p))] [] S = r [(0, .ref 138), (1, .int (nI (p + 1)))] [] (am_row S 139 (s_sendG p R)) := by
  have a8 := h.B.2.2.2.2.2.1
  have a4 := h.B.2.2.2.1
  have gt := z_turnNow' hZ hR
  have q := h.L p hp
  have hS : am_row S 139 R = S := by rw [← hR]; exact x_row_self
  unfold s_sendG
  by_cases c1 : R (464 + 4 * p + 3) = R 5
  · by_cases c2 : s_n (R 4) < 40
    · rw [if_pos ⟨c1, c2⟩]
      have gd := z_dispatch (S := S) (no := s_n (R 4)) (x := R (464 + 4 * p + 0)) (y := R (464 + 4 * p + 1)) (z := R (464 + 4 * p + 2)) hZ (by rw [hR]; exact a4.1) c2
      rw [hR] at gd
      have c3 : ¬ nI 40 ≤ R 4 := by
        rw [a4.1, nI_leI (by omega) (by omega)]
        omega
      have c4 : ¬ R 8 ≤ nI p := by
        rw [a8.1, nI_leI (by omega) (by omega)]
        omega
      simp (disch := omega) only [bX11_sendPlanned_2, kX11_sendPlanned_75, x_cs0, x_csi, x_csr, x_csn, x_csl, x_ret_v, x_ret_t, x_ret_n, x_tl_s, x_tl_n, x_lk0, x_lk, x_rem0, x_rem_i, x_rem_r, x_rem_l, x_rem2_0, x_rem2_i, x_rem2_r, x_rem2_l, x_pick0, x_pick_c, x_st1, x_st2, x_live, x_i, x_l, x_a, x_ild, x_lld, x_rld, x_ist, x_lst, x_rst, x_inc, x_ii, x_ll, x_li, x_cmp, x_ui, x_il, x_lti, x_idiv, x_irem, x_dup_i, x_dup_r, x_pop_i, x_pop_r, x_dupx_ir, x_dup2_ir, x_ifeq, x_iceq, x_iflt, x_iclt, x_ifge, x_icge, x_ifgt, x_icgt, x_ifle, x_icle, x_ifne, x_icne, x_ifnull_r, x_ifnull_n, x_ifnonnull_r, x_ifnonnull_n, x_sw, x_vret, x_iret, x_lret, x_zret, x_zret0, x_zret1, x_rf_s, x_rf_n, x_geti, x_getr, x_puti, x_putz, x_putr, x_ial, x_ias, x_lal, x_las, x_aal, x_aas, x_aast, x_alen, x_new, x_newa, x_copy, x_min, x_abs, x_minl, x_oinit, x_throw, x_callS0, x_callS1, x_callS2, x_callS3, x_callS4, x_callV0, x_callV1, x_callV2, x_callV3, x_callV4, x_callV5, x_retI_v, x_callI0, x_callI1, x_callI2, x_retN_v, x_callSN1, x_callSN2, x_callT0, x_callT1, x_fn, x_sl0, x_sli, x_slr, x_sll, x_ar0, x_ari, x_arr, x_arl, ↓reduceIte, Nat.reduceAdd, Nat.reduceSub, Nat.reduceMul, Nat.reduceEqDiff, Nat.reduceLeDiff, Nat.reduceLT, if_true, if_false, Nat.le_refl, and_true, true_and, and_self, reduceCtorEq, or_false, false_or, or_true, true_or, Nat.zero_le, fa_lit, nI_add, w_mul, nI_ltI, nI_leI, nI_eq, nI_clamp, nI_toInt, if_pos, if_neg, w_div, w_rem2, zk138 hZ, zk139 hZ, zk140 hZ, zk141 hZ, zk142 hZ, zk143 hZ, zk144 hZ, zk145 hZ, zk146 hZ, zk147 hZ, zk148 hZ, zk149 hZ, zk150 hZ, zk151 hZ, zl139 hZ, zl140 hZ, zl141 hZ, zl142 hZ, zl143 hZ, zl144 hZ, zl145 hZ, zl146 hZ, zl147 hZ, zl148 hZ, zl149 hZ, zl150 hZ, zl151 hZ, zr138_0 hZ, zr138_1 hZ, zr138_2 hZ, zr138_3 hZ, zr138_4 hZ, zr138_8 hZ, zr138_9 hZ, zr138_10 hZ, zr138_12 hZ, zr138_24 hZ, zr138_25 hZ, zr138_26 hZ, zr148_0 hZ, zr148_1 hZ, zr148_2 hZ, zr148_3 hZ, zr148_4 hZ, zr148_5 hZ, zr148_6 hZ, zr148_7 hZ, zr148_8 hZ, x_k_I, x_l_I, x_r_I, x_j_I, x_n_I, x_z_I, x_i_Is, x_k_W, x_l_W, x_r_W, x_j_W, x_n_W, x_z_W, x_k_J, x_l_J, x_r_J, x_i_J, x_n_J, x_z_J, x_k_R, x_l_R, x_j_R, x_i_R, x_n_R, x_z_R, x_n_N, x_z_N, x_k_N, x_l_N, x_i_N, x_j_N, x_r_N, hR, gt, z_planAt, c1, c3, c4, gd]
    · rw [if_neg (fun w => c2 w.2), hS]
      have c3 : nI 40 ≤ R 4 := by
        rw [a4.1, nI_leI (by omega) (by omega)]
        omega
      have c4 : ¬ R 8 ≤ nI p := by
        rw [a8.1, nI_leI (by omega) (by omega)]
        omega
      simp (disch := omega) only [bX11_sendPlanned_2, kX11_sendPlanned_75, x_cs0, x_csi, x_csr, x_csn, x_csl, x_ret_v, x_ret_t, x_ret_n, x_tl_s, x_tl_n, x_lk0, x_lk, x_rem0, x_rem_i, x_rem_r, x_rem_l, x_rem2_0, x_rem2_i, x_rem2_r, x_rem2_l, x_pick0, x_pick_c, x_st1, x_st2, x_live, x_i, x_l, x_a, x_ild, x_lld, x_rld, x_ist, x_lst, x_rst, x_inc, x_ii, x_ll, x_li, x_cmp, x_ui, x_il, x_lti, x_idiv, x_irem, x_dup_i, x_dup_r, x_pop_i, x_pop_r, x_dupx_ir, x_dup2_ir, x_ifeq, x_iceq, x_iflt, x_iclt, x_ifge, x_icge, x_ifgt, x_icgt, x_ifle, x_icle, x_ifne, x_icne, x_ifnull_r, x_ifnull_n, x_ifnonnull_r, x_ifnonnull_n, x_sw, x_vret, x_iret, x_lret, x_zret, x_zret0, x_zret1, x_rf_s, x_rf_n, x_geti, x_getr, x_puti, x_putz, x_putr, x_ial, x_ias, x_lal, x_las, x_aal, x_aas, x_aast, x_alen, x_new, x_newa, x_copy, x_min, x_abs, x_minl, x_oinit, x_throw, x_callS0, x_callS1, x_callS2, x_callS3, x_callS4, x_callV0, x_callV1, x_callV2, x_callV3, x_callV4, x_callV5, x_retI_v, x_callI0, x_callI1, x_callI2, x_retN_v, x_callSN1, x_callSN2, x_callT0, x_callT1, x_fn, x_sl0, x_sli, x_slr, x_sll, x_ar0, x_ari, x_arr, x_arl, ↓reduceIte, Nat.reduceAdd, Nat.reduceSub, Nat.reduceMul, Nat.reduceEqDiff, Nat.reduceLeDiff, Nat.reduceLT, if_true, if_false, Nat.le_refl, and_true, true_and, and_self, reduceCtorEq, or_false, false_or, or_true, true_or, Nat.zero_le, fa_lit, nI_add, w_mul, nI_ltI, nI_leI, nI_eq, nI_clamp, nI_toInt, if_pos, if_neg, w_div, w_rem2, zk138 hZ, zk139 hZ, zk140 hZ, zk141 hZ, zk142 hZ, zk143 hZ, zk144 hZ, zk145 hZ, zk146 hZ, zk147 hZ, zk148 hZ, zk149 hZ, zk150 hZ, zk151 hZ, zl139 hZ, zl140 hZ, zl141 hZ, zl142 hZ, zl143 hZ, zl144 hZ, zl145 hZ, zl146 hZ, zl147 hZ, zl148 hZ, zl149 hZ, zl150 hZ, zl151 hZ, zr138_0 hZ, zr138_1 hZ, zr138_2 hZ, zr138_3 hZ, zr138_4 hZ, zr138_8 hZ, zr138_9 hZ, zr138_10 hZ, zr138_12 hZ, zr138_24 hZ, zr138_25 hZ, zr138_26 hZ, zr148_0 hZ, zr148_1 hZ, zr148_2 hZ, zr148_3 hZ, zr148_4 hZ, zr148_5 hZ, zr148_6 hZ, zr148_7 hZ, zr148_8 hZ, x_k_I, x_l_I, x_r_I, x_j_I, x_n_I, x_z_I, x_i_Is, x_k_W, x_l_W, x_r_W, x_j_W, x_n_W, x_z_W, x_k_J, x_l_J, x_r_J, x_i_J, x_n_J, x_z_J, x_k_R, x_l_R, x_j_R, x_i_R, x_n_R, x_z_R, x_n_N, x_z_N, x_k_N, x_l_N, x_i_N, x_j_N, x_r_N, hR, gt, z_planAt, c1, c3, c4]
  · rw [if_neg (fun w => c1 w.1), hS]
    have c4 : ¬ R 8 ≤ nI p := by
      rw [a8.1, nI_leI (by omega) (by omega)]
      omega
    simp (disch := omega) only [bX11_sendPlanned_2, kX11_sendPlanned_75, x_cs0, x_csi, x_csr, x_csn, x_csl, x_ret_v, x_ret_t, x_ret_n, x_tl_s, x_tl_n, x_lk0, x_lk, x_rem0, x_rem_i, x_rem_r, x_rem_l, x_rem2_0, x_rem2_i, x_rem2_r, x_rem2_l, x_pick0, x_pick_c, x_st1, x_st2, x_live, x_i, x_l, x_a, x_ild, x_lld, x_rld, x_ist, x_lst, x_rst, x_inc, x_ii, x_ll, x_li, x_cmp, x_ui, x_il, x_lti, x_idiv, x_irem, x_dup_i, x_dup_r, x_pop_i, x_pop_r, x_dupx_ir, x_dup2_ir, x_ifeq, x_iceq, x_iflt, x_iclt, x_ifge, x_icge, x_ifgt, x_icgt, x_ifle, x_icle, x_ifne, x_icne, x_ifnull_r, x_ifnull_n, x_ifnonnull_r, x_ifnonnull_n, x_sw, x_vret, x_iret, x_lret, x_zret, x_zret0, x_zret1, x_rf_s, x_rf_n, x_geti, x_getr, x_puti, x_putz, x_putr, x_ial, x_ias, x_lal, x_las, x_aal, x_aas, x_aast, x_alen, x_new, x_newa, x_copy, x_min, x_abs, x_minl, x_oinit, x_throw, x_callS0, x_callS1, x_callS2, x_callS3, x_callS4, x_callV0, x_callV1, x_callV2, x_callV3, x_callV4, x_callV5, x_retI_v, x_callI0, x_callI1, x_callI2, x_retN_v, x_callSN1, x_callSN2, x_callT0, x_callT1, x_fn, x_sl0, x_sli, x_slr, x_sll, x_ar0, x_ari, x_arr, x_arl, ↓reduceIte, Nat.reduceAdd, Nat.reduceSub, Nat.reduceMul, Nat.reduceEqDiff, Nat.reduceLeDiff, Nat.reduceLT, if_true, if_false, Nat.le_refl, and_true, true_and, and_self, reduceCtorEq, or_false, false_or, or_true, true_or, Nat.zero_le, fa_lit, nI_add, w_mul, nI_ltI, nI_leI, nI_eq, nI_clamp, nI_toInt, if_pos, if_neg, w_div, w_rem2, zk138 hZ, zk139 hZ, zk140 hZ, zk141 hZ, zk142 hZ, zk143 hZ, zk144 hZ, zk145 hZ, zk146 hZ, zk147 hZ, zk148 hZ, zk149 hZ, zk150 hZ, zk151 hZ, zl139 hZ, zl140 hZ, zl141 hZ, zl142 hZ, zl143 hZ, zl144 hZ, zl145 hZ, zl146 hZ, zl147 hZ, zl148 hZ, zl149 hZ, zl150 hZ, zl151 hZ, zr138_0 hZ, zr138_1 hZ, zr138_2 hZ, zr138_3 hZ, zr138_4 hZ, zr138_8 hZ, zr138_9 hZ, zr138_10 hZ, zr138_12 hZ, zr138_24 hZ, zr138_25 hZ, zr138_26 hZ, zr148_0 hZ, zr148_1 hZ, zr148_2 hZ, zr148_3 hZ, zr148_4 hZ, zr148_5 hZ, zr148_6 hZ, zr148_7 hZ, zr148_8 hZ, x_k_I, x_l_I, x_r_I, x_j_I, x_n_I, x_z_I, x_i_Is, x_k_W, x_l_W, x_r_W, x_j_W, x_n_W, x_z_W, x_k_J, x_l_J, x_r_J, x_i_J, x_n_J, x_z_J, x_k_R, x_l_R, x_j_R, x_i_R, x_n_R, x_z_R, x_n_N, x_z_N, x_k_N, x_l_N, x_i_N, x_j_N, x_r_N, hR, gt, z_planAt, c1, c4]
theorem z_sendPlanned (hZ : w_Z S) (hR : am_i S 139 = R) (h : s_V R) : ∃ S', fX11_sendPlanned w_N [.ref 138] S = some (.inl none, S') ∧ am_i S' 139 = s_p1 R ∧ w_I w_P3 S S' ∧ s_V (s_p1 R) ∧ s_KS R (s_p1 R) := by
  have a8 := h.B.2.2.2.2.2.1
  obtain ⟨S', f1, f2, f3, f4⟩ := w_rowL (body := bX11_sendPlanned_2 w_N) (lvf := fun i => [(0, .ref 138), (1, .int (nI i))]) (n := s_n (R 8)) (g := s_sendG) (inv := fun _ Q => s_V Q ∧ s_KS R Q) (res := fun S => some (.inl none, S))
    (fun i S r hi hZ hI => by
      have e8 : am_i S 139 8 = R 8 := hI.2 8 (by omega)
      have hi2 : i < s_n (am_i S 139 8) := by rw [e8]; exact hi
      have hv := hI.1.sendG hi2
      exact ⟨_, z_sendG hZ rfl hI.1 hi2 r, x_rows, w_I.row (Or.inl rfl), hv.1, hI.2.tr hv.2⟩)
    (fun S r hZ hI => by
      have e8 : am_i S 139 8 = nI (s_n (R 8)) := by rw [hI.2 8 (by omega)]; exact a8.1
      simp (disch := omega) only [bX11_sendPlanned_2, x_cs0, x_csi, x_csr, x_csn, x_csl, x_ret_v, x_ret_t, x_ret_n, x_tl_s, x_tl_n, x_lk0, x_lk, x_rem0, x_rem_i, x_rem_r, x_rem_l, x_rem2_0, x_rem2_i, x_rem2_r, x_rem2_l, x_pick0, x_pick_c, x_st1, x_st2, x_live, x_i, x_l, x_a, x_ild, x_lld, x_rld, x_ist, x_lst, x_rst, x_inc, x_ii, x_ll, x_li, x_cmp, x_ui, x_il, x_lti, x_idiv, x_irem, x_dup_i, x_dup_r, x_pop_i, x_pop_r, x_dupx_ir, x_dup2_ir, x_ifeq, x_iceq, x_iflt, x_iclt, x_ifge, x_icge, x_ifgt, x_icgt, x_ifle, x_icle, x_ifne, x_icne, x_ifnull_r, x_ifnull_n, x_ifnonnull_r, x_ifnonnull_n, x_sw, x_vret, x_iret, x_lret, x_zret, x_zret0, x_zret1, x_rf_s, x_rf_n, x_geti, x_getr, x_puti, x_putz, x_putr, x_ial, x_ias, x_lal, x_las, x_aal, x_aas, x_aast, x_alen, x_new, x_newa, x_copy, x_min, x_abs, x_minl, x_oinit, x_throw, x_callS0, x_callS1, x_callS2, x_callS3, x_callS4, x_callV0, x_callV1, x_callV2, x_callV3, x_callV4, x_callV5, x_retI_v, x_callI0, x_callI1, x_callI2, x_retN_v, x_callSN1, x_callSN2, x_callT0, x_callT1, x_fn, x_sl0, x_sli, x_slr, x_sll, x_ar0, x_ari, x_arr, x_arl, ↓reduceIte, Nat.reduceAdd, Nat.reduceSub, Nat.reduceMul, Nat.reduceEqDiff, Nat.reduceLeDiff, Nat.reduceLT, if_true, if_false, Nat.le_refl, and_true, true_and, and_self, reduceCtorEq, or_false, false_or, or_true, true_or, Nat.zero_le, fa_lit, nI_add, w_mul, nI_ltI, nI_leI, nI_eq, nI_clamp, nI_toInt, if_pos, if_neg, w_div, w_rem2, zk138 hZ, zk139 hZ, zk140 hZ, zk141 hZ, zk142 hZ, zk143 hZ, zk144 hZ, zk145 hZ, zk146 hZ, zk147 hZ, zk148 hZ, zk149 hZ, zk150 hZ, zk151 hZ, zl139 hZ, zl140 hZ, zl141 hZ, zl142 hZ, zl143 hZ, zl144 hZ, zl145 hZ, zl146 hZ, zl147 hZ, zl148 hZ, zl149 hZ, zl150 hZ, zl151 hZ, zr138_0 hZ, zr138_1 hZ, zr138_2 hZ, zr138_3 hZ, zr138_4 hZ, zr138_8 hZ, zr138_9 hZ, zr138_10 hZ, zr138_12 hZ, zr138_24 hZ, zr138_25 hZ, zr138_26 hZ, zr148_0 hZ, zr148_1 hZ, zr148_2 hZ, zr148_3 hZ, zr148_4 hZ, zr148_5 hZ, zr148_6 hZ, zr148_7 hZ, zr148_8 hZ, e8]) w_N 0 S (by show s_n (R 8) - 0 < 5000; omega) (Nat.zero_le _) hZ ⟨by rw [hR]; exact h, by rw [hR]; exact s_KS.rf⟩
  rw [hR] at f2 f4
  refine ⟨S', ?_, f2, f3, f4.1, f4.2⟩
  simp (disch := omega) only [fX11_sendPlanned, kX11_sendPlanned_75, kX11_sendPlanned_0, kX11_sendPlanned_2, x_cs0, x_csi, x_csr, x_csn, x_csl, x_ret_v, x_ret_t, x_ret_n, x_tl_s, x_tl_n, x_lk0, x_lk, x_rem0, x_rem_i, x_rem_r, x_rem_l, x_rem2_0, x_rem2_i, x_rem2_r, x_rem2_l, x_pick0, x_pick_c, x_st1, x_st2, x_live, x_i, x_l, x_a, x_ild, x_lld, x_rld, x_ist, x_lst, x_rst, x_inc, x_ii, x_ll, x_li, x_cmp, x_ui, x_il, x_lti, x_idiv, x_irem, x_dup_i, x_dup_r, x_pop_i, x_pop_r, x_dupx_ir, x_dup2_ir, x_ifeq, x_iceq, x_iflt, x_iclt, x_ifge, x_icge, x_ifgt, x_icgt, x_ifle, x_icle, x_ifne, x_icne, x_ifnull_r, x_ifnull_n, x_ifnonnull_r, x_ifnonnull_n, x_sw, x_vret, x_iret, x_lret, x_zret, x_zret0, x_zret1, x_rf_s, x_rf_n, x_geti, x_getr, x_puti, x_putz, x_putr, x_ial, x_ias, x_lal, x_las, x_aal, x_aas, x_aast, x_alen, x_new, x_newa, x_copy, x_min, x_abs, x_minl, x_oinit, x_throw, x_callS0, x_callS1, x_callS2, x_callS3, x_callS4, x_callV0, x_callV1, x_callV2, x_callV3, x_callV4, x_callV5, x_retI_v, x_callI0, x_callI1, x_callI2, x_retN_v, x_callSN1, x_callSN2, x_callT0, x_callT1, x_fn, x_sl0, x_sli, x_slr, x_sll, x_ar0, x_ari, x_arr, x_arl, ↓reduceIte, Nat.reduceAdd, Nat.reduceSub, Nat.reduceMul, Nat.reduceEqDiff, Nat.reduceLeDiff, Nat.reduceLT, if_true, if_false, Nat.le_refl, and_true, true_and, and_self, reduceCtorEq, or_false, false_or, or_true, true_or, Nat.zero_le, fa_lit, nI_add, w_mul, nI_ltI, nI_leI, nI_eq, nI_clamp, nI_toInt, if_pos, if_neg, w_div, w_rem2, f1]
end Z11
