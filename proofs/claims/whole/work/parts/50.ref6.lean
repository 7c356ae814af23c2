theorem x_row_self {S : am_S} {a : Nat} : am_row S a (am_i S a) = S := by
  have e : ∀ f : Nat → Nat → Int32, va_up f a (f a) = f := fun f => funext fun b => by
    by_cases h : b = a
    · rw [h, va_up_self]
    · rw [va_up_ne _ _ h]
  show (S.1, S.2.1, S.2.2.1, S.2.2.2.1, va_up (am_i S) a (am_i S a), S.2.2.2.2.2) = S
  rw [e]
  rfl
section Z10
variable {S : am_S} {x y z X Y : Int32} {i j o u n w hh c d b m t p np ne no : Nat} {R F : Nat → Int32}
theorem s_watcher_sp : (s_watcher R np x y t = -nI 1 ∧ ∀ p, p < np → ¬ (s_near R p x y ∧ s_wt R p t)) ∨ ∃ p, p < np ∧ (s_near R p x y ∧ s_wt R p t) ∧ s_watcher R np x y t = nI p := by
  unfold s_watcher
  rcases s_fst_sp (p := fun p => s_near R p x y ∧ s_wt R p t) np 0 with ⟨h1, h2⟩ | ⟨j, h1, h2, h3, h4⟩
  · exact Or.inl ⟨h1, fun p hp => h2 p (Nat.zero_le _) (by omega)⟩
  · exact Or.inr ⟨j, by omega, h3, h4⟩
theorem nI_nm1 (h : n < 2 ^ 31) : ¬ (nI n : Int32) = -nI 1 := fun q => by
  have := congrArg Int32.toInt q
  rw [nI_toInt h, w_m1] at this
  omega
theorem s_at_3 : s_at R o b (64 + 10 * o + 3) = R (64 + 10 * o + 3) := by
  unfold s_at
  simp (disch := omega) only [s_up_n]
theorem s_at_n {k : Nat} (h : k < 64 + 10 * o ∨ 64 + 10 * o + 10 ≤ k) : s_at R o b k = R k := by
  unfold s_at
  simp (disch := omega) only [s_up_n]
theorem s_V.catch (h : s_V R) (hp : p < 4) : s_V (va_up R (36 + 7 * p + 6) x) := h.cong (fun j hj => s_up_n (by omega))
theorem s_V.ride1 (h : s_V R) (ho : o < s_n (R 4)) (hs : R (64 + 10 * o + 3) = nI 0) (hb : s_fr R b) : s_V (s_ride1 R o b) ∧ s_K R (s_ride1 R o b) := by
  have a4 := h.B.2.2.2.1.2
  have h1 := h.go ho hb
  have e4 : s_at R o b 4 = R 4 := s_at_n (by omega)
  have e3 : s_at R o b (64 + 10 * o + 3) = nI 0 := by rw [s_at_3, hs]
  have kk : s_K R (s_at R o b) := fun j hj => s_at_n (by omega)
  unfold s_ride1
  dsimp only
  generalize s_at R o b = R1 at *
  have a3 := h1.B.2.2.1.2
  have ho1 : o < s_n (R1 4) := by rw [e4]; exact ho
  rcases s_watcher_sp (R := R1) (np := s_n (R1 3)) (x := nI (b % 12)) (y := nI (b / 12)) (t := s_n (R1 5)) with ⟨k1, k2⟩ | ⟨p, k1, k2, k3⟩
  · rw [if_pos k1]
    split
    · exact ⟨(h1.arrive ho1 e3).1, kk.tr (h1.arrive ho1 e3).2⟩
    · exact ⟨h1, kk⟩
  · rw [k3, if_neg (nI_nm1 (by omega)), w_snI (by omega)]
    unfold s_become
    have g1 : o < s_n (va_up R1 (36 + 7 * p + 6) (R1 (36 + 7 * p + 6) + nI 1) 4) := by
      rw [s_up_n (by omega)]
      exact ho1
    have g2 : s_wg (va_up R1 (36 + 7 * p + 6) (R1 (36 + 7 * p + 6) + nI 1) (64 + 10 * o + 3)) < 2 := by
      rw [s_up_n (by omega), e3, s_wg_0]
      omega
    exact ⟨s_V.fin (h1.catch (by omega)) g1 g2 (by omega) (by omega), kk.tr ((s_K.up (by omega)).tr (s_K.bec ((h1.catch (by omega)).room g1 g2) (by omega)))⟩
theorem s_st_fr (hs : s_st R F c 4 0 = some (d, b)) : s_fr R b := s_nb_fr (s_st_sp 4 0 hs).2.2.1
theorem s_V.ride (h : s_V R) (ho : o < s_n (R 4)) (hs : R (64 + 10 * o + 3) = nI 0) : s_V (s_ride R F o).1 ∧ s_K R (s_ride R F o).1 := by
  unfold s_ride
  split
  · exact ⟨h, s_K.rf⟩
  · next q => exact h.ride1 ho hs (s_st_fr q)
theorem z_ride (hZ : w_Z S) (hR : am_i S 139 = R) (h : s_V R) (ho : o < s_n (R 4)) (hs : R (64 + 10 * o + 3) = nI 0) (hF : ∀ k, k < 144 → am_i S 144 k = F k) : fX11_ride w_N [.ref 138, .int (nI o)] S = some (.inl (some (.int (s_ride R F o).2)), am_row S 139 (s_ride R F o).1) := by
  have a2 := h.B.2.1.2
  have a4 := h.B.2.2.2.1.2
  have hin := (h.O o ho).1.2.2.2.2.2
  obtain ⟨k1, k2, k3, k4⟩ := hin.ok h.B
  have H := h.B.WH
  have e7 := z_ofOrder (S := S) (u := o) (j := 7) hZ (by omega)
  have e8 := z_ofOrder (S := S) (u := o) (j := 8) hZ (by omega)
  rw [hR, hin.1.1, ← k2] at e7
  rw [hR, hin.2.1, ← k3] at e8
  have r7 : R (64 + 10 * o + 7) = nI (s_ce (R (64 + 10 * o + 7)) (R (64 + 10 * o + 8)) % 12) := by rw [k2]; exact hin.1.1
  have r8 : R (64 + 10 * o + 8) = nI (s_ce (R (64 + 10 * o + 7)) (R (64 + 10 * o + 8)) / 12) := by rw [k3]; exact hin.2.1
  have st := z_stepFrom hZ hR H k1 hF
  unfold s_ride
  generalize s_ce (R (64 + 10 * o + 7)) (R (64 + 10 * o + 8)) = c at *
  split
  · next q =>
    rw [q] at st
    have st : fX11_stepFrom w_N [.ref 138, .int (nI (c % 12)), .int (nI (c / 12))] S = some (.inl (some (.int (-nI 1))), S) := st
    have hS : am_row S 139 R = S := by rw [← hR]; exact x_row_self
    rw [hS]
    simp (disch := omega) only [fX11_ride, kX11_ride_158, kX11_ride_144, kX11_ride_0, x_cs0, x_csi, x_csr, x_csn, x_csl, x_ret_v, x_ret_t, x_ret_n, x_tl_s, x_tl_n, x_lk0, x_lk, x_rem0, x_rem_i, x_rem_r, x_rem_l, x_rem2_0, x_rem2_i, x_rem2_r, x_rem2_l, x_pick0, x_pick_c, x_st1, x_st2, x_live, x_i, x_l, x_a, x_ild, x_lld, x_rld, x_ist, x_lst, x_rst, x_inc, x_ii, x_ll, x_li, x_cmp, x_ui, x_il, x_lti, x_idiv, x_irem, x_dup_i, x_dup_r, x_pop_i, x_pop_r, x_dupx_ir, x_dup2_ir, x_ifeq, x_iceq, x_iflt, x_iclt, x_ifge, x_icge, x_ifgt, x_icgt, x_ifle, x_icle, x_ifne, x_icne, x_ifnull_r, x_ifnull_n, x_ifnonnull_r, x_ifnonnull_n, x_sw, x_vret, x_iret, x_lret, x_zret, x_zret0, x_zret1, x_rf_s, x_rf_n, x_geti, x_getr, x_puti, x_putz, x_putr, x_ial, x_ias, x_lal, x_las, x_aal, x_aas, x_aast, x_alen, x_new, x_newa, x_copy, x_min, x_abs, x_minl, x_oinit, x_throw, x_callS0, x_callS1, x_callS2, x_callS3, x_callS4, x_callV0, x_callV1, x_callV2, x_callV3, x_callV4, x_callV5, x_retI_v, x_callI0, x_callI1, x_callI2, x_retN_v, x_callSN1, x_callSN2, x_callT0, x_callT1, x_fn, x_sl0, x_sli, x_slr, x_sll, x_ar0, x_ari, x_arr, x_arl, ↓reduceIte, Nat.reduceAdd, Nat.reduceSub, Nat.reduceMul, Nat.reduceEqDiff, Nat.reduceLeDiff, Nat.reduceLT, if_true, if_false, Nat.le_refl, and_true, true_and, and_self, reduceCtorEq, or_false, false_or, or_true, true_or, Nat.zero_le, fa_lit, nI_add, w_mul, nI_ltI, nI_leI, nI_eq, nI_clamp, nI_toInt, if_pos, if_neg, w_div, w_rem2, zk138 hZ, zk139 hZ, zk140 hZ, zk141 hZ, zk142 hZ, zk143 hZ, zk144 hZ, zk145 hZ, zk146 hZ, zk147 hZ, zk148 hZ, zk149 hZ, zk150 hZ, zk151 hZ, zl139 hZ, zl140 hZ, zl141 hZ, zl142 hZ, zl143 hZ, zl144 hZ, zl145 hZ, zl146 hZ, zl147 hZ, zl148 hZ, zl149 hZ, zl150 hZ, zl151 hZ, zr138_0 hZ, zr138_1 hZ, zr138_2 hZ, zr138_3 hZ, zr138_4 hZ, zr138_8 hZ, zr138_9 hZ, zr138_10 hZ, zr138_12 hZ, zr138_24 hZ, zr138_25 hZ, zr138_26 hZ, zr148_0 hZ, zr148_1 hZ, zr148_2 hZ, zr148_3 hZ, zr148_4 hZ, zr148_5 hZ, zr148_6 hZ, zr148_7 hZ, zr148_8 hZ, e7, e8, st]
  · next d b q =>
    rw [q] at st
    have st : fX11_stepFrom w_N [.ref 138, .int (nI (c % 12)), .int (nI (c / 12))] S = some (.inl (some (.int (nI d))), S) := st
    obtain ⟨-, hd, hnb, -⟩ := s_st_sp 4 0 q
    have hfr := s_nb_fr hnb
    have hmd := nI_nm1 (n := d) (by omega)
    obtain ⟨bx, bz, e1, e2, ⟨hn, hnb2⟩ | ⟨i, j, ex, ey, hi, hj, hnb2⟩⟩ := z_besid (d := d) H (by omega) k1
    · rw [hnb2] at hnb
      cases hnb
    · rw [hnb2] at hnb
      split at hnb
      · have hB0 : s_w R < 13 := h.B.1.1.2
        have hB1 : s_h R < 13 := h.B.1.2.2.1.2
        have eb : b = 12 * j + i := by cases hnb; rfl
        have ei : i = b % 12 := by omega
        have ej : j = b / 12 := by omega
        have h1 := h.go ho hfr
        have w4 : s_at R o b 4 = R 4 := s_at_n (by omega)
        have w3 : s_at R o b (64 + 10 * o + 3) = nI 0 := by rw [s_at_3, hs]
        have w0 : s_at R o b (64 + 10 * o + 7) = nI i := by unfold s_at; simp (disch := omega) only [s_up_n, s_up_s]; rw [ei]
        have w1 : s_at R o b (64 + 10 * o + 8) = nI j := by unfold s_at; simp (disch := omega) only [s_up_n, s_up_s]; rw [ej]
        have hfold : va_up (va_up (va_up R (64 + 10 * o + 7) (nI i)) (64 + 10 * o + 8) (nI j)) (64 + 10 * o + 9) (R (64 + 10 * o + 9) + nI 1) = s_at R o b := by unfold s_at; rw [ei, ej]
        unfold s_ride1
        rw [← ei, ← ej]
        dsimp only
        generalize s_at R o b = R1 at *
        have ho1 : o < s_n (R1 4) := by rw [w4]; exact ho
        have a3 := h1.B.2.2.1.2
        have a5 := h1.B.2.2.2.2.2.2.1
        have q1 := (h1.O o ho1).1
        have q2 := h1.B.2.1.2
        have g7 := z_ofOrder (S := am_row S 139 R1) (u := o) (j := 7) hZ (by omega)
        have g8 := z_ofOrder (S := am_row S 139 R1) (u := o) (j := 8) hZ (by omega)
        have g3 := z_ofOrder (S := am_row S 139 R1) (u := o) (j := 3) hZ (by omega)
        rw [x_rows] at g7 g8 g3
        rw [w0] at g7
        rw [w1] at g8
        rw [w3] at g3
        have gt := z_turnNow (S := am_row S 139 R1) hZ
        rw [x_rows, a5.1] at gt
        have gw := z_watcher (S := am_row S 139 R1) (x := nI i) (y := nI j) (np := s_n (R1 3)) (t := s_n (R1 5)) hZ (by rw [x_rows]; exact h1.B.2.2.1.1) (by rw [x_rows]; exact h1.PP) (by omega)
        rw [x_rows] at gw
        have gi := z_isThere (S := am_row S 139 R1) (R := R1) (o := o) hZ x_rows (by omega) q1.1.1 (by have := q1.1.2; omega)
        rcases s_watcher_sp (R := R1) (np := s_n (R1 3)) (x := nI i) (y := nI j) (t := s_n (R1 5)) with ⟨m1, m2⟩ | ⟨p, m1, m2, m3⟩
        · rw [m1] at gw
          rw [if_pos m1]
          by_cases hth : s_there R1 o
          · rw [w_bt hth] at gi
            rw [if_pos hth]
            have ga := z_arrive (S := am_row S 139 R1) hZ x_rows h1 ho1 w3
            rw [x_rr] at ga
            have gz := z_ofOrder (S := am_row S 139 (s_arrive R1 o)) (u := o) (j := 3) hZ (by omega)
            rw [x_rows] at gz
            by_cases hst : s_arrive R1 o (64 + 10 * o + 3) = nI 0
            · simp (disch := omega) only [fX11_ride, kX11_ride_158, kX11_ride_144, kX11_ride_0, x_cs0, x_csi, x_csr, x_csn, x_csl, x_ret_v, x_ret_t, x_ret_n, x_tl_s, x_tl_n, x_lk0, x_lk, x_rem0, x_rem_i, x_rem_r, x_rem_l, x_rem2_0, x_rem2_i, x_rem2_r, x_rem2_l, x_pick0, x_pick_c, x_st1, x_st2, x_live, x_i, x_l, x_a, x_ild, x_lld, x_rld, x_ist, x_lst, x_rst, x_inc, x_ii, x_ll, x_li, x_cmp, x_ui, x_il, x_lti, x_idiv, x_irem, x_dup_i, x_dup_r, x_pop_i, x_pop_r, x_dupx_ir, x_dup2_ir, x_ifeq, x_iceq, x_iflt, x_iclt, x_ifge, x_icge, x_ifgt, x_icgt, x_ifle, x_icle, x_ifne, x_icne, x_ifnull_r, x_ifnull_n, x_ifnonnull_r, x_ifnonnull_n, x_sw, x_vret, x_iret, x_lret, x_zret, x_zret0, x_zret1, x_rf_s, x_rf_n, x_geti, x_getr, x_puti, x_putz, x_putr, x_ial, x_ias, x_lal, x_las, x_aal, x_aas, x_aast, x_alen, x_new, x_newa, x_copy, x_min, x_abs, x_minl, x_oinit, x_throw, x_callS0, x_callS1, x_callS2, x_callS3, x_callS4, x_callV0, x_callV1, x_callV2, x_callV3, x_callV4, x_callV5, x_retI_v, x_callI0, x_callI1, x_callI2, x_retN_v, x_callSN1, x_callSN2, x_callT0, x_callT1, x_fn, x_sl0, x_sli, x_slr, x_sll, x_ar0, x_ari, x_arr, x_arl, ↓reduceIte, Nat.reduceAdd, Nat.reduceSub, Nat.reduceMul, Nat.reduceEqDiff, Nat.reduceLeDiff, Nat.reduceLT, if_true, if_false, Nat.le_refl, and_true, true_and, and_self, reduceCtorEq, or_false, false_or, or_true, true_or, Nat.zero_le, fa_lit, nI_add, w_mul, nI_ltI, nI_leI, nI_eq, nI_clamp, nI_toInt, if_pos, if_neg, w_div, w_rem2, zk138 hZ, zk139 hZ, zk140 hZ, zk141 hZ, zk142 hZ, zk143 hZ, zk144 hZ, zk145 hZ, zk146 hZ, zk147 hZ, zk148 hZ, zk149 hZ, zk150 hZ, zk151 hZ, zl139 hZ, zl140 hZ, zl141 hZ, zl142 hZ, zl143 hZ, zl144 hZ, zl145 hZ, zl146 hZ, zl147 hZ, zl148 hZ, zl149 hZ, zl150 hZ, zl151 hZ, zr138_0 hZ, zr138_1 hZ, zr138_2 hZ, zr138_3 hZ, zr138_4 hZ, zr138_8 hZ, zr138_9 hZ, zr138_10 hZ, zr138_12 hZ, zr138_24 hZ, zr138_25 hZ, zr138_26 hZ, zr148_0 hZ, zr148_1 hZ, zr148_2 hZ, zr148_3 hZ, zr148_4 hZ, zr148_5 hZ, zr148_6 hZ, zr148_7 hZ, zr148_8 hZ, x_k_I, x_l_I, x_r_I, x_j_I, x_n_I, x_z_I, x_i_Is, x_k_W, x_l_W, x_r_W, x_j_W, x_n_W, x_z_W, x_k_J, x_l_J, x_r_J, x_i_J, x_n_J, x_z_J, x_k_R, x_l_R, x_j_R, x_i_R, x_n_R, x_z_R, x_n_N, x_z_N, x_k_N, x_l_N, x_i_N, x_j_N, x_r_N, x_rowput, x_rr, x_rows, x_rown, s_up_s, s_up_n, hR, e7, e8, st, hmd, e1, e2, z_orderAt, r7, r8, ex, ey, hfold, g7, g8, gt, gw, gi, ga, gz, hst, w_b]
            · simp (disch := omega) only [fX11_ride, kX11_ride_158, kX11_ride_144, kX11_ride_0, x_cs0, x_csi, x_csr, x_csn, x_csl, x_ret_v, x_ret_t, x_ret_n, x_tl_s, x_tl_n, x_lk0, x_lk, x_rem0, x_rem_i, x_rem_r, x_rem_l, x_rem2_0, x_rem2_i, x_rem2_r, x_rem2_l, x_pick0, x_pick_c, x_st1, x_st2, x_live, x_i, x_l, x_a, x_ild, x_lld, x_rld, x_ist, x_lst, x_rst, x_inc, x_ii, x_ll, x_li, x_cmp, x_ui, x_il, x_lti, x_idiv, x_irem, x_dup_i, x_dup_r, x_pop_i, x_pop_r, x_dupx_ir, x_dup2_ir, x_ifeq, x_iceq, x_iflt, x_iclt, x_ifge, x_icge, x_ifgt, x_icgt, x_ifle, x_icle, x_ifne, x_icne, x_ifnull_r, x_ifnull_n, x_ifnonnull_r, x_ifnonnull_n, x_sw, x_vret, x_iret, x_lret, x_zret, x_zret0, x_zret1, x_rf_s, x_rf_n, x_geti, x_getr, x_puti, x_putz, x_putr, x_ial, x_ias, x_lal, x_las, x_aal, x_aas, x_aast, x_alen, x_new, x_newa, x_copy, x_min, x_abs, x_minl, x_oinit, x_throw, x_callS0, x_callS1, x_callS2, x_callS3, x_callS4, x_callV0, x_callV1, x_callV2, x_callV3, x_callV4, x_callV5, x_retI_v, x_callI0, x_callI1, x_callI2, x_retN_v, x_callSN1, x_callSN2, x_callT0, x_callT1, x_fn, x_sl0, x_sli, x_slr, x_sll, x_ar0, x_ari, x_arr, x_arl, ↓reduceIte, Nat.reduceAdd, Nat.reduceSub, Nat.reduceMul, Nat.reduceEqDiff, Nat.reduceLeDiff, Nat.reduceLT, if_true, if_false, Nat.le_refl, and_true, true_and, and_self, reduceCtorEq, or_false, false_or, or_true, true_or, Nat.zero_le, fa_lit, nI_add, w_mul, nI_ltI, nI_leI, nI_eq, nI_clamp, nI_toInt, if_pos, if_neg, w_div, w_rem2, zk138 hZ, zk139 hZ, zk140 hZ, zk141 hZ, zk142 hZ, zk143 hZ, zk144 hZ, zk145 hZ, zk146 hZ, zk147 hZ, zk148 hZ, zk149 hZ, zk150 hZ, zk151 hZ, zl139 hZ, zl140 hZ, zl141 hZ, zl142 hZ, zl143 hZ, zl144 hZ, zl145 hZ, zl146 hZ, zl147 hZ, zl148 hZ, zl149 hZ, zl150 hZ, zl151 hZ, zr138_0 hZ, zr138_1 hZ, zr138_2 hZ, zr138_3 hZ, zr138_4 hZ, zr138_8 hZ, zr138_9 hZ, zr138_10 hZ, zr138_12 hZ, zr138_24 hZ, zr138_25 hZ, zr138_26 hZ, zr148_0 hZ, zr148_1 hZ, zr148_2 hZ, zr148_3 hZ, zr148_4 hZ, zr148_5 hZ, zr148_6 hZ, zr148_7 hZ, zr148_8 hZ, x_k_I, x_l_I, x_r_I, x_j_I, x_n_I, x_z_I, x_i_Is, x_k_W, x_l_W, x_r_W, x_j_W, x_n_W, x_z_W, x_k_J, x_l_J, x_r_J, x_i_J, x_n_J, x_z_J, x_k_R, x_l_R, x_j_R, x_i_R, x_n_R, x_z_R, x_n_N, x_z_N, x_k_N, x_l_N, x_i_N, x_j_N, x_r_N, x_rowput, x_rr, x_rows, x_rown, s_up_s, s_up_n, hR, e7, e8, st, hmd, e1, e2, z_orderAt, r7, r8, ex, ey, hfold, g7, g8, gt, gw, gi, ga, gz, hst, w_b]
          · rw [w_bf hth] at gi
            rw [if_neg hth]
            simp (disch := omega) only [fX11_ride, kX11_ride_158, kX11_ride_144, kX11_ride_0, x_cs0, x_csi, x_csr, x_csn, x_csl, x_ret_v, x_ret_t, x_ret_n, x_tl_s, x_tl_n, x_lk0, x_lk, x_rem0, x_rem_i, x_rem_r, x_rem_l, x_rem2_0, x_rem2_i, x_rem2_r, x_rem2_l, x_pick0, x_pick_c, x_st1, x_st2, x_live, x_i, x_l, x_a, x_ild, x_lld, x_rld, x_ist, x_lst, x_rst, x_inc, x_ii, x_ll, x_li, x_cmp, x_ui, x_il, x_lti, x_idiv, x_irem, x_dup_i, x_dup_r, x_pop_i, x_pop_r, x_dupx_ir, x_dup2_ir, x_ifeq, x_iceq, x_iflt, x_iclt, x_ifge, x_icge, x_ifgt, x_icgt, x_ifle, x_icle, x_ifne, x_icne, x_ifnull_r, x_ifnull_n, x_ifnonnull_r, x_ifnonnull_n, x_sw, x_vret, x_iret, x_lret, x_zret, x_zret0, x_zret1, x_rf_s, x_rf_n, x_geti, x_getr, x_puti, x_putz, x_putr, x_ial, x_ias, x_lal, x_las, x_aal, x_aas, x_aast, x_alen, x_new, x_newa, x_copy, x_min, x_abs, x_minl, x_oinit, x_throw, x_callS0, x_callS1, x_callS2, x_callS3, x_callS4, x_callV0, x_callV1, x_callV2, x_callV3, x_callV4, x_callV5, x_retI_v, x_callI0, x_callI1, x_callI2, x_retN_v, x_callSN1, x_callSN2, x_callT0, x_callT1, x_fn, x_sl0, x_sli, x_slr, x_sll, x_ar0, x_ari, x_arr, x_arl, ↓reduceIte, Nat.reduceAdd, Nat.reduceSub, Nat.reduceMul, Nat.reduceEqDiff, Nat.reduceLeDiff, Nat.reduceLT, if_true, if_false, Nat.le_refl, and_true, true_and, and_self, reduceCtorEq, or_false, false_or, or_true, true_or, Nat.zero_le, fa_lit, nI_add, w_mul, nI_ltI, nI_leI, nI_eq, nI_clamp, nI_toInt, if_pos, if_neg, w_div, w_rem2, zk138 hZ, zk139 hZ, zk140 hZ, zk141 hZ, zk142 hZ, zk143 hZ, zk144 hZ, zk145 hZ, zk146 hZ, zk147 hZ, zk148 hZ, zk149 hZ, zk150 hZ, zk151 hZ, zl139 hZ, zl140 hZ, zl141 hZ, zl142 hZ, zl143 hZ, zl144 hZ, zl145 hZ, zl146 hZ, zl147 hZ, zl148 hZ, zl149 hZ, zl150 hZ, zl151 hZ, zr138_0 hZ, zr138_1 hZ, zr138_2 hZ, zr138_3 hZ, zr138_4 hZ, zr138_8 hZ, zr138_9 hZ, zr138_10 hZ, zr138_12 hZ, zr138_24 hZ, zr138_25 hZ, zr138_26 hZ, zr148_0 hZ, zr148_1 hZ, zr148_2 hZ, zr148_3 hZ, zr148_4 hZ, zr148_5 hZ, zr148_6 hZ, zr148_7 hZ, zr148_8 hZ, x_k_I, x_l_I, x_r_I, x_j_I, x_n_I, x_z_I, x_i_Is, x_k_W, x_l_W, x_r_W, x_j_W, x_n_W, x_z_W, x_k_J, x_l_J, x_r_J, x_i_J, x_n_J, x_z_J, x_k_R, x_l_R, x_j_R, x_i_R, x_n_R, x_z_R, x_n_N, x_z_N, x_k_N, x_l_N, x_i_N, x_j_N, x_r_N, x_rowput, x_rr, x_rows, x_rown, s_up_s, s_up_n, hR, e7, e8, st, hmd, e1, e2, z_orderAt, r7, r8, ex, ey, hfold, g7, g8, gt, gw, gi, g3, w3, w_b]
        · rw [m3] at gw ⊢
          have hp1 := nI_nm1 (n := p) (by omega)
          rw [if_neg hp1, w_snI (by omega)]
          unfold s_become
          have h2 := h1.catch (p := p) (x := R1 (36 + 7 * p + 6) + nI 1) (by omega)
          have v3 : va_up R1 (36 + 7 * p + 6) (R1 (36 + 7 * p + 6) + nI 1) (64 + 10 * o + 3) = nI 0 := by rw [s_up_n (by omega)]; exact w3
          have v4 : va_up R1 (36 + 7 * p + 6) (R1 (36 + 7 * p + 6) + nI 1) 4 = R1 4 := s_up_n (by omega)
          generalize hR2 : va_up R1 (36 + 7 * p + 6) (R1 (36 + 7 * p + 6) + nI 1) = R2 at *
          have gb := z_become (S := am_row S 139 R2) (o := o) (x := nI 5) (ne := s_n (R2 7)) hZ (by rw [x_rows]; exact h2.B.2.2.2.2.1.1) (h2.room (by rw [v4]; exact ho1) (by rw [v3, s_wg_0]; omega)) (by omega)
          rw [x_rows, x_rr] at gb
          have gz := z_ofOrder (S := am_row S 139 (s_bec R2 (s_n (R2 7)) o (nI 5))) (u := o) (j := 3) hZ (by omega)
          rw [x_rows, s_bec_3] at gz
          simp (disch := omega) only [fX11_ride, kX11_ride_158, kX11_ride_144, kX11_ride_0, x_cs0, x_csi, x_csr, x_csn, x_csl, x_ret_v, x_ret_t, x_ret_n, x_tl_s, x_tl_n, x_lk0, x_lk, x_rem0, x_rem_i, x_rem_r, x_rem_l, x_rem2_0, x_rem2_i, x_rem2_r, x_rem2_l, x_pick0, x_pick_c, x_st1, x_st2, x_live, x_i, x_l, x_a, x_ild, x_lld, x_rld, x_ist, x_lst, x_rst, x_inc, x_ii, x_ll, x_li, x_cmp, x_ui, x_il, x_lti, x_idiv, x_irem, x_dup_i, x_dup_r, x_pop_i, x_pop_r, x_dupx_ir, x_dup2_ir, x_ifeq, x_iceq, x_iflt, x_iclt, x_ifge, x_icge, x_ifgt, x_icgt, x_ifle, x_icle, x_ifne, x_icne, x_ifnull_r, x_ifnull_n, x_ifnonnull_r, x_ifnonnull_n, x_sw, x_vret, x_iret, x_lret, x_zret, x_zret0, x_zret1, x_rf_s, x_rf_n, x_geti, x_getr, x_puti, x_putz, x_putr, x_ial, x_ias, x_lal, x_las, x_aal, x_aas, x_aast, x_alen, x_new, x_newa, x_copy, x_min, x_abs, x_minl, x_oinit, x_throw, x_callS0, x_callS1, x_callS2, x_callS3, x_callS4, x_callV0, x_callV1, x_callV2, x_callV3, x_callV4, x_callV5, x_retI_v, x_callI0, x_callI1, x_callI2, x_retN_v, x_callSN1, x_callSN2, x_callT0, x_callT1, x_fn, x_sl0, x_sli, x_slr, x_sll, x_ar0, x_ari, x_arr, x_arl, ↓reduceIte, Nat.reduceAdd, Nat.reduceSub, Nat.reduceMul, Nat.reduceEqDiff, Nat.reduceLeDiff, Nat.reduceLT, if_true, if_false, Nat.le_refl, and_true, true_and, and_self, reduceCtorEq, or_false, false_or, or_true, true_or, Nat.zero_le, fa_lit, nI_add, w_mul, nI_ltI, nI_leI, nI_eq, nI_clamp, nI_toInt, if_pos, if_neg, w_div, w_rem2, zk138 hZ, zk139 hZ, zk140 hZ, zk141 hZ, zk142 hZ, zk143 hZ, zk144 hZ, zk145 hZ, zk146 hZ, zk147 hZ, zk148 hZ, zk149 hZ, zk150 hZ, zk151 hZ, zl139 hZ, zl140 hZ, zl141 hZ, zl142 hZ, zl143 hZ, zl144 hZ, zl145 hZ, zl146 hZ, zl147 hZ, zl148 hZ, zl149 hZ, zl150 hZ, zl151 hZ, zr138_0 hZ, zr138_1 hZ, zr138_2 hZ, zr138_3 hZ, zr138_4 hZ, zr138_8 hZ, zr138_9 hZ, zr138_10 hZ, zr138_12 hZ, zr138_24 hZ, zr138_25 hZ, zr138_26 hZ, zr148_0 hZ, zr148_1 hZ, zr148_2 hZ, zr148_3 hZ, zr148_4 hZ, zr148_5 hZ, zr148_6 hZ, zr148_7 hZ, zr148_8 hZ, x_k_I, x_l_I, x_r_I, x_j_I, x_n_I, x_z_I, x_i_Is, x_k_W, x_l_W, x_r_W, x_j_W, x_n_W, x_z_W, x_k_J, x_l_J, x_r_J, x_i_J, x_n_J, x_z_J, x_k_R, x_l_R, x_j_R, x_i_R, x_n_R, x_z_R, x_n_N, x_z_N, x_k_N, x_l_N, x_i_N, x_j_N, x_r_N, x_rowput, x_rr, x_rows, x_rown, s_up_s, s_up_n, hR, e7, e8, st, hmd, hp1, e1, e2, z_orderAt, z_picketAt, r7, r8, ex, ey, hfold, hR2, g7, g8, gt, gw, gb, gz, s_bec_3, w_b]
      · cases hnb
end Z10
