/-! SNAPSHOTS -/
def u_restore (M : Nat → Nat → Int32) : Int32 × (Nat → Nat → Int32) := if M 138 7 = nI 1 then (nI 1, s_bk M (s_ov0 (M 142) (M 139)) 0) else (nI 0, M)
def u_save (M : Nat → Nat → Int32) : Nat → Nat → Int32 := va_up (va_up M 142 (s_ov0 (M 139) (M 142))) 138 (va_up (M 138) 7 (nI 1))
section S1
variable {S S' T : am_S} {a b c o p q i j k m n u t D z d c' o' : Nat} {P : Nat → Prop} {R Q : Nat → Int32} {M M' : Nat → Nat → Int32} {x y v : Int32}
theorem y_copyTr {a1 p1 a2 p2 : Nat} (k1 : am_k S a1 = 9) (r1 : am_r S a1 0 = some p1) (k2 : am_k S p1 = 20) (l1 : am_l S p1 = 3000) (k3 : am_k S a2 = 9) (r2 : am_r S a2 0 = some p2) (k4 : am_k S p2 = 20) (l2 : am_l S p2 = 3000) : fX9_copyFrom w_N [.ref a1, .ref a2] S = some (.inl none, am_cpy S p2 0 p1 0 3000) := by
  simp (disch := omega) only [fX9_copyFrom, kX9_copyFrom_0, x_cs0, x_csi, x_csr, x_csn, x_csl, x_ret_v, x_ret_t, x_ret_n, x_tl_s, x_tl_n, x_lk0, x_lk, x_rem0, x_rem_i, x_rem_r, x_rem_l, x_rem2_0, x_rem2_i, x_rem2_r, x_rem2_l, x_pick0, x_pick_c, x_st1, x_st2, x_live, x_i, x_l, x_a, x_ild, x_lld, x_rld, x_ist, x_lst, x_rst, x_inc, x_ii, x_ll, x_li, x_cmp, x_ui, x_il, x_lti, x_idiv, x_irem, x_dup_i, x_dup_r, x_pop_i, x_pop_r, x_dupx_ir, x_dup2_ir, x_ifeq, x_iceq, x_iflt, x_iclt, x_ifge, x_icge, x_ifgt, x_icgt, x_ifle, x_icle, x_ifne, x_icne, x_ifnull_r, x_ifnull_n, x_ifnonnull_r, x_ifnonnull_n, x_sw, x_vret, x_iret, x_lret, x_zret, x_zret0, x_zret1, x_rf_s, x_rf_n, x_geti, x_getr, x_puti, x_putz, x_putr, x_ial, x_ias, x_lal, x_las, x_aal, x_aas, x_aast, x_alen, x_new, x_newa, x_copy, x_min, x_abs, x_minl, x_oinit, x_throw, x_callS0, x_callS1, x_callS2, x_callS3, x_callS4, x_callV0, x_callV1, x_callV2, x_callV3, x_callV4, x_callV5, x_retI_v, x_callI0, x_callI1, x_callI2, x_retN_v, x_callSN1, x_callSN2, x_callT0, x_callT1, x_fn, x_sl0, x_sli, x_slr, x_sll, x_ar0, x_ari, x_arr, x_arl, ↓reduceIte, Nat.reduceAdd, Nat.reduceSub, Nat.reduceMul, Nat.reduceEqDiff, Nat.reduceLeDiff, Nat.reduceLT, if_true, if_false, Nat.le_refl, and_true, true_and, and_self, reduceCtorEq, or_false, false_or, or_true, true_or, Nat.zero_le, fa_lit, nI_add, w_mul, nI_ltI, nI_leI, nI_eq, nI_clamp, nI_toInt, if_pos, if_neg, w_div, w_rem2, k1, r1, k2, l1, k3, r2, k4, l2, va_rf]
theorem x_cpy_i : am_i (am_cpy S a 0 b 0 n) b j = if j < n then am_i S a j else am_i S b j := by
  unfold am_cpy va_cpy
  rw [x_rows]
  simp only [Nat.zero_le, true_and, Nat.zero_add, Nat.sub_zero]
theorem y_restore (h : w_Ic S M) : ∃ S', fX10_restoreSnapshot w_N [.ref 100] S = some (.inl (some (.int (u_restore M).1)), S') ∧ w_Ic S' (u_restore M).2 ∧ w_le 0 0 S S' ∧ w_kp S S' := by
  have hC := h.1.1
  have hn := h.1.2.1
  have sh := h.1.2.2
  have hA := (sh.1 0 101 rfl).1
  have hA13 := (sh.1 1 113 rfl).1
  have hT := h.2.1.2.2.1
  unfold u_restore
  rcases h.2.2.2.1 with q | ⟨q, b, t, g1, g2, g3, g4, g5⟩
  · rw [if_neg (by rw [q.1]; decide)]
    refine ⟨S, ?_, h, w_le.rf, w_kp.rf⟩
    have q2 := q.2
    simp (disch := omega) only [fX10_restoreSnapshot, kX10_restoreSnapshot_21, kX10_restoreSnapshot_0, x_cs0, x_csi, x_csr, x_csn, x_csl, x_ret_v, x_ret_t, x_ret_n, x_tl_s, x_tl_n, x_lk0, x_lk, x_rem0, x_rem_i, x_rem_r, x_rem_l, x_rem2_0, x_rem2_i, x_rem2_r, x_rem2_l, x_pick0, x_pick_c, x_st1, x_st2, x_live, x_i, x_l, x_a, x_ild, x_lld, x_rld, x_ist, x_lst, x_rst, x_inc, x_ii, x_ll, x_li, x_cmp, x_ui, x_il, x_lti, x_idiv, x_irem, x_dup_i, x_dup_r, x_pop_i, x_pop_r, x_dupx_ir, x_dup2_ir, x_ifeq, x_iceq, x_iflt, x_iclt, x_ifge, x_icge, x_ifgt, x_icgt, x_ifle, x_icle, x_ifne, x_icne, x_ifnull_r, x_ifnull_n, x_ifnonnull_r, x_ifnonnull_n, x_sw, x_vret, x_iret, x_lret, x_zret, x_zret0, x_zret1, x_rf_s, x_rf_n, x_geti, x_getr, x_puti, x_putz, x_putr, x_ial, x_ias, x_lal, x_las, x_aal, x_aas, x_aast, x_alen, x_new, x_newa, x_copy, x_min, x_abs, x_minl, x_oinit, x_throw, x_callS0, x_callS1, x_callS2, x_callS3, x_callS4, x_callV0, x_callV1, x_callV2, x_callV3, x_callV4, x_callV5, x_retI_v, x_callI0, x_callI1, x_callI2, x_retN_v, x_callSN1, x_callSN2, x_callT0, x_callT1, x_fn, x_sl0, x_sli, x_slr, x_sll, x_ar0, x_ari, x_arr, x_arl, ↓reduceIte, Nat.reduceAdd, Nat.reduceSub, Nat.reduceMul, Nat.reduceEqDiff, Nat.reduceLeDiff, Nat.reduceLT, if_true, if_false, Nat.le_refl, and_true, true_and, and_self, reduceCtorEq, or_false, false_or, or_true, true_or, Nat.zero_le, fa_lit, nI_add, w_mul, nI_ltI, nI_leI, nI_eq, nI_clamp, nI_toInt, if_pos, if_neg, w_div, w_rem2, yk100 hC, yk125 hC, yk126 hC, yk127 hC, yk128 hC, yk129 hC, yk130 hC, yk131 hC, yk132 hC, yk133 hC, yk134 hC, yk135 hC, yk136 hC, yk137 hC, yl126 hC, yl128 hC, yl130 hC, yl131 hC, yl133 hC, yl137 hC, yr100_0 hC, yr100_1 hC, yr100_2 hC, yr100_3 hC, yr100_4 hC, yr100_5 hC, yr100_6 hC, yr100_7 hC, yr100_8 hC, yr100_9 hC, yr100_10 hC, yr125_0 hC, yr127_0 hC, yr129_0 hC, yr129_1 hC, yr129_2 hC, yr132_0 hC, yr134_0 hC, yr135_0 hC, yr135_1 hC, yr136_0 hC, yr136_1 hC, q2]
  · rw [if_pos q.1]
    dsimp only
    have q2 := q.2
    have hsb := sh.1 2 b g1
    have hb151 : 151 < b := by
      rcases hsb.2.2 with w | w <;> omega
    obtain ⟨t1, t2, t3, t4, t5, t6⟩ := sh.2.2 t g2
    obtain ⟨f1, f2, f3⟩ := y_copyS hsb.1 hA g3 g4.1.B (by omega)
    generalize w_cS7 S b 101 (M 142) = S1 at *
    have hI1 : w_I (fun b => 101 ≤ b ∧ b < 101 + 12) S S1 := f3.1
    have hC1 := hI1.C hC
    have kS1 : am_k S1 = am_k S := f3.1.2.2.1
    have lS1 : am_l S1 = am_l S := f3.1.2.2.2.1
    have rS1 : am_r S1 = am_r S := f3.1.2.2.2.2.2.1
    have ft := y_copyTr (S := S1) (a1 := 125) (p1 := 126) (a2 := t) (p2 := t + 1) (yk125 hC1) (yr125_0 hC1) (yk126 hC1) (yl126 hC1) (by rw [kS1]; exact t1) (by rw [rS1]; exact t4) (by rw [kS1]; exact t2) (by rw [lS1]; exact t3)
    have I2 : w_I (fun b => b = 126) S1 (am_cpy S1 (t + 1) 0 126 0 3000) := w_I.row rfl
    have v126 : ∀ j, j < 3000 → am_i (am_cpy S1 (t + 1) 0 126 0 3000) 126 j = am_i S (t + 1) j := fun j hj => by
      rw [x_cpy_i, if_pos hj, hI1.i (by omega)]
    generalize am_cpy S1 (t + 1) 0 126 0 3000 = S2 at *
    have I12 : w_I (fun b => b = 126 ∨ 101 ≤ b ∧ b < 113) S S2 := (hI1.mono (fun b hb => Or.inr hb)).tr (I2.mono (fun b hb => Or.inl hb))
    have hC2 := I12.C hC
    have er2 : am_r S2 = am_r S := I12.2.2.2.2.2.1
    have en2 : am_n S2 = am_n S := I12.1
    have hT2 : w_T S2 (M 139) := hT.fr hn (w_F.of I12) (by rw [er2]) (fun q hq hq2 => by
      obtain ⟨t, D, ht, hD, e⟩ := hq
      have := (hT.1 t D ht hD).1.1
      omega)
    have hA2 := I2.Aa (f3.A hA) (fun b h1 h2 => by omega)
    have hA23 := I12.Aa hA13 (fun b h1 h2 => by omega)
    have R2 := I2.Ra f2 (fun b h1 h2 => by omega)
    obtain ⟨S3, m1, m2, m3⟩ := y_forget hC2 (by omega) hT2
    have inT : ∀ b, w_inT S2 b → w_inT S b := fun b q => by
      obtain ⟨t, D, ht, hD, e⟩ := q
      rw [er2] at hD
      exact ⟨t, D, ht, hD, e⟩
    have low : ∀ b, b ≤ 151 → ¬ w_inT S2 b := fun b hb q => by
      obtain ⟨t, D, ht, hD, e⟩ := q
      have := (hT2.1 t D ht hD).1.1
      omega
    have hC3 := m3.C hC2
    have gc := y_hclear hC3
    have I4 : w_I (fun b => b = 127) S3 (am_putI (am_putI S3 127 1 (nI 0)) 127 2 (nI 0)) := (w_I.put (P := fun b => b = 127) rfl).tr (w_I.put rfl)
    have er4 : am_r (am_putI (am_putI S3 127 1 (nI 0)) 127 2 (nI 0)) = am_r S := by
      rw [I4.2.2.2.2.2.1, m3.2.2.2.2.2.1, er2]
    have fIn : ∀ b, w_inT S2 b → b = 127 ∨ w_PN S b := fun b hb => Or.inr (Or.inr (Or.inr (Or.inr (Or.inr (Or.inr (Or.inr (inT b hb)))))))
    have F : w_F (fun b => b = 127 ∨ w_PN S b) S (am_putI (am_putI S3 127 1 (nI 0)) 127 2 (nI 0)) := (((w_F.of I12).mono (fun b hb => Or.inr (hb.elim (fun q => Or.inr (Or.inl q)) (fun q => Or.inl q)))).tr ((w_F.of m3).mono fIn)).tr ((w_F.of I4).mono (fun b hb => Or.inl hb))
    have WQ : s_W (s_ov0 (M 142) (M 139)) := g4.eq s_ov0_eq
    have i126 : am_i (am_putI (am_putI S3 127 1 (nI 0)) 127 2 (nI 0)) 126 = am_i S2 126 := by rw [I4.i (by omega), m3.i (low 126 (by omega))]
    have htr : w_tr (am_putI (am_putI S3 127 1 (nI 0)) 127 2 (nI 0)) 126 (M 142) := fun u t' hu ht => by
      have b2 := g4.1.B.2.1.2
      have b5 := g4.2.1.1
      rw [i126, v126 _ (by omega)]
      exact g5 u t' hu ht
    have hT4 : ∀ Q, w_T (am_putI (am_putI S3 127 1 (nI 0)) 127 2 (nI 0)) Q := fun Q => (m2 Q).fr (by have := m3.1; omega) (w_F.of I4) (by rw [I4.2.2.2.2.2.1]) (fun q hq hq2 => by
      obtain ⟨t, D, ht, hD, e⟩ := hq
      have := ((m2 Q).1 t D ht hD).1.1
      omega)
    refine ⟨_, ?_, h.back F (by rw [er4]) (I4.Aa (m3.Aa hA2 (fun b h1 h2 => low b (by omega))) (fun b h1 h2 => by omega)) (I4.Aa (m3.Aa hA23 (fun b h1 h2 => low b (by omega))) (fun b h1 h2 => by omega)) ((I4.Ra (m3.Ra R2 (fun b h1 h2 => low b (by omega))) (fun b h1 h2 => by omega)).eq g4 s_ov0_eq) WQ (hT4 _) (htr.eq g4 s_ov0_eq) x_i_Is (by rw [x_i_I, if_pos rfl, if_neg (by omega), x_i_Is]) (by omega) (by omega) (fun k hk => absurd hk (Nat.not_lt_zero _)) (fun k hk => absurd hk (Nat.not_lt_zero _)), (((w_le.I I12).tr (w_le.I m3)).tr (w_le.I I4)).mono (by omega) (by omega), ((w_kp.I I12 (fun b h1 h2 => by omega)).tr (w_kp.I m3 (fun b h1 h2 => low b (by omega)))).tr (w_kp.I I4 (fun b h1 h2 => by omega))⟩
    have k6 := xk0 hA
    simp (disch := omega) only [fX10_restoreSnapshot, kX10_restoreSnapshot_21, kX10_restoreSnapshot_0, x_cs0, x_csi, x_csr, x_csn, x_csl, x_ret_v, x_ret_t, x_ret_n, x_tl_s, x_tl_n, x_lk0, x_lk, x_rem0, x_rem_i, x_rem_r, x_rem_l, x_rem2_0, x_rem2_i, x_rem2_r, x_rem2_l, x_pick0, x_pick_c, x_st1, x_st2, x_live, x_i, x_l, x_a, x_ild, x_lld, x_rld, x_ist, x_lst, x_rst, x_inc, x_ii, x_ll, x_li, x_cmp, x_ui, x_il, x_lti, x_idiv, x_irem, x_dup_i, x_dup_r, x_pop_i, x_pop_r, x_dupx_ir, x_dup2_ir, x_ifeq, x_iceq, x_iflt, x_iclt, x_ifge, x_icge, x_ifgt, x_icgt, x_ifle, x_icle, x_ifne, x_icne, x_ifnull_r, x_ifnull_n, x_ifnonnull_r, x_ifnonnull_n, x_sw, x_vret, x_iret, x_lret, x_zret, x_zret0, x_zret1, x_rf_s, x_rf_n, x_geti, x_getr, x_puti, x_putz, x_putr, x_ial, x_ias, x_lal, x_las, x_aal, x_aas, x_aast, x_alen, x_new, x_newa, x_copy, x_min, x_abs, x_minl, x_oinit, x_throw, x_callS0, x_callS1, x_callS2, x_callS3, x_callS4, x_callV0, x_callV1, x_callV2, x_callV3, x_callV4, x_callV5, x_retI_v, x_callI0, x_callI1, x_callI2, x_retN_v, x_callSN1, x_callSN2, x_callT0, x_callT1, x_fn, x_sl0, x_sli, x_slr, x_sll, x_ar0, x_ari, x_arr, x_arl, ↓reduceIte, Nat.reduceAdd, Nat.reduceSub, Nat.reduceMul, Nat.reduceEqDiff, Nat.reduceLeDiff, Nat.reduceLT, if_true, if_false, Nat.le_refl, and_true, true_and, and_self, reduceCtorEq, or_false, false_or, or_true, true_or, Nat.zero_le, fa_lit, nI_add, w_mul, nI_ltI, nI_leI, nI_eq, nI_clamp, nI_toInt, if_pos, if_neg, w_div, w_rem2, yk100 hC, yk125 hC, yk126 hC, yk127 hC, yk128 hC, yk129 hC, yk130 hC, yk131 hC, yk132 hC, yk133 hC, yk134 hC, yk135 hC, yk136 hC, yk137 hC, yl126 hC, yl128 hC, yl130 hC, yl131 hC, yl133 hC, yl137 hC, yr100_0 hC, yr100_1 hC, yr100_2 hC, yr100_3 hC, yr100_4 hC, yr100_5 hC, yr100_6 hC, yr100_7 hC, yr100_8 hC, yr100_9 hC, yr100_10 hC, yr125_0 hC, yr127_0 hC, yr129_0 hC, yr129_1 hC, yr129_2 hC, yr132_0 hC, yr134_0 hC, yr135_0 hC, yr135_1 hC, yr136_0 hC, yr136_1 hC, yk100 hC1, yk100 hC2, yk100 hC3, yr100_2 hC1, yk125 hC1, yr100_4 hC2, yk129 hC2, yr100_3 hC3, yk127 hC3, q2, g1, g2, va_rf, f1, k6, rS1, ft, m1, gc]
theorem z_restore (hZ : w_Z S) (hM : w_Mq M S) (h7 : M 138 7 = nI 0 ∨ M 138 7 = nI 1) : ∃ S', fX11_restoreSnapshot w_N [.ref 138] S = some (.inl (some (.int (u_restore M).1)), S') ∧ w_Mq (u_restore M).2 S' ∧ w_I w_P7 S S' := by
  have t0 : w_th 0 S (am_putI S 138 6 (nI 0)) := w_th.put
  have hZ1 := t0.Z hZ
  have hM1 := hM.th t0
  have e7 := hM1.2.2.2.2.2 7 (by omega)
  unfold u_restore
  rcases h7 with q | q
  · rw [q] at e7
    rw [if_neg (by rw [q]; decide)]
    refine ⟨_, ?_, hM1, t0.P7⟩
    simp (disch := omega) only [fX11_restoreSnapshot, kX11_restoreSnapshot_0, x_cs0, x_csi, x_csr, x_csn, x_csl, x_ret_v, x_ret_t, x_ret_n, x_tl_s, x_tl_n, x_lk0, x_lk, x_rem0, x_rem_i, x_rem_r, x_rem_l, x_rem2_0, x_rem2_i, x_rem2_r, x_rem2_l, x_pick0, x_pick_c, x_st1, x_st2, x_live, x_i, x_l, x_a, x_ild, x_lld, x_rld, x_ist, x_lst, x_rst, x_inc, x_ii, x_ll, x_li, x_cmp, x_ui, x_il, x_lti, x_idiv, x_irem, x_dup_i, x_dup_r, x_pop_i, x_pop_r, x_dupx_ir, x_dup2_ir, x_ifeq, x_iceq, x_iflt, x_iclt, x_ifge, x_icge, x_ifgt, x_icgt, x_ifle, x_icle, x_ifne, x_icne, x_ifnull_r, x_ifnull_n, x_ifnonnull_r, x_ifnonnull_n, x_sw, x_vret, x_iret, x_lret, x_zret, x_zret0, x_zret1, x_rf_s, x_rf_n, x_geti, x_getr, x_puti, x_putz, x_putr, x_ial, x_ias, x_lal, x_las, x_aal, x_aas, x_aast, x_alen, x_new, x_newa, x_copy, x_min, x_abs, x_minl, x_oinit, x_throw, x_callS0, x_callS1, x_callS2, x_callS3, x_callS4, x_callV0, x_callV1, x_callV2, x_callV3, x_callV4, x_callV5, x_retI_v, x_callI0, x_callI1, x_callI2, x_retN_v, x_callSN1, x_callSN2, x_callT0, x_callT1, x_fn, x_sl0, x_sli, x_slr, x_sll, x_ar0, x_ari, x_arr, x_arl, ↓reduceIte, Nat.reduceAdd, Nat.reduceSub, Nat.reduceMul, Nat.reduceEqDiff, Nat.reduceLeDiff, Nat.reduceLT, if_true, if_false, Nat.le_refl, and_true, true_and, and_self, reduceCtorEq, or_false, false_or, or_true, true_or, Nat.zero_le, fa_lit, nI_add, w_mul, nI_ltI, nI_leI, nI_eq, nI_clamp, nI_toInt, if_pos, if_neg, w_div, w_rem2, zk138 hZ, zk139 hZ, zk140 hZ, zk141 hZ, zk142 hZ, zk143 hZ, zk144 hZ, zk145 hZ, zk146 hZ, zk147 hZ, zk148 hZ, zk149 hZ, zk150 hZ, zk151 hZ, zl139 hZ, zl140 hZ, zl141 hZ, zl142 hZ, zl143 hZ, zl144 hZ, zl145 hZ, zl146 hZ, zl147 hZ, zl148 hZ, zl149 hZ, zl150 hZ, zl151 hZ, zr138_0 hZ, zr138_1 hZ, zr138_2 hZ, zr138_3 hZ, zr138_4 hZ, zr138_8 hZ, zr138_9 hZ, zr138_10 hZ, zr138_12 hZ, zr138_24 hZ, zr138_25 hZ, zr138_26 hZ, zr148_0 hZ, zr148_1 hZ, zr148_2 hZ, zr148_3 hZ, zr148_4 hZ, zr148_5 hZ, zr148_6 hZ, zr148_7 hZ, zr148_8 hZ, zk138 hZ1, zk139 hZ1, zk140 hZ1, zk141 hZ1, zk142 hZ1, zk143 hZ1, zk144 hZ1, zk145 hZ1, zk146 hZ1, zk147 hZ1, zk148 hZ1, zk149 hZ1, zk150 hZ1, zk151 hZ1, zl139 hZ1, zl140 hZ1, zl141 hZ1, zl142 hZ1, zl143 hZ1, zl144 hZ1, zl145 hZ1, zl146 hZ1, zl147 hZ1, zl148 hZ1, zl149 hZ1, zl150 hZ1, zl151 hZ1, zr138_0 hZ1, zr138_1 hZ1, zr138_2 hZ1, zr138_3 hZ1, zr138_4 hZ1, zr138_8 hZ1, zr138_9 hZ1, zr138_10 hZ1, zr138_12 hZ1, zr138_24 hZ1, zr138_25 hZ1, zr138_26 hZ1, zr148_0 hZ1, zr148_1 hZ1, zr148_2 hZ1, zr148_3 hZ1, zr148_4 hZ1, zr148_5 hZ1, zr148_6 hZ1, zr148_7 hZ1, zr148_8 hZ1, e7]
  · rw [q] at e7
    rw [if_pos q]
    dsimp only
    have g := z_copy (S := am_putI S 138 6 (nI 0)) (a := 142) (b := 139) (p := 0) (q := 0) (zk142 hZ1) (zk139 hZ1) (zl142 hZ1) (zl139 hZ1) (by omega) (by omega) (by omega) (by omega) (by omega)
    have eq : w_cp (am_putI S 138 6 (nI 0)) 142 0 139 0 3934 = am_row (am_putI S 138 6 (nI 0)) 139 (s_ov0 (M 142) (M 139)) := by
      unfold w_cp
      congr 1
      funext q
      unfold s_ov0
      rw [hM1.1, hM1.2.1, Nat.mul_zero, Nat.zero_add, Nat.zero_add, Nat.sub_zero]
      by_cases g : q < 3934
      · rw [if_pos g, if_pos (by omega)]
      · rw [if_neg g, if_neg (by omega)]
    rw [eq] at g
    have I2 : w_I w_P7 (am_putI S 138 6 (nI 0)) (am_row (am_putI S 138 6 (nI 0)) 139 (s_ov0 (M 142) (M 139))) := w_I.row (by show 138 ≤ 139 ∧ 139 ≤ 150; omega)
    have hZ2 := I2.Z hZ1
    obtain ⟨h1, h2, h3, h4, h5, h6⟩ := hM1
    refine ⟨am_putI (am_row (am_putI S 138 6 (nI 0)) 139 (s_ov0 (M 142) (M 139))) 138 5 (nI 0), ?_, ⟨?_, ?_, ?_, ?_, ?_, fun j hj => ?_⟩, t0.P7.tr (I2.tr (w_I.put (by show 138 ≤ 138 ∧ 138 ≤ 150; omega)))⟩
    · simp (disch := omega) only [fX11_restoreSnapshot, kX11_restoreSnapshot_0, x_cs0, x_csi, x_csr, x_csn, x_csl, x_ret_v, x_ret_t, x_ret_n, x_tl_s, x_tl_n, x_lk0, x_lk, x_rem0, x_rem_i, x_rem_r, x_rem_l, x_rem2_0, x_rem2_i, x_rem2_r, x_rem2_l, x_pick0, x_pick_c, x_st1, x_st2, x_live, x_i, x_l, x_a, x_ild, x_lld, x_rld, x_ist, x_lst, x_rst, x_inc, x_ii, x_ll, x_li, x_cmp, x_ui, x_il, x_lti, x_idiv, x_irem, x_dup_i, x_dup_r, x_pop_i, x_pop_r, x_dupx_ir, x_dup2_ir, x_ifeq, x_iceq, x_iflt, x_iclt, x_ifge, x_icge, x_ifgt, x_icgt, x_ifle, x_icle, x_ifne, x_icne, x_ifnull_r, x_ifnull_n, x_ifnonnull_r, x_ifnonnull_n, x_sw, x_vret, x_iret, x_lret, x_zret, x_zret0, x_zret1, x_rf_s, x_rf_n, x_geti, x_getr, x_puti, x_putz, x_putr, x_ial, x_ias, x_lal, x_las, x_aal, x_aas, x_aast, x_alen, x_new, x_newa, x_copy, x_min, x_abs, x_minl, x_oinit, x_throw, x_callS0, x_callS1, x_callS2, x_callS3, x_callS4, x_callV0, x_callV1, x_callV2, x_callV3, x_callV4, x_callV5, x_retI_v, x_callI0, x_callI1, x_callI2, x_retN_v, x_callSN1, x_callSN2, x_callT0, x_callT1, x_fn, x_sl0, x_sli, x_slr, x_sll, x_ar0, x_ari, x_arr, x_arl, ↓reduceIte, Nat.reduceAdd, Nat.reduceSub, Nat.reduceMul, Nat.reduceEqDiff, Nat.reduceLeDiff, Nat.reduceLT, if_true, if_false, Nat.le_refl, and_true, true_and, and_self, reduceCtorEq, or_false, false_or, or_true, true_or, Nat.zero_le, fa_lit, nI_add, w_mul, nI_ltI, nI_leI, nI_eq, nI_clamp, nI_toInt, if_pos, if_neg, w_div, w_rem2, zk138 hZ, zk139 hZ, zk140 hZ, zk141 hZ, zk142 hZ, zk143 hZ, zk144 hZ, zk145 hZ, zk146 hZ, zk147 hZ, zk148 hZ, zk149 hZ, zk150 hZ, zk151 hZ, zl139 hZ, zl140 hZ, zl141 hZ, zl142 hZ, zl143 hZ, zl144 hZ, zl145 hZ, zl146 hZ, zl147 hZ, zl148 hZ, zl149 hZ, zl150 hZ, zl151 hZ, zr138_0 hZ, zr138_1 hZ, zr138_2 hZ, zr138_3 hZ, zr138_4 hZ, zr138_8 hZ, zr138_9 hZ, zr138_10 hZ, zr138_12 hZ, zr138_24 hZ, zr138_25 hZ, zr138_26 hZ, zr148_0 hZ, zr148_1 hZ, zr148_2 hZ, zr148_3 hZ, zr148_4 hZ, zr148_5 hZ, zr148_6 hZ, zr148_7 hZ, zr148_8 hZ, zk138 hZ1, zk139 hZ1, zk140 hZ1, zk141 hZ1, zk142 hZ1, zk143 hZ1, zk144 hZ1, zk145 hZ1, zk146 hZ1, zk147 hZ1, zk148 hZ1, zk149 hZ1, zk150 hZ1, zk151 hZ1, zl139 hZ1, zl140 hZ1, zl141 hZ1, zl142 hZ1, zl143 hZ1, zl144 hZ1, zl145 hZ1, zl146 hZ1, zl147 hZ1, zl148 hZ1, zl149 hZ1, zl150 hZ1, zl151 hZ1, zr138_0 hZ1, zr138_1 hZ1, zr138_2 hZ1, zr138_3 hZ1, zr138_4 hZ1, zr138_8 hZ1, zr138_9 hZ1, zr138_10 hZ1, zr138_12 hZ1, zr138_24 hZ1, zr138_25 hZ1, zr138_26 hZ1, zr148_0 hZ1, zr148_1 hZ1, zr148_2 hZ1, zr148_3 hZ1, zr148_4 hZ1, zr148_5 hZ1, zr148_6 hZ1, zr148_7 hZ1, zr148_8 hZ1, zk138 hZ2, zk139 hZ2, zk140 hZ2, zk141 hZ2, zk142 hZ2, zk143 hZ2, zk144 hZ2, zk145 hZ2, zk146 hZ2, zk147 hZ2, zk148 hZ2, zk149 hZ2, zk150 hZ2, zk151 hZ2, zl139 hZ2, zl140 hZ2, zl141 hZ2, zl142 hZ2, zl143 hZ2, zl144 hZ2, zl145 hZ2, zl146 hZ2, zl147 hZ2, zl148 hZ2, zl149 hZ2, zl150 hZ2, zl151 hZ2, zr138_0 hZ2, zr138_1 hZ2, zr138_2 hZ2, zr138_3 hZ2, zr138_4 hZ2, zr138_8 hZ2, zr138_9 hZ2, zr138_10 hZ2, zr138_12 hZ2, zr138_24 hZ2, zr138_25 hZ2, zr138_26 hZ2, zr148_0 hZ2, zr148_1 hZ2, zr148_2 hZ2, zr148_3 hZ2, zr148_4 hZ2, zr148_5 hZ2, zr148_6 hZ2, zr148_7 hZ2, zr148_8 hZ2, e7, g]
    · unfold s_bk
      rw [s_up_n (by omega), s_up_s]
      funext q
      rw [x_i_I, if_neg (by omega), x_rows]
    · unfold s_bk
      rw [s_up_n (by omega), s_up_n (by omega), ← h2]
      funext q
      rw [x_i_I, if_neg (by omega), x_rown (by omega)]
    · unfold s_bk
      rw [s_up_n (by omega), s_up_n (by omega), ← h3]
      funext q
      rw [x_i_I, if_neg (by omega), x_rown (by omega)]
    · unfold s_bk
      rw [s_up_n (by omega), s_up_n (by omega), ← h4]
      funext q
      rw [x_i_I, if_neg (by omega), x_rown (by omega)]
    · unfold s_bk
      rw [s_up_n (by omega), s_up_n (by omega), ← h5]
      funext q
      rw [x_i_I, if_neg (by omega), x_rown (by omega)]
    · unfold s_bk
      rw [s_up_s, x_i_I, if_pos rfl, s_up]
      by_cases g : j = 5
      · rw [if_pos g, if_pos g]
      · rw [if_neg g, if_neg g, x_rown (by omega)]
        exact h6 j hj
/-! save -/
theorem z_save (hZ : w_Z S) (hM : w_Mq M S) : ∃ S', fX11_saveSnapshot w_N [.ref 138] S = some (.inl none, S') ∧ w_Mq (u_save M) S' ∧ w_I w_P7 S S' := by
  have t0 : w_th 0 S (am_putI S 138 6 (nI 0)) := w_th.put
  have hZ1 := t0.Z hZ
  have hM1 := hM.th t0
  have g := z_copy (S := am_putI S 138 6 (nI 0)) (a := 139) (b := 142) (p := 0) (q := 0) (zk139 hZ1) (zk142 hZ1) (zl139 hZ1) (zl142 hZ1) (by omega) (by omega) (by omega) (by omega) (by omega)
  have eq : w_cp (am_putI S 138 6 (nI 0)) 139 0 142 0 3934 = am_row (am_putI S 138 6 (nI 0)) 142 (s_ov0 (M 139) (M 142)) := by
    unfold w_cp
    congr 1
    funext q
    unfold s_ov0
    rw [hM1.1, hM1.2.1, Nat.mul_zero, Nat.zero_add, Nat.zero_add, Nat.sub_zero]
    by_cases g : q < 3934
    · rw [if_pos g, if_pos (by omega)]
    · rw [if_neg g, if_neg (by omega)]
  rw [eq] at g
  have I2 : w_I w_P7 (am_putI S 138 6 (nI 0)) (am_row (am_putI S 138 6 (nI 0)) 142 (s_ov0 (M 139) (M 142))) := w_I.row (by show 138 ≤ 142 ∧ 142 ≤ 150; omega)
  have hZ2 := I2.Z hZ1
  obtain ⟨h1, h2, h3, h4, h5, h6⟩ := hM1
  refine ⟨am_putI (am_row (am_putI S 138 6 (nI 0)) 142 (s_ov0 (M 139) (M 142))) 138 7 (nI 1), ?_, ⟨?_, ?_, ?_, ?_, ?_, fun j hj => ?_⟩, t0.P7.tr (I2.tr (w_I.put (by show 138 ≤ 138 ∧ 138 ≤ 150; omega)))⟩
  · simp (disch := omega) only [fX11_saveSnapshot, kX11_saveSnapshot_0, x_cs0, x_csi, x_csr, x_csn, x_csl, x_ret_v, x_ret_t, x_ret_n, x_tl_s, x_tl_n, x_lk0, x_lk, x_rem0, x_rem_i, x_rem_r, x_rem_l, x_rem2_0, x_rem2_i, x_rem2_r, x_rem2_l, x_pick0, x_pick_c, x_st1, x_st2, x_live, x_i, x_l, x_a, x_ild, x_lld, x_rld, x_ist, x_lst, x_rst, x_inc, x_ii, x_ll, x_li, x_cmp, x_ui, x_il, x_lti, x_idiv, x_irem, x_dup_i, x_dup_r, x_pop_i, x_pop_r, x_dupx_ir, x_dup2_ir, x_ifeq, x_iceq, x_iflt, x_iclt, x_ifge, x_icge, x_ifgt, x_icgt, x_ifle, x_icle, x_ifne, x_icne, x_ifnull_r, x_ifnull_n, x_ifnonnull_r, x_ifnonnull_n, x_sw, x_vret, x_iret, x_lret, x_zret, x_zret0, x_zret1, x_rf_s, x_rf_n, x_geti, x_getr, x_puti, x_putz, x_putr, x_ial, x_ias, x_lal, x_las, x_aal, x_aas, x_aast, x_alen, x_new, x_newa, x_copy, x_min, x_abs, x_minl, x_oinit, x_throw, x_callS0, x_callS1, x_callS2, x_callS3, x_callS4, x_callV0, x_callV1, x_callV2, x_callV3, x_callV4, x_callV5, x_retI_v, x_callI0, x_callI1, x_callI2, x_retN_v, x_callSN1, x_callSN2, x_callT0, x_callT1, x_fn, x_sl0, x_sli, x_slr, x_sll, x_ar0, x_ari, x_arr, x_arl, ↓reduceIte, Nat.reduceAdd, Nat.reduceSub, Nat.reduceMul, Nat.reduceEqDiff, Nat.reduceLeDiff, Nat.reduceLT, if_true, if_false, Nat.le_refl, and_true, true_and, and_self, reduceCtorEq, or_false, false_or, or_true, true_or, Nat.zero_le, fa_lit, nI_add, w_mul, nI_ltI, nI_leI, nI_eq, nI_clamp, nI_toInt, if_pos, if_neg, w_div, w_rem2, zk138 hZ, zk139 hZ, zk140 hZ, zk141 hZ, zk142 hZ, zk143 hZ, zk144 hZ, zk145 hZ, zk146 hZ, zk147 hZ, zk148 hZ, zk149 hZ, zk150 hZ, zk151 hZ, zl139 hZ, zl140 hZ, zl141 hZ, zl142 hZ, zl143 hZ, zl144 hZ, zl145 hZ, zl146 hZ, zl147 hZ, zl148 hZ, zl149 hZ, zl150 hZ, zl151 hZ, zr138_0 hZ, zr138_1 hZ, zr138_2 hZ, zr138_3 hZ, zr138_4 hZ, zr138_8 hZ, zr138_9 hZ, zr138_10 hZ, zr138_12 hZ, zr138_24 hZ, zr138_25 hZ, zr138_26 hZ, zr148_0 hZ, zr148_1 hZ, zr148_2 hZ, zr148_3 hZ, zr148_4 hZ, zr148_5 hZ, zr148_6 hZ, zr148_7 hZ, zr148_8 hZ, zk138 hZ1, zk139 hZ1, zk140 hZ1, zk141 hZ1, zk142 hZ1, zk143 hZ1, zk144 hZ1, zk145 hZ1, zk146 hZ1, zk147 hZ1, zk148 hZ1, zk149 hZ1, zk150 hZ1, zk151 hZ1, zl139 hZ1, zl140 hZ1, zl141 hZ1, zl142 hZ1, zl143 hZ1, zl144 hZ1, zl145 hZ1, zl146 hZ1, zl147 hZ1, zl148 hZ1, zl149 hZ1, zl150 hZ1, zl151 hZ1, zr138_0 hZ1, zr138_1 hZ1, zr138_2 hZ1, zr138_3 hZ1, zr138_4 hZ1, zr138_8 hZ1, zr138_9 hZ1, zr138_10 hZ1, zr138_12 hZ1, zr138_24 hZ1, zr138_25 hZ1, zr138_26 hZ1, zr148_0 hZ1, zr148_1 hZ1, zr148_2 hZ1, zr148_3 hZ1, zr148_4 hZ1, zr148_5 hZ1, zr148_6 hZ1, zr148_7 hZ1, zr148_8 hZ1, zk138 hZ2, zk139 hZ2, zk140 hZ2, zk141 hZ2, zk142 hZ2, zk143 hZ2, zk144 hZ2, zk145 hZ2, zk146 hZ2, zk147 hZ2, zk148 hZ2, zk149 hZ2, zk150 hZ2, zk151 hZ2, zl139 hZ2, zl140 hZ2, zl141 hZ2, zl142 hZ2, zl143 hZ2, zl144 hZ2, zl145 hZ2, zl146 hZ2, zl147 hZ2, zl148 hZ2, zl149 hZ2, zl150 hZ2, zl151 hZ2, zr138_0 hZ2, zr138_1 hZ2, zr138_2 hZ2, zr138_3 hZ2, zr138_4 hZ2, zr138_8 hZ2, zr138_9 hZ2, zr138_10 hZ2, zr138_12 hZ2, zr138_24 hZ2, zr138_25 hZ2, zr138_26 hZ2, zr148_0 hZ2, zr148_1 hZ2, zr148_2 hZ2, zr148_3 hZ2, zr148_4 hZ2, zr148_5 hZ2, zr148_6 hZ2, zr148_7 hZ2, zr148_8 hZ2, g]
  · unfold u_save
    rw [s_up_n (by omega), s_up_n (by omega), ← h1]
    funext q
    rw [x_i_I, if_neg (by omega), x_rown (by omega)]
  · unfold u_save
    rw [s_up_n (by omega), s_up_s]
    funext q
    rw [x_i_I, if_neg (by omega), x_rows]
  · unfold u_save
    rw [s_up_n (by omega), s_up_n (by omega), ← h3]
    funext q
    rw [x_i_I, if_neg (by omega), x_rown (by omega)]
  · unfold u_save
    rw [s_up_n (by omega), s_up_n (by omega), ← h4]
    funext q
    rw [x_i_I, if_neg (by omega), x_rown (by omega)]
  · unfold u_save
    rw [s_up_n (by omega), s_up_n (by omega), ← h5]
    funext q
    rw [x_i_I, if_neg (by omega), x_rown (by omega)]
  · unfold u_save
    rw [s_up_s, x_i_I, if_pos rfl, s_up]
    by_cases g : j = 7
    · rw [if_pos g, if_pos g]
    · rw [if_neg g, if_neg g, x_rown (by omega)]
      exact h6 j hj
end S1
