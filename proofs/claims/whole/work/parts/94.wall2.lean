/-! THE CLASS: pickets moved, walls turned -/
def s_wq (R : Nat → Int32) (c : Nat) : Nat → Int32 := va_up (va_up R (784 + c) (if R (784 + c) = 0 then nI 1 else nI 0)) 6 (R 6 + if R (784 + c) = 0 then nI 1 else -nI 1)
section Y23
variable {S S' T : am_S} {a b c o p q i j k m n u t D z d f : Nat} {P : Nat → Prop} {R R' Q : Nat → Int32} {M M' : Nat → Nat → Int32} {x y v : Int32}
theorem w_R.putP (h : w_R S a R) (hB : s_VB R) (ho : o < s_n (R 3)) (hf : p < 6) : w_R (am_putI S (a + 5) (o * 8 + p) v) a (va_up R (36 + 7 * o + p) v) := by
  obtain ⟨⟨a0, a1, a2, a3, a4, a5, a6⟩, ⟨b0, b1, b2, b3, b4⟩, c1, c2, c3, c4, c5, c6, c7⟩ := h
  have i1 : ∀ b g, b ≠ a + 5 → am_i (am_putI S (a + 5) (o * 8 + p) v) b g = am_i S b g := fun b g hb => by rw [x_i_I, if_neg hb]
  have r : ∀ g, g ≠ 36 + 7 * o + p → va_up R (36 + 7 * o + p) v g = R g := fun g hg => s_up_n hg
  have d2 := hB.2.1.2
  have d3 := hB.2.2.1.2
  have d4 := hB.2.2.2.1.2
  have d7 := hB.2.2.2.2.1.2
  have d8 := hB.2.2.2.2.2.1.2
  have r2 := r 2 (by omega)
  have r3 := r 3 (by omega)
  have r4 := r 4 (by omega)
  have r7 := r 7 (by omega)
  have r8 := r 8 (by omega)
  refine ⟨⟨by rw [i1 _ _ (by omega), r _ (by omega)]; exact a0, by rw [i1 _ _ (by omega), r _ (by omega)]; exact a1, by rw [i1 _ _ (by omega), r _ (by omega)]; exact a2, by rw [i1 _ _ (by omega), r _ (by omega)]; exact a3, by rw [i1 _ _ (by omega), r _ (by omega)]; exact a4, by rw [i1 _ _ (by omega), r _ (by omega)]; exact a5, by rw [i1 _ _ (by omega), r _ (by omega)]; exact a6⟩, ⟨by rw [i1 _ _ (by omega), r2]; exact b0, by rw [i1 _ _ (by omega), r3]; exact b1, by rw [i1 _ _ (by omega), r8]; exact b2, by rw [i1 _ _ (by omega), r4]; exact b3, by rw [i1 _ _ (by omega), r7]; exact b4⟩, fun c hc => by rw [i1 _ _ (by omega), r _ (by omega)]; exact c1 c hc, fun u f hu hf => by rw [r2] at hu; rw [i1 _ _ (by omega), r _ (by omega)]; exact c2 u f hu hf, fun u f hu hf2 => ?_, fun u hu => ?_, fun u f hu hf => by rw [r8] at hu; rw [i1 _ _ (by omega), r _ (by omega)]; exact c5 u f hu hf, fun u f hu hf => by rw [r4] at hu; rw [i1 _ _ (by omega), r _ (by omega)]; exact c6 u f hu hf, fun u f hu hf => by rw [r7] at hu; rw [i1 _ _ (by omega), r _ (by omega)]; exact c7 u f hu hf⟩
  · rw [r3] at hu
    rw [x_i_I, if_pos rfl, s_up]
    by_cases e : u * 8 + f = o * 8 + p
    · rw [if_pos e, if_pos (by omega)]
    · rw [if_neg e, if_neg (by omega)]
      exact c3 u f hu hf2
  · rw [r3] at hu
    rw [x_i_I, if_pos rfl, if_neg (by omega), r _ (by omega)]
    exact c4 u hu
theorem w_R.putW (h : w_R S a R) (hB : s_VB R) (ho : o < 144) : w_R (am_putI S (a + 1) o v) a (va_up R (784 + o) v) := by
  obtain ⟨⟨a0, a1, a2, a3, a4, a5, a6⟩, ⟨b0, b1, b2, b3, b4⟩, c1, c2, c3, c4, c5, c6, c7⟩ := h
  have i1 : ∀ b g, b ≠ a + 1 → am_i (am_putI S (a + 1) (o) v) b g = am_i S b g := fun b g hb => by rw [x_i_I, if_neg hb]
  have r : ∀ g, g ≠ 784 + o → va_up R (784 + o) v g = R g := fun g hg => s_up_n hg
  have d2 := hB.2.1.2
  have d3 := hB.2.2.1.2
  have d4 := hB.2.2.2.1.2
  have d7 := hB.2.2.2.2.1.2
  have d8 := hB.2.2.2.2.2.1.2
  have r2 := r 2 (by omega)
  have r3 := r 3 (by omega)
  have r4 := r 4 (by omega)
  have r7 := r 7 (by omega)
  have r8 := r 8 (by omega)
  refine ⟨⟨by rw [i1 _ _ (by omega), r _ (by omega)]; exact a0, by rw [i1 _ _ (by omega), r _ (by omega)]; exact a1, by rw [i1 _ _ (by omega), r _ (by omega)]; exact a2, by rw [i1 _ _ (by omega), r _ (by omega)]; exact a3, by rw [i1 _ _ (by omega), r _ (by omega)]; exact a4, by rw [i1 _ _ (by omega), r _ (by omega)]; exact a5, by rw [i1 _ _ (by omega), r _ (by omega)]; exact a6⟩, ⟨by rw [i1 _ _ (by omega), r2]; exact b0, by rw [i1 _ _ (by omega), r3]; exact b1, by rw [i1 _ _ (by omega), r8]; exact b2, by rw [i1 _ _ (by omega), r4]; exact b3, by rw [i1 _ _ (by omega), r7]; exact b4⟩, fun c hc => ?_, fun u f hu hf => by rw [r2] at hu; rw [i1 _ _ (by omega), r _ (by omega)]; exact c2 u f hu hf, fun u f hu hf => by rw [r3] at hu; rw [i1 _ _ (by omega), r _ (by omega)]; exact c3 u f hu hf, fun u hu => by rw [r3] at hu; rw [i1 _ _ (by omega), r _ (by omega)]; exact c4 u hu, fun u f hu hf => by rw [r8] at hu; rw [i1 _ _ (by omega), r _ (by omega)]; exact c5 u f hu hf, fun u f hu hf => by rw [r4] at hu; rw [i1 _ _ (by omega), r _ (by omega)]; exact c6 u f hu hf, fun u f hu hf => by rw [r7] at hu; rw [i1 _ _ (by omega), r _ (by omega)]; exact c7 u f hu hf⟩
  · rw [x_i_I, if_pos rfl, s_up]
    by_cases e : c = o
    · rw [if_pos e, if_pos (by omega)]
    · rw [if_neg e, if_neg (by omega)]
      exact c1 c hc
/-! movePicket -/
def u_movePicket (M : Nat → Nat → Int32) (z x y : Int32) : (Nat × Int32) × (Nat → Nat → Int32) :=
  if s_is z (s_n (M 139 3)) ∧ s_cel (M 139) x y then ((0, w_b (s_wt (M 139) (s_n z) (s_n (M 139 5)))), va_up (s_rec M) 139 (va_up (va_up (M 139) (36 + 7 * s_n z + 0) x) (36 + 7 * s_n z + 1) y)) else ((1, 0), M)
theorem s_cel_in (hV : s_V R) (h : s_cel R x y) : s_in R x y := by
  obtain ⟨i, j, i1, j1, i2, j2, rfl, rfl⟩ := s_cel_n hV h
  exact ⟨s_nnI i1 (by omega), s_nnI j1 (by omega)⟩
theorem y_movePicket {z : Int32} (h : w_Ic S M) : ∃ S', fX10_movePicket w_N [.ref 100, .int z, .int x, .int y] S = some (o_r (u_movePicket M z x y).1.1 (u_movePicket M z x y).1.2, S') ∧ w_Ic S' (u_movePicket M z x y).2 ∧ w_le 13 959 S S' ∧ w_kp S S' := by
  have hL := h.L
  have hC := h.1.1
  have hA := hL.2.1
  have hV := hL.2.2.2
  have tb := hL.2.2.1.tP hA hV.B
  have w5 := hV.B.2.2.2.2.2.2.1
  have b5 := w5.2
  have b3 := hV.B.2.2.1.2
  have k4 := xk4 hA
  unfold u_movePicket
  by_cases c1 : s_is z (s_n (M 139 3))
  · obtain ⟨p, p1, p2, rfl⟩ := s_is_n c1
    have g1 := y_needRow1 tb p1
    by_cases c2 : s_cel (M 139) x y
    · rw [if_pos ⟨c1, c2⟩, w_snI p2]
      have g2 := y_needCell1 hL c2
      obtain ⟨S1, f1, f2, f3, f4⟩ := y_rec h
      have hL1 := f2.L
      rw [s_rec_139] at hL1
      have hA1 := hL1.2.1
      have hC1 := hL1.1
      have tb1 := hL1.2.2.1.tP hA1 hV.B
      have q0 := y_put (v := x) tb1 p1 (f := 0) (by omega)
      have tb2 := tb1.put (j := p * 8 + 0) (v := x) (by omega)
      have q1 := y_put (v := y) tb2 p1 (f := 1) (by omega)
      have R1 := hL1.2.2.1.putP (v := x) hV.B p1 (p := 0) (by omega)
      have B1 : s_VB (va_up (M 139) (36 + 7 * p + 0) x) := hV.B.congs (by rw [s_up_n (by omega)]; exact hV.B.2.2.2.2.1) (fun i _ hi => s_up_n (by omega))
      have R2 := R1.putP (v := y) B1 (o := p) (by rw [s_up_n (by omega)]; exact p1) (p := 1) (by omega)
      have V2 := hV.pick p1 (s_cel_in hV c2)
      have hJ : w_J 101 S1 (am_putI (am_putI S1 (101 + 5) (p * 8 + 0) x) (101 + 5) (p * 8 + 1) y) := (w_J.put (by omega) (by intro q _ _ _; omega)).tr (w_J.put (by omega) (by intro q _ _ _; omega))
      have hA2 := hJ.A hA1
      have e3 : va_up (va_up (M 139) (36 + 7 * p + 0) x) (36 + 7 * p + 1) y 3 = M 139 3 := by rw [s_up_n (by omega), s_up_n (by omega)]
      have e5 : va_up (va_up (M 139) (36 + 7 * p + 0) x) (36 + 7 * p + 1) y 5 = M 139 5 := by rw [s_up_n (by omega), s_up_n (by omega)]
      have gw := y_watches hA2 R2 V2 (p := p) (by rw [e3]; exact p1) (t := s_n (M 139 5)) (by omega)
      have ew : s_wt (va_up (va_up (M 139) (36 + 7 * p + 0) x) (36 + 7 * p + 1) y) p (s_n (M 139 5)) = s_wt (M 139) p (s_n (M 139 5)) := by
        unfold s_wt
        rw [s_up_n (by omega), s_up_n (by omega), s_up_n (by omega), s_up_n (by omega), s_up_n (by omega), s_up_n (by omega)]
      have i4 : am_i (am_putI (am_putI S1 (101 + 5) (p * 8 + 0) x) (101 + 5) (p * 8 + 1) y) 101 4 = nI (s_n (M 139 5)) := R2.1.2.2.2.2.1.trans (e5.trans w5.1)
      have k6 := xk0 hA2
      have gw' : fX6_watches w_N [.ref 101, .int (nI p), .int (nI (s_n (M 139 5)))] (am_putI (am_putI S1 (101 + 5) (p * 8 + 0) x) (101 + 5) (p * 8 + 1) y) = some (.inl (some (.int (w_b (s_wt (M 139) p (s_n (M 139 5)))))), am_putI (am_putI S1 (101 + 5) (p * 8 + 0) x) (101 + 5) (p * 8 + 1) y) := by
        rw [gw]
        by_cases c : s_wt (M 139) p (s_n (M 139 5))
        · rw [w_bt c, w_bt (by rw [ew]; exact c)]
        · rw [w_bf c, w_bf (by rw [ew]; exact c)]
      refine ⟨_, ?_, f2.put hJ R2 V2 ((h.2.1.2.1.2.2.up hV.B (by omega) (by omega) (by omega) (by omega)).up B1 (by omega) (by omega) (by omega) (by omega)) ?_ ?_, (f3.tr (w_le.I hJ.1)).mono (by omega) (by omega), f4.tr (w_kp.J hJ (Or.inl rfl))⟩
      · generalize am_putI (am_putI S1 (101 + 5) (p * 8 + 0) x) (101 + 5) (p * 8 + 1) y = S3 at *
        have hC3 := hJ.1.C hC1
        by_cases c : s_wt (M 139) p (s_n (M 139 5))
        · rw [w_bt c] at gw' ⊢
          simp (disch := omega) only [fX10_movePicket, kX10_movePicket_77, kX10_movePicket_0, x_cs0, x_csi, x_csr, x_csn, x_csl, x_ret_v, x_ret_t, x_ret_n, x_tl_s, x_tl_n, x_lk0, x_lk, x_rem0, x_rem_i, x_rem_r, x_rem_l, x_rem2_0, x_rem2_i, x_rem2_r, x_rem2_l, x_pick0, x_pick_c, x_st1, x_st2, x_live, x_i, x_l, x_a, x_ild, x_lld, x_rld, x_ist, x_lst, x_rst, x_inc, x_ii, x_ll, x_li, x_cmp, x_ui, x_il, x_lti, x_idiv, x_irem, x_dup_i, x_dup_r, x_pop_i, x_pop_r, x_dupx_ir, x_dup2_ir, x_ifeq, x_iceq, x_iflt, x_iclt, x_ifge, x_icge, x_ifgt, x_icgt, x_ifle, x_icle, x_ifne, x_icne, x_ifnull_r, x_ifnull_n, x_ifnonnull_r, x_ifnonnull_n, x_sw, x_vret, x_iret, x_lret, x_zret, x_zret0, x_zret1, x_rf_s, x_rf_n, x_geti, x_getr, x_puti, x_putz, x_putr, x_ial, x_ias, x_lal, x_las, x_aal, x_aas, x_aast, x_alen, x_new, x_newa, x_copy, x_min, x_abs, x_minl, x_oinit, x_throw, x_callS0, x_callS1, x_callS2, x_callS3, x_callS4, x_callV0, x_callV1, x_callV2, x_callV3, x_callV4, x_callV5, x_retI_v, x_callI0, x_callI1, x_callI2, x_retN_v, x_callSN1, x_callSN2, x_callT0, x_callT1, x_fn, x_sl0, x_sli, x_slr, x_sll, x_ar0, x_ari, x_arr, x_arl, ↓reduceIte, Nat.reduceAdd, Nat.reduceSub, Nat.reduceMul, Nat.reduceEqDiff, Nat.reduceLeDiff, Nat.reduceLT, if_true, if_false, Nat.le_refl, and_true, true_and, and_self, reduceCtorEq, or_false, false_or, or_true, true_or, Nat.zero_le, fa_lit, nI_add, w_mul, nI_ltI, nI_leI, nI_eq, nI_clamp, nI_toInt, if_pos, if_neg, w_div, w_rem2, xk0 hA, xk1 hA, xl1 hA, xk2 hA, xk3 hA, xl3 hA, xr2_2 hA, xi2_0 hA, xi2_1 hA, xk4 hA, xk5 hA, xl5 hA, xr4_2 hA, xi4_0 hA, xi4_1 hA, xk6 hA, xk7 hA, xl7 hA, xr6_2 hA, xi6_0 hA, xi6_1 hA, xk8 hA, xk9 hA, xl9 hA, xr8_2 hA, xi8_0 hA, xi8_1 hA, xk10 hA, xk11 hA, xl11 hA, xr10_2 hA, xi10_0 hA, xi10_1 hA, xr0_7 hA, xr0_8 hA, xr0_9 hA, xr0_10 hA, xr0_11 hA, xr0_12 hA, yk100 hC, yk125 hC, yk126 hC, yk127 hC, yk128 hC, yk129 hC, yk130 hC, yk131 hC, yk132 hC, yk133 hC, yk134 hC, yk135 hC, yk136 hC, yk137 hC, yl126 hC, yl128 hC, yl130 hC, yl131 hC, yl133 hC, yl137 hC, yr100_0 hC, yr100_1 hC, yr100_2 hC, yr100_3 hC, yr100_4 hC, yr100_5 hC, yr100_6 hC, yr100_7 hC, yr100_8 hC, yr100_9 hC, yr100_10 hC, yr125_0 hC, yr127_0 hC, yr129_0 hC, yr129_1 hC, yr129_2 hC, yr132_0 hC, yr134_0 hC, yr135_0 hC, yr135_1 hC, yr136_0 hC, yr136_1 hC, xk0 hA1, xk1 hA1, xl1 hA1, xk2 hA1, xk3 hA1, xl3 hA1, xr2_2 hA1, xi2_0 hA1, xi2_1 hA1, xk4 hA1, xk5 hA1, xl5 hA1, xr4_2 hA1, xi4_0 hA1, xi4_1 hA1, xk6 hA1, xk7 hA1, xl7 hA1, xr6_2 hA1, xi6_0 hA1, xi6_1 hA1, xk8 hA1, xk9 hA1, xl9 hA1, xr8_2 hA1, xi8_0 hA1, xi8_1 hA1, xk10 hA1, xk11 hA1, xl11 hA1, xr10_2 hA1, xi10_0 hA1, xi10_1 hA1, xr0_7 hA1, xr0_8 hA1, xr0_9 hA1, xr0_10 hA1, xr0_11 hA1, xr0_12 hA1, yk100 hC1, yk125 hC1, yk126 hC1, yk127 hC1, yk128 hC1, yk129 hC1, yk130 hC1, yk131 hC1, yk132 hC1, yk133 hC1, yk134 hC1, yk135 hC1, yk136 hC1, yk137 hC1, yl126 hC1, yl128 hC1, yl130 hC1, yl131 hC1, yl133 hC1, yl137 hC1, yr100_0 hC1, yr100_1 hC1, yr100_2 hC1, yr100_3 hC1, yr100_4 hC1, yr100_5 hC1, yr100_6 hC1, yr100_7 hC1, yr100_8 hC1, yr100_9 hC1, yr100_10 hC1, yr125_0 hC1, yr127_0 hC1, yr129_0 hC1, yr129_1 hC1, yr129_2 hC1, yr132_0 hC1, yr134_0 hC1, yr135_0 hC1, yr135_1 hC1, yr136_0 hC1, yr136_1 hC1, xk0 hA2, xk1 hA2, xl1 hA2, xk2 hA2, xk3 hA2, xl3 hA2, xr2_2 hA2, xi2_0 hA2, xi2_1 hA2, xk4 hA2, xk5 hA2, xl5 hA2, xr4_2 hA2, xi4_0 hA2, xi4_1 hA2, xk6 hA2, xk7 hA2, xl7 hA2, xr6_2 hA2, xi6_0 hA2, xi6_1 hA2, xk8 hA2, xk9 hA2, xl9 hA2, xr8_2 hA2, xi8_0 hA2, xi8_1 hA2, xk10 hA2, xk11 hA2, xl11 hA2, xr10_2 hA2, xi10_0 hA2, xi10_1 hA2, xr0_7 hA2, xr0_8 hA2, xr0_9 hA2, xr0_10 hA2, xr0_11 hA2, xr0_12 hA2, yk100 hC3, yk125 hC3, yk126 hC3, yk127 hC3, yk128 hC3, yk129 hC3, yk130 hC3, yk131 hC3, yk132 hC3, yk133 hC3, yk134 hC3, yk135 hC3, yk136 hC3, yk137 hC3, yl126 hC3, yl128 hC3, yl130 hC3, yl131 hC3, yl133 hC3, yl137 hC3, yr100_0 hC3, yr100_1 hC3, yr100_2 hC3, yr100_3 hC3, yr100_4 hC3, yr100_5 hC3, yr100_6 hC3, yr100_7 hC3, yr100_8 hC3, yr100_9 hC3, yr100_10 hC3, yr125_0 hC3, yr127_0 hC3, yr129_0 hC3, yr129_1 hC3, yr129_2 hC3, yr132_0 hC3, yr134_0 hC3, yr135_0 hC3, yr135_1 hC3, yr136_0 hC3, yr136_1 hC3, x_k_I, x_l_I, x_r_I, x_j_I, x_n_I, x_z_I, x_i_Is, x_k_W, x_l_W, x_r_W, x_j_W, x_n_W, x_z_W, x_k_J, x_l_J, x_r_J, x_i_J, x_n_J, x_z_J, x_k_R, x_l_R, x_j_R, x_i_R, x_n_R, x_z_R, x_n_N, x_z_N, x_k_N, x_l_N, x_i_N, x_j_N, x_r_N, g1, g2, f1, q0, q1, i4, gw', o_r0]
        · rw [w_bf c] at gw' ⊢
          simp (disch := omega) only [fX10_movePicket, kX10_movePicket_77, kX10_movePicket_0, x_cs0, x_csi, x_csr, x_csn, x_csl, x_ret_v, x_ret_t, x_ret_n, x_tl_s, x_tl_n, x_lk0, x_lk, x_rem0, x_rem_i, x_rem_r, x_rem_l, x_rem2_0, x_rem2_i, x_rem2_r, x_rem2_l, x_pick0, x_pick_c, x_st1, x_st2, x_live, x_i, x_l, x_a, x_ild, x_lld, x_rld, x_ist, x_lst, x_rst, x_inc, x_ii, x_ll, x_li, x_cmp, x_ui, x_il, x_lti, x_idiv, x_irem, x_dup_i, x_dup_r, x_pop_i, x_pop_r, x_dupx_ir, x_dup2_ir, x_ifeq, x_iceq, x_iflt, x_iclt, x_ifge, x_icge, x_ifgt, x_icgt, x_ifle, x_icle, x_ifne, x_icne, x_ifnull_r, x_ifnull_n, x_ifnonnull_r, x_ifnonnull_n, x_sw, x_vret, x_iret, x_lret, x_zret, x_zret0, x_zret1, x_rf_s, x_rf_n, x_geti, x_getr, x_puti, x_putz, x_putr, x_ial, x_ias, x_lal, x_las, x_aal, x_aas, x_aast, x_alen, x_new, x_newa, x_copy, x_min, x_abs, x_minl, x_oinit, x_throw, x_callS0, x_callS1, x_callS2, x_callS3, x_callS4, x_callV0, x_callV1, x_callV2, x_callV3, x_callV4, x_callV5, x_retI_v, x_callI0, x_callI1, x_callI2, x_retN_v, x_callSN1, x_callSN2, x_callT0, x_callT1, x_fn, x_sl0, x_sli, x_slr, x_sll, x_ar0, x_ari, x_arr, x_arl, ↓reduceIte, Nat.reduceAdd, Nat.reduceSub, Nat.reduceMul, Nat.reduceEqDiff, Nat.reduceLeDiff, Nat.reduceLT, if_true, if_false, Nat.le_refl, and_true, true_and, and_self, reduceCtorEq, or_false, false_or, or_true, true_or, Nat.zero_le, fa_lit, nI_add, w_mul, nI_ltI, nI_leI, nI_eq, nI_clamp, nI_toInt, if_pos, if_neg, w_div, w_rem2, xk0 hA, xk1 hA, xl1 hA, xk2 hA, xk3 hA, xl3 hA, xr2_2 hA, xi2_0 hA, xi2_1 hA, xk4 hA, xk5 hA, xl5 hA, xr4_2 hA, xi4_0 hA, xi4_1 hA, xk6 hA, xk7 hA, xl7 hA, xr6_2 hA, xi6_0 hA, xi6_1 hA, xk8 hA, xk9 hA, xl9 hA, xr8_2 hA, xi8_0 hA, xi8_1 hA, xk10 hA, xk11 hA, xl11 hA, xr10_2 hA, xi10_0 hA, xi10_1 hA, xr0_7 hA, xr0_8 hA, xr0_9 hA, xr0_10 hA, xr0_11 hA, xr0_12 hA, yk100 hC, yk125 hC, yk126 hC, yk127 hC, yk128 hC, yk129 hC, yk130 hC, yk131 hC, yk132 hC, yk133 hC, yk134 hC, yk135 hC, yk136 hC, yk137 hC, yl126 hC, yl128 hC, yl130 hC, yl131 hC, yl133 hC, yl137 hC, yr100_0 hC, yr100_1 hC, yr100_2 hC, yr100_3 hC, yr100_4 hC, yr100_5 hC, yr100_6 hC, yr100_7 hC, yr100_8 hC, yr100_9 hC, yr100_10 hC, yr125_0 hC, yr127_0 hC, yr129_0 hC, yr129_1 hC, yr129_2 hC, yr132_0 hC, yr134_0 hC, yr135_0 hC, yr135_1 hC, yr136_0 hC, yr136_1 hC, xk0 hA1, xk1 hA1, xl1 hA1, xk2 hA1, xk3 hA1, xl3 hA1, xr2_2 hA1, xi2_0 hA1, xi2_1 hA1, xk4 hA1, xk5 hA1, xl5 hA1, xr4_2 hA1, xi4_0 hA1, xi4_1 hA1, xk6 hA1, xk7 hA1, xl7 hA1, xr6_2 hA1, xi6_0 hA1, xi6_1 hA1, xk8 hA1, xk9 hA1, xl9 hA1, xr8_2 hA1, xi8_0 hA1, xi8_1 hA1, xk10 hA1, xk11 hA1, xl11 hA1, xr10_2 hA1, xi10_0 hA1, xi10_1 hA1, xr0_7 hA1, xr0_8 hA1, xr0_9 hA1, xr0_10 hA1, xr0_11 hA1, xr0_12 hA1, yk100 hC1, yk125 hC1, yk126 hC1, yk127 hC1, yk128 hC1, yk129 hC1, yk130 hC1, yk131 hC1, yk132 hC1, yk133 hC1, yk134 hC1, yk135 hC1, yk136 hC1, yk137 hC1, yl126 hC1, yl128 hC1, yl130 hC1, yl131 hC1, yl133 hC1, yl137 hC1, yr100_0 hC1, yr100_1 hC1, yr100_2 hC1, yr100_3 hC1, yr100_4 hC1, yr100_5 hC1, yr100_6 hC1, yr100_7 hC1, yr100_8 hC1, yr100_9 hC1, yr100_10 hC1, yr125_0 hC1, yr127_0 hC1, yr129_0 hC1, yr129_1 hC1, yr129_2 hC1, yr132_0 hC1, yr134_0 hC1, yr135_0 hC1, yr135_1 hC1, yr136_0 hC1, yr136_1 hC1, xk0 hA2, xk1 hA2, xl1 hA2, xk2 hA2, xk3 hA2, xl3 hA2, xr2_2 hA2, xi2_0 hA2, xi2_1 hA2, xk4 hA2, xk5 hA2, xl5 hA2, xr4_2 hA2, xi4_0 hA2, xi4_1 hA2, xk6 hA2, xk7 hA2, xl7 hA2, xr6_2 hA2, xi6_0 hA2, xi6_1 hA2, xk8 hA2, xk9 hA2, xl9 hA2, xr8_2 hA2, xi8_0 hA2, xi8_1 hA2, xk10 hA2, xk11 hA2, xl11 hA2, xr10_2 hA2, xi10_0 hA2, xi10_1 hA2, xr0_7 hA2, xr0_8 hA2, xr0_9 hA2, xr0_10 hA2, xr0_11 hA2, xr0_12 hA2, yk100 hC3, yk125 hC3, yk126 hC3, yk127 hC3, yk128 hC3, yk129 hC3, yk130 hC3, yk131 hC3, yk132 hC3, yk133 hC3, yk134 hC3, yk135 hC3, yk136 hC3, yk137 hC3, yl126 hC3, yl128 hC3, yl130 hC3, yl131 hC3, yl133 hC3, yl137 hC3, yr100_0 hC3, yr100_1 hC3, yr100_2 hC3, yr100_3 hC3, yr100_4 hC3, yr100_5 hC3, yr100_6 hC3, yr100_7 hC3, yr100_8 hC3, yr100_9 hC3, yr100_10 hC3, yr125_0 hC3, yr127_0 hC3, yr129_0 hC3, yr129_1 hC3, yr129_2 hC3, yr132_0 hC3, yr134_0 hC3, yr135_0 hC3, yr135_1 hC3, yr136_0 hC3, yr136_1 hC3, x_k_I, x_l_I, x_r_I, x_j_I, x_n_I, x_z_I, x_i_Is, x_k_W, x_l_W, x_r_W, x_j_W, x_n_W, x_z_W, x_k_J, x_l_J, x_r_J, x_i_J, x_n_J, x_z_J, x_k_R, x_l_R, x_j_R, x_i_R, x_n_R, x_z_R, x_n_N, x_z_N, x_k_N, x_l_N, x_i_N, x_j_N, x_r_N, g1, g2, f1, q0, q1, i4, gw', o_r0]
      · rw [s_rec_139]
        exact fun j hj => by rw [s_up_n (by omega), s_up_n (by omega)]
      · rw [s_rec_139]
        exact fun j hj => by rw [s_up_n (by omega), s_up_n (by omega)]
    · have g2 := y_needCell0 hL c2
      rw [if_neg (fun q => c2 q.2)]
      have ht := h.thr (c := 1)
      refine ⟨_, ?_, ht.1, ht.2.1.mono (by omega) (by omega), ht.2.2⟩
      simp (disch := omega) only [fX10_movePicket, kX10_movePicket_77, kX10_movePicket_0, x_cs0, x_csi, x_csr, x_csn, x_csl, x_ret_v, x_ret_t, x_ret_n, x_tl_s, x_tl_n, x_lk0, x_lk, x_rem0, x_rem_i, x_rem_r, x_rem_l, x_rem2_0, x_rem2_i, x_rem2_r, x_rem2_l, x_pick0, x_pick_c, x_st1, x_st2, x_live, x_i, x_l, x_a, x_ild, x_lld, x_rld, x_ist, x_lst, x_rst, x_inc, x_ii, x_ll, x_li, x_cmp, x_ui, x_il, x_lti, x_idiv, x_irem, x_dup_i, x_dup_r, x_pop_i, x_pop_r, x_dupx_ir, x_dup2_ir, x_ifeq, x_iceq, x_iflt, x_iclt, x_ifge, x_icge, x_ifgt, x_icgt, x_ifle, x_icle, x_ifne, x_icne, x_ifnull_r, x_ifnull_n, x_ifnonnull_r, x_ifnonnull_n, x_sw, x_vret, x_iret, x_lret, x_zret, x_zret0, x_zret1, x_rf_s, x_rf_n, x_geti, x_getr, x_puti, x_putz, x_putr, x_ial, x_ias, x_lal, x_las, x_aal, x_aas, x_aast, x_alen, x_new, x_newa, x_copy, x_min, x_abs, x_minl, x_oinit, x_throw, x_callS0, x_callS1, x_callS2, x_callS3, x_callS4, x_callV0, x_callV1, x_callV2, x_callV3, x_callV4, x_callV5, x_retI_v, x_callI0, x_callI1, x_callI2, x_retN_v, x_callSN1, x_callSN2, x_callT0, x_callT1, x_fn, x_sl0, x_sli, x_slr, x_sll, x_ar0, x_ari, x_arr, x_arl, ↓reduceIte, Nat.reduceAdd, Nat.reduceSub, Nat.reduceMul, Nat.reduceEqDiff, Nat.reduceLeDiff, Nat.reduceLT, if_true, if_false, Nat.le_refl, and_true, true_and, and_self, reduceCtorEq, or_false, false_or, or_true, true_or, Nat.zero_le, fa_lit, nI_add, w_mul, nI_ltI, nI_leI, nI_eq, nI_clamp, nI_toInt, if_pos, if_neg, w_div, w_rem2, xk0 hA, xk1 hA, xl1 hA, xk2 hA, xk3 hA, xl3 hA, xr2_2 hA, xi2_0 hA, xi2_1 hA, xk4 hA, xk5 hA, xl5 hA, xr4_2 hA, xi4_0 hA, xi4_1 hA, xk6 hA, xk7 hA, xl7 hA, xr6_2 hA, xi6_0 hA, xi6_1 hA, xk8 hA, xk9 hA, xl9 hA, xr8_2 hA, xi8_0 hA, xi8_1 hA, xk10 hA, xk11 hA, xl11 hA, xr10_2 hA, xi10_0 hA, xi10_1 hA, xr0_7 hA, xr0_8 hA, xr0_9 hA, xr0_10 hA, xr0_11 hA, xr0_12 hA, yk100 hC, yk125 hC, yk126 hC, yk127 hC, yk128 hC, yk129 hC, yk130 hC, yk131 hC, yk132 hC, yk133 hC, yk134 hC, yk135 hC, yk136 hC, yk137 hC, yl126 hC, yl128 hC, yl130 hC, yl131 hC, yl133 hC, yl137 hC, yr100_0 hC, yr100_1 hC, yr100_2 hC, yr100_3 hC, yr100_4 hC, yr100_5 hC, yr100_6 hC, yr100_7 hC, yr100_8 hC, yr100_9 hC, yr100_10 hC, yr125_0 hC, yr127_0 hC, yr129_0 hC, yr129_1 hC, yr129_2 hC, yr132_0 hC, yr134_0 hC, yr135_0 hC, yr135_1 hC, yr136_0 hC, yr136_1 hC, g1, g2, o_r1, o_t1]
  · rw [if_neg (fun q => c1 q.1)]
    have g1 := y_needRow0 tb c1
    have ht := h.thr (c := 1)
    refine ⟨_, ?_, ht.1, ht.2.1.mono (by omega) (by omega), ht.2.2⟩
    simp (disch := omega) only [fX10_movePicket, kX10_movePicket_77, kX10_movePicket_0, x_cs0, x_csi, x_csr, x_csn, x_csl, x_ret_v, x_ret_t, x_ret_n, x_tl_s, x_tl_n, x_lk0, x_lk, x_rem0, x_rem_i, x_rem_r, x_rem_l, x_rem2_0, x_rem2_i, x_rem2_r, x_rem2_l, x_pick0, x_pick_c, x_st1, x_st2, x_live, x_i, x_l, x_a, x_ild, x_lld, x_rld, x_ist, x_lst, x_rst, x_inc, x_ii, x_ll, x_li, x_cmp, x_ui, x_il, x_lti, x_idiv, x_irem, x_dup_i, x_dup_r, x_pop_i, x_pop_r, x_dupx_ir, x_dup2_ir, x_ifeq, x_iceq, x_iflt, x_iclt, x_ifge, x_icge, x_ifgt, x_icgt, x_ifle, x_icle, x_ifne, x_icne, x_ifnull_r, x_ifnull_n, x_ifnonnull_r, x_ifnonnull_n, x_sw, x_vret, x_iret, x_lret, x_zret, x_zret0, x_zret1, x_rf_s, x_rf_n, x_geti, x_getr, x_puti, x_putz, x_putr, x_ial, x_ias, x_lal, x_las, x_aal, x_aas, x_aast, x_alen, x_new, x_newa, x_copy, x_min, x_abs, x_minl, x_oinit, x_throw, x_callS0, x_callS1, x_callS2, x_callS3, x_callS4, x_callV0, x_callV1, x_callV2, x_callV3, x_callV4, x_callV5, x_retI_v, x_callI0, x_callI1, x_callI2, x_retN_v, x_callSN1, x_callSN2, x_callT0, x_callT1, x_fn, x_sl0, x_sli, x_slr, x_sll, x_ar0, x_ari, x_arr, x_arl, ↓reduceIte, Nat.reduceAdd, Nat.reduceSub, Nat.reduceMul, Nat.reduceEqDiff, Nat.reduceLeDiff, Nat.reduceLT, if_true, if_false, Nat.le_refl, and_true, true_and, and_self, reduceCtorEq, or_false, false_or, or_true, true_or, Nat.zero_le, fa_lit, nI_add, w_mul, nI_ltI, nI_leI, nI_eq, nI_clamp, nI_toInt, if_pos, if_neg, w_div, w_rem2, xk0 hA, xk1 hA, xl1 hA, xk2 hA, xk3 hA, xl3 hA, xr2_2 hA, xi2_0 hA, xi2_1 hA, xk4 hA, xk5 hA, xl5 hA, xr4_2 hA, xi4_0 hA, xi4_1 hA, xk6 hA, xk7 hA, xl7 hA, xr6_2 hA, xi6_0 hA, xi6_1 hA, xk8 hA, xk9 hA, xl9 hA, xr8_2 hA, xi8_0 hA, xi8_1 hA, xk10 hA, xk11 hA, xl11 hA, xr10_2 hA, xi10_0 hA, xi10_1 hA, xr0_7 hA, xr0_8 hA, xr0_9 hA, xr0_10 hA, xr0_11 hA, xr0_12 hA, yk100 hC, yk125 hC, yk126 hC, yk127 hC, yk128 hC, yk129 hC, yk130 hC, yk131 hC, yk132 hC, yk133 hC, yk134 hC, yk135 hC, yk136 hC, yk137 hC, yl126 hC, yl128 hC, yl130 hC, yl131 hC, yl133 hC, yl137 hC, yr100_0 hC, yr100_1 hC, yr100_2 hC, yr100_3 hC, yr100_4 hC, yr100_5 hC, yr100_6 hC, yr100_7 hC, yr100_8 hC, yr100_9 hC, yr100_10 hC, yr125_0 hC, yr127_0 hC, yr129_0 hC, yr129_1 hC, yr129_2 hC, yr132_0 hC, yr134_0 hC, yr135_0 hC, yr135_1 hC, yr136_0 hC, yr136_1 hC, g1, o_r1, o_t1]
/-! wall -/
theorem y_turnWall (hA : w_A S 101) (hR : w_R S 101 R) (hV : s_V R) (hi : i < 12) (hj : j < 12) : ∃ S', fX6_turnWall w_N [.ref 101, .int (nI i), .int (nI j)] S = some (.inl none, S') ∧ w_R S' 101 (s_wq R (12 * j + i)) ∧ w_J 101 S S' := by
  have hc : 12 * j + i < 144 := by omega
  have ew : am_i S (101 + 1) (12 * j + i) = R (784 + (12 * j + i)) := hR.2.2.1 _ hc
  have e6 : am_i S 101 6 = R 6 := hR.1.2.2.2.2.2.2
  have hw := hV.B.2.2.2.2.2.2.2.2.2 _ hc
  have hJ : ∀ v1 v2, w_J 101 S (am_putI (am_putI S (101 + 1) (12 * j + i) v1) 101 6 v2) := fun v1 v2 => (w_J.put (by omega) (by intro q _ _ _; omega)).tr (w_J.puta (by omega))
  unfold s_wq
  rcases hw with w0 | w0
  · have w0' : R (784 + (12 * j + i)) = nI 0 := w0
    rw [if_pos w0, if_pos w0]
    refine ⟨am_putI (am_putI S (101 + 1) (12 * j + i) (nI 1)) 101 6 (R 6 + nI 1), ?_, (hR.putW hV.B hc).put6, hJ _ _⟩
    rw [w0'] at ew
    have es : nI 1 - nI 0 = nI 1 := by decide
    have en : am_i (am_putI S (101 + 1) (12 * j + i) (nI 1)) (101 + 1) (12 * j + i) = nI 1 := x_i_Is
    have e6' : am_i (am_putI S (101 + 1) (12 * j + i) (nI 1)) 101 6 = R 6 := by rw [x_i_I, if_neg (by omega)]; exact e6
    simp (disch := omega) only [fX6_turnWall, kX6_turnWall_56, kX6_turnWall_52, kX6_turnWall_0, x_cs0, x_csi, x_csr, x_csn, x_csl, x_ret_v, x_ret_t, x_ret_n, x_tl_s, x_tl_n, x_lk0, x_lk, x_rem0, x_rem_i, x_rem_r, x_rem_l, x_rem2_0, x_rem2_i, x_rem2_r, x_rem2_l, x_pick0, x_pick_c, x_st1, x_st2, x_live, x_i, x_l, x_a, x_ild, x_lld, x_rld, x_ist, x_lst, x_rst, x_inc, x_ii, x_ll, x_li, x_cmp, x_ui, x_il, x_lti, x_idiv, x_irem, x_dup_i, x_dup_r, x_pop_i, x_pop_r, x_dupx_ir, x_dup2_ir, x_ifeq, x_iceq, x_iflt, x_iclt, x_ifge, x_icge, x_ifgt, x_icgt, x_ifle, x_icle, x_ifne, x_icne, x_ifnull_r, x_ifnull_n, x_ifnonnull_r, x_ifnonnull_n, x_sw, x_vret, x_iret, x_lret, x_zret, x_zret0, x_zret1, x_rf_s, x_rf_n, x_geti, x_getr, x_puti, x_putz, x_putr, x_ial, x_ias, x_lal, x_las, x_aal, x_aas, x_aast, x_alen, x_new, x_newa, x_copy, x_min, x_abs, x_minl, x_oinit, x_throw, x_callS0, x_callS1, x_callS2, x_callS3, x_callS4, x_callV0, x_callV1, x_callV2, x_callV3, x_callV4, x_callV5, x_retI_v, x_callI0, x_callI1, x_callI2, x_retN_v, x_callSN1, x_callSN2, x_callT0, x_callT1, x_fn, x_sl0, x_sli, x_slr, x_sll, x_ar0, x_ari, x_arr, x_arl, ↓reduceIte, Nat.reduceAdd, Nat.reduceSub, Nat.reduceMul, Nat.reduceEqDiff, Nat.reduceLeDiff, Nat.reduceLT, if_true, if_false, Nat.le_refl, and_true, true_and, and_self, reduceCtorEq, or_false, false_or, or_true, true_or, Nat.zero_le, fa_lit, nI_add, w_mul, nI_ltI, nI_leI, nI_eq, nI_clamp, nI_toInt, if_pos, if_neg, w_div, w_rem2, xk0 hA, xk1 hA, xl1 hA, xk2 hA, xk3 hA, xl3 hA, xr2_2 hA, xi2_0 hA, xi2_1 hA, xk4 hA, xk5 hA, xl5 hA, xr4_2 hA, xi4_0 hA, xi4_1 hA, xk6 hA, xk7 hA, xl7 hA, xr6_2 hA, xi6_0 hA, xi6_1 hA, xk8 hA, xk9 hA, xl9 hA, xr8_2 hA, xi8_0 hA, xi8_1 hA, xk10 hA, xk11 hA, xl11 hA, xr10_2 hA, xi10_0 hA, xi10_1 hA, xr0_7 hA, xr0_8 hA, xr0_9 hA, xr0_10 hA, xr0_11 hA, xr0_12 hA, x_k_I, x_l_I, x_r_I, x_j_I, x_n_I, x_z_I, x_i_Is, x_k_W, x_l_W, x_r_W, x_j_W, x_n_W, x_z_W, x_k_J, x_l_J, x_r_J, x_i_J, x_n_J, x_z_J, x_k_R, x_l_R, x_j_R, x_i_R, x_n_R, x_z_R, x_n_N, x_z_N, x_k_N, x_l_N, x_i_N, x_j_N, x_r_N, y_cellAt, ew, es, en, e6']
  · have w1' : R (784 + (12 * j + i)) = nI 1 := w0
    have n0 : ¬ R (784 + (12 * j + i)) = 0 := by rw [w0]; decide
    rw [if_neg n0, if_neg n0]
    refine ⟨am_putI (am_putI S (101 + 1) (12 * j + i) (nI 0)) 101 6 (R 6 + -nI 1), ?_, (hR.putW hV.B hc).put6, hJ _ _⟩
    rw [w1'] at ew
    have es : nI 1 - nI 1 = nI 0 := by decide
    have en : am_i (am_putI S (101 + 1) (12 * j + i) (nI 0)) (101 + 1) (12 * j + i) = nI 0 := x_i_Is
    have e6' : am_i (am_putI S (101 + 1) (12 * j + i) (nI 0)) 101 6 = R 6 := by rw [x_i_I, if_neg (by omega)]; exact e6
    simp (disch := omega) only [fX6_turnWall, kX6_turnWall_56, kX6_turnWall_52, kX6_turnWall_0, x_cs0, x_csi, x_csr, x_csn, x_csl, x_ret_v, x_ret_t, x_ret_n, x_tl_s, x_tl_n, x_lk0, x_lk, x_rem0, x_rem_i, x_rem_r, x_rem_l, x_rem2_0, x_rem2_i, x_rem2_r, x_rem2_l, x_pick0, x_pick_c, x_st1, x_st2, x_live, x_i, x_l, x_a, x_ild, x_lld, x_rld, x_ist, x_lst, x_rst, x_inc, x_ii, x_ll, x_li, x_cmp, x_ui, x_il, x_lti, x_idiv, x_irem, x_dup_i, x_dup_r, x_pop_i, x_pop_r, x_dupx_ir, x_dup2_ir, x_ifeq, x_iceq, x_iflt, x_iclt, x_ifge, x_icge, x_ifgt, x_icgt, x_ifle, x_icle, x_ifne, x_icne, x_ifnull_r, x_ifnull_n, x_ifnonnull_r, x_ifnonnull_n, x_sw, x_vret, x_iret, x_lret, x_zret, x_zret0, x_zret1, x_rf_s, x_rf_n, x_geti, x_getr, x_puti, x_putz, x_putr, x_ial, x_ias, x_lal, x_las, x_aal, x_aas, x_aast, x_alen, x_new, x_newa, x_copy, x_min, x_abs, x_minl, x_oinit, x_throw, x_callS0, x_callS1, x_callS2, x_callS3, x_callS4, x_callV0, x_callV1, x_callV2, x_callV3, x_callV4, x_callV5, x_retI_v, x_callI0, x_callI1, x_callI2, x_retN_v, x_callSN1, x_callSN2, x_callT0, x_callT1, x_fn, x_sl0, x_sli, x_slr, x_sll, x_ar0, x_ari, x_arr, x_arl, ↓reduceIte, Nat.reduceAdd, Nat.reduceSub, Nat.reduceMul, Nat.reduceEqDiff, Nat.reduceLeDiff, Nat.reduceLT, if_true, if_false, Nat.le_refl, and_true, true_and, and_self, reduceCtorEq, or_false, false_or, or_true, true_or, Nat.zero_le, fa_lit, nI_add, w_mul, nI_ltI, nI_leI, nI_eq, nI_clamp, nI_toInt, if_pos, if_neg, w_div, w_rem2, xk0 hA, xk1 hA, xl1 hA, xk2 hA, xk3 hA, xl3 hA, xr2_2 hA, xi2_0 hA, xi2_1 hA, xk4 hA, xk5 hA, xl5 hA, xr4_2 hA, xi4_0 hA, xi4_1 hA, xk6 hA, xk7 hA, xl7 hA, xr6_2 hA, xi6_0 hA, xi6_1 hA, xk8 hA, xk9 hA, xl9 hA, xr8_2 hA, xi8_0 hA, xi8_1 hA, xk10 hA, xk11 hA, xl11 hA, xr10_2 hA, xi10_0 hA, xi10_1 hA, xr0_7 hA, xr0_8 hA, xr0_9 hA, xr0_10 hA, xr0_11 hA, xr0_12 hA, x_k_I, x_l_I, x_r_I, x_j_I, x_n_I, x_z_I, x_i_Is, x_k_W, x_l_W, x_r_W, x_j_W, x_n_W, x_z_W, x_k_J, x_l_J, x_r_J, x_i_J, x_n_J, x_z_J, x_k_R, x_l_R, x_j_R, x_i_R, x_n_R, x_z_R, x_n_N, x_z_N, x_k_N, x_l_N, x_i_N, x_j_N, x_r_N, y_cellAt, ew, es, en, e6']
theorem s_ce_inj (hV : s_V R) (hin : s_in R x y) (h : s_ce x y = 12 * j + i) (hi : i < 12) : x = nI i ∧ y = nI j := by
  have k := (hin.ok hV.B).2
  rw [h] at k
  constructor
  · rw [hin.1.1, ← k.1]
    congr 1
    omega
  · rw [hin.2.1, ← k.2.1]
    congr 1
    omega
theorem s_V.wall (h : s_V R) (hc : c < 144) (h1 : s_ce (R 10) (R 11) ≠ c) (h2 : ∀ u, u < s_n (R 2) → s_ce (R (12 + 4 * u + 0)) (R (12 + 4 * u + 1)) ≠ c) (h3 : ∀ o, o < s_n (R 4) → R (64 + 10 * o + 3) = nI 0 → s_ce (R (64 + 10 * o + 7)) (R (64 + 10 * o + 8)) ≠ c) : s_V (s_wq R c) := by
  have hq : ∀ j, j ≠ 6 → j ≠ 784 + c → s_wq R c j = R j := fun j j1 j2 => by
    unfold s_wq
    rw [s_up_n j1, s_up_n j2]
  have b2 := h.B.2.1.2
  have b3 := h.B.2.2.1.2
  have b4 := h.B.2.2.2.1.2
  have b7 := h.B.2.2.2.2.1.2
  have b8 := h.B.2.2.2.2.2.1.2
  have q0 := h.B.1.1.2
  have q1 := h.B.1.2.2.1.2
  refine h.chg ?_ (hq 2 (by omega) (by omega)) (hq 3 (by omega) (by omega)) (hq 4 (by omega) (by omega)) (hq 7 (by omega) (by omega)) (hq 8 (by omega) (by omega)) (fun u hu => ?_) (fun p hp => (h.P p hp).cong (by omega) (fun j hj => hq j (by omega) (by omega))) (fun p hp => (h.L p hp).cong (by omega) (fun j hj => hq j (by omega) (by omega))) (fun o ho => ?_) (fun o _ => hq _ (by omega) (by omega))
  · have q := h.B
    have h1' : ¬ 12 * s_n (R 11) + s_n (R 10) = c := h1
    unfold s_VB at q ⊢
    simp (disch := omega) only [s_in, s_w, s_h, s_ce, hq]
    refine ⟨q.1, q.2.1, q.2.2.1, q.2.2.2.1, q.2.2.2.2.1, q.2.2.2.2.2.1, q.2.2.2.2.2.2.1, q.2.2.2.2.2.2.2.1, q.2.2.2.2.2.2.2.2.1, fun c2 hc2 => ?_⟩
    by_cases e : c2 = c
    · subst e
      have ev : s_wq R c2 (784 + c2) = if R (784 + c2) = 0 then nI 1 else nI 0 := by
        unfold s_wq
        rw [s_up_n (by omega), s_up_s]
      rw [ev]
      by_cases g : R (784 + c2) = 0
      · rw [if_pos g]
        exact Or.inr rfl
      · rw [if_neg g]
        exact Or.inl rfl
    · rw [hq _ (by omega) (by omega)]
      exact q.2.2.2.2.2.2.2.2.2 c2 hc2
  · have q := h.U u hu
    have h2' : ¬ 12 * s_n (R (12 + 4 * u + 1)) + s_n (R (12 + 4 * u + 0)) = c := h2 u hu
    have m3 : s_n (R (12 + 4 * u + 3)) < 41 ∨ R (12 + 4 * u + 3) = -nI 1 := q.2.2.elim Or.inr (fun w => Or.inl (by have := w.1.2; omega))
    unfold s_Vu at q ⊢
    simp (disch := omega) only [s_in, s_w, s_h, s_ce, hq]
    refine ⟨q.1, q.2.1, q.2.2.imp id (fun w => ⟨w.1, ?_⟩)⟩
    have := w.1.2
    rw [hq _ (by omega) (by omega)]
    exact w.2
  · have q := h.O o ho
    have h3' : R (64 + 10 * o + 3) = nI 0 → ¬ 12 * s_n (R (64 + 10 * o + 8)) + s_n (R (64 + 10 * o + 7)) = c := fun e => h3 o ho e
    have k0 := q.1.1.2
    unfold s_Vo at q ⊢
    simp (disch := omega) only [s_in, s_w, s_h, s_ce, hq]
    refine ⟨q.1, fun e => ?_, q.2.2⟩
    have := h3' e
    rw [hq _ (by omega) (by omega)]
    exact q.2.1 e
abbrev s_held (R : Nat → Int32) (x y : Int32) : Prop := s_hq R x y ∨ s_lu R x y ≠ -nI 1 ∨ s_hm R x y = nI 1
abbrev s_goal (R : Nat → Int32) (x y : Int32) : Prop := (if s_g1 R x y = nI 1 then nI 1 else s_g2 R x y) = nI 1
def u_wall (M : Nat → Nat → Int32) (x y : Int32) : (Nat × Int32) × (Nat → Nat → Int32) :=
  if s_cel (M 139) x y then (if s_held (M 139) x y then ((0, -nI 2), M) else if s_goal (M 139) x y then ((0, -nI 3), M) else ((0, s_wq (M 139) (s_ce x y) 6), va_up (s_rec M) 139 (s_wq (M 139) (s_ce x y)))) else ((1, 0), M)
theorem s_unheld (hV : s_V R) (hi : i < 12) (hj : j < 12) (h : ¬ s_held R (nI i) (nI j)) : s_V (s_wq R (12 * j + i)) := by
  have e0 : ¬ s_hq R (nI i) (nI j) := fun q => h (Or.inl q)
  have e1 : s_lu R (nI i) (nI j) = -nI 1 := Decidable.of_not_not (fun q => h (Or.inr (Or.inl q)))
  have e2 : ¬ s_hm R (nI i) (nI j) = nI 1 := fun q => h (Or.inr (Or.inr q))
  refine hV.wall (by omega) (fun q => ?_) (fun u hu q => ?_) (fun o ho hs q => ?_)
  · have k := s_ce_inj hV hV.B.2.2.2.2.2.2.2.2.1.1 q hi
    exact e0 ⟨k.1.symm, k.2.symm⟩
  · have k := s_ce_inj hV (hV.U u hu).1.1 q hi
    rcases s_fst_sp (p := fun u => R (12 + 4 * u + 0) = nI i ∧ R (12 + 4 * u + 1) = nI j) (s_n (R 2)) 0 with ⟨-, g⟩ | ⟨p, -, -, -, g⟩
    · exact g u (Nat.zero_le _) (by omega) k
    · have g : s_lu R (nI i) (nI j) = nI p := g
      have hp : s_lu R (nI i) (nI j) = -nI 1 := e1
      rcases s_fst_sp (p := fun u => R (12 + 4 * u + 0) = nI i ∧ R (12 + 4 * u + 1) = nI j) (s_n (R 2)) 0 with ⟨-, g2⟩ | ⟨p2, -, l2, -, g2⟩
      · exact g2 u (Nat.zero_le _) (by omega) k
      · have g2 : s_lu R (nI i) (nI j) = nI p2 := g2
        have b2 := hV.B.2.1.2
        rw [g2] at hp
        exact nI_nm1 (by omega) hp
  · have k := s_ce_inj hV (hV.O o ho).1.2.2.2.2.2 q hi
    rcases s_exi_01 (p := fun o => R (64 + 10 * o + 3) = nI 0 ∧ R (64 + 10 * o + 7) = nI i ∧ R (64 + 10 * o + 8) = nI j) (s_n (R 4)) 0 with g | g
    · exact s_exi_0 _ _ g o (Nat.zero_le _) (by omega) ⟨hs, k⟩
    · exact e2 g
theorem y_wall (h : w_Ic S M) : ∃ S', fX10_wall w_N [.ref 100, .int x, .int y] S = some (o_r (u_wall M x y).1.1 (u_wall M x y).1.2, S') ∧ w_Ic S' (u_wall M x y).2 ∧ w_le 13 959 S S' ∧ w_kp S S' := by
  have hL := h.L
  have hC := h.1.1
  have hA := hL.2.1
  have hV := hL.2.2.2
  have hn := h.1.2.1
  unfold u_wall
  by_cases c1 : s_cel (M 139) x y
  · rw [if_pos c1]
    have g1 := y_needCell1 hL c1
    have gq := y_isHq (x := x) (y := y) hL
    have gl := y_lowest (x := x) (y := y) hL
    have gm := y_hasMess (x := x) (y := y) hL
    have gg := y_isGoal (x := x) (y := y) hL
    by_cases c2 : s_held (M 139) x y
    · rw [if_pos c2]
      refine ⟨S, ?_, h, w_le.rf.mono (by omega) (by omega), w_kp.rf⟩
      by_cases d0 : s_hq (M 139) x y
      · rw [w_bt d0] at gq
        simp (disch := omega) only [fX10_wall, kX10_wall_0, kX10_wall_43, x_cs0, x_csi, x_csr, x_csn, x_csl, x_ret_v, x_ret_t, x_ret_n, x_tl_s, x_tl_n, x_lk0, x_lk, x_rem0, x_rem_i, x_rem_r, x_rem_l, x_rem2_0, x_rem2_i, x_rem2_r, x_rem2_l, x_pick0, x_pick_c, x_st1, x_st2, x_live, x_i, x_l, x_a, x_ild, x_lld, x_rld, x_ist, x_lst, x_rst, x_inc, x_ii, x_ll, x_li, x_cmp, x_ui, x_il, x_lti, x_idiv, x_irem, x_dup_i, x_dup_r, x_pop_i, x_pop_r, x_dupx_ir, x_dup2_ir, x_ifeq, x_iceq, x_iflt, x_iclt, x_ifge, x_icge, x_ifgt, x_icgt, x_ifle, x_icle, x_ifne, x_icne, x_ifnull_r, x_ifnull_n, x_ifnonnull_r, x_ifnonnull_n, x_sw, x_vret, x_iret, x_lret, x_zret, x_zret0, x_zret1, x_rf_s, x_rf_n, x_geti, x_getr, x_puti, x_putz, x_putr, x_ial, x_ias, x_lal, x_las, x_aal, x_aas, x_aast, x_alen, x_new, x_newa, x_copy, x_min, x_abs, x_minl, x_oinit, x_throw, x_callS0, x_callS1, x_callS2, x_callS3, x_callS4, x_callV0, x_callV1, x_callV2, x_callV3, x_callV4, x_callV5, x_retI_v, x_callI0, x_callI1, x_callI2, x_retN_v, x_callSN1, x_callSN2, x_callT0, x_callT1, x_fn, x_sl0, x_sli, x_slr, x_sll, x_ar0, x_ari, x_arr, x_arl, ↓reduceIte, Nat.reduceAdd, Nat.reduceSub, Nat.reduceMul, Nat.reduceEqDiff, Nat.reduceLeDiff, Nat.reduceLT, if_true, if_false, Nat.le_refl, and_true, true_and, and_self, reduceCtorEq, or_false, false_or, or_true, true_or, Nat.zero_le, fa_lit, nI_add, w_mul, nI_ltI, nI_leI, nI_eq, nI_clamp, nI_toInt, if_pos, if_neg, w_div, w_rem2, xk0 hA, xk1 hA, xl1 hA, xk2 hA, xk3 hA, xl3 hA, xr2_2 hA, xi2_0 hA, xi2_1 hA, xk4 hA, xk5 hA, xl5 hA, xr4_2 hA, xi4_0 hA, xi4_1 hA, xk6 hA, xk7 hA, xl7 hA, xr6_2 hA, xi6_0 hA, xi6_1 hA, xk8 hA, xk9 hA, xl9 hA, xr8_2 hA, xi8_0 hA, xi8_1 hA, xk10 hA, xk11 hA, xl11 hA, xr10_2 hA, xi10_0 hA, xi10_1 hA, xr0_7 hA, xr0_8 hA, xr0_9 hA, xr0_10 hA, xr0_11 hA, xr0_12 hA, yk100 hC, yk125 hC, yk126 hC, yk127 hC, yk128 hC, yk129 hC, yk130 hC, yk131 hC, yk132 hC, yk133 hC, yk134 hC, yk135 hC, yk136 hC, yk137 hC, yl126 hC, yl128 hC, yl130 hC, yl131 hC, yl133 hC, yl137 hC, yr100_0 hC, yr100_1 hC, yr100_2 hC, yr100_3 hC, yr100_4 hC, yr100_5 hC, yr100_6 hC, yr100_7 hC, yr100_8 hC, yr100_9 hC, yr100_10 hC, yr125_0 hC, yr127_0 hC, yr129_0 hC, yr129_1 hC, yr129_2 hC, yr132_0 hC, yr134_0 hC, yr135_0 hC, yr135_1 hC, yr136_0 hC, yr136_1 hC, g1, gq, o_r0]
      · rw [w_bf d0] at gq
        by_cases d1 : s_lu (M 139) x y = -nI 1
        · have d2 : s_hm (M 139) x y = nI 1 := by
            rcases c2 with q | q | q
            · exact absurd q d0
            · exact absurd d1 q
            · exact q
          rw [d1] at gl
          rw [d2] at gm
          simp (disch := omega) only [fX10_wall, kX10_wall_0, kX10_wall_43, x_cs0, x_csi, x_csr, x_csn, x_csl, x_ret_v, x_ret_t, x_ret_n, x_tl_s, x_tl_n, x_lk0, x_lk, x_rem0, x_rem_i, x_rem_r, x_rem_l, x_rem2_0, x_rem2_i, x_rem2_r, x_rem2_l, x_pick0, x_pick_c, x_st1, x_st2, x_live, x_i, x_l, x_a, x_ild, x_lld, x_rld, x_ist, x_lst, x_rst, x_inc, x_ii, x_ll, x_li, x_cmp, x_ui, x_il, x_lti, x_idiv, x_irem, x_dup_i, x_dup_r, x_pop_i, x_pop_r, x_dupx_ir, x_dup2_ir, x_ifeq, x_iceq, x_iflt, x_iclt, x_ifge, x_icge, x_ifgt, x_icgt, x_ifle, x_icle, x_ifne, x_icne, x_ifnull_r, x_ifnull_n, x_ifnonnull_r, x_ifnonnull_n, x_sw, x_vret, x_iret, x_lret, x_zret, x_zret0, x_zret1, x_rf_s, x_rf_n, x_geti, x_getr, x_puti, x_putz, x_putr, x_ial, x_ias, x_lal, x_las, x_aal, x_aas, x_aast, x_alen, x_new, x_newa, x_copy, x_min, x_abs, x_minl, x_oinit, x_throw, x_callS0, x_callS1, x_callS2, x_callS3, x_callS4, x_callV0, x_callV1, x_callV2, x_callV3, x_callV4, x_callV5, x_retI_v, x_callI0, x_callI1, x_callI2, x_retN_v, x_callSN1, x_callSN2, x_callT0, x_callT1, x_fn, x_sl0, x_sli, x_slr, x_sll, x_ar0, x_ari, x_arr, x_arl, ↓reduceIte, Nat.reduceAdd, Nat.reduceSub, Nat.reduceMul, Nat.reduceEqDiff, Nat.reduceLeDiff, Nat.reduceLT, if_true, if_false, Nat.le_refl, and_true, true_and, and_self, reduceCtorEq, or_false, false_or, or_true, true_or, Nat.zero_le, fa_lit, nI_add, w_mul, nI_ltI, nI_leI, nI_eq, nI_clamp, nI_toInt, if_pos, if_neg, w_div, w_rem2, xk0 hA, xk1 hA, xl1 hA, xk2 hA, xk3 hA, xl3 hA, xr2_2 hA, xi2_0 hA, xi2_1 hA, xk4 hA, xk5 hA, xl5 hA, xr4_2 hA, xi4_0 hA, xi4_1 hA, xk6 hA, xk7 hA, xl7 hA, xr6_2 hA, xi6_0 hA, xi6_1 hA, xk8 hA, xk9 hA, xl9 hA, xr8_2 hA, xi8_0 hA, xi8_1 hA, xk10 hA, xk11 hA, xl11 hA, xr10_2 hA, xi10_0 hA, xi10_1 hA, xr0_7 hA, xr0_8 hA, xr0_9 hA, xr0_10 hA, xr0_11 hA, xr0_12 hA, yk100 hC, yk125 hC, yk126 hC, yk127 hC, yk128 hC, yk129 hC, yk130 hC, yk131 hC, yk132 hC, yk133 hC, yk134 hC, yk135 hC, yk136 hC, yk137 hC, yl126 hC, yl128 hC, yl130 hC, yl131 hC, yl133 hC, yl137 hC, yr100_0 hC, yr100_1 hC, yr100_2 hC, yr100_3 hC, yr100_4 hC, yr100_5 hC, yr100_6 hC, yr100_7 hC, yr100_8 hC, yr100_9 hC, yr100_10 hC, yr125_0 hC, yr127_0 hC, yr129_0 hC, yr129_1 hC, yr129_2 hC, yr132_0 hC, yr134_0 hC, yr135_0 hC, yr135_1 hC, yr136_0 hC, yr136_1 hC, g1, gq, gl, gm, o_r0]
        · simp (disch := omega) only [fX10_wall, kX10_wall_0, kX10_wall_43, x_cs0, x_csi, x_csr, x_csn, x_csl, x_ret_v, x_ret_t, x_ret_n, x_tl_s, x_tl_n, x_lk0, x_lk, x_rem0, x_rem_i, x_rem_r, x_rem_l, x_rem2_0, x_rem2_i, x_rem2_r, x_rem2_l, x_pick0, x_pick_c, x_st1, x_st2, x_live, x_i, x_l, x_a, x_ild, x_lld, x_rld, x_ist, x_lst, x_rst, x_inc, x_ii, x_ll, x_li, x_cmp, x_ui, x_il, x_lti, x_idiv, x_irem, x_dup_i, x_dup_r, x_pop_i, x_pop_r, x_dupx_ir, x_dup2_ir, x_ifeq, x_iceq, x_iflt, x_iclt, x_ifge, x_icge, x_ifgt, x_icgt, x_ifle, x_icle, x_ifne, x_icne, x_ifnull_r, x_ifnull_n, x_ifnonnull_r, x_ifnonnull_n, x_sw, x_vret, x_iret, x_lret, x_zret, x_zret0, x_zret1, x_rf_s, x_rf_n, x_geti, x_getr, x_puti, x_putz, x_putr, x_ial, x_ias, x_lal, x_las, x_aal, x_aas, x_aast, x_alen, x_new, x_newa, x_copy, x_min, x_abs, x_minl, x_oinit, x_throw, x_callS0, x_callS1, x_callS2, x_callS3, x_callS4, x_callV0, x_callV1, x_callV2, x_callV3, x_callV4, x_callV5, x_retI_v, x_callI0, x_callI1, x_callI2, x_retN_v, x_callSN1, x_callSN2, x_callT0, x_callT1, x_fn, x_sl0, x_sli, x_slr, x_sll, x_ar0, x_ari, x_arr, x_arl, ↓reduceIte, Nat.reduceAdd, Nat.reduceSub, Nat.reduceMul, Nat.reduceEqDiff, Nat.reduceLeDiff, Nat.reduceLT, if_true, if_false, Nat.le_refl, and_true, true_and, and_self, reduceCtorEq, or_false, false_or, or_true, true_or, Nat.zero_le, fa_lit, nI_add, w_mul, nI_ltI, nI_leI, nI_eq, nI_clamp, nI_toInt, if_pos, if_neg, w_div, w_rem2, xk0 hA, xk1 hA, xl1 hA, xk2 hA, xk3 hA, xl3 hA, xr2_2 hA, xi2_0 hA, xi2_1 hA, xk4 hA, xk5 hA, xl5 hA, xr4_2 hA, xi4_0 hA, xi4_1 hA, xk6 hA, xk7 hA, xl7 hA, xr6_2 hA, xi6_0 hA, xi6_1 hA, xk8 hA, xk9 hA, xl9 hA, xr8_2 hA, xi8_0 hA, xi8_1 hA, xk10 hA, xk11 hA, xl11 hA, xr10_2 hA, xi10_0 hA, xi10_1 hA, xr0_7 hA, xr0_8 hA, xr0_9 hA, xr0_10 hA, xr0_11 hA, xr0_12 hA, yk100 hC, yk125 hC, yk126 hC, yk127 hC, yk128 hC, yk129 hC, yk130 hC, yk131 hC, yk132 hC, yk133 hC, yk134 hC, yk135 hC, yk136 hC, yk137 hC, yl126 hC, yl128 hC, yl130 hC, yl131 hC, yl133 hC, yl137 hC, yr100_0 hC, yr100_1 hC, yr100_2 hC, yr100_3 hC, yr100_4 hC, yr100_5 hC, yr100_6 hC, yr100_7 hC, yr100_8 hC, yr100_9 hC, yr100_10 hC, yr125_0 hC, yr127_0 hC, yr129_0 hC, yr129_1 hC, yr129_2 hC, yr132_0 hC, yr134_0 hC, yr135_0 hC, yr135_1 hC, yr136_0 hC, yr136_1 hC, g1, gq, gl, d1, o_r0]
    · rw [if_neg c2]
      have d0 : ¬ s_hq (M 139) x y := fun q => c2 (Or.inl q)
      have d1 : s_lu (M 139) x y = -nI 1 := Decidable.of_not_not (fun q => c2 (Or.inr (Or.inl q)))
      have d2 : s_hm (M 139) x y = nI 0 := by
        rcases s_exi_01 (p := fun o => M 139 (64 + 10 * o + 3) = nI 0 ∧ M 139 (64 + 10 * o + 7) = x ∧ M 139 (64 + 10 * o + 8) = y) (s_n (M 139 4)) 0 with g | g
        · exact g
        · exact absurd (Or.inr (Or.inr g)) c2
      rw [w_bf d0] at gq
      rw [d1] at gl
      rw [d2] at gm
      by_cases c3 : s_goal (M 139) x y
      · rw [if_pos c3]
        rw [c3] at gg
        refine ⟨S, ?_, h, w_le.rf.mono (by omega) (by omega), w_kp.rf⟩
        simp (disch := omega) only [fX10_wall, kX10_wall_0, kX10_wall_43, x_cs0, x_csi, x_csr, x_csn, x_csl, x_ret_v, x_ret_t, x_ret_n, x_tl_s, x_tl_n, x_lk0, x_lk, x_rem0, x_rem_i, x_rem_r, x_rem_l, x_rem2_0, x_rem2_i, x_rem2_r, x_rem2_l, x_pick0, x_pick_c, x_st1, x_st2, x_live, x_i, x_l, x_a, x_ild, x_lld, x_rld, x_ist, x_lst, x_rst, x_inc, x_ii, x_ll, x_li, x_cmp, x_ui, x_il, x_lti, x_idiv, x_irem, x_dup_i, x_dup_r, x_pop_i, x_pop_r, x_dupx_ir, x_dup2_ir, x_ifeq, x_iceq, x_iflt, x_iclt, x_ifge, x_icge, x_ifgt, x_icgt, x_ifle, x_icle, x_ifne, x_icne, x_ifnull_r, x_ifnull_n, x_ifnonnull_r, x_ifnonnull_n, x_sw, x_vret, x_iret, x_lret, x_zret, x_zret0, x_zret1, x_rf_s, x_rf_n, x_geti, x_getr, x_puti, x_putz, x_putr, x_ial, x_ias, x_lal, x_las, x_aal, x_aas, x_aast, x_alen, x_new, x_newa, x_copy, x_min, x_abs, x_minl, x_oinit, x_throw, x_callS0, x_callS1, x_callS2, x_callS3, x_callS4, x_callV0, x_callV1, x_callV2, x_callV3, x_callV4, x_callV5, x_retI_v, x_callI0, x_callI1, x_callI2, x_retN_v, x_callSN1, x_callSN2, x_callT0, x_callT1, x_fn, x_sl0, x_sli, x_slr, x_sll, x_ar0, x_ari, x_arr, x_arl, ↓reduceIte, Nat.reduceAdd, Nat.reduceSub, Nat.reduceMul, Nat.reduceEqDiff, Nat.reduceLeDiff, Nat.reduceLT, if_true, if_false, Nat.le_refl, and_true, true_and, and_self, reduceCtorEq, or_false, false_or, or_true, true_or, Nat.zero_le, fa_lit, nI_add, w_mul, nI_ltI, nI_leI, nI_eq, nI_clamp, nI_toInt, if_pos, if_neg, w_div, w_rem2, xk0 hA, xk1 hA, xl1 hA, xk2 hA, xk3 hA, xl3 hA, xr2_2 hA, xi2_0 hA, xi2_1 hA, xk4 hA, xk5 hA, xl5 hA, xr4_2 hA, xi4_0 hA, xi4_1 hA, xk6 hA, xk7 hA, xl7 hA, xr6_2 hA, xi6_0 hA, xi6_1 hA, xk8 hA, xk9 hA, xl9 hA, xr8_2 hA, xi8_0 hA, xi8_1 hA, xk10 hA, xk11 hA, xl11 hA, xr10_2 hA, xi10_0 hA, xi10_1 hA, xr0_7 hA, xr0_8 hA, xr0_9 hA, xr0_10 hA, xr0_11 hA, xr0_12 hA, yk100 hC, yk125 hC, yk126 hC, yk127 hC, yk128 hC, yk129 hC, yk130 hC, yk131 hC, yk132 hC, yk133 hC, yk134 hC, yk135 hC, yk136 hC, yk137 hC, yl126 hC, yl128 hC, yl130 hC, yl131 hC, yl133 hC, yl137 hC, yr100_0 hC, yr100_1 hC, yr100_2 hC, yr100_3 hC, yr100_4 hC, yr100_5 hC, yr100_6 hC, yr100_7 hC, yr100_8 hC, yr100_9 hC, yr100_10 hC, yr125_0 hC, yr127_0 hC, yr129_0 hC, yr129_1 hC, yr129_2 hC, yr132_0 hC, yr134_0 hC, yr135_0 hC, yr135_1 hC, yr136_0 hC, yr136_1 hC, g1, gq, gl, gm, gg, o_r0]
      · rw [if_neg c3]
        have c4 : (if s_g1 (M 139) x y = nI 1 then nI 1 else s_g2 (M 139) x y) = nI 0 := by
          have e1 := s_exi_01 (p := fun p => M 139 5 ≤ M 139 (464 + 4 * p + 3) ∧ M 139 (464 + 4 * p + 1) = x ∧ M 139 (464 + 4 * p + 2) = y) (s_n (M 139 8)) 0
          by_cases e : s_g1 (M 139) x y = nI 1
          · exact absurd (if_pos e) c3
          · rw [if_neg e]
            rcases e1 with q | q
            · exact q
            · exact absurd ((if_neg e).trans q) c3
        rw [c4] at gg
        obtain ⟨S1, f1, f2, f3, f4⟩ := y_rec h
        have hL1 := f2.L
        rw [s_rec_139] at hL1
        have hA1 := hL1.2.1
        have hC1 := hL1.1
        have hn1 := f2.1.2.1
        have hT1 := f2.2.1.2.2.1
        have sh1 := f2.1.2.2
        obtain ⟨i, j, i1, j1, i2, j2, rfl, rfl⟩ := s_cel_n hV c1
        have ec : s_ce (nI i) (nI j) = 12 * j + i := by
          unfold s_ce
          rw [w_snI (by omega), w_snI (by omega)]
        obtain ⟨S2, k1, k2, k3⟩ := y_turnWall hA1 hL1.2.2.1 hV i2 j2
        have VQ := s_unheld hV i2 j2 c2
        have hC2 := k3.1.C hC1
        have hT2 := hT1.J (Or.inl rfl) k3
        have en2 : am_n S2 = am_n S1 := k3.1.1
        have hA2 := k3.A hA1
        have hA23 := k3.1.Aa (sh1.1 1 113 rfl).1 (fun b h1 h2 => by omega)
        obtain ⟨S3, m1, m2, m3⟩ := y_forget hC2 (by omega) hT2
        have sep : ∀ a, w_A S2 a → ∀ b, a ≤ b → b < a + 12 → ¬ w_inT S2 b := fun a ha b h1 h2 q => w_sepT ha hT2 q ⟨h1, h2⟩
        have inT : ∀ b, w_inT S2 b → w_inT S1 b := fun b q => by
          obtain ⟨t, D, ht, hD, e⟩ := q
          rw [k3.1.2.2.2.2.2.1] at hD
          exact ⟨t, D, ht, hD, e⟩
        have hA3 := m3.Aa hA2 (sep 101 hA2)
        have hC3 := m3.C hC2
        have R3 := m3.Ra k2 (sep 101 hA2)
        have low : ∀ b, b ≤ 151 → ¬ w_inT S2 b := fun b hb q => by
          obtain ⟨t, D, ht, hD, e⟩ := q
          have := (hT2.1 t D ht hD).1.1
          omega
        have hq : ∀ g, g ≠ 6 → g ≠ 784 + (12 * j + i) → s_wq (M 139) (12 * j + i) g = M 139 g := fun g g1 g2 => by
          unfold s_wq
          rw [s_up_n g1, s_up_n g2]
        have i6 : am_i S3 101 6 = s_wq (M 139) (12 * j + i) 6 := R3.1.2.2.2.2.2.2
        have b7 := hV.B.2.2.2.2.1.2
        have b4 := hV.B.2.2.2.1.2
        refine ⟨S3, ?_, ?_, ((f3.tr (w_le.I k3.1)).tr (w_le.I m3)).mono (by omega) (by omega), (f4.tr (w_kp.J k3 (Or.inl rfl))).tr (w_kp.I m3 (fun b h1 h2 => low b (by omega)))⟩
        · simp (disch := omega) only [fX10_wall, kX10_wall_0, kX10_wall_43, x_cs0, x_csi, x_csr, x_csn, x_csl, x_ret_v, x_ret_t, x_ret_n, x_tl_s, x_tl_n, x_lk0, x_lk, x_rem0, x_rem_i, x_rem_r, x_rem_l, x_rem2_0, x_rem2_i, x_rem2_r, x_rem2_l, x_pick0, x_pick_c, x_st1, x_st2, x_live, x_i, x_l, x_a, x_ild, x_lld, x_rld, x_ist, x_lst, x_rst, x_inc, x_ii, x_ll, x_li, x_cmp, x_ui, x_il, x_lti, x_idiv, x_irem, x_dup_i, x_dup_r, x_pop_i, x_pop_r, x_dupx_ir, x_dup2_ir, x_ifeq, x_iceq, x_iflt, x_iclt, x_ifge, x_icge, x_ifgt, x_icgt, x_ifle, x_icle, x_ifne, x_icne, x_ifnull_r, x_ifnull_n, x_ifnonnull_r, x_ifnonnull_n, x_sw, x_vret, x_iret, x_lret, x_zret, x_zret0, x_zret1, x_rf_s, x_rf_n, x_geti, x_getr, x_puti, x_putz, x_putr, x_ial, x_ias, x_lal, x_las, x_aal, x_aas, x_aast, x_alen, x_new, x_newa, x_copy, x_min, x_abs, x_minl, x_oinit, x_throw, x_callS0, x_callS1, x_callS2, x_callS3, x_callS4, x_callV0, x_callV1, x_callV2, x_callV3, x_callV4, x_callV5, x_retI_v, x_callI0, x_callI1, x_callI2, x_retN_v, x_callSN1, x_callSN2, x_callT0, x_callT1, x_fn, x_sl0, x_sli, x_slr, x_sll, x_ar0, x_ari, x_arr, x_arl, ↓reduceIte, Nat.reduceAdd, Nat.reduceSub, Nat.reduceMul, Nat.reduceEqDiff, Nat.reduceLeDiff, Nat.reduceLT, if_true, if_false, Nat.le_refl, and_true, true_and, and_self, reduceCtorEq, or_false, false_or, or_true, true_or, Nat.zero_le, fa_lit, nI_add, w_mul, nI_ltI, nI_leI, nI_eq, nI_clamp, nI_toInt, if_pos, if_neg, w_div, w_rem2, xk0 hA, xk1 hA, xl1 hA, xk2 hA, xk3 hA, xl3 hA, xr2_2 hA, xi2_0 hA, xi2_1 hA, xk4 hA, xk5 hA, xl5 hA, xr4_2 hA, xi4_0 hA, xi4_1 hA, xk6 hA, xk7 hA, xl7 hA, xr6_2 hA, xi6_0 hA, xi6_1 hA, xk8 hA, xk9 hA, xl9 hA, xr8_2 hA, xi8_0 hA, xi8_1 hA, xk10 hA, xk11 hA, xl11 hA, xr10_2 hA, xi10_0 hA, xi10_1 hA, xr0_7 hA, xr0_8 hA, xr0_9 hA, xr0_10 hA, xr0_11 hA, xr0_12 hA, yk100 hC, yk125 hC, yk126 hC, yk127 hC, yk128 hC, yk129 hC, yk130 hC, yk131 hC, yk132 hC, yk133 hC, yk134 hC, yk135 hC, yk136 hC, yk137 hC, yl126 hC, yl128 hC, yl130 hC, yl131 hC, yl133 hC, yl137 hC, yr100_0 hC, yr100_1 hC, yr100_2 hC, yr100_3 hC, yr100_4 hC, yr100_5 hC, yr100_6 hC, yr100_7 hC, yr100_8 hC, yr100_9 hC, yr100_10 hC, yr125_0 hC, yr127_0 hC, yr129_0 hC, yr129_1 hC, yr129_2 hC, yr132_0 hC, yr134_0 hC, yr135_0 hC, yr135_1 hC, yr136_0 hC, yr136_1 hC, yk100 hC1, yk125 hC1, yk126 hC1, yk127 hC1, yk128 hC1, yk129 hC1, yk130 hC1, yk131 hC1, yk132 hC1, yk133 hC1, yk134 hC1, yk135 hC1, yk136 hC1, yk137 hC1, yl126 hC1, yl128 hC1, yl130 hC1, yl131 hC1, yl133 hC1, yl137 hC1, yr100_0 hC1, yr100_1 hC1, yr100_2 hC1, yr100_3 hC1, yr100_4 hC1, yr100_5 hC1, yr100_6 hC1, yr100_7 hC1, yr100_8 hC1, yr100_9 hC1, yr100_10 hC1, yr125_0 hC1, yr127_0 hC1, yr129_0 hC1, yr129_1 hC1, yr129_2 hC1, yr132_0 hC1, yr134_0 hC1, yr135_0 hC1, yr135_1 hC1, yr136_0 hC1, yr136_1 hC1, yk100 hC2, yk125 hC2, yk126 hC2, yk127 hC2, yk128 hC2, yk129 hC2, yk130 hC2, yk131 hC2, yk132 hC2, yk133 hC2, yk134 hC2, yk135 hC2, yk136 hC2, yk137 hC2, yl126 hC2, yl128 hC2, yl130 hC2, yl131 hC2, yl133 hC2, yl137 hC2, yr100_0 hC2, yr100_1 hC2, yr100_2 hC2, yr100_3 hC2, yr100_4 hC2, yr100_5 hC2, yr100_6 hC2, yr100_7 hC2, yr100_8 hC2, yr100_9 hC2, yr100_10 hC2, yr125_0 hC2, yr127_0 hC2, yr129_0 hC2, yr129_1 hC2, yr129_2 hC2, yr132_0 hC2, yr134_0 hC2, yr135_0 hC2, yr135_1 hC2, yr136_0 hC2, yr136_1 hC2, yk100 hC3, yk125 hC3, yk126 hC3, yk127 hC3, yk128 hC3, yk129 hC3, yk130 hC3, yk131 hC3, yk132 hC3, yk133 hC3, yk134 hC3, yk135 hC3, yk136 hC3, yk137 hC3, yl126 hC3, yl128 hC3, yl130 hC3, yl131 hC3, yl133 hC3, yl137 hC3, yr100_0 hC3, yr100_1 hC3, yr100_2 hC3, yr100_3 hC3, yr100_4 hC3, yr100_5 hC3, yr100_6 hC3, yr100_7 hC3, yr100_8 hC3, yr100_9 hC3, yr100_10 hC3, yr125_0 hC3, yr127_0 hC3, yr129_0 hC3, yr129_1 hC3, yr129_2 hC3, yr132_0 hC3, yr134_0 hC3, yr135_0 hC3, yr135_1 hC3, yr136_0 hC3, yr136_1 hC3, xk0 hA1, xk0 hA3, g1, gq, gl, gm, gg, f1, k1, m1, i6, ec, o_r0]
        · rw [ec]
          have fIn : ∀ b, w_inT S2 b → w_PN S1 b := fun b hb => Or.inr (Or.inr (Or.inr (Or.inr (Or.inr (Or.inr (inT b hb))))))
          have F13 : w_F (w_PN S1) S1 S3 := ((w_F.of k3.1).mono (fun b hb => Or.inl (by omega))).tr ((w_F.of m3).mono fIn)
          refine f2.now F13 hA3 (m3.Aa hA23 (sep 113 hA23)) R3 ⟨VQ, ?_, ?_⟩ (m2 _) ?_ ?_ ?_ ?_
          · exact h.2.1.2.1.2.1.cong hV (fun g hg => hq g (by omega) (by omega))
          · exact h.2.1.2.1.2.2.cong b7 (hq 7 (by omega) (by omega)) (hq 4 (by omega) (by omega)) (fun g g1 g2 => hq g (by omega) (by omega)) (fun o ho => hq _ (by omega) (by omega))
          · have := f2.2.1.2.2.2
            rw [s_rec_139] at this
            exact this.cong (by rw [m3.i (low 126 (by omega)), k3.1.i (by omega)]) (fun g hg => hq g (by omega) (by omega))
          · rw [s_rec_139]
            exact hq 2 (by omega) (by omega)
          · rw [s_rec_139, hq 5 (by omega) (by omega)]
            exact Nat.le_refl _
          · intro g _
            rw [m3.i (low 126 (by omega)), k3.1.i (by omega)]
  · rw [if_neg c1]
    have g1 := y_needCell0 hL c1
    have ht := h.thr (c := 1)
    refine ⟨_, ?_, ht.1, ht.2.1.mono (by omega) (by omega), ht.2.2⟩
    simp (disch := omega) only [fX10_wall, kX10_wall_0, x_cs0, x_csi, x_csr, x_csn, x_csl, x_ret_v, x_ret_t, x_ret_n, x_tl_s, x_tl_n, x_lk0, x_lk, x_rem0, x_rem_i, x_rem_r, x_rem_l, x_rem2_0, x_rem2_i, x_rem2_r, x_rem2_l, x_pick0, x_pick_c, x_st1, x_st2, x_live, x_i, x_l, x_a, x_ild, x_lld, x_rld, x_ist, x_lst, x_rst, x_inc, x_ii, x_ll, x_li, x_cmp, x_ui, x_il, x_lti, x_idiv, x_irem, x_dup_i, x_dup_r, x_pop_i, x_pop_r, x_dupx_ir, x_dup2_ir, x_ifeq, x_iceq, x_iflt, x_iclt, x_ifge, x_icge, x_ifgt, x_icgt, x_ifle, x_icle, x_ifne, x_icne, x_ifnull_r, x_ifnull_n, x_ifnonnull_r, x_ifnonnull_n, x_sw, x_vret, x_iret, x_lret, x_zret, x_zret0, x_zret1, x_rf_s, x_rf_n, x_geti, x_getr, x_puti, x_putz, x_putr, x_ial, x_ias, x_lal, x_las, x_aal, x_aas, x_aast, x_alen, x_new, x_newa, x_copy, x_min, x_abs, x_minl, x_oinit, x_throw, x_callS0, x_callS1, x_callS2, x_callS3, x_callS4, x_callV0, x_callV1, x_callV2, x_callV3, x_callV4, x_callV5, x_retI_v, x_callI0, x_callI1, x_callI2, x_retN_v, x_callSN1, x_callSN2, x_callT0, x_callT1, x_fn, x_sl0, x_sli, x_slr, x_sll, x_ar0, x_ari, x_arr, x_arl, ↓reduceIte, Nat.reduceAdd, Nat.reduceSub, Nat.reduceMul, Nat.reduceEqDiff, Nat.reduceLeDiff, Nat.reduceLT, if_true, if_false, Nat.le_refl, and_true, true_and, and_self, reduceCtorEq, or_false, false_or, or_true, true_or, Nat.zero_le, fa_lit, nI_add, w_mul, nI_ltI, nI_leI, nI_eq, nI_clamp, nI_toInt, if_pos, if_neg, w_div, w_rem2, xk0 hA, xk1 hA, xl1 hA, xk2 hA, xk3 hA, xl3 hA, xr2_2 hA, xi2_0 hA, xi2_1 hA, xk4 hA, xk5 hA, xl5 hA, xr4_2 hA, xi4_0 hA, xi4_1 hA, xk6 hA, xk7 hA, xl7 hA, xr6_2 hA, xi6_0 hA, xi6_1 hA, xk8 hA, xk9 hA, xl9 hA, xr8_2 hA, xi8_0 hA, xi8_1 hA, xk10 hA, xk11 hA, xl11 hA, xr10_2 hA, xi10_0 hA, xi10_1 hA, xr0_7 hA, xr0_8 hA, xr0_9 hA, xr0_10 hA, xr0_11 hA, xr0_12 hA, yk100 hC, yk125 hC, yk126 hC, yk127 hC, yk128 hC, yk129 hC, yk130 hC, yk131 hC, yk132 hC, yk133 hC, yk134 hC, yk135 hC, yk136 hC, yk137 hC, yl126 hC, yl128 hC, yl130 hC, yl131 hC, yl133 hC, yl137 hC, yr100_0 hC, yr100_1 hC, yr100_2 hC, yr100_3 hC, yr100_4 hC, yr100_5 hC, yr100_6 hC, yr100_7 hC, yr100_8 hC, yr100_9 hC, yr100_10 hC, yr125_0 hC, yr127_0 hC, yr129_0 hC, yr129_1 hC, yr129_2 hC, yr132_0 hC, yr134_0 hC, yr135_0 hC, yr135_1 hC, yr136_0 hC, yr136_1 hC, g1, o_r1, o_t1]
end Y23
