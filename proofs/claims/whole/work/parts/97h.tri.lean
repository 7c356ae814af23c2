/-! TRIALS OF THE CLASS -/
def s_dis (R : Nat → Int32) (z x y : Int32) : Nat → Int32 := if s_n (R 4) < 40 then s_disp R (s_n (R 4)) z x y else R
theorem s_ps_s {k : Nat} {R : Nat → Int32} : s_ps (k + 1) R = s_ps k (s_pass R) := by
  unfold s_ps
  rw [s_it, s_it_s k (0 + 1)]
theorem s_ps_0 {R : Nat → Int32} : s_ps 0 R = R := rfl
theorem s_ps_r {R : Nat → Int32} : ∀ k, s_ps (k + 1) R = s_pass (s_ps k R) := by
  intro k
  induction k generalizing R with
  | zero => rfl
  | succ k ih => rw [s_ps_s, ih, s_ps_s]
def u_wouldBe (R : Nat → Int32) (z x y t : Int32) : Nat × Int32 :=
  if u_goal R z x y = 0 then (if s_rg t 0 60 then (if s_n (R 4) < 40 then (0, s_ps (s_n t) (s_disp R (s_n (R 4)) z x y) (64 + 10 * s_n (R 4) + 3)) else (0, -nI 1)) else (2, 0)) else (u_goal R z x y, 0)
section Y25
variable {S S' T : am_S} {a b c o p q i j k m n u t D d cl : Nat} {P : Nat → Prop} {R R' Q : Nat → Int32} {M M' : Nat → Nat → Int32} {x y z v : Int32}
theorem y_start (h : w_Ic S M) : ∃ S1, fX6_copyFrom w_N [.ref 113, .ref 101] S = some (.inl none, S1) ∧ w_Q S1 113 (M 139) ∧ w_O 113 S S1 := by
  have hQ := h.wQ
  have hA := hQ.2.1.1
  have hA3 := (h.1.2.2.1 1 113 rfl).1
  have hV := hQ.2.2.1.2
  obtain ⟨f1, f2, f3⟩ := y_copyS (a := 101) (b := 113) hA hA3 hQ.2.2.1.1 hV.B (Or.inl (by omega))
  have hP : ∀ b, 101 ≤ b → b < 101 + 12 → ¬ (113 ≤ b ∧ b < 113 + 12) := fun b h1 h2 q => by omega
  have en : am_n (w_cS7 S 101 113 (M 139)) = am_n S := f3.1.1
  refine ⟨w_cS7 S 101 113 (M 139), f1, ?_, f3.O⟩
  exact ⟨⟨f3.1.C h.1.1, by rw [en]; exact h.1.2.1⟩, ⟨f3.1.Aa hA hP, f3.A hA3⟩, ⟨f2, hV⟩, M 139, f3.1.Ra hQ.2.2.1.1 hP, hV.B, w_T.J h.2.1.2.2.1 (Or.inr rfl) f3, s_wl.rf⟩
theorem w_Ic.tri (h : w_Ic S M) (hQ : w_Q S' 113 Q) (hO : w_O 113 S S') (hw : s_wl (M 139) Q) : w_Ic S' M ∧ w_le 0 0 S S' ∧ w_kp S S' := by
  obtain ⟨q1, q2, q3, R0, r1, r2, r3, r4⟩ := hQ
  have hT : w_T S' (M 139) := (r4.sy.tr hw.sy).T (s_BWH r2.WH) r3
  refine ⟨h.fr (hO.F.mono (fun b hb => ?_)) q2.2 hT, w_le.O hO, w_kp.O hO (Or.inr rfl) h.1.2.1 h.2.1.2.2.1⟩
  rcases hb with q | q | q | q
  · exact Or.inr (Or.inl (by omega))
  · exact Or.inr (Or.inr (Or.inl q))
  · exact Or.inr (Or.inr (Or.inr (Or.inl q)))
  · exact Or.inr (Or.inr (Or.inr (Or.inr q)))
theorem s_wl.KT (h : s_KT R Q) : s_wl R Q := fun j hj => h j (by omega)
theorem y_addT (hQ : w_Q S 113 R) (hu : u < s_n (R 2)) (hin : s_in R x y) : ∃ S', fX6_addOrder w_N [.ref 113, .int (nI u), .int x, .int y] S = some (.inl (some (.int (if s_n (R 4) < 40 then R 4 else -nI 1))), S') ∧ w_Q S' 113 (s_dis R (nI u) x y) ∧ w_O 113 S S' ∧ s_wl R (s_dis R (nI u) x y) := by
  obtain ⟨S', k1, k2, k3⟩ := y_addOrder (u := nI u) (x := x) (y := y) hQ.2.1.2 hQ.2.2.1.1 hQ.2.2.1.2.B
  unfold s_dis
  refine ⟨S', k1, ?_, k3.O, ?_⟩
  · by_cases c : s_n (R 4) < 40
    · rw [if_pos c] at k2 ⊢
      exact hQ.J (Or.inr rfl) k3 k2 (hQ.2.2.1.2.send c hu hin) (fun j hj => s_disp_n (by omega) (by omega))
    · rw [if_neg c] at k2 ⊢
      exact hQ.J (Or.inr rfl) k3 k2 hQ.2.2.1.2 s_wl.rf
  · by_cases c : s_n (R 4) < 40
    · rw [if_pos c]
      exact fun j hj => s_disp_n (by omega) (by omega)
    · rw [if_neg c]
      exact s_wl.rf
/-- what the trial is between turns -/
def w_Tr (R : Nat → Int32) (S0 : am_S) (i : Nat) (T : am_S) (Q : Nat → Int32) : Prop := w_Q T 113 Q ∧ s_n (Q 5) = s_n (R 5) + i ∧ s_wl R Q ∧ w_O 113 S0 T
theorem w_Tr.pass {S0 : am_S} (h : w_Tr R S0 i T Q) (ht : s_n (R 5) + i < 999) : ∃ T1, fX1_passTurn w_N [.ref 132, .ref 113] T = some (.inl none, T1) ∧ w_Tr R S0 (i + 1) T1 (s_pass Q) := by
  obtain ⟨h1, h2, h3, h4⟩ := h
  obtain ⟨T1, k1, k2, k3⟩ := y_passTurn h1 (Or.inr rfl) (by omega)
  have V := h1.2.2.1.2.turn (by omega)
  exact ⟨T1, k1, k2, by rw [V.2.2, w_snI (by omega)]; omega, h3.tr (s_wl.KT V.2.1), h4.tr k3⟩
theorem w_Tr.C {S0 : am_S} (h : w_Tr R S0 i T Q) : w_C T ∧ w_A T 113 ∧ w_R T 113 Q ∧ s_V Q := ⟨h.1.1.1, h.1.2.1.2, h.1.2.2.1⟩
theorem w_Ic.triE (h : w_Ic S M) (hR : w_Tr R S i S' Q) (hw : s_wl (M 139) R) : w_Ic S' M ∧ w_le 0 0 S S' ∧ w_kp S S' := h.tri hR.1 hR.2.2.2 (hw.tr hR.2.2.1)
theorem s_ps_4 (hV : s_V R) (k : Nat) (ht : s_n (R 5) + k ≤ 999) : s_V (s_ps k R) ∧ s_KT R (s_ps k R) ∧ s_n (s_ps k R 5) = s_n (R 5) + k := by
  induction k generalizing R with
  | zero => exact ⟨hV, fun _ _ => rfl, rfl⟩
  | succ k ih =>
    have V := hV.turn (by omega)
    have e5 : s_n (s_pass R 5) = s_n (R 5) + 1 := by rw [V.2.2, w_snI (by omega)]
    have g := ih V.1 (by omega)
    rw [s_ps_s]
    exact ⟨g.1, fun j hj => (g.2.1 j hj).trans (V.2.1 j hj), by rw [g.2.2, e5]; omega⟩
theorem y_wouldBe {t : Int32} (h : w_Ic S M) : ∃ S', fX10_wouldBe w_N [.ref 100, .int z, .int x, .int y, .int t] S = some (o_r (u_wouldBe (M 139) z x y t).1 (u_wouldBe (M 139) z x y t).2, S') ∧ w_Ic S' M ∧ w_le 1 6 S S' ∧ w_kp S S' := by
  have hL := h.L
  have g1 := y_needGoal (z := z) (x := x) (y := y) hL
  have hC := h.1.1
  have hA := hL.2.1
  have hV := hL.2.2.2
  have b4 := hV.B.2.2.2.1
  have b42 := b4.2
  have b5 : s_n (M 139 5) ≤ 500 := h.2.1.2.1.2.1.1
  unfold u_wouldBe
  by_cases c1 : u_goal (M 139) z x y = 0
  · rw [if_pos c1]
    rw [c1, o_g0, o_t0] at g1
    by_cases c2 : s_rg t 0 60
    · rw [if_pos c2]
      have g2 := y_needTurns1 (S := S) c2 (by omega)
      obtain ⟨k, rfl, k1, k2⟩ := s_rg_n c2 (by omega)
      rw [w_snI (by omega)]
      obtain ⟨⟨u, rfl, hu⟩, hin, -⟩ := u_goal_0 hV c1
      obtain ⟨S1, f1, f2, f3⟩ := y_start h
      obtain ⟨S2, m1, m2, m3, m4⟩ := y_addT f2 hu hin
      have hC1 := f2.1.1
      have hC2 := m2.1.1
      have hA3 := (h.1.2.2.1 1 113 rfl).1
      have hA31 := f2.2.1.2
      by_cases c3 : s_n (M 139 4) < 40
      · rw [if_pos c3]
        rw [if_pos c3] at m1
        have ed : s_dis (M 139) (nI u) x y = s_disp (M 139) (s_n (M 139 4)) (nI u) x y := by unfold s_dis; rw [if_pos c3]
        rw [ed] at m2 m4
        have e5 : s_disp (M 139) (s_n (M 139 4)) (nI u) x y 5 = M 139 5 := s_disp_n (by omega) (by omega)
        obtain ⟨T, n1, n2, -⟩ := w_genL (body := bX10_wouldBe_47 w_N) (lvf := fun i => [(0, .ref 100), (4, .int (nI k)), (5, .int (M 139 4)), (6, .int (nI i))]) (n := k) (g := fun _ Q => s_pass Q) (P := fun i T Q => w_Tr (M 139) S i T Q ∧ s_n (M 139 4) < s_n (Q 4)) (Fr := fun _ _ => True) (res := fun T Q => some (.inl (some (.int (Q (64 + 10 * s_n (M 139 4) + 3)))), T))
          (fun _ => trivial) (fun _ _ _ _ _ => trivial)
          (fun i T Q r hi hP => by
            obtain ⟨p1, p2⟩ := hP
            obtain ⟨T1, q1, q2⟩ := p1.pass (by omega)
            have hCT := p1.C.1
            have hCU := q2.C.1
            have p4 := (s_pass_o p1.C.2.2.2 (by rw [p1.2.1]; omega)).1
            refine ⟨T1, ?_, ⟨q2, by omega⟩, trivial⟩
            simp (disch := omega) only [bX10_wouldBe_47, x_cs0, x_csi, x_csr, x_csn, x_csl, x_ret_v, x_ret_t, x_ret_n, x_tl_s, x_tl_n, x_lk0, x_lk, x_rem0, x_rem_i, x_rem_r, x_rem_l, x_rem2_0, x_rem2_i, x_rem2_r, x_rem2_l, x_pick0, x_pick_c, x_st1, x_st2, x_live, x_i, x_l, x_a, x_ild, x_lld, x_rld, x_ist, x_lst, x_rst, x_inc, x_ii, x_ll, x_li, x_cmp, x_ui, x_il, x_lti, x_idiv, x_irem, x_dup_i, x_dup_r, x_pop_i, x_pop_r, x_dupx_ir, x_dup2_ir, x_ifeq, x_iceq, x_iflt, x_iclt, x_ifge, x_icge, x_ifgt, x_icgt, x_ifle, x_icle, x_ifne, x_icne, x_ifnull_r, x_ifnull_n, x_ifnonnull_r, x_ifnonnull_n, x_sw, x_vret, x_iret, x_lret, x_zret, x_zret0, x_zret1, x_rf_s, x_rf_n, x_geti, x_getr, x_puti, x_putz, x_putr, x_ial, x_ias, x_lal, x_las, x_aal, x_aas, x_aast, x_alen, x_new, x_newa, x_copy, x_min, x_abs, x_minl, x_oinit, x_throw, x_callS0, x_callS1, x_callS2, x_callS3, x_callS4, x_callV0, x_callV1, x_callV2, x_callV3, x_callV4, x_callV5, x_retI_v, x_callI0, x_callI1, x_callI2, x_retN_v, x_callSN1, x_callSN2, x_callT0, x_callT1, x_fn, x_sl0, x_sli, x_slr, x_sll, x_ar0, x_ari, x_arr, x_arl, ↓reduceIte, Nat.reduceAdd, Nat.reduceSub, Nat.reduceMul, Nat.reduceEqDiff, Nat.reduceLeDiff, Nat.reduceLT, if_true, if_false, Nat.le_refl, and_true, true_and, and_self, reduceCtorEq, or_false, false_or, or_true, true_or, Nat.zero_le, fa_lit, nI_add, w_mul, nI_ltI, nI_leI, nI_eq, nI_clamp, nI_toInt, if_pos, if_neg, w_div, w_rem2, yk100 hCT, yk125 hCT, yk126 hCT, yk127 hCT, yk128 hCT, yk129 hCT, yk130 hCT, yk131 hCT, yk132 hCT, yk133 hCT, yk134 hCT, yk135 hCT, yk136 hCT, yk137 hCT, yl126 hCT, yl128 hCT, yl130 hCT, yl131 hCT, yl133 hCT, yl137 hCT, yr100_0 hCT, yr100_1 hCT, yr100_2 hCT, yr100_3 hCT, yr100_4 hCT, yr100_5 hCT, yr100_6 hCT, yr100_7 hCT, yr100_8 hCT, yr100_9 hCT, yr100_10 hCT, yr125_0 hCT, yr127_0 hCT, yr129_0 hCT, yr129_1 hCT, yr129_2 hCT, yr132_0 hCT, yr134_0 hCT, yr135_0 hCT, yr135_1 hCT, yr136_0 hCT, yr136_1 hCT, yk100 hCU, yk125 hCU, yk126 hCU, yk127 hCU, yk128 hCU, yk129 hCU, yk130 hCU, yk131 hCU, yk132 hCU, yk133 hCU, yk134 hCU, yk135 hCU, yk136 hCU, yk137 hCU, yl126 hCU, yl128 hCU, yl130 hCU, yl131 hCU, yl133 hCU, yl137 hCU, yr100_0 hCU, yr100_1 hCU, yr100_2 hCU, yr100_3 hCU, yr100_4 hCU, yr100_5 hCU, yr100_6 hCU, yr100_7 hCU, yr100_8 hCU, yr100_9 hCU, yr100_10 hCU, yr125_0 hCU, yr127_0 hCU, yr129_0 hCU, yr129_1 hCU, yr129_2 hCU, yr132_0 hCU, yr134_0 hCU, yr135_0 hCU, yr135_1 hCU, yr136_0 hCU, yr136_1 hCU, q1])
          (fun T Q r hP => by
            obtain ⟨p1, p2⟩ := hP
            obtain ⟨hCT, hAT, hRT, hVT⟩ := p1.C
            have gO := y_O hAT hRT hVT.B p2 (f := 3) (by omega)
            rw [← b4.1] at gO
            simp (disch := omega) only [bX10_wouldBe_47, x_cs0, x_csi, x_csr, x_csn, x_csl, x_ret_v, x_ret_t, x_ret_n, x_tl_s, x_tl_n, x_lk0, x_lk, x_rem0, x_rem_i, x_rem_r, x_rem_l, x_rem2_0, x_rem2_i, x_rem2_r, x_rem2_l, x_pick0, x_pick_c, x_st1, x_st2, x_live, x_i, x_l, x_a, x_ild, x_lld, x_rld, x_ist, x_lst, x_rst, x_inc, x_ii, x_ll, x_li, x_cmp, x_ui, x_il, x_lti, x_idiv, x_irem, x_dup_i, x_dup_r, x_pop_i, x_pop_r, x_dupx_ir, x_dup2_ir, x_ifeq, x_iceq, x_iflt, x_iclt, x_ifge, x_icge, x_ifgt, x_icgt, x_ifle, x_icle, x_ifne, x_icne, x_ifnull_r, x_ifnull_n, x_ifnonnull_r, x_ifnonnull_n, x_sw, x_vret, x_iret, x_lret, x_zret, x_zret0, x_zret1, x_rf_s, x_rf_n, x_geti, x_getr, x_puti, x_putz, x_putr, x_ial, x_ias, x_lal, x_las, x_aal, x_aas, x_aast, x_alen, x_new, x_newa, x_copy, x_min, x_abs, x_minl, x_oinit, x_throw, x_callS0, x_callS1, x_callS2, x_callS3, x_callS4, x_callV0, x_callV1, x_callV2, x_callV3, x_callV4, x_callV5, x_retI_v, x_callI0, x_callI1, x_callI2, x_retN_v, x_callSN1, x_callSN2, x_callT0, x_callT1, x_fn, x_sl0, x_sli, x_slr, x_sll, x_ar0, x_ari, x_arr, x_arl, ↓reduceIte, Nat.reduceAdd, Nat.reduceSub, Nat.reduceMul, Nat.reduceEqDiff, Nat.reduceLeDiff, Nat.reduceLT, if_true, if_false, Nat.le_refl, and_true, true_and, and_self, reduceCtorEq, or_false, false_or, or_true, true_or, Nat.zero_le, fa_lit, nI_add, w_mul, nI_ltI, nI_leI, nI_eq, nI_clamp, nI_toInt, if_pos, if_neg, w_div, w_rem2, yk100 hCT, yk125 hCT, yk126 hCT, yk127 hCT, yk128 hCT, yk129 hCT, yk130 hCT, yk131 hCT, yk132 hCT, yk133 hCT, yk134 hCT, yk135 hCT, yk136 hCT, yk137 hCT, yl126 hCT, yl128 hCT, yl130 hCT, yl131 hCT, yl133 hCT, yl137 hCT, yr100_0 hCT, yr100_1 hCT, yr100_2 hCT, yr100_3 hCT, yr100_4 hCT, yr100_5 hCT, yr100_6 hCT, yr100_7 hCT, yr100_8 hCT, yr100_9 hCT, yr100_10 hCT, yr125_0 hCT, yr127_0 hCT, yr129_0 hCT, yr129_1 hCT, yr129_2 hCT, yr132_0 hCT, yr134_0 hCT, yr135_0 hCT, yr135_1 hCT, yr136_0 hCT, yr136_1 hCT, xk0 hAT, xk1 hAT, xl1 hAT, xk2 hAT, xk3 hAT, xl3 hAT, xr2_2 hAT, xi2_0 hAT, xi2_1 hAT, xk4 hAT, xk5 hAT, xl5 hAT, xr4_2 hAT, xi4_0 hAT, xi4_1 hAT, xk6 hAT, xk7 hAT, xl7 hAT, xr6_2 hAT, xi6_0 hAT, xi6_1 hAT, xk8 hAT, xk9 hAT, xl9 hAT, xr8_2 hAT, xi8_0 hAT, xi8_1 hAT, xk10 hAT, xk11 hAT, xl11 hAT, xr10_2 hAT, xi10_0 hAT, xi10_1 hAT, xr0_7 hAT, xr0_8 hAT, xr0_9 hAT, xr0_10 hAT, xr0_11 hAT, xr0_12 hAT, gO]) w_N 0 S2 (s_disp (M 139) (s_n (M 139 4)) (nI u) x y) (by show k - 0 < 5000; omega) (Nat.zero_le _) ⟨⟨m2, by rw [e5]; omega, m4, f3.tr m3⟩, by rw [s_disp_4, w_snI (by omega)]; omega⟩
        rw [Nat.sub_zero] at n1 n2
        have n1' : am_loop (bX10_wouldBe_47 w_N) w_N [(0, .ref 100), (4, .int (nI k)), (5, .int (M 139 4)), (6, .int (nI 0))] [] S2 = some (.inl (some (.int (s_ps k (s_disp (M 139) (s_n (M 139 4)) (nI u) x y) (64 + 10 * s_n (M 139 4) + 3)))), T) := n1
        have fin := h.triE n2.1 s_wl.rf
        refine ⟨T, ?_, fin.1, fin.2.1.mono (by omega) (by omega), fin.2.2⟩
        have ne : ¬ M 139 4 = -nI 1 := by rw [b4.1]; exact nI_nm1 (by omega)
        simp (disch := omega) only [fX10_wouldBe, kX10_wouldBe_0, kX10_wouldBe_47, x_cs0, x_csi, x_csr, x_csn, x_csl, x_ret_v, x_ret_t, x_ret_n, x_tl_s, x_tl_n, x_lk0, x_lk, x_rem0, x_rem_i, x_rem_r, x_rem_l, x_rem2_0, x_rem2_i, x_rem2_r, x_rem2_l, x_pick0, x_pick_c, x_st1, x_st2, x_live, x_i, x_l, x_a, x_ild, x_lld, x_rld, x_ist, x_lst, x_rst, x_inc, x_ii, x_ll, x_li, x_cmp, x_ui, x_il, x_lti, x_idiv, x_irem, x_dup_i, x_dup_r, x_pop_i, x_pop_r, x_dupx_ir, x_dup2_ir, x_ifeq, x_iceq, x_iflt, x_iclt, x_ifge, x_icge, x_ifgt, x_icgt, x_ifle, x_icle, x_ifne, x_icne, x_ifnull_r, x_ifnull_n, x_ifnonnull_r, x_ifnonnull_n, x_sw, x_vret, x_iret, x_lret, x_zret, x_zret0, x_zret1, x_rf_s, x_rf_n, x_geti, x_getr, x_puti, x_putz, x_putr, x_ial, x_ias, x_lal, x_las, x_aal, x_aas, x_aast, x_alen, x_new, x_newa, x_copy, x_min, x_abs, x_minl, x_oinit, x_throw, x_callS0, x_callS1, x_callS2, x_callS3, x_callS4, x_callV0, x_callV1, x_callV2, x_callV3, x_callV4, x_callV5, x_retI_v, x_callI0, x_callI1, x_callI2, x_retN_v, x_callSN1, x_callSN2, x_callT0, x_callT1, x_fn, x_sl0, x_sli, x_slr, x_sll, x_ar0, x_ari, x_arr, x_arl, ↓reduceIte, Nat.reduceAdd, Nat.reduceSub, Nat.reduceMul, Nat.reduceEqDiff, Nat.reduceLeDiff, Nat.reduceLT, if_true, if_false, Nat.le_refl, and_true, true_and, and_self, reduceCtorEq, or_false, false_or, or_true, true_or, Nat.zero_le, fa_lit, nI_add, w_mul, nI_ltI, nI_leI, nI_eq, nI_clamp, nI_toInt, if_pos, if_neg, w_div, w_rem2, yk100 hC, yk125 hC, yk126 hC, yk127 hC, yk128 hC, yk129 hC, yk130 hC, yk131 hC, yk132 hC, yk133 hC, yk134 hC, yk135 hC, yk136 hC, yk137 hC, yl126 hC, yl128 hC, yl130 hC, yl131 hC, yl133 hC, yl137 hC, yr100_0 hC, yr100_1 hC, yr100_2 hC, yr100_3 hC, yr100_4 hC, yr100_5 hC, yr100_6 hC, yr100_7 hC, yr100_8 hC, yr100_9 hC, yr100_10 hC, yr125_0 hC, yr127_0 hC, yr129_0 hC, yr129_1 hC, yr129_2 hC, yr132_0 hC, yr134_0 hC, yr135_0 hC, yr135_1 hC, yr136_0 hC, yr136_1 hC, yk100 hC1, yk125 hC1, yk126 hC1, yk127 hC1, yk128 hC1, yk129 hC1, yk130 hC1, yk131 hC1, yk132 hC1, yk133 hC1, yk134 hC1, yk135 hC1, yk136 hC1, yk137 hC1, yl126 hC1, yl128 hC1, yl130 hC1, yl131 hC1, yl133 hC1, yl137 hC1, yr100_0 hC1, yr100_1 hC1, yr100_2 hC1, yr100_3 hC1, yr100_4 hC1, yr100_5 hC1, yr100_6 hC1, yr100_7 hC1, yr100_8 hC1, yr100_9 hC1, yr100_10 hC1, yr125_0 hC1, yr127_0 hC1, yr129_0 hC1, yr129_1 hC1, yr129_2 hC1, yr132_0 hC1, yr134_0 hC1, yr135_0 hC1, yr135_1 hC1, yr136_0 hC1, yr136_1 hC1, yk100 hC2, yk125 hC2, yk126 hC2, yk127 hC2, yk128 hC2, yk129 hC2, yk130 hC2, yk131 hC2, yk132 hC2, yk133 hC2, yk134 hC2, yk135 hC2, yk136 hC2, yk137 hC2, yl126 hC2, yl128 hC2, yl130 hC2, yl131 hC2, yl133 hC2, yl137 hC2, yr100_0 hC2, yr100_1 hC2, yr100_2 hC2, yr100_3 hC2, yr100_4 hC2, yr100_5 hC2, yr100_6 hC2, yr100_7 hC2, yr100_8 hC2, yr100_9 hC2, yr100_10 hC2, yr125_0 hC2, yr127_0 hC2, yr129_0 hC2, yr129_1 hC2, yr129_2 hC2, yr132_0 hC2, yr134_0 hC2, yr135_0 hC2, yr135_1 hC2, yr136_0 hC2, yr136_1 hC2, xk0 hA3, xk1 hA3, xl1 hA3, xk2 hA3, xk3 hA3, xl3 hA3, xr2_2 hA3, xi2_0 hA3, xi2_1 hA3, xk4 hA3, xk5 hA3, xl5 hA3, xr4_2 hA3, xi4_0 hA3, xi4_1 hA3, xk6 hA3, xk7 hA3, xl7 hA3, xr6_2 hA3, xi6_0 hA3, xi6_1 hA3, xk8 hA3, xk9 hA3, xl9 hA3, xr8_2 hA3, xi8_0 hA3, xi8_1 hA3, xk10 hA3, xk11 hA3, xl11 hA3, xr10_2 hA3, xi10_0 hA3, xi10_1 hA3, xr0_7 hA3, xr0_8 hA3, xr0_9 hA3, xr0_10 hA3, xr0_11 hA3, xr0_12 hA3, xk0 hA31, xk1 hA31, xl1 hA31, xk2 hA31, xk3 hA31, xl3 hA31, xr2_2 hA31, xi2_0 hA31, xi2_1 hA31, xk4 hA31, xk5 hA31, xl5 hA31, xr4_2 hA31, xi4_0 hA31, xi4_1 hA31, xk6 hA31, xk7 hA31, xl7 hA31, xr6_2 hA31, xi6_0 hA31, xi6_1 hA31, xk8 hA31, xk9 hA31, xl9 hA31, xr8_2 hA31, xi8_0 hA31, xi8_1 hA31, xk10 hA31, xk11 hA31, xl11 hA31, xr10_2 hA31, xi10_0 hA31, xi10_1 hA31, xr0_7 hA31, xr0_8 hA31, xr0_9 hA31, xr0_10 hA31, xr0_11 hA31, xr0_12 hA31, g1, g2, f1, m1, ne, n1', o_r0]
      · rw [if_neg c3]
        rw [if_neg c3] at m1
        have fin := h.tri m2 (f3.tr m3) m4
        refine ⟨S2, ?_, fin.1, fin.2.1.mono (by omega) (by omega), fin.2.2⟩
        simp (disch := omega) only [fX10_wouldBe, kX10_wouldBe_0, x_cs0, x_csi, x_csr, x_csn, x_csl, x_ret_v, x_ret_t, x_ret_n, x_tl_s, x_tl_n, x_lk0, x_lk, x_rem0, x_rem_i, x_rem_r, x_rem_l, x_rem2_0, x_rem2_i, x_rem2_r, x_rem2_l, x_pick0, x_pick_c, x_st1, x_st2, x_live, x_i, x_l, x_a, x_ild, x_lld, x_rld, x_ist, x_lst, x_rst, x_inc, x_ii, x_ll, x_li, x_cmp, x_ui, x_il, x_lti, x_idiv, x_irem, x_dup_i, x_dup_r, x_pop_i, x_pop_r, x_dupx_ir, x_dup2_ir, x_ifeq, x_iceq, x_iflt, x_iclt, x_ifge, x_icge, x_ifgt, x_icgt, x_ifle, x_icle, x_ifne, x_icne, x_ifnull_r, x_ifnull_n, x_ifnonnull_r, x_ifnonnull_n, x_sw, x_vret, x_iret, x_lret, x_zret, x_zret0, x_zret1, x_rf_s, x_rf_n, x_geti, x_getr, x_puti, x_putz, x_putr, x_ial, x_ias, x_lal, x_las, x_aal, x_aas, x_aast, x_alen, x_new, x_newa, x_copy, x_min, x_abs, x_minl, x_oinit, x_throw, x_callS0, x_callS1, x_callS2, x_callS3, x_callS4, x_callV0, x_callV1, x_callV2, x_callV3, x_callV4, x_callV5, x_retI_v, x_callI0, x_callI1, x_callI2, x_retN_v, x_callSN1, x_callSN2, x_callT0, x_callT1, x_fn, x_sl0, x_sli, x_slr, x_sll, x_ar0, x_ari, x_arr, x_arl, ↓reduceIte, Nat.reduceAdd, Nat.reduceSub, Nat.reduceMul, Nat.reduceEqDiff, Nat.reduceLeDiff, Nat.reduceLT, if_true, if_false, Nat.le_refl, and_true, true_and, and_self, reduceCtorEq, or_false, false_or, or_true, true_or, Nat.zero_le, fa_lit, nI_add, w_mul, nI_ltI, nI_leI, nI_eq, nI_clamp, nI_toInt, if_pos, if_neg, w_div, w_rem2, yk100 hC, yk125 hC, yk126 hC, yk127 hC, yk128 hC, yk129 hC, yk130 hC, yk131 hC, yk132 hC, yk133 hC, yk134 hC, yk135 hC, yk136 hC, yk137 hC, yl126 hC, yl128 hC, yl130 hC, yl131 hC, yl133 hC, yl137 hC, yr100_0 hC, yr100_1 hC, yr100_2 hC, yr100_3 hC, yr100_4 hC, yr100_5 hC, yr100_6 hC, yr100_7 hC, yr100_8 hC, yr100_9 hC, yr100_10 hC, yr125_0 hC, yr127_0 hC, yr129_0 hC, yr129_1 hC, yr129_2 hC, yr132_0 hC, yr134_0 hC, yr135_0 hC, yr135_1 hC, yr136_0 hC, yr136_1 hC, yk100 hC1, yk125 hC1, yk126 hC1, yk127 hC1, yk128 hC1, yk129 hC1, yk130 hC1, yk131 hC1, yk132 hC1, yk133 hC1, yk134 hC1, yk135 hC1, yk136 hC1, yk137 hC1, yl126 hC1, yl128 hC1, yl130 hC1, yl131 hC1, yl133 hC1, yl137 hC1, yr100_0 hC1, yr100_1 hC1, yr100_2 hC1, yr100_3 hC1, yr100_4 hC1, yr100_5 hC1, yr100_6 hC1, yr100_7 hC1, yr100_8 hC1, yr100_9 hC1, yr100_10 hC1, yr125_0 hC1, yr127_0 hC1, yr129_0 hC1, yr129_1 hC1, yr129_2 hC1, yr132_0 hC1, yr134_0 hC1, yr135_0 hC1, yr135_1 hC1, yr136_0 hC1, yr136_1 hC1, yk100 hC2, yk125 hC2, yk126 hC2, yk127 hC2, yk128 hC2, yk129 hC2, yk130 hC2, yk131 hC2, yk132 hC2, yk133 hC2, yk134 hC2, yk135 hC2, yk136 hC2, yk137 hC2, yl126 hC2, yl128 hC2, yl130 hC2, yl131 hC2, yl133 hC2, yl137 hC2, yr100_0 hC2, yr100_1 hC2, yr100_2 hC2, yr100_3 hC2, yr100_4 hC2, yr100_5 hC2, yr100_6 hC2, yr100_7 hC2, yr100_8 hC2, yr100_9 hC2, yr100_10 hC2, yr125_0 hC2, yr127_0 hC2, yr129_0 hC2, yr129_1 hC2, yr129_2 hC2, yr132_0 hC2, yr134_0 hC2, yr135_0 hC2, yr135_1 hC2, yr136_0 hC2, yr136_1 hC2, xk0 hA3, xk1 hA3, xl1 hA3, xk2 hA3, xk3 hA3, xl3 hA3, xr2_2 hA3, xi2_0 hA3, xi2_1 hA3, xk4 hA3, xk5 hA3, xl5 hA3, xr4_2 hA3, xi4_0 hA3, xi4_1 hA3, xk6 hA3, xk7 hA3, xl7 hA3, xr6_2 hA3, xi6_0 hA3, xi6_1 hA3, xk8 hA3, xk9 hA3, xl9 hA3, xr8_2 hA3, xi8_0 hA3, xi8_1 hA3, xk10 hA3, xk11 hA3, xl11 hA3, xr10_2 hA3, xi10_0 hA3, xi10_1 hA3, xr0_7 hA3, xr0_8 hA3, xr0_9 hA3, xr0_10 hA3, xr0_11 hA3, xr0_12 hA3, xk0 hA31, xk1 hA31, xl1 hA31, xk2 hA31, xk3 hA31, xl3 hA31, xr2_2 hA31, xi2_0 hA31, xi2_1 hA31, xk4 hA31, xk5 hA31, xl5 hA31, xr4_2 hA31, xi4_0 hA31, xi4_1 hA31, xk6 hA31, xk7 hA31, xl7 hA31, xr6_2 hA31, xi6_0 hA31, xi6_1 hA31, xk8 hA31, xk9 hA31, xl9 hA31, xr8_2 hA31, xi8_0 hA31, xi8_1 hA31, xk10 hA31, xk11 hA31, xl11 hA31, xr10_2 hA31, xi10_0 hA31, xi10_1 hA31, xr0_7 hA31, xr0_8 hA31, xr0_9 hA31, xr0_10 hA31, xr0_11 hA31, xr0_12 hA31, g1, g2, f1, m1, o_r0]
    · rw [if_neg c2]
      have g2 := y_needTurns0 (S := S) c2 (by omega)
      have ht := h.thr (c := 2)
      refine ⟨_, ?_, ht.1, ht.2.1.mono (by omega) (by omega), ht.2.2⟩
      simp (disch := omega) only [fX10_wouldBe, kX10_wouldBe_0, x_cs0, x_csi, x_csr, x_csn, x_csl, x_ret_v, x_ret_t, x_ret_n, x_tl_s, x_tl_n, x_lk0, x_lk, x_rem0, x_rem_i, x_rem_r, x_rem_l, x_rem2_0, x_rem2_i, x_rem2_r, x_rem2_l, x_pick0, x_pick_c, x_st1, x_st2, x_live, x_i, x_l, x_a, x_ild, x_lld, x_rld, x_ist, x_lst, x_rst, x_inc, x_ii, x_ll, x_li, x_cmp, x_ui, x_il, x_lti, x_idiv, x_irem, x_dup_i, x_dup_r, x_pop_i, x_pop_r, x_dupx_ir, x_dup2_ir, x_ifeq, x_iceq, x_iflt, x_iclt, x_ifge, x_icge, x_ifgt, x_icgt, x_ifle, x_icle, x_ifne, x_icne, x_ifnull_r, x_ifnull_n, x_ifnonnull_r, x_ifnonnull_n, x_sw, x_vret, x_iret, x_lret, x_zret, x_zret0, x_zret1, x_rf_s, x_rf_n, x_geti, x_getr, x_puti, x_putz, x_putr, x_ial, x_ias, x_lal, x_las, x_aal, x_aas, x_aast, x_alen, x_new, x_newa, x_copy, x_min, x_abs, x_minl, x_oinit, x_throw, x_callS0, x_callS1, x_callS2, x_callS3, x_callS4, x_callV0, x_callV1, x_callV2, x_callV3, x_callV4, x_callV5, x_retI_v, x_callI0, x_callI1, x_callI2, x_retN_v, x_callSN1, x_callSN2, x_callT0, x_callT1, x_fn, x_sl0, x_sli, x_slr, x_sll, x_ar0, x_ari, x_arr, x_arl, ↓reduceIte, Nat.reduceAdd, Nat.reduceSub, Nat.reduceMul, Nat.reduceEqDiff, Nat.reduceLeDiff, Nat.reduceLT, if_true, if_false, Nat.le_refl, and_true, true_and, and_self, reduceCtorEq, or_false, false_or, or_true, true_or, Nat.zero_le, fa_lit, nI_add, w_mul, nI_ltI, nI_leI, nI_eq, nI_clamp, nI_toInt, if_pos, if_neg, w_div, w_rem2, yk100 hC, yk125 hC, yk126 hC, yk127 hC, yk128 hC, yk129 hC, yk130 hC, yk131 hC, yk132 hC, yk133 hC, yk134 hC, yk135 hC, yk136 hC, yk137 hC, yl126 hC, yl128 hC, yl130 hC, yl131 hC, yl133 hC, yl137 hC, yr100_0 hC, yr100_1 hC, yr100_2 hC, yr100_3 hC, yr100_4 hC, yr100_5 hC, yr100_6 hC, yr100_7 hC, yr100_8 hC, yr100_9 hC, yr100_10 hC, yr125_0 hC, yr127_0 hC, yr129_0 hC, yr129_1 hC, yr129_2 hC, yr132_0 hC, yr134_0 hC, yr135_0 hC, yr135_1 hC, yr136_0 hC, yr136_1 hC, g1, g2, o_t2, o_r2]
  · rw [if_neg c1]
    have ht := h.thr (c := u_goal (M 139) z x y)
    refine ⟨_, ?_, ht.1, ht.2.1.mono (by omega) (by omega), ht.2.2⟩
    have hg : ∃ E, o_g (u_goal (M 139) z x y) = .inr E ∧ o_r (u_goal (M 139) z x y) 0 = .inr E := by
      unfold o_g o_r
      rw [if_neg c1, if_neg c1]
      split
      · exact ⟨_, rfl, rfl⟩
      · exact ⟨_, rfl, rfl⟩
    obtain ⟨E, e1, e2⟩ := hg
    rw [e1] at g1
    rw [e2]
    simp (disch := omega) only [fX10_wouldBe, kX10_wouldBe_0, x_cs0, x_csi, x_csr, x_csn, x_csl, x_ret_v, x_ret_t, x_ret_n, x_tl_s, x_tl_n, x_lk0, x_lk, x_rem0, x_rem_i, x_rem_r, x_rem_l, x_rem2_0, x_rem2_i, x_rem2_r, x_rem2_l, x_pick0, x_pick_c, x_st1, x_st2, x_live, x_i, x_l, x_a, x_ild, x_lld, x_rld, x_ist, x_lst, x_rst, x_inc, x_ii, x_ll, x_li, x_cmp, x_ui, x_il, x_lti, x_idiv, x_irem, x_dup_i, x_dup_r, x_pop_i, x_pop_r, x_dupx_ir, x_dup2_ir, x_ifeq, x_iceq, x_iflt, x_iclt, x_ifge, x_icge, x_ifgt, x_icgt, x_ifle, x_icle, x_ifne, x_icne, x_ifnull_r, x_ifnull_n, x_ifnonnull_r, x_ifnonnull_n, x_sw, x_vret, x_iret, x_lret, x_zret, x_zret0, x_zret1, x_rf_s, x_rf_n, x_geti, x_getr, x_puti, x_putz, x_putr, x_ial, x_ias, x_lal, x_las, x_aal, x_aas, x_aast, x_alen, x_new, x_newa, x_copy, x_min, x_abs, x_minl, x_oinit, x_throw, x_callS0, x_callS1, x_callS2, x_callS3, x_callS4, x_callV0, x_callV1, x_callV2, x_callV3, x_callV4, x_callV5, x_retI_v, x_callI0, x_callI1, x_callI2, x_retN_v, x_callSN1, x_callSN2, x_callT0, x_callT1, x_fn, x_sl0, x_sli, x_slr, x_sll, x_ar0, x_ari, x_arr, x_arl, ↓reduceIte, Nat.reduceAdd, Nat.reduceSub, Nat.reduceMul, Nat.reduceEqDiff, Nat.reduceLeDiff, Nat.reduceLT, if_true, if_false, Nat.le_refl, and_true, true_and, and_self, reduceCtorEq, or_false, false_or, or_true, true_or, Nat.zero_le, fa_lit, nI_add, w_mul, nI_ltI, nI_leI, nI_eq, nI_clamp, nI_toInt, if_pos, if_neg, w_div, w_rem2, xk0 hA, xk1 hA, xl1 hA, xk2 hA, xk3 hA, xl3 hA, xr2_2 hA, xi2_0 hA, xi2_1 hA, xk4 hA, xk5 hA, xl5 hA, xr4_2 hA, xi4_0 hA, xi4_1 hA, xk6 hA, xk7 hA, xl7 hA, xr6_2 hA, xi6_0 hA, xi6_1 hA, xk8 hA, xk9 hA, xl9 hA, xr8_2 hA, xi8_0 hA, xi8_1 hA, xk10 hA, xk11 hA, xl11 hA, xr10_2 hA, xi10_0 hA, xi10_1 hA, xr0_7 hA, xr0_8 hA, xr0_9 hA, xr0_10 hA, xr0_11 hA, xr0_12 hA, yk100 hC, yk125 hC, yk126 hC, yk127 hC, yk128 hC, yk129 hC, yk130 hC, yk131 hC, yk132 hC, yk133 hC, yk134 hC, yk135 hC, yk136 hC, yk137 hC, yl126 hC, yl128 hC, yl130 hC, yl131 hC, yl133 hC, yl137 hC, yr100_0 hC, yr100_1 hC, yr100_2 hC, yr100_3 hC, yr100_4 hC, yr100_5 hC, yr100_6 hC, yr100_7 hC, yr100_8 hC, yr100_9 hC, yr100_10 hC, yr125_0 hC, yr127_0 hC, yr129_0 hC, yr129_1 hC, yr129_2 hC, yr132_0 hC, yr134_0 hC, yr135_0 hC, yr135_1 hC, yr136_0 hC, yr136_1 hC, g1]
end Y25
