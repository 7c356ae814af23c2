/-! ARRIVALS OF THE CLASS -/
def s_wv (o : Nat) : Nat → (Nat → Int32) → Int32
  | 0, Q => Q (64 + 10 * o + 5)
  | k + 1, Q => if Q (64 + 10 * o + 3) = nI 0 then s_wv o k (s_pass Q) else Q (64 + 10 * o + 5)
def s_arr (d : Nat) (R : Nat → Int32) (z x y : Int32) : Int32 := if s_n (s_ps d R 4) < 40 then s_wv (s_n (s_ps d R 4)) 31 (s_disp (s_ps d R) (s_n (s_ps d R 4)) z x y) else -nI 1
def u_wouldArrive (R : Nat → Int32) (z x y : Int32) : Nat × Int32 := if u_goal R z x y = 0 then (0, s_arr 0 R z x y) else (u_goal R z x y, 0)
def s_best (R : Nat → Int32) (z x y : Int32) : Nat → Nat → Int32
  | 0, _ => -nI 1
  | k + 1, i => if s_arr i R z x y = -nI 1 then s_best R z x y k (i + 1) else nI i
def u_bestDelay (R : Nat → Int32) (z x y : Int32) : Nat × Int32 := if u_goal R z x y = 0 then (0, s_best R z x y 16 0) else (u_goal R z x y, 0)
theorem s_least {P : Nat → Prop} : ∀ n, P n → ∃ m, m ≤ n ∧ P m ∧ ∀ i, i < m → ¬ P i := by
  intro n
  induction n using Nat.strongRecOn with
  | ind n ih =>
    intro hn
    by_cases c : ∃ m, m < n ∧ P m
    · obtain ⟨m, m1, m2⟩ := c
      obtain ⟨q, q1, q2, q3⟩ := ih m m1 m2
      exact ⟨q, by omega, q2, q3⟩
    · exact ⟨n, Nat.le_refl _, hn, fun i hi hP => c ⟨i, hi, hP⟩⟩
theorem w_genR {σ : Type} {body : am_K → am_K} {lvf : Nat → List (Nat × Value)} {n : Nat} {g : Nat → σ → σ} {P : Nat → am_S → σ → Prop}
    (hstep : ∀ i S s r, i < n → P i S s → ∃ S', body r (lvf i) [] S = r (lvf (i + 1)) [] S' ∧ P (i + 1) S' (g i s)) :
    ∀ m i S s, n - i < m → i ≤ n → P i S s → ∃ S' r, am_loop body m (lvf i) [] S = body r (lvf n) [] S' ∧ P n S' (s_it g (n - i) i s) := by
  intro m
  induction m with
  | zero => intro i S s hi; omega
  | succ m ih =>
    intro i S s hi hle hP
    rw [am_loop_s]
    rcases Nat.lt_or_ge i n with hc | hc
    · obtain ⟨S1, f1, f2⟩ := hstep i S s (am_loop body m) hc hP
      obtain ⟨S2, r, f4, f5⟩ := ih (i + 1) S1 (g i s) (by omega) (by omega) f2
      rw [show n - i = (n - (i + 1)) + 1 by omega, s_it]
      exact ⟨S2, r, f1.trans f4, f5⟩
    · have e : i = n := by omega
      subst e
      rw [Nat.sub_self, s_it]
      exact ⟨S, _, rfl, hP⟩
section Y26
variable {S S' T : am_S} {a b c o p q i j k m n u t D d cl : Nat} {P : Nat → Prop} {R R' Q : Nat → Int32} {M M' : Nat → Nat → Int32} {x y z v : Int32}
theorem s_ps_o (hV : s_V R) (k : Nat) (ht : s_n (R 5) + k ≤ 999) : s_n (R 4) ≤ s_n (s_ps k R 4) ∧ ∀ o, o < s_n (R 4) → s_ps k R (64 + 10 * o + 4) = R (64 + 10 * o + 4) := by
  induction k with
  | zero => exact ⟨Nat.le_refl _, fun _ _ => rfl⟩
  | succ k ih =>
    have g := ih (by omega)
    have f := s_ps_4 hV k (by omega)
    have s := s_pass_o f.1 (by omega)
    rw [s_ps_r]
    exact ⟨by omega, fun o ho => ((s.2 o (by omega)).1).trans (g.2 o ho)⟩
theorem s_wv_m (k : Nat) : ∀ m Q, m ≤ k → (∀ i, i < m → s_ps i Q (64 + 10 * o + 3) = nI 0) → s_ps m Q (64 + 10 * o + 3) ≠ nI 0 → s_wv o k Q = s_ps m Q (64 + 10 * o + 5) := by
  induction k with
  | zero =>
    intro m Q h1 h2 h3
    have : m = 0 := by omega
    subst this
    rfl
  | succ k ih =>
    intro m Q h1 h2 h3
    rw [s_wv]
    cases m with
    | zero => exact if_neg h3
    | succ m =>
      rw [if_pos (show Q (64 + 10 * o + 3) = nI 0 from h2 0 (by omega)), ih m (s_pass Q) (by omega) (fun i hi => by rw [← s_ps_s]; exact h2 (i + 1) (by omega)) (by rw [← s_ps_s]; exact h3), s_ps_s]
/-- an order just sent stops waiting within 31 turns -/
theorem s_wait (hV : s_V Q) (ho : o < s_n (Q 4)) (hs : Q (64 + 10 * o + 4) = Q 5) (h0 : Q (64 + 10 * o + 3) = nI 0) (ht : s_n (Q 5) + 31 ≤ 999) : ∃ m, 1 ≤ m ∧ m ≤ 31 ∧ (∀ i, i < m → s_ps i Q (64 + 10 * o + 3) = nI 0) ∧ s_ps m Q (64 + 10 * o + 3) ≠ nI 0 := by
  have g : s_ps 31 Q (64 + 10 * o + 3) ≠ nI 0 := by
    intro q
    rw [s_ps_r] at q
    have f := s_ps_4 hV 30 (by omega)
    have f2 := s_ps_o hV 30 (by omega)
    have s := (s_pass_o f.1 (by omega)).2 o (by omega)
    refine s.2 q ?_
    have w9 := hV.B.2.2.2.2.2.2.2.1.1
    have w5 := hV.B.2.2.2.2.2.2.1
    have v5 := f.1.B.2.2.2.2.2.2.1
    rw [f2.2 o ho, hs, f.2.1 9 (by omega), v5.1, f.2.2, w5.1, w_snI (by omega), w_subN (by omega), w9.1, nI_leI (by have := w9.2; omega) (by omega)]
    have := w9.2
    omega
  obtain ⟨m, m1, m2, m3⟩ := s_least (P := fun i => s_ps i Q (64 + 10 * o + 3) ≠ nI 0) 31 g
  refine ⟨m, ?_, m1, fun i hi => Classical.byContradiction (m3 i hi), m2⟩
  cases m with
  | zero => exact absurd h0 m2
  | succ m => omega
theorem s_disp_wait (hV : s_V R) (h4 : s_n (R 4) < 40) (hu : u < s_n (R 2)) (hin : s_in R x y) (ht : s_n (R 5) + 31 ≤ 999) : ∃ m, 1 ≤ m ∧ m ≤ 31 ∧ (∀ i, i < m → s_ps i (s_disp R (s_n (R 4)) (nI u) x y) (64 + 10 * s_n (R 4) + 3) = nI 0) ∧ s_ps m (s_disp R (s_n (R 4)) (nI u) x y) (64 + 10 * s_n (R 4) + 3) ≠ nI 0 := by
  have e5 : s_disp R (s_n (R 4)) (nI u) x y 5 = R 5 := s_disp_n (by omega) (by omega)
  refine s_wait (hV.send h4 hu hin) (by rw [s_disp_4, w_snI (by omega)]; omega) ?_ ?_ (by rw [e5]; exact ht)
  · rw [e5, s_disp_v (f := 4) (by omega)]
    rfl
  · rw [s_disp_v (f := 3) (by omega)]
    rfl
theorem y_after (h : w_Ic S M) (hg : u_goal (M 139) z x y = 0) (hd : d ≤ 15) : ∃ S', fX10_arrivalAfter w_N [.ref 100, .int (nI d), .int z, .int x, .int y] S = some (.inl (some (.int (s_arr d (M 139) z x y))), S') ∧ w_Ic S' M ∧ w_le 0 0 S S' ∧ w_kp S S' := by
  have hL := h.L
  have hC := h.1.1
  have hV := hL.2.2.2
  have b5 : s_n (M 139 5) ≤ 500 := h.2.1.2.1.2.1.1
  obtain ⟨⟨u, rfl, hu⟩, hin, -⟩ := u_goal_0 hV hg
  obtain ⟨S1, f1, f2, f3⟩ := y_start h
  have hC1 := f2.1.1
  have hA3 := (h.1.2.2.1 1 113 rfl).1
  obtain ⟨T, r, n1, n2⟩ := w_genR (body := bX10_arrivalAfter_14 w_N) (lvf := fun i => [(0, .ref 100), (1, .int (nI d)), (2, .int (nI u)), (3, .int x), (4, .int y), (5, .int (nI i))]) (n := d) (g := fun _ Q => s_pass Q) (P := fun i T Q => w_Tr (M 139) S i T Q)
    (fun i T Q r hi hP => by
      obtain ⟨T1, q1, q2⟩ := hP.pass (by omega)
      have hCT := hP.C.1
      refine ⟨T1, ?_, q2⟩
      simp (disch := omega) only [bX10_arrivalAfter_14, x_cs0, x_csi, x_csr, x_csn, x_csl, x_ret_v, x_ret_t, x_ret_n, x_tl_s, x_tl_n, x_lk0, x_lk, x_rem0, x_rem_i, x_rem_r, x_rem_l, x_rem2_0, x_rem2_i, x_rem2_r, x_rem2_l, x_pick0, x_pick_c, x_st1, x_st2, x_live, x_i, x_l, x_a, x_ild, x_lld, x_rld, x_ist, x_lst, x_rst, x_inc, x_ii, x_ll, x_li, x_cmp, x_ui, x_il, x_lti, x_idiv, x_irem, x_dup_i, x_dup_r, x_pop_i, x_pop_r, x_dupx_ir, x_dup2_ir, x_ifeq, x_iceq, x_iflt, x_iclt, x_ifge, x_icge, x_ifgt, x_icgt, x_ifle, x_icle, x_ifne, x_icne, x_ifnull_r, x_ifnull_n, x_ifnonnull_r, x_ifnonnull_n, x_sw, x_vret, x_iret, x_lret, x_zret, x_zret0, x_zret1, x_rf_s, x_rf_n, x_geti, x_getr, x_puti, x_putz, x_putr, x_ial, x_ias, x_lal, x_las, x_aal, x_aas, x_aast, x_alen, x_new, x_newa, x_copy, x_min, x_abs, x_minl, x_oinit, x_throw, x_callS0, x_callS1, x_callS2, x_callS3, x_callS4, x_callV0, x_callV1, x_callV2, x_callV3, x_callV4, x_callV5, x_retI_v, x_callI0, x_callI1, x_callI2, x_retN_v, x_callSN1, x_callSN2, x_callT0, x_callT1, x_fn, x_sl0, x_sli, x_slr, x_sll, x_ar0, x_ari, x_arr, x_arl, ↓reduceIte, Nat.reduceAdd, Nat.reduceSub, Nat.reduceMul, Nat.reduceEqDiff, Nat.reduceLeDiff, Nat.reduceLT, if_true, if_false, Nat.le_refl, and_true, true_and, and_self, reduceCtorEq, or_false, false_or, or_true, true_or, Nat.zero_le, fa_lit, nI_add, w_mul, nI_ltI, nI_leI, nI_eq, nI_clamp, nI_toInt, if_pos, if_neg, w_div, w_rem2, yk100 hCT, yk125 hCT, yk126 hCT, yk127 hCT, yk128 hCT, yk129 hCT, yk130 hCT, yk131 hCT, yk132 hCT, yk133 hCT, yk134 hCT, yk135 hCT, yk136 hCT, yk137 hCT, yl126 hCT, yl128 hCT, yl130 hCT, yl131 hCT, yl133 hCT, yl137 hCT, yr100_0 hCT, yr100_1 hCT, yr100_2 hCT, yr100_3 hCT, yr100_4 hCT, yr100_5 hCT, yr100_6 hCT, yr100_7 hCT, yr100_8 hCT, yr100_9 hCT, yr100_10 hCT, yr125_0 hCT, yr127_0 hCT, yr129_0 hCT, yr129_1 hCT, yr129_2 hCT, yr132_0 hCT, yr134_0 hCT, yr135_0 hCT, yr135_1 hCT, yr136_0 hCT, yr136_1 hCT, q1]) w_N 0 S1 (M 139) (by show d - 0 < 5000; omega) (Nat.zero_le _) ⟨f2, rfl, s_wl.rf, f3⟩
  rw [Nat.sub_zero] at n2
  have eps : s_it (fun _ Q => s_pass Q) d 0 (M 139) = s_ps d (M 139) := rfl
  rw [eps] at n2
  have K := s_ps_4 hV d (by omega)
  have KO := s_ps_o hV d (by omega)
  have k2 : s_ps d (M 139) 2 = M 139 2 := K.2.1 2 (by omega)
  have k0 : s_ps d (M 139) 0 = M 139 0 := K.2.1 0 (by omega)
  have k1 : s_ps d (M 139) 1 = M 139 1 := K.2.1 1 (by omega)
  have hin2 : s_in (s_ps d (M 139)) x y := by
    unfold s_in s_w s_h at hin ⊢
    rw [k0, k1]
    exact hin
  obtain ⟨T2, m1, m2, m3, m4⟩ := y_addT n2.1 (u := u) (x := x) (y := y) (by rw [k2]; exact hu) hin2
  have hCT := n2.C.1
  have hAT := n2.C.2.1
  have b4 := K.1.B.2.2.2.1
  unfold s_arr
  generalize hG : s_ps d (M 139) = G at *
  by_cases c3 : s_n (G 4) < 40
  · rw [if_pos c3]
    rw [if_pos c3] at m1
    have ed : s_dis G (nI u) x y = s_disp G (s_n (G 4)) (nI u) x y := by unfold s_dis; rw [if_pos c3]
    rw [ed] at m2 m4
    obtain ⟨m, w1, w2, w3, w4⟩ := s_disp_wait K.1 c3 (u := u) (x := x) (y := y) (by rw [k2]; exact hu) hin2 (by omega)
    have e5 : s_disp G (s_n (G 4)) (nI u) x y 5 = G 5 := s_disp_n (by omega) (by omega)
    have e4 : s_n (s_disp G (s_n (G 4)) (nI u) x y 4) = s_n (G 4) + 1 := by rw [s_disp_4, w_snI (by omega)]
    have e5n : s_n (s_disp G (s_n (G 4)) (nI u) x y 5) = s_n (M 139 5) + d := by rw [e5]; exact K.2.2
    rw [s_wv_m 31 m _ w2 w3 w4]
    generalize hD : s_disp G (s_n (G 4)) (nI u) x y = D at *
    generalize ho : s_n (G 4) = o at *
    obtain ⟨T3, r3, a1, a2⟩ := w_genR (body := bX10_arrivalAfter_61 w_N) (lvf := fun i => [(0, .ref 100), (5, .int (nI o)), (6, .int (nI i))]) (n := m - 1) (g := fun _ Q => s_pass Q) (P := fun i T Q => w_Tr D S i T Q ∧ Q = s_ps i D ∧ o < s_n (Q 4))
      (fun i T Q r hi hP => by
        obtain ⟨p1, p2, p3⟩ := hP
        obtain ⟨T1, q1, q2⟩ := p1.pass (by omega)
        have hCT := p1.C.1
        obtain ⟨hCU, hAU, hRU, hVU⟩ := q2.C
        have p4 := (s_pass_o p1.C.2.2.2 (by rw [p1.2.1]; omega)).1
        have gO := y_O hAU hRU hVU.B (show o < s_n (s_pass Q 4) by omega) (f := 3) (by omega)
        have es : s_pass Q = s_ps (i + 1) D := by rw [p2, s_ps_r]
        have z3 : s_pass Q (64 + 10 * o + 3) = nI 0 := by rw [es]; exact w3 (i + 1) (by omega)
        rw [z3] at gO
        refine ⟨T1, ?_, q2, es, by omega⟩
        simp (disch := omega) only [bX10_arrivalAfter_61, x_cs0, x_csi, x_csr, x_csn, x_csl, x_ret_v, x_ret_t, x_ret_n, x_tl_s, x_tl_n, x_lk0, x_lk, x_rem0, x_rem_i, x_rem_r, x_rem_l, x_rem2_0, x_rem2_i, x_rem2_r, x_rem2_l, x_pick0, x_pick_c, x_st1, x_st2, x_live, x_i, x_l, x_a, x_ild, x_lld, x_rld, x_ist, x_lst, x_rst, x_inc, x_ii, x_ll, x_li, x_cmp, x_ui, x_il, x_lti, x_idiv, x_irem, x_dup_i, x_dup_r, x_pop_i, x_pop_r, x_dupx_ir, x_dup2_ir, x_ifeq, x_iceq, x_iflt, x_iclt, x_ifge, x_icge, x_ifgt, x_icgt, x_ifle, x_icle, x_ifne, x_icne, x_ifnull_r, x_ifnull_n, x_ifnonnull_r, x_ifnonnull_n, x_sw, x_vret, x_iret, x_lret, x_zret, x_zret0, x_zret1, x_rf_s, x_rf_n, x_geti, x_getr, x_puti, x_putz, x_putr, x_ial, x_ias, x_lal, x_las, x_aal, x_aas, x_aast, x_alen, x_new, x_newa, x_copy, x_min, x_abs, x_minl, x_oinit, x_throw, x_callS0, x_callS1, x_callS2, x_callS3, x_callS4, x_callV0, x_callV1, x_callV2, x_callV3, x_callV4, x_callV5, x_retI_v, x_callI0, x_callI1, x_callI2, x_retN_v, x_callSN1, x_callSN2, x_callT0, x_callT1, x_fn, x_sl0, x_sli, x_slr, x_sll, x_ar0, x_ari, x_arr, x_arl, ↓reduceIte, Nat.reduceAdd, Nat.reduceSub, Nat.reduceMul, Nat.reduceEqDiff, Nat.reduceLeDiff, Nat.reduceLT, if_true, if_false, Nat.le_refl, and_true, true_and, and_self, reduceCtorEq, or_false, false_or, or_true, true_or, Nat.zero_le, fa_lit, nI_add, w_mul, nI_ltI, nI_leI, nI_eq, nI_clamp, nI_toInt, if_pos, if_neg, w_div, w_rem2, yk100 hCT, yk125 hCT, yk126 hCT, yk127 hCT, yk128 hCT, yk129 hCT, yk130 hCT, yk131 hCT, yk132 hCT, yk133 hCT, yk134 hCT, yk135 hCT, yk136 hCT, yk137 hCT, yl126 hCT, yl128 hCT, yl130 hCT, yl131 hCT, yl133 hCT, yl137 hCT, yr100_0 hCT, yr100_1 hCT, yr100_2 hCT, yr100_3 hCT, yr100_4 hCT, yr100_5 hCT, yr100_6 hCT, yr100_7 hCT, yr100_8 hCT, yr100_9 hCT, yr100_10 hCT, yr125_0 hCT, yr127_0 hCT, yr129_0 hCT, yr129_1 hCT, yr129_2 hCT, yr132_0 hCT, yr134_0 hCT, yr135_0 hCT, yr135_1 hCT, yr136_0 hCT, yr136_1 hCT, yk100 hCU, yk125 hCU, yk126 hCU, yk127 hCU, yk128 hCU, yk129 hCU, yk130 hCU, yk131 hCU, yk132 hCU, yk133 hCU, yk134 hCU, yk135 hCU, yk136 hCU, yk137 hCU, yl126 hCU, yl128 hCU, yl130 hCU, yl131 hCU, yl133 hCU, yl137 hCU, yr100_0 hCU, yr100_1 hCU, yr100_2 hCU, yr100_3 hCU, yr100_4 hCU, yr100_5 hCU, yr100_6 hCU, yr100_7 hCU, yr100_8 hCU, yr100_9 hCU, yr100_10 hCU, yr125_0 hCU, yr127_0 hCU, yr129_0 hCU, yr129_1 hCU, yr129_2 hCU, yr132_0 hCU, yr134_0 hCU, yr135_0 hCU, yr135_1 hCU, yr136_0 hCU, yr136_1 hCU, xk0 hAU, xk1 hAU, xl1 hAU, xk2 hAU, xk3 hAU, xl3 hAU, xr2_2 hAU, xi2_0 hAU, xi2_1 hAU, xk4 hAU, xk5 hAU, xl5 hAU, xr4_2 hAU, xi4_0 hAU, xi4_1 hAU, xk6 hAU, xk7 hAU, xl7 hAU, xr6_2 hAU, xi6_0 hAU, xi6_1 hAU, xk8 hAU, xk9 hAU, xl9 hAU, xr8_2 hAU, xi8_0 hAU, xi8_1 hAU, xk10 hAU, xk11 hAU, xl11 hAU, xr10_2 hAU, xi10_0 hAU, xi10_1 hAU, xr0_7 hAU, xr0_8 hAU, xr0_9 hAU, xr0_10 hAU, xr0_11 hAU, xr0_12 hAU, q1, gO]) w_N 0 T2 D (by show m - 1 - 0 < 5000; omega) (Nat.zero_le _) ⟨⟨m2, rfl, s_wl.rf, n2.2.2.2.tr m3⟩, rfl, by omega⟩
    obtain ⟨a2, a3, a4⟩ := a2
    rw [Nat.sub_zero] at a2 a3 a4
    obtain ⟨T4, q1, q2⟩ := a2.pass (by omega)
    have hCT3 := a2.C.1
    obtain ⟨hCU, hAU, hRU, hVU⟩ := q2.C
    have p4 := (s_pass_o a2.C.2.2.2 (by rw [a2.2.1]; omega)).1
    have gO := y_O hAU hRU hVU.B (show o < _ by exact Nat.lt_of_lt_of_le a4 p4) (f := 3) (by omega)
    have gP := y_O hAU hRU hVU.B (show o < _ by exact Nat.lt_of_lt_of_le a4 p4) (f := 5) (by omega)
    have es : s_pass (s_it (fun _ Q => s_pass Q) (m - 1) 0 D) = s_ps m D := by
      rw [a3, ← s_ps_r, show m - 1 + 1 = m by omega]
    rw [es] at gO gP
    have fin := h.triE q2 ((s_wl.KT K.2.1).tr m4)
    refine ⟨T4, ?_, fin.1, fin.2.1, fin.2.2⟩
    have a1' : am_loop (bX10_arrivalAfter_61 w_N) w_N [(0, .ref 100), (5, .int (nI o)), (6, .int (nI 0))] [] T2 = some (.inl (some (.int (s_ps m D (64 + 10 * o + 5)))), T4) := by
      refine (Eq.trans a1 ?_)
      simp (disch := omega) only [bX10_arrivalAfter_61, x_cs0, x_csi, x_csr, x_csn, x_csl, x_ret_v, x_ret_t, x_ret_n, x_tl_s, x_tl_n, x_lk0, x_lk, x_rem0, x_rem_i, x_rem_r, x_rem_l, x_rem2_0, x_rem2_i, x_rem2_r, x_rem2_l, x_pick0, x_pick_c, x_st1, x_st2, x_live, x_i, x_l, x_a, x_ild, x_lld, x_rld, x_ist, x_lst, x_rst, x_inc, x_ii, x_ll, x_li, x_cmp, x_ui, x_il, x_lti, x_idiv, x_irem, x_dup_i, x_dup_r, x_pop_i, x_pop_r, x_dupx_ir, x_dup2_ir, x_ifeq, x_iceq, x_iflt, x_iclt, x_ifge, x_icge, x_ifgt, x_icgt, x_ifle, x_icle, x_ifne, x_icne, x_ifnull_r, x_ifnull_n, x_ifnonnull_r, x_ifnonnull_n, x_sw, x_vret, x_iret, x_lret, x_zret, x_zret0, x_zret1, x_rf_s, x_rf_n, x_geti, x_getr, x_puti, x_putz, x_putr, x_ial, x_ias, x_lal, x_las, x_aal, x_aas, x_aast, x_alen, x_new, x_newa, x_copy, x_min, x_abs, x_minl, x_oinit, x_throw, x_callS0, x_callS1, x_callS2, x_callS3, x_callS4, x_callV0, x_callV1, x_callV2, x_callV3, x_callV4, x_callV5, x_retI_v, x_callI0, x_callI1, x_callI2, x_retN_v, x_callSN1, x_callSN2, x_callT0, x_callT1, x_fn, x_sl0, x_sli, x_slr, x_sll, x_ar0, x_ari, x_arr, x_arl, ↓reduceIte, Nat.reduceAdd, Nat.reduceSub, Nat.reduceMul, Nat.reduceEqDiff, Nat.reduceLeDiff, Nat.reduceLT, if_true, if_false, Nat.le_refl, and_true, true_and, and_self, reduceCtorEq, or_false, false_or, or_true, true_or, Nat.zero_le, fa_lit, nI_add, w_mul, nI_ltI, nI_leI, nI_eq, nI_clamp, nI_toInt, if_pos, if_neg, w_div, w_rem2, yk100 hCT3, yk125 hCT3, yk126 hCT3, yk127 hCT3, yk128 hCT3, yk129 hCT3, yk130 hCT3, yk131 hCT3, yk132 hCT3, yk133 hCT3, yk134 hCT3, yk135 hCT3, yk136 hCT3, yk137 hCT3, yl126 hCT3, yl128 hCT3, yl130 hCT3, yl131 hCT3, yl133 hCT3, yl137 hCT3, yr100_0 hCT3, yr100_1 hCT3, yr100_2 hCT3, yr100_3 hCT3, yr100_4 hCT3, yr100_5 hCT3, yr100_6 hCT3, yr100_7 hCT3, yr100_8 hCT3, yr100_9 hCT3, yr100_10 hCT3, yr125_0 hCT3, yr127_0 hCT3, yr129_0 hCT3, yr129_1 hCT3, yr129_2 hCT3, yr132_0 hCT3, yr134_0 hCT3, yr135_0 hCT3, yr135_1 hCT3, yr136_0 hCT3, yr136_1 hCT3, yk100 hCU, yk125 hCU, yk126 hCU, yk127 hCU, yk128 hCU, yk129 hCU, yk130 hCU, yk131 hCU, yk132 hCU, yk133 hCU, yk134 hCU, yk135 hCU, yk136 hCU, yk137 hCU, yl126 hCU, yl128 hCU, yl130 hCU, yl131 hCU, yl133 hCU, yl137 hCU, yr100_0 hCU, yr100_1 hCU, yr100_2 hCU, yr100_3 hCU, yr100_4 hCU, yr100_5 hCU, yr100_6 hCU, yr100_7 hCU, yr100_8 hCU, yr100_9 hCU, yr100_10 hCU, yr125_0 hCU, yr127_0 hCU, yr129_0 hCU, yr129_1 hCU, yr129_2 hCU, yr132_0 hCU, yr134_0 hCU, yr135_0 hCU, yr135_1 hCU, yr136_0 hCU, yr136_1 hCU, xk0 hAU, xk1 hAU, xl1 hAU, xk2 hAU, xk3 hAU, xl3 hAU, xr2_2 hAU, xi2_0 hAU, xi2_1 hAU, xk4 hAU, xk5 hAU, xl5 hAU, xr4_2 hAU, xi4_0 hAU, xi4_1 hAU, xk6 hAU, xk7 hAU, xl7 hAU, xr6_2 hAU, xi6_0 hAU, xi6_1 hAU, xk8 hAU, xk9 hAU, xl9 hAU, xr8_2 hAU, xi8_0 hAU, xi8_1 hAU, xk10 hAU, xk11 hAU, xl11 hAU, xr10_2 hAU, xi10_0 hAU, xi10_1 hAU, xr0_7 hAU, xr0_8 hAU, xr0_9 hAU, xr0_10 hAU, xr0_11 hAU, xr0_12 hAU, q1, gO, gP, w4]
    have e4' : G 4 = nI o := by rw [← ho]; exact b4.1
    rw [e4'] at m1
    have ne : ¬ (nI o : Int32) = -nI 1 := nI_nm1 (by omega)
    have n1' : am_loop (bX10_arrivalAfter_14 w_N) w_N [(0, .ref 100), (1, .int (nI d)), (2, .int (nI u)), (3, .int x), (4, .int y), (5, .int (nI 0))] [] S1 = some (.inl (some (.int (s_ps m D (64 + 10 * o + 5)))), T4) := by
      refine (Eq.trans n1 ?_)
      simp (disch := omega) only [bX10_arrivalAfter_14, kX10_arrivalAfter_61, x_cs0, x_csi, x_csr, x_csn, x_csl, x_ret_v, x_ret_t, x_ret_n, x_tl_s, x_tl_n, x_lk0, x_lk, x_rem0, x_rem_i, x_rem_r, x_rem_l, x_rem2_0, x_rem2_i, x_rem2_r, x_rem2_l, x_pick0, x_pick_c, x_st1, x_st2, x_live, x_i, x_l, x_a, x_ild, x_lld, x_rld, x_ist, x_lst, x_rst, x_inc, x_ii, x_ll, x_li, x_cmp, x_ui, x_il, x_lti, x_idiv, x_irem, x_dup_i, x_dup_r, x_pop_i, x_pop_r, x_dupx_ir, x_dup2_ir, x_ifeq, x_iceq, x_iflt, x_iclt, x_ifge, x_icge, x_ifgt, x_icgt, x_ifle, x_icle, x_ifne, x_icne, x_ifnull_r, x_ifnull_n, x_ifnonnull_r, x_ifnonnull_n, x_sw, x_vret, x_iret, x_lret, x_zret, x_zret0, x_zret1, x_rf_s, x_rf_n, x_geti, x_getr, x_puti, x_putz, x_putr, x_ial, x_ias, x_lal, x_las, x_aal, x_aas, x_aast, x_alen, x_new, x_newa, x_copy, x_min, x_abs, x_minl, x_oinit, x_throw, x_callS0, x_callS1, x_callS2, x_callS3, x_callS4, x_callV0, x_callV1, x_callV2, x_callV3, x_callV4, x_callV5, x_retI_v, x_callI0, x_callI1, x_callI2, x_retN_v, x_callSN1, x_callSN2, x_callT0, x_callT1, x_fn, x_sl0, x_sli, x_slr, x_sll, x_ar0, x_ari, x_arr, x_arl, ↓reduceIte, Nat.reduceAdd, Nat.reduceSub, Nat.reduceMul, Nat.reduceEqDiff, Nat.reduceLeDiff, Nat.reduceLT, if_true, if_false, Nat.le_refl, and_true, true_and, and_self, reduceCtorEq, or_false, false_or, or_true, true_or, Nat.zero_le, fa_lit, nI_add, w_mul, nI_ltI, nI_leI, nI_eq, nI_clamp, nI_toInt, if_pos, if_neg, w_div, w_rem2, yk100 hCT, yk125 hCT, yk126 hCT, yk127 hCT, yk128 hCT, yk129 hCT, yk130 hCT, yk131 hCT, yk132 hCT, yk133 hCT, yk134 hCT, yk135 hCT, yk136 hCT, yk137 hCT, yl126 hCT, yl128 hCT, yl130 hCT, yl131 hCT, yl133 hCT, yl137 hCT, yr100_0 hCT, yr100_1 hCT, yr100_2 hCT, yr100_3 hCT, yr100_4 hCT, yr100_5 hCT, yr100_6 hCT, yr100_7 hCT, yr100_8 hCT, yr100_9 hCT, yr100_10 hCT, yr125_0 hCT, yr127_0 hCT, yr129_0 hCT, yr129_1 hCT, yr129_2 hCT, yr132_0 hCT, yr134_0 hCT, yr135_0 hCT, yr135_1 hCT, yr136_0 hCT, yr136_1 hCT, xk0 hAT, xk1 hAT, xl1 hAT, xk2 hAT, xk3 hAT, xl3 hAT, xr2_2 hAT, xi2_0 hAT, xi2_1 hAT, xk4 hAT, xk5 hAT, xl5 hAT, xr4_2 hAT, xi4_0 hAT, xi4_1 hAT, xk6 hAT, xk7 hAT, xl7 hAT, xr6_2 hAT, xi6_0 hAT, xi6_1 hAT, xk8 hAT, xk9 hAT, xl9 hAT, xr8_2 hAT, xi8_0 hAT, xi8_1 hAT, xk10 hAT, xk11 hAT, xl11 hAT, xr10_2 hAT, xi10_0 hAT, xi10_1 hAT, xr0_7 hAT, xr0_8 hAT, xr0_9 hAT, xr0_10 hAT, xr0_11 hAT, xr0_12 hAT, m1, ne, a1']
    simp (disch := omega) only [fX10_arrivalAfter, kX10_arrivalAfter_0, kX10_arrivalAfter_14, x_cs0, x_csi, x_csr, x_csn, x_csl, x_ret_v, x_ret_t, x_ret_n, x_tl_s, x_tl_n, x_lk0, x_lk, x_rem0, x_rem_i, x_rem_r, x_rem_l, x_rem2_0, x_rem2_i, x_rem2_r, x_rem2_l, x_pick0, x_pick_c, x_st1, x_st2, x_live, x_i, x_l, x_a, x_ild, x_lld, x_rld, x_ist, x_lst, x_rst, x_inc, x_ii, x_ll, x_li, x_cmp, x_ui, x_il, x_lti, x_idiv, x_irem, x_dup_i, x_dup_r, x_pop_i, x_pop_r, x_dupx_ir, x_dup2_ir, x_ifeq, x_iceq, x_iflt, x_iclt, x_ifge, x_icge, x_ifgt, x_icgt, x_ifle, x_icle, x_ifne, x_icne, x_ifnull_r, x_ifnull_n, x_ifnonnull_r, x_ifnonnull_n, x_sw, x_vret, x_iret, x_lret, x_zret, x_zret0, x_zret1, x_rf_s, x_rf_n, x_geti, x_getr, x_puti, x_putz, x_putr, x_ial, x_ias, x_lal, x_las, x_aal, x_aas, x_aast, x_alen, x_new, x_newa, x_copy, x_min, x_abs, x_minl, x_oinit, x_throw, x_callS0, x_callS1, x_callS2, x_callS3, x_callS4, x_callV0, x_callV1, x_callV2, x_callV3, x_callV4, x_callV5, x_retI_v, x_callI0, x_callI1, x_callI2, x_retN_v, x_callSN1, x_callSN2, x_callT0, x_callT1, x_fn, x_sl0, x_sli, x_slr, x_sll, x_ar0, x_ari, x_arr, x_arl, ↓reduceIte, Nat.reduceAdd, Nat.reduceSub, Nat.reduceMul, Nat.reduceEqDiff, Nat.reduceLeDiff, Nat.reduceLT, if_true, if_false, Nat.le_refl, and_true, true_and, and_self, reduceCtorEq, or_false, false_or, or_true, true_or, Nat.zero_le, fa_lit, nI_add, w_mul, nI_ltI, nI_leI, nI_eq, nI_clamp, nI_toInt, if_pos, if_neg, w_div, w_rem2, yk100 hC, yk125 hC, yk126 hC, yk127 hC, yk128 hC, yk129 hC, yk130 hC, yk131 hC, yk132 hC, yk133 hC, yk134 hC, yk135 hC, yk136 hC, yk137 hC, yl126 hC, yl128 hC, yl130 hC, yl131 hC, yl133 hC, yl137 hC, yr100_0 hC, yr100_1 hC, yr100_2 hC, yr100_3 hC, yr100_4 hC, yr100_5 hC, yr100_6 hC, yr100_7 hC, yr100_8 hC, yr100_9 hC, yr100_10 hC, yr125_0 hC, yr127_0 hC, yr129_0 hC, yr129_1 hC, yr129_2 hC, yr132_0 hC, yr134_0 hC, yr135_0 hC, yr135_1 hC, yr136_0 hC, yr136_1 hC, yk100 hC1, yk125 hC1, yk126 hC1, yk127 hC1, yk128 hC1, yk129 hC1, yk130 hC1, yk131 hC1, yk132 hC1, yk133 hC1, yk134 hC1, yk135 hC1, yk136 hC1, yk137 hC1, yl126 hC1, yl128 hC1, yl130 hC1, yl131 hC1, yl133 hC1, yl137 hC1, yr100_0 hC1, yr100_1 hC1, yr100_2 hC1, yr100_3 hC1, yr100_4 hC1, yr100_5 hC1, yr100_6 hC1, yr100_7 hC1, yr100_8 hC1, yr100_9 hC1, yr100_10 hC1, yr125_0 hC1, yr127_0 hC1, yr129_0 hC1, yr129_1 hC1, yr129_2 hC1, yr132_0 hC1, yr134_0 hC1, yr135_0 hC1, yr135_1 hC1, yr136_0 hC1, yr136_1 hC1, xk0 hA3, xk1 hA3, xl1 hA3, xk2 hA3, xk3 hA3, xl3 hA3, xr2_2 hA3, xi2_0 hA3, xi2_1 hA3, xk4 hA3, xk5 hA3, xl5 hA3, xr4_2 hA3, xi4_0 hA3, xi4_1 hA3, xk6 hA3, xk7 hA3, xl7 hA3, xr6_2 hA3, xi6_0 hA3, xi6_1 hA3, xk8 hA3, xk9 hA3, xl9 hA3, xr8_2 hA3, xi8_0 hA3, xi8_1 hA3, xk10 hA3, xk11 hA3, xl11 hA3, xr10_2 hA3, xi10_0 hA3, xi10_1 hA3, xr0_7 hA3, xr0_8 hA3, xr0_9 hA3, xr0_10 hA3, xr0_11 hA3, xr0_12 hA3, f1, n1']
  · rw [if_neg c3]
    rw [if_neg c3] at m1
    have fin := h.tri m2 (n2.2.2.2.tr m3) ((s_wl.KT K.2.1).tr m4)
    refine ⟨T2, ?_, fin.1, fin.2.1, fin.2.2⟩
    have n1' : am_loop (bX10_arrivalAfter_14 w_N) w_N [(0, .ref 100), (1, .int (nI d)), (2, .int (nI u)), (3, .int x), (4, .int y), (5, .int (nI 0))] [] S1 = some (.inl (some (.int (-nI 1))), T2) := by
      refine (Eq.trans n1 ?_)
      simp (disch := omega) only [bX10_arrivalAfter_14, kX10_arrivalAfter_61, x_cs0, x_csi, x_csr, x_csn, x_csl, x_ret_v, x_ret_t, x_ret_n, x_tl_s, x_tl_n, x_lk0, x_lk, x_rem0, x_rem_i, x_rem_r, x_rem_l, x_rem2_0, x_rem2_i, x_rem2_r, x_rem2_l, x_pick0, x_pick_c, x_st1, x_st2, x_live, x_i, x_l, x_a, x_ild, x_lld, x_rld, x_ist, x_lst, x_rst, x_inc, x_ii, x_ll, x_li, x_cmp, x_ui, x_il, x_lti, x_idiv, x_irem, x_dup_i, x_dup_r, x_pop_i, x_pop_r, x_dupx_ir, x_dup2_ir, x_ifeq, x_iceq, x_iflt, x_iclt, x_ifge, x_icge, x_ifgt, x_icgt, x_ifle, x_icle, x_ifne, x_icne, x_ifnull_r, x_ifnull_n, x_ifnonnull_r, x_ifnonnull_n, x_sw, x_vret, x_iret, x_lret, x_zret, x_zret0, x_zret1, x_rf_s, x_rf_n, x_geti, x_getr, x_puti, x_putz, x_putr, x_ial, x_ias, x_lal, x_las, x_aal, x_aas, x_aast, x_alen, x_new, x_newa, x_copy, x_min, x_abs, x_minl, x_oinit, x_throw, x_callS0, x_callS1, x_callS2, x_callS3, x_callS4, x_callV0, x_callV1, x_callV2, x_callV3, x_callV4, x_callV5, x_retI_v, x_callI0, x_callI1, x_callI2, x_retN_v, x_callSN1, x_callSN2, x_callT0, x_callT1, x_fn, x_sl0, x_sli, x_slr, x_sll, x_ar0, x_ari, x_arr, x_arl, ↓reduceIte, Nat.reduceAdd, Nat.reduceSub, Nat.reduceMul, Nat.reduceEqDiff, Nat.reduceLeDiff, Nat.reduceLT, if_true, if_false, Nat.le_refl, and_true, true_and, and_self, reduceCtorEq, or_false, false_or, or_true, true_or, Nat.zero_le, fa_lit, nI_add, w_mul, nI_ltI, nI_leI, nI_eq, nI_clamp, nI_toInt, if_pos, if_neg, w_div, w_rem2, yk100 hCT, yk125 hCT, yk126 hCT, yk127 hCT, yk128 hCT, yk129 hCT, yk130 hCT, yk131 hCT, yk132 hCT, yk133 hCT, yk134 hCT, yk135 hCT, yk136 hCT, yk137 hCT, yl126 hCT, yl128 hCT, yl130 hCT, yl131 hCT, yl133 hCT, yl137 hCT, yr100_0 hCT, yr100_1 hCT, yr100_2 hCT, yr100_3 hCT, yr100_4 hCT, yr100_5 hCT, yr100_6 hCT, yr100_7 hCT, yr100_8 hCT, yr100_9 hCT, yr100_10 hCT, yr125_0 hCT, yr127_0 hCT, yr129_0 hCT, yr129_1 hCT, yr129_2 hCT, yr132_0 hCT, yr134_0 hCT, yr135_0 hCT, yr135_1 hCT, yr136_0 hCT, yr136_1 hCT, xk0 hAT, xk1 hAT, xl1 hAT, xk2 hAT, xk3 hAT, xl3 hAT, xr2_2 hAT, xi2_0 hAT, xi2_1 hAT, xk4 hAT, xk5 hAT, xl5 hAT, xr4_2 hAT, xi4_0 hAT, xi4_1 hAT, xk6 hAT, xk7 hAT, xl7 hAT, xr6_2 hAT, xi6_0 hAT, xi6_1 hAT, xk8 hAT, xk9 hAT, xl9 hAT, xr8_2 hAT, xi8_0 hAT, xi8_1 hAT, xk10 hAT, xk11 hAT, xl11 hAT, xr10_2 hAT, xi10_0 hAT, xi10_1 hAT, xr0_7 hAT, xr0_8 hAT, xr0_9 hAT, xr0_10 hAT, xr0_11 hAT, xr0_12 hAT, m1]
    simp (disch := omega) only [fX10_arrivalAfter, kX10_arrivalAfter_0, kX10_arrivalAfter_14, x_cs0, x_csi, x_csr, x_csn, x_csl, x_ret_v, x_ret_t, x_ret_n, x_tl_s, x_tl_n, x_lk0, x_lk, x_rem0, x_rem_i, x_rem_r, x_rem_l, x_rem2_0, x_rem2_i, x_rem2_r, x_rem2_l, x_pick0, x_pick_c, x_st1, x_st2, x_live, x_i, x_l, x_a, x_ild, x_lld, x_rld, x_ist, x_lst, x_rst, x_inc, x_ii, x_ll, x_li, x_cmp, x_ui, x_il, x_lti, x_idiv, x_irem, x_dup_i, x_dup_r, x_pop_i, x_pop_r, x_dupx_ir, x_dup2_ir, x_ifeq, x_iceq, x_iflt, x_iclt, x_ifge, x_icge, x_ifgt, x_icgt, x_ifle, x_icle, x_ifne, x_icne, x_ifnull_r, x_ifnull_n, x_ifnonnull_r, x_ifnonnull_n, x_sw, x_vret, x_iret, x_lret, x_zret, x_zret0, x_zret1, x_rf_s, x_rf_n, x_geti, x_getr, x_puti, x_putz, x_putr, x_ial, x_ias, x_lal, x_las, x_aal, x_aas, x_aast, x_alen, x_new, x_newa, x_copy, x_min, x_abs, x_minl, x_oinit, x_throw, x_callS0, x_callS1, x_callS2, x_callS3, x_callS4, x_callV0, x_callV1, x_callV2, x_callV3, x_callV4, x_callV5, x_retI_v, x_callI0, x_callI1, x_callI2, x_retN_v, x_callSN1, x_callSN2, x_callT0, x_callT1, x_fn, x_sl0, x_sli, x_slr, x_sll, x_ar0, x_ari, x_arr, x_arl, ↓reduceIte, Nat.reduceAdd, Nat.reduceSub, Nat.reduceMul, Nat.reduceEqDiff, Nat.reduceLeDiff, Nat.reduceLT, if_true, if_false, Nat.le_refl, and_true, true_and, and_self, reduceCtorEq, or_false, false_or, or_true, true_or, Nat.zero_le, fa_lit, nI_add, w_mul, nI_ltI, nI_leI, nI_eq, nI_clamp, nI_toInt, if_pos, if_neg, w_div, w_rem2, yk100 hC, yk125 hC, yk126 hC, yk127 hC, yk128 hC, yk129 hC, yk130 hC, yk131 hC, yk132 hC, yk133 hC, yk134 hC, yk135 hC, yk136 hC, yk137 hC, yl126 hC, yl128 hC, yl130 hC, yl131 hC, yl133 hC, yl137 hC, yr100_0 hC, yr100_1 hC, yr100_2 hC, yr100_3 hC, yr100_4 hC, yr100_5 hC, yr100_6 hC, yr100_7 hC, yr100_8 hC, yr100_9 hC, yr100_10 hC, yr125_0 hC, yr127_0 hC, yr129_0 hC, yr129_1 hC, yr129_2 hC, yr132_0 hC, yr134_0 hC, yr135_0 hC, yr135_1 hC, yr136_0 hC, yr136_1 hC, yk100 hC1, yk125 hC1, yk126 hC1, yk127 hC1, yk128 hC1, yk129 hC1, yk130 hC1, yk131 hC1, yk132 hC1, yk133 hC1, yk134 hC1, yk135 hC1, yk136 hC1, yk137 hC1, yl126 hC1, yl128 hC1, yl130 hC1, yl131 hC1, yl133 hC1, yl137 hC1, yr100_0 hC1, yr100_1 hC1, yr100_2 hC1, yr100_3 hC1, yr100_4 hC1, yr100_5 hC1, yr100_6 hC1, yr100_7 hC1, yr100_8 hC1, yr100_9 hC1, yr100_10 hC1, yr125_0 hC1, yr127_0 hC1, yr129_0 hC1, yr129_1 hC1, yr129_2 hC1, yr132_0 hC1, yr134_0 hC1, yr135_0 hC1, yr135_1 hC1, yr136_0 hC1, yr136_1 hC1, xk0 hA3, xk1 hA3, xl1 hA3, xk2 hA3, xk3 hA3, xl3 hA3, xr2_2 hA3, xi2_0 hA3, xi2_1 hA3, xk4 hA3, xk5 hA3, xl5 hA3, xr4_2 hA3, xi4_0 hA3, xi4_1 hA3, xk6 hA3, xk7 hA3, xl7 hA3, xr6_2 hA3, xi6_0 hA3, xi6_1 hA3, xk8 hA3, xk9 hA3, xl9 hA3, xr8_2 hA3, xi8_0 hA3, xi8_1 hA3, xk10 hA3, xk11 hA3, xl11 hA3, xr10_2 hA3, xi10_0 hA3, xi10_1 hA3, xr0_7 hA3, xr0_8 hA3, xr0_9 hA3, xr0_10 hA3, xr0_11 hA3, xr0_12 hA3, f1, n1']
theorem o_g_n (c : Nat) (hc : c ≠ 0) : ∃ E, o_g c = .inr E ∧ ∀ v, o_r c v = .inr E := by
  unfold o_g o_r
  rw [if_neg hc]
  by_cases c1 : c = 1
  · exact ⟨E_N, if_pos c1, fun v => by rw [if_neg hc, if_pos c1]⟩
  · exact ⟨E_I, if_neg c1, fun v => by rw [if_neg hc, if_neg c1]⟩
theorem y_wouldArrive (h : w_Ic S M) : ∃ S', fX10_wouldArrive w_N [.ref 100, .int z, .int x, .int y] S = some (o_r (u_wouldArrive (M 139) z x y).1 (u_wouldArrive (M 139) z x y).2, S') ∧ w_Ic S' M ∧ w_le 1 6 S S' ∧ w_kp S S' := by
  have hC := h.1.1
  have g1 := y_needGoal (z := z) (x := x) (y := y) h.L
  unfold u_wouldArrive
  by_cases c1 : u_goal (M 139) z x y = 0
  · rw [if_pos c1]
    rw [c1, o_g0, o_t0] at g1
    obtain ⟨S', f1, f2, f3, f4⟩ := y_after h c1 (d := 0) (by omega)
    refine ⟨S', ?_, f2, f3.mono (by omega) (by omega), f4⟩
    simp (disch := omega) only [fX10_wouldArrive, kX10_wouldArrive_0, x_cs0, x_csi, x_csr, x_csn, x_csl, x_ret_v, x_ret_t, x_ret_n, x_tl_s, x_tl_n, x_lk0, x_lk, x_rem0, x_rem_i, x_rem_r, x_rem_l, x_rem2_0, x_rem2_i, x_rem2_r, x_rem2_l, x_pick0, x_pick_c, x_st1, x_st2, x_live, x_i, x_l, x_a, x_ild, x_lld, x_rld, x_ist, x_lst, x_rst, x_inc, x_ii, x_ll, x_li, x_cmp, x_ui, x_il, x_lti, x_idiv, x_irem, x_dup_i, x_dup_r, x_pop_i, x_pop_r, x_dupx_ir, x_dup2_ir, x_ifeq, x_iceq, x_iflt, x_iclt, x_ifge, x_icge, x_ifgt, x_icgt, x_ifle, x_icle, x_ifne, x_icne, x_ifnull_r, x_ifnull_n, x_ifnonnull_r, x_ifnonnull_n, x_sw, x_vret, x_iret, x_lret, x_zret, x_zret0, x_zret1, x_rf_s, x_rf_n, x_geti, x_getr, x_puti, x_putz, x_putr, x_ial, x_ias, x_lal, x_las, x_aal, x_aas, x_aast, x_alen, x_new, x_newa, x_copy, x_min, x_abs, x_minl, x_oinit, x_throw, x_callS0, x_callS1, x_callS2, x_callS3, x_callS4, x_callV0, x_callV1, x_callV2, x_callV3, x_callV4, x_callV5, x_retI_v, x_callI0, x_callI1, x_callI2, x_retN_v, x_callSN1, x_callSN2, x_callT0, x_callT1, x_fn, x_sl0, x_sli, x_slr, x_sll, x_ar0, x_ari, x_arr, x_arl, ↓reduceIte, Nat.reduceAdd, Nat.reduceSub, Nat.reduceMul, Nat.reduceEqDiff, Nat.reduceLeDiff, Nat.reduceLT, if_true, if_false, Nat.le_refl, and_true, true_and, and_self, reduceCtorEq, or_false, false_or, or_true, true_or, Nat.zero_le, fa_lit, nI_add, w_mul, nI_ltI, nI_leI, nI_eq, nI_clamp, nI_toInt, if_pos, if_neg, w_div, w_rem2, yk100 hC, yk125 hC, yk126 hC, yk127 hC, yk128 hC, yk129 hC, yk130 hC, yk131 hC, yk132 hC, yk133 hC, yk134 hC, yk135 hC, yk136 hC, yk137 hC, yl126 hC, yl128 hC, yl130 hC, yl131 hC, yl133 hC, yl137 hC, yr100_0 hC, yr100_1 hC, yr100_2 hC, yr100_3 hC, yr100_4 hC, yr100_5 hC, yr100_6 hC, yr100_7 hC, yr100_8 hC, yr100_9 hC, yr100_10 hC, yr125_0 hC, yr127_0 hC, yr129_0 hC, yr129_1 hC, yr129_2 hC, yr132_0 hC, yr134_0 hC, yr135_0 hC, yr135_1 hC, yr136_0 hC, yr136_1 hC, g1, f1, o_r0]
  · rw [if_neg c1]
    have ht := h.thr (c := u_goal (M 139) z x y)
    refine ⟨_, ?_, ht.1, ht.2.1.mono (by omega) (by omega), ht.2.2⟩
    obtain ⟨E, e1, e2⟩ := o_g_n _ c1
    rw [e1] at g1
    rw [e2]
    simp (disch := omega) only [fX10_wouldArrive, kX10_wouldArrive_0, x_cs0, x_csi, x_csr, x_csn, x_csl, x_ret_v, x_ret_t, x_ret_n, x_tl_s, x_tl_n, x_lk0, x_lk, x_rem0, x_rem_i, x_rem_r, x_rem_l, x_rem2_0, x_rem2_i, x_rem2_r, x_rem2_l, x_pick0, x_pick_c, x_st1, x_st2, x_live, x_i, x_l, x_a, x_ild, x_lld, x_rld, x_ist, x_lst, x_rst, x_inc, x_ii, x_ll, x_li, x_cmp, x_ui, x_il, x_lti, x_idiv, x_irem, x_dup_i, x_dup_r, x_pop_i, x_pop_r, x_dupx_ir, x_dup2_ir, x_ifeq, x_iceq, x_iflt, x_iclt, x_ifge, x_icge, x_ifgt, x_icgt, x_ifle, x_icle, x_ifne, x_icne, x_ifnull_r, x_ifnull_n, x_ifnonnull_r, x_ifnonnull_n, x_sw, x_vret, x_iret, x_lret, x_zret, x_zret0, x_zret1, x_rf_s, x_rf_n, x_geti, x_getr, x_puti, x_putz, x_putr, x_ial, x_ias, x_lal, x_las, x_aal, x_aas, x_aast, x_alen, x_new, x_newa, x_copy, x_min, x_abs, x_minl, x_oinit, x_throw, x_callS0, x_callS1, x_callS2, x_callS3, x_callS4, x_callV0, x_callV1, x_callV2, x_callV3, x_callV4, x_callV5, x_retI_v, x_callI0, x_callI1, x_callI2, x_retN_v, x_callSN1, x_callSN2, x_callT0, x_callT1, x_fn, x_sl0, x_sli, x_slr, x_sll, x_ar0, x_ari, x_arr, x_arl, ↓reduceIte, Nat.reduceAdd, Nat.reduceSub, Nat.reduceMul, Nat.reduceEqDiff, Nat.reduceLeDiff, Nat.reduceLT, if_true, if_false, Nat.le_refl, and_true, true_and, and_self, reduceCtorEq, or_false, false_or, or_true, true_or, Nat.zero_le, fa_lit, nI_add, w_mul, nI_ltI, nI_leI, nI_eq, nI_clamp, nI_toInt, if_pos, if_neg, w_div, w_rem2, yk100 hC, yk125 hC, yk126 hC, yk127 hC, yk128 hC, yk129 hC, yk130 hC, yk131 hC, yk132 hC, yk133 hC, yk134 hC, yk135 hC, yk136 hC, yk137 hC, yl126 hC, yl128 hC, yl130 hC, yl131 hC, yl133 hC, yl137 hC, yr100_0 hC, yr100_1 hC, yr100_2 hC, yr100_3 hC, yr100_4 hC, yr100_5 hC, yr100_6 hC, yr100_7 hC, yr100_8 hC, yr100_9 hC, yr100_10 hC, yr125_0 hC, yr127_0 hC, yr129_0 hC, yr129_1 hC, yr129_2 hC, yr132_0 hC, yr134_0 hC, yr135_0 hC, yr135_1 hC, yr136_0 hC, yr136_1 hC, g1]
theorem y_bestL (hg : u_goal (M 139) z x y = 0) : ∀ k i S m, i + k = 16 → k < m → w_Ic S M → ∃ S', am_loop (bX10_bestDelay_10 w_N) m [(0, .ref 100), (1, .int z), (2, .int x), (3, .int y), (4, .int (nI i))] [] S = some (.inl (some (.int (s_best (M 139) z x y k i))), S') ∧ w_Ic S' M ∧ w_le 0 0 S S' ∧ w_kp S S'
  | 0, i, S, m, h1, h2, h => by
    obtain ⟨m, rfl⟩ : ∃ q, m = q + 1 := ⟨m - 1, by omega⟩
    rw [am_loop_s, s_best]
    refine ⟨S, ?_, h, w_le.rf, w_kp.rf⟩
    simp (disch := omega) only [bX10_bestDelay_10, x_cs0, x_csi, x_csr, x_csn, x_csl, x_ret_v, x_ret_t, x_ret_n, x_tl_s, x_tl_n, x_lk0, x_lk, x_rem0, x_rem_i, x_rem_r, x_rem_l, x_rem2_0, x_rem2_i, x_rem2_r, x_rem2_l, x_pick0, x_pick_c, x_st1, x_st2, x_live, x_i, x_l, x_a, x_ild, x_lld, x_rld, x_ist, x_lst, x_rst, x_inc, x_ii, x_ll, x_li, x_cmp, x_ui, x_il, x_lti, x_idiv, x_irem, x_dup_i, x_dup_r, x_pop_i, x_pop_r, x_dupx_ir, x_dup2_ir, x_ifeq, x_iceq, x_iflt, x_iclt, x_ifge, x_icge, x_ifgt, x_icgt, x_ifle, x_icle, x_ifne, x_icne, x_ifnull_r, x_ifnull_n, x_ifnonnull_r, x_ifnonnull_n, x_sw, x_vret, x_iret, x_lret, x_zret, x_zret0, x_zret1, x_rf_s, x_rf_n, x_geti, x_getr, x_puti, x_putz, x_putr, x_ial, x_ias, x_lal, x_las, x_aal, x_aas, x_aast, x_alen, x_new, x_newa, x_copy, x_min, x_abs, x_minl, x_oinit, x_throw, x_callS0, x_callS1, x_callS2, x_callS3, x_callS4, x_callV0, x_callV1, x_callV2, x_callV3, x_callV4, x_callV5, x_retI_v, x_callI0, x_callI1, x_callI2, x_retN_v, x_callSN1, x_callSN2, x_callT0, x_callT1, x_fn, x_sl0, x_sli, x_slr, x_sll, x_ar0, x_ari, x_arr, x_arl, ↓reduceIte, Nat.reduceAdd, Nat.reduceSub, Nat.reduceMul, Nat.reduceEqDiff, Nat.reduceLeDiff, Nat.reduceLT, if_true, if_false, Nat.le_refl, and_true, true_and, and_self, reduceCtorEq, or_false, false_or, or_true, true_or, Nat.zero_le, fa_lit, nI_add, w_mul, nI_ltI, nI_leI, nI_eq, nI_clamp, nI_toInt, if_pos, if_neg, w_div, w_rem2]
  | k + 1, i, S, m, h1, h2, h => by
    obtain ⟨m, rfl⟩ : ∃ q, m = q + 1 := ⟨m - 1, by omega⟩
    have hC := h.1.1
    rw [am_loop_s, s_best]
    obtain ⟨S1, f1, f2, f3, f4⟩ := y_after h hg (d := i) (by omega)
    by_cases c : s_arr i (M 139) z x y = -nI 1
    · rw [if_pos c]
      obtain ⟨S2, k1, k2, k3, k4⟩ := y_bestL hg k (i + 1) S1 m (by omega) (by omega) f2
      refine ⟨S2, ?_, k2, f3.tr k3, f4.tr k4⟩
      rw [c] at f1
      simp (disch := omega) only [bX10_bestDelay_10, x_cs0, x_csi, x_csr, x_csn, x_csl, x_ret_v, x_ret_t, x_ret_n, x_tl_s, x_tl_n, x_lk0, x_lk, x_rem0, x_rem_i, x_rem_r, x_rem_l, x_rem2_0, x_rem2_i, x_rem2_r, x_rem2_l, x_pick0, x_pick_c, x_st1, x_st2, x_live, x_i, x_l, x_a, x_ild, x_lld, x_rld, x_ist, x_lst, x_rst, x_inc, x_ii, x_ll, x_li, x_cmp, x_ui, x_il, x_lti, x_idiv, x_irem, x_dup_i, x_dup_r, x_pop_i, x_pop_r, x_dupx_ir, x_dup2_ir, x_ifeq, x_iceq, x_iflt, x_iclt, x_ifge, x_icge, x_ifgt, x_icgt, x_ifle, x_icle, x_ifne, x_icne, x_ifnull_r, x_ifnull_n, x_ifnonnull_r, x_ifnonnull_n, x_sw, x_vret, x_iret, x_lret, x_zret, x_zret0, x_zret1, x_rf_s, x_rf_n, x_geti, x_getr, x_puti, x_putz, x_putr, x_ial, x_ias, x_lal, x_las, x_aal, x_aas, x_aast, x_alen, x_new, x_newa, x_copy, x_min, x_abs, x_minl, x_oinit, x_throw, x_callS0, x_callS1, x_callS2, x_callS3, x_callS4, x_callV0, x_callV1, x_callV2, x_callV3, x_callV4, x_callV5, x_retI_v, x_callI0, x_callI1, x_callI2, x_retN_v, x_callSN1, x_callSN2, x_callT0, x_callT1, x_fn, x_sl0, x_sli, x_slr, x_sll, x_ar0, x_ari, x_arr, x_arl, ↓reduceIte, Nat.reduceAdd, Nat.reduceSub, Nat.reduceMul, Nat.reduceEqDiff, Nat.reduceLeDiff, Nat.reduceLT, if_true, if_false, Nat.le_refl, and_true, true_and, and_self, reduceCtorEq, or_false, false_or, or_true, true_or, Nat.zero_le, fa_lit, nI_add, w_mul, nI_ltI, nI_leI, nI_eq, nI_clamp, nI_toInt, if_pos, if_neg, w_div, w_rem2, yk100 hC, yk125 hC, yk126 hC, yk127 hC, yk128 hC, yk129 hC, yk130 hC, yk131 hC, yk132 hC, yk133 hC, yk134 hC, yk135 hC, yk136 hC, yk137 hC, yl126 hC, yl128 hC, yl130 hC, yl131 hC, yl133 hC, yl137 hC, yr100_0 hC, yr100_1 hC, yr100_2 hC, yr100_3 hC, yr100_4 hC, yr100_5 hC, yr100_6 hC, yr100_7 hC, yr100_8 hC, yr100_9 hC, yr100_10 hC, yr125_0 hC, yr127_0 hC, yr129_0 hC, yr129_1 hC, yr129_2 hC, yr132_0 hC, yr134_0 hC, yr135_0 hC, yr135_1 hC, yr136_0 hC, yr136_1 hC, f1, k1]
    · rw [if_neg c]
      refine ⟨S1, ?_, f2, f3, f4⟩
      simp (disch := omega) only [bX10_bestDelay_10, x_cs0, x_csi, x_csr, x_csn, x_csl, x_ret_v, x_ret_t, x_ret_n, x_tl_s, x_tl_n, x_lk0, x_lk, x_rem0, x_rem_i, x_rem_r, x_rem_l, x_rem2_0, x_rem2_i, x_rem2_r, x_rem2_l, x_pick0, x_pick_c, x_st1, x_st2, x_live, x_i, x_l, x_a, x_ild, x_lld, x_rld, x_ist, x_lst, x_rst, x_inc, x_ii, x_ll, x_li, x_cmp, x_ui, x_il, x_lti, x_idiv, x_irem, x_dup_i, x_dup_r, x_pop_i, x_pop_r, x_dupx_ir, x_dup2_ir, x_ifeq, x_iceq, x_iflt, x_iclt, x_ifge, x_icge, x_ifgt, x_icgt, x_ifle, x_icle, x_ifne, x_icne, x_ifnull_r, x_ifnull_n, x_ifnonnull_r, x_ifnonnull_n, x_sw, x_vret, x_iret, x_lret, x_zret, x_zret0, x_zret1, x_rf_s, x_rf_n, x_geti, x_getr, x_puti, x_putz, x_putr, x_ial, x_ias, x_lal, x_las, x_aal, x_aas, x_aast, x_alen, x_new, x_newa, x_copy, x_min, x_abs, x_minl, x_oinit, x_throw, x_callS0, x_callS1, x_callS2, x_callS3, x_callS4, x_callV0, x_callV1, x_callV2, x_callV3, x_callV4, x_callV5, x_retI_v, x_callI0, x_callI1, x_callI2, x_retN_v, x_callSN1, x_callSN2, x_callT0, x_callT1, x_fn, x_sl0, x_sli, x_slr, x_sll, x_ar0, x_ari, x_arr, x_arl, ↓reduceIte, Nat.reduceAdd, Nat.reduceSub, Nat.reduceMul, Nat.reduceEqDiff, Nat.reduceLeDiff, Nat.reduceLT, if_true, if_false, Nat.le_refl, and_true, true_and, and_self, reduceCtorEq, or_false, false_or, or_true, true_or, Nat.zero_le, fa_lit, nI_add, w_mul, nI_ltI, nI_leI, nI_eq, nI_clamp, nI_toInt, if_pos, if_neg, w_div, w_rem2, yk100 hC, yk125 hC, yk126 hC, yk127 hC, yk128 hC, yk129 hC, yk130 hC, yk131 hC, yk132 hC, yk133 hC, yk134 hC, yk135 hC, yk136 hC, yk137 hC, yl126 hC, yl128 hC, yl130 hC, yl131 hC, yl133 hC, yl137 hC, yr100_0 hC, yr100_1 hC, yr100_2 hC, yr100_3 hC, yr100_4 hC, yr100_5 hC, yr100_6 hC, yr100_7 hC, yr100_8 hC, yr100_9 hC, yr100_10 hC, yr125_0 hC, yr127_0 hC, yr129_0 hC, yr129_1 hC, yr129_2 hC, yr132_0 hC, yr134_0 hC, yr135_0 hC, yr135_1 hC, yr136_0 hC, yr136_1 hC, f1, c]
theorem y_bestDelay (h : w_Ic S M) : ∃ S', fX10_bestDelay w_N [.ref 100, .int z, .int x, .int y] S = some (o_r (u_bestDelay (M 139) z x y).1 (u_bestDelay (M 139) z x y).2, S') ∧ w_Ic S' M ∧ w_le 1 6 S S' ∧ w_kp S S' := by
  have hC := h.1.1
  have g1 := y_needGoal (z := z) (x := x) (y := y) h.L
  unfold u_bestDelay
  by_cases c1 : u_goal (M 139) z x y = 0
  · rw [if_pos c1]
    rw [c1, o_g0, o_t0] at g1
    obtain ⟨S', f1, f2, f3, f4⟩ := y_bestL c1 16 0 S w_N (by omega) (by show 16 < 5000; omega) h
    refine ⟨S', ?_, f2, f3.mono (by omega) (by omega), f4⟩
    simp (disch := omega) only [fX10_bestDelay, kX10_bestDelay_0, kX10_bestDelay_10, x_cs0, x_csi, x_csr, x_csn, x_csl, x_ret_v, x_ret_t, x_ret_n, x_tl_s, x_tl_n, x_lk0, x_lk, x_rem0, x_rem_i, x_rem_r, x_rem_l, x_rem2_0, x_rem2_i, x_rem2_r, x_rem2_l, x_pick0, x_pick_c, x_st1, x_st2, x_live, x_i, x_l, x_a, x_ild, x_lld, x_rld, x_ist, x_lst, x_rst, x_inc, x_ii, x_ll, x_li, x_cmp, x_ui, x_il, x_lti, x_idiv, x_irem, x_dup_i, x_dup_r, x_pop_i, x_pop_r, x_dupx_ir, x_dup2_ir, x_ifeq, x_iceq, x_iflt, x_iclt, x_ifge, x_icge, x_ifgt, x_icgt, x_ifle, x_icle, x_ifne, x_icne, x_ifnull_r, x_ifnull_n, x_ifnonnull_r, x_ifnonnull_n, x_sw, x_vret, x_iret, x_lret, x_zret, x_zret0, x_zret1, x_rf_s, x_rf_n, x_geti, x_getr, x_puti, x_putz, x_putr, x_ial, x_ias, x_lal, x_las, x_aal, x_aas, x_aast, x_alen, x_new, x_newa, x_copy, x_min, x_abs, x_minl, x_oinit, x_throw, x_callS0, x_callS1, x_callS2, x_callS3, x_callS4, x_callV0, x_callV1, x_callV2, x_callV3, x_callV4, x_callV5, x_retI_v, x_callI0, x_callI1, x_callI2, x_retN_v, x_callSN1, x_callSN2, x_callT0, x_callT1, x_fn, x_sl0, x_sli, x_slr, x_sll, x_ar0, x_ari, x_arr, x_arl, ↓reduceIte, Nat.reduceAdd, Nat.reduceSub, Nat.reduceMul, Nat.reduceEqDiff, Nat.reduceLeDiff, Nat.reduceLT, if_true, if_false, Nat.le_refl, and_true, true_and, and_self, reduceCtorEq, or_false, false_or, or_true, true_or, Nat.zero_le, fa_lit, nI_add, w_mul, nI_ltI, nI_leI, nI_eq, nI_clamp, nI_toInt, if_pos, if_neg, w_div, w_rem2, yk100 hC, yk125 hC, yk126 hC, yk127 hC, yk128 hC, yk129 hC, yk130 hC, yk131 hC, yk132 hC, yk133 hC, yk134 hC, yk135 hC, yk136 hC, yk137 hC, yl126 hC, yl128 hC, yl130 hC, yl131 hC, yl133 hC, yl137 hC, yr100_0 hC, yr100_1 hC, yr100_2 hC, yr100_3 hC, yr100_4 hC, yr100_5 hC, yr100_6 hC, yr100_7 hC, yr100_8 hC, yr100_9 hC, yr100_10 hC, yr125_0 hC, yr127_0 hC, yr129_0 hC, yr129_1 hC, yr129_2 hC, yr132_0 hC, yr134_0 hC, yr135_0 hC, yr135_1 hC, yr136_0 hC, yr136_1 hC, g1, f1, o_r0]
  · rw [if_neg c1]
    have ht := h.thr (c := u_goal (M 139) z x y)
    refine ⟨_, ?_, ht.1, ht.2.1.mono (by omega) (by omega), ht.2.2⟩
    obtain ⟨E, e1, e2⟩ := o_g_n _ c1
    rw [e1] at g1
    rw [e2]
    simp (disch := omega) only [fX10_bestDelay, kX10_bestDelay_0, x_cs0, x_csi, x_csr, x_csn, x_csl, x_ret_v, x_ret_t, x_ret_n, x_tl_s, x_tl_n, x_lk0, x_lk, x_rem0, x_rem_i, x_rem_r, x_rem_l, x_rem2_0, x_rem2_i, x_rem2_r, x_rem2_l, x_pick0, x_pick_c, x_st1, x_st2, x_live, x_i, x_l, x_a, x_ild, x_lld, x_rld, x_ist, x_lst, x_rst, x_inc, x_ii, x_ll, x_li, x_cmp, x_ui, x_il, x_lti, x_idiv, x_irem, x_dup_i, x_dup_r, x_pop_i, x_pop_r, x_dupx_ir, x_dup2_ir, x_ifeq, x_iceq, x_iflt, x_iclt, x_ifge, x_icge, x_ifgt, x_icgt, x_ifle, x_icle, x_ifne, x_icne, x_ifnull_r, x_ifnull_n, x_ifnonnull_r, x_ifnonnull_n, x_sw, x_vret, x_iret, x_lret, x_zret, x_zret0, x_zret1, x_rf_s, x_rf_n, x_geti, x_getr, x_puti, x_putz, x_putr, x_ial, x_ias, x_lal, x_las, x_aal, x_aas, x_aast, x_alen, x_new, x_newa, x_copy, x_min, x_abs, x_minl, x_oinit, x_throw, x_callS0, x_callS1, x_callS2, x_callS3, x_callS4, x_callV0, x_callV1, x_callV2, x_callV3, x_callV4, x_callV5, x_retI_v, x_callI0, x_callI1, x_callI2, x_retN_v, x_callSN1, x_callSN2, x_callT0, x_callT1, x_fn, x_sl0, x_sli, x_slr, x_sll, x_ar0, x_ari, x_arr, x_arl, ↓reduceIte, Nat.reduceAdd, Nat.reduceSub, Nat.reduceMul, Nat.reduceEqDiff, Nat.reduceLeDiff, Nat.reduceLT, if_true, if_false, Nat.le_refl, and_true, true_and, and_self, reduceCtorEq, or_false, false_or, or_true, true_or, Nat.zero_le, fa_lit, nI_add, w_mul, nI_ltI, nI_leI, nI_eq, nI_clamp, nI_toInt, if_pos, if_neg, w_div, w_rem2, yk100 hC, yk125 hC, yk126 hC, yk127 hC, yk128 hC, yk129 hC, yk130 hC, yk131 hC, yk132 hC, yk133 hC, yk134 hC, yk135 hC, yk136 hC, yk137 hC, yl126 hC, yl128 hC, yl130 hC, yl131 hC, yl133 hC, yl137 hC, yr100_0 hC, yr100_1 hC, yr100_2 hC, yr100_3 hC, yr100_4 hC, yr100_5 hC, yr100_6 hC, yr100_7 hC, yr100_8 hC, yr100_9 hC, yr100_10 hC, yr125_0 hC, yr127_0 hC, yr129_0 hC, yr129_1 hC, yr129_2 hC, yr132_0 hC, yr134_0 hC, yr135_0 hC, yr135_1 hC, yr136_0 hC, yr136_1 hC, g1]
end Y26
