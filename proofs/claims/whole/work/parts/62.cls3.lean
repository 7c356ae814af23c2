/-! THE CLASS: a row filled place by place -/
def w_pts (S : am_S) (P b : Nat) (v : Nat → Int32) : Nat → am_S
  | 0 => S
  | k + 1 => am_putI (w_pts S P b v k) P (b + k) (v k)
section Y3
variable {S S' : am_S} {x y z v : Int32} {i j o u n w hh c d b m t p np ne no a T P Q C L r f k : Nat} {R R' F : Nat → Int32} {V : Nat → Int32}
theorem x_k_pts : ∀ k, am_k (w_pts S P b V k) = am_k S
  | 0 => rfl
  | k + 1 => x_k_pts k
theorem x_l_pts : ∀ k, am_l (w_pts S P b V k) = am_l S
  | 0 => rfl
  | k + 1 => x_l_pts k
theorem x_r_pts : ∀ k, am_r (w_pts S P b V k) = am_r S
  | 0 => rfl
  | k + 1 => x_r_pts k
theorem x_i_pts (h : Q ≠ P) : ∀ k, am_i (w_pts S P b V k) Q = am_i S Q
  | 0 => rfl
  | k + 1 => by
    rw [← x_i_pts h k]
    funext j
    rw [w_pts, x_i_I, if_neg h]
theorem x_i_ptsP : ∀ k j, am_i (w_pts S P b V k) P j = if b ≤ j ∧ j < b + k then V (j - b) else am_i S P j
  | 0, j => by
    rw [if_neg (by omega)]
    rfl
  | k + 1, j => by
    rw [w_pts, x_i_I, if_pos rfl, x_i_ptsP k j]
    by_cases e : j = b + k
    · rw [if_pos e, if_pos (by omega), e, Nat.add_sub_cancel_left]
    · rw [if_neg e]
      by_cases g : b ≤ j ∧ j < b + k
      · rw [if_pos g, if_pos (by omega)]
      · rw [if_neg g, if_neg (by omega)]
theorem w_J_pts (h : a ≤ P ∧ P < a + 12) (hP : ∀ q, 1 ≤ q → q ≤ 5 → P ≠ a + 2 * q) : ∀ k, w_J a S (w_pts S P b V k)
  | 0 => w_J.rf
  | k + 1 => (w_J_pts h hP k).tr (w_J.put h (fun q h1 h2 e => absurd e (hP q h1 h2)))
theorem y_pts (h : w_tb S T P C n L) (hTP : T ≠ P) (hr : r < n) : ∀ k, k < C → fX7_put w_N [.ref T, .int (nI r), .int (nI k), .int (V k)] (w_pts S P (r * C) V k) = some (.inl none, w_pts S P (r * C) V (k + 1)) := by
  intro k hk
  obtain ⟨⟨h1, h2, h3, h4⟩, ⟨h5, h6⟩, h7, h8, h9, h10⟩ := h
  exact y_put (n := n) (L := L) ⟨⟨by rw [x_k_pts]; exact h1, by rw [x_r_pts]; exact h2, by rw [x_i_pts hTP]; exact h3, by rw [x_i_pts hTP]; exact h4⟩, ⟨by rw [x_k_pts]; exact h5, by rw [x_l_pts]; exact h6⟩, h7, h8, h9, h10⟩ hr hk
def w_vd (R : Nat → Int32) (u x y : Int32) : Nat → Int32
  | 0 => u
  | 1 => x
  | 2 => y
  | 3 => nI 0
  | 4 => R 5
  | 5 => -nI 1
  | 6 => -nI 1
  | 7 => R 10
  | 8 => R 11
  | _ => nI 0
theorem s_disp_v {u : Int32} (hf : f < 10) : s_disp R no u x y (64 + 10 * no + f) = w_vd R u x y f := by
  unfold s_disp
  rcases (show f = 0 ∨ f = 1 ∨ f = 2 ∨ f = 3 ∨ f = 4 ∨ f = 5 ∨ f = 6 ∨ f = 7 ∨ f = 8 ∨ f = 9 by omega) with rfl | rfl | rfl | rfl | rfl | rfl | rfl | rfl | rfl | rfl <;> simp (disch := omega) only [s_up_n, s_up_s, w_vd]
theorem s_disp_4 {u : Int32} : s_disp R no u x y 4 = nI (no + 1) := by
  unfold s_disp
  exact s_up_s
theorem y_addOrder {u : Int32} (hA : w_A S a) (h : w_R S a R) (hB : s_VB R) : ∃ S', fX6_addOrder w_N [.ref a, .int u, .int x, .int y] S = some (.inl (some (.int (if s_n (R 4) < 40 then R 4 else -nI 1))), S') ∧ w_R S' a (if s_n (R 4) < 40 then s_disp R (s_n (R 4)) u x y else R) ∧ w_J a S S' := by
  have b2 := hB.2.1.2
  have b3 := hB.2.2.1.2
  have b4 := hB.2.2.2.1
  have b7 := hB.2.2.2.2.1.2
  have b8 := hB.2.2.2.2.2.1.2
  have c4 := h.2.1.2.2.2.1.trans b4.1
  by_cases hn : s_n (R 4) < 40
  · rw [if_pos hn, if_pos hn, b4.1, w_snI (by omega)]
    generalize hno : s_n (R 4) = no at *
    have ga := y_add (S := S) (T := a + 8) (m := 40) (n := no) (xk8 hA) (xi8_0 hA) c4 (by omega) hn
    have J1 : w_J a S (am_putI S (a + 8) 3 (nI (no + 1))) := w_J.put (by omega) (by intro q _ _ _; omega)
    have hA1 := J1.A hA
    have tb : w_tb (am_putI S (a + 8) 3 (nI (no + 1))) (a + 8) (a + 9) 10 (no + 1) 400 := ⟨⟨xk8 hA1, xr8_2 hA1, xi8_1 hA1, x_i_Is⟩, ⟨xk9 hA1, xl9 hA1⟩, by omega, by omega, by omega, by omega⟩
    have P := y_pts (V := w_vd R u x y) tb (by omega) (r := no) (by omega)
    have J2 := w_J_pts (S := am_putI S (a + 8) 3 (nI (no + 1))) (a := a) (P := a + 9) (b := no * 10) (V := w_vd R u x y) (by omega) (by intro q _ _; omega) 10
    generalize hS1 : am_putI S (a + 8) 3 (nI (no + 1)) = S1 at *
    have i5 : am_i S1 a 4 = R 5 := by rw [← hS1, x_i_I, if_neg (by omega)]; exact h.1.2.2.2.2.1
    have i10 : am_i S1 a 2 = R 10 := by rw [← hS1, x_i_I, if_neg (by omega)]; exact h.1.2.2.1
    have i11 : am_i S1 a 3 = R 11 := by rw [← hS1, x_i_I, if_neg (by omega)]; exact h.1.2.2.2.1
    have p0 : fX7_put w_N [.ref (a + 8), .int (nI no), .int (nI 0), .int u] S1 = some (.inl none, w_pts S1 (a + 9) (no * 10) (w_vd R u x y) 1) := P 0 (by omega)
    have p1 : fX7_put w_N [.ref (a + 8), .int (nI no), .int (nI 1), .int x] (w_pts S1 (a + 9) (no * 10) (w_vd R u x y) 1) = some (.inl none, w_pts S1 (a + 9) (no * 10) (w_vd R u x y) 2) := P 1 (by omega)
    have p2 : fX7_put w_N [.ref (a + 8), .int (nI no), .int (nI 2), .int y] (w_pts S1 (a + 9) (no * 10) (w_vd R u x y) 2) = some (.inl none, w_pts S1 (a + 9) (no * 10) (w_vd R u x y) 3) := P 2 (by omega)
    have p3 : fX7_put w_N [.ref (a + 8), .int (nI no), .int (nI 3), .int (nI 0)] (w_pts S1 (a + 9) (no * 10) (w_vd R u x y) 3) = some (.inl none, w_pts S1 (a + 9) (no * 10) (w_vd R u x y) 4) := P 3 (by omega)
    have p4 : fX7_put w_N [.ref (a + 8), .int (nI no), .int (nI 4), .int (R 5)] (w_pts S1 (a + 9) (no * 10) (w_vd R u x y) 4) = some (.inl none, w_pts S1 (a + 9) (no * 10) (w_vd R u x y) 5) := P 4 (by omega)
    have p5 : fX7_put w_N [.ref (a + 8), .int (nI no), .int (nI 5), .int (-nI 1)] (w_pts S1 (a + 9) (no * 10) (w_vd R u x y) 5) = some (.inl none, w_pts S1 (a + 9) (no * 10) (w_vd R u x y) 6) := P 5 (by omega)
    have p6 : fX7_put w_N [.ref (a + 8), .int (nI no), .int (nI 6), .int (-nI 1)] (w_pts S1 (a + 9) (no * 10) (w_vd R u x y) 6) = some (.inl none, w_pts S1 (a + 9) (no * 10) (w_vd R u x y) 7) := P 6 (by omega)
    have p7 : fX7_put w_N [.ref (a + 8), .int (nI no), .int (nI 7), .int (R 10)] (w_pts S1 (a + 9) (no * 10) (w_vd R u x y) 7) = some (.inl none, w_pts S1 (a + 9) (no * 10) (w_vd R u x y) 8) := P 7 (by omega)
    have p8 : fX7_put w_N [.ref (a + 8), .int (nI no), .int (nI 8), .int (R 11)] (w_pts S1 (a + 9) (no * 10) (w_vd R u x y) 8) = some (.inl none, w_pts S1 (a + 9) (no * 10) (w_vd R u x y) 9) := P 8 (by omega)
    have p9 : fX7_put w_N [.ref (a + 8), .int (nI no), .int (nI 9), .int (nI 0)] (w_pts S1 (a + 9) (no * 10) (w_vd R u x y) 9) = some (.inl none, w_pts S1 (a + 9) (no * 10) (w_vd R u x y) 10) := P 9 (by omega)
    have R9 : ∀ j, am_i (w_pts S1 (a + 9) (no * 10) (w_vd R u x y) 10) (a + 9) j = if no * 10 ≤ j ∧ j < no * 10 + 10 then w_vd R u x y (j - no * 10) else am_i S1 (a + 9) j := x_i_ptsP 10
    have RN : ∀ q, q ≠ a + 9 → am_i (w_pts S1 (a + 9) (no * 10) (w_vd R u x y) 10) q = am_i S1 q := fun q hq => x_i_pts hq 10
    refine ⟨_, ?_, ?_, J1.tr J2⟩
    · simp (disch := omega) only [fX6_addOrder, kX6_addOrder_0, x_cs0, x_csi, x_csr, x_csn, x_csl, x_ret_v, x_ret_t, x_ret_n, x_tl_s, x_tl_n, x_lk0, x_lk, x_rem0, x_rem_i, x_rem_r, x_rem_l, x_rem2_0, x_rem2_i, x_rem2_r, x_rem2_l, x_pick0, x_pick_c, x_st1, x_st2, x_live, x_i, x_l, x_a, x_ild, x_lld, x_rld, x_ist, x_lst, x_rst, x_inc, x_ii, x_ll, x_li, x_cmp, x_ui, x_il, x_lti, x_idiv, x_irem, x_dup_i, x_dup_r, x_pop_i, x_pop_r, x_dupx_ir, x_dup2_ir, x_ifeq, x_iceq, x_iflt, x_iclt, x_ifge, x_icge, x_ifgt, x_icgt, x_ifle, x_icle, x_ifne, x_icne, x_ifnull_r, x_ifnull_n, x_ifnonnull_r, x_ifnonnull_n, x_sw, x_vret, x_iret, x_lret, x_zret, x_zret0, x_zret1, x_rf_s, x_rf_n, x_geti, x_getr, x_puti, x_putz, x_putr, x_ial, x_ias, x_lal, x_las, x_aal, x_aas, x_aast, x_alen, x_new, x_newa, x_copy, x_min, x_abs, x_minl, x_oinit, x_throw, x_callS0, x_callS1, x_callS2, x_callS3, x_callS4, x_callV0, x_callV1, x_callV2, x_callV3, x_callV4, x_callV5, x_retI_v, x_callI0, x_callI1, x_callI2, x_retN_v, x_callSN1, x_callSN2, x_callT0, x_callT1, x_fn, x_sl0, x_sli, x_slr, x_sll, x_ar0, x_ari, x_arr, x_arl, ↓reduceIte, Nat.reduceAdd, Nat.reduceSub, Nat.reduceMul, Nat.reduceEqDiff, Nat.reduceLeDiff, Nat.reduceLT, if_true, if_false, Nat.le_refl, and_true, true_and, and_self, reduceCtorEq, or_false, false_or, or_true, true_or, Nat.zero_le, fa_lit, nI_add, w_mul, nI_ltI, nI_leI, nI_eq, nI_clamp, nI_toInt, if_pos, if_neg, w_div, w_rem2, xk0 hA, xk1 hA, xl1 hA, xk2 hA, xk3 hA, xl3 hA, xr2_2 hA, xi2_0 hA, xi2_1 hA, xk4 hA, xk5 hA, xl5 hA, xr4_2 hA, xi4_0 hA, xi4_1 hA, xk6 hA, xk7 hA, xl7 hA, xr6_2 hA, xi6_0 hA, xi6_1 hA, xk8 hA, xk9 hA, xl9 hA, xr8_2 hA, xi8_0 hA, xi8_1 hA, xk10 hA, xk11 hA, xl11 hA, xr10_2 hA, xi10_0 hA, xi10_1 hA, xr0_7 hA, xr0_8 hA, xr0_9 hA, xr0_10 hA, xr0_11 hA, xr0_12 hA, xk0 hA1, xk1 hA1, xl1 hA1, xk2 hA1, xk3 hA1, xl3 hA1, xr2_2 hA1, xi2_0 hA1, xi2_1 hA1, xk4 hA1, xk5 hA1, xl5 hA1, xr4_2 hA1, xi4_0 hA1, xi4_1 hA1, xk6 hA1, xk7 hA1, xl7 hA1, xr6_2 hA1, xi6_0 hA1, xi6_1 hA1, xk8 hA1, xk9 hA1, xl9 hA1, xr8_2 hA1, xi8_0 hA1, xi8_1 hA1, xk10 hA1, xk11 hA1, xl11 hA1, xr10_2 hA1, xi10_0 hA1, xi10_1 hA1, xr0_7 hA1, xr0_8 hA1, xr0_9 hA1, xr0_10 hA1, xr0_11 hA1, xr0_12 hA1, x_k_pts, x_r_pts, x_i_pts, ga, p0, p1, p2, p3, p4, p5, p6, p7, p8, p9, i5, i10, i11]
    · have dn : ∀ j, j ≠ 4 → (j < 64 + 10 * no ∨ 64 + 10 * no + 10 ≤ j) → s_disp R no u x y j = R j := fun j h1 h2 => s_disp_n h1 h2
      have RS : ∀ q j, q ≠ a + 8 → am_i S1 q j = am_i S q j := fun q j hq => by rw [← hS1, x_i_I, if_neg hq]
      have R8 : am_i S1 (a + 8) 3 = nI (no + 1) := by rw [← hS1]; exact x_i_Is
      clear p0 p1 p2 p3 p4 p5 p6 p7 p8 p9 P ga
      obtain ⟨h1, h2, h3, h4, h5, h6, h7, h8, h9⟩ := h
      rw [hno] at h8
      unfold w_R
      simp (disch := omega) only [RN, RS, R8, dn, s_disp_4, w_snI]
      refine ⟨h1, ⟨h2.1, h2.2.1, h2.2.2.1, by trivial, h2.2.2.2.2⟩, fun c hc2 => ?_, fun u g k1 k2 => ?_, fun u g k1 k2 => ?_, fun u k1 => ?_, fun u g k1 k2 => ?_, fun q g k1 k2 => ?_, fun u g k1 k2 => ?_⟩
      · try rw [dn _ (by omega) (by omega)]
        exact h3 c hc2
      · try rw [dn _ (by omega) (by omega)]
        exact h4 u g k1 k2
      · try rw [dn _ (by omega) (by omega)]
        exact h5 u g k1 k2
      · try rw [dn _ (by omega) (by omega)]
        exact h6 u k1
      · try rw [dn _ (by omega) (by omega)]
        exact h7 u g k1 k2
      · rw [R9]
        by_cases e : q = no
        · rw [e, if_pos (by omega), s_disp_v k2, Nat.add_sub_cancel_left]
        · rw [if_neg (by omega), dn _ (by omega) (by omega), RS _ _ (by omega)]
          exact h8 q g (by omega) k2
      · try rw [dn _ (by omega) (by omega)]
        exact h9 u g k1 k2
  · rw [if_neg hn, if_neg hn]
    have e40 : s_n (R 4) = 40 := by omega
    rw [e40] at c4
    have ga := y_addf (S := S) (T := a + 8) (m := 40) (n := 40) (xk8 hA) (xi8_0 hA) c4 (by omega) (by omega) (by omega)
    have tb : w_tb S (a + 8) (a + 9) 10 40 400 := ⟨⟨xk8 hA, xr8_2 hA, xi8_1 hA, c4⟩, ⟨xk9 hA, xl9 hA⟩, by omega, by omega, by omega, by omega⟩
    have pm : ∀ f (v : Int32), fX7_put w_N [.ref (a + 8), .int (-nI 1), .int (nI f), .int v] S = some (.inl none, S) := fun f v => y_putm tb
    refine ⟨S, ?_, h, w_J.rf⟩
    simp (disch := omega) only [fX6_addOrder, kX6_addOrder_0, x_cs0, x_csi, x_csr, x_csn, x_csl, x_ret_v, x_ret_t, x_ret_n, x_tl_s, x_tl_n, x_lk0, x_lk, x_rem0, x_rem_i, x_rem_r, x_rem_l, x_rem2_0, x_rem2_i, x_rem2_r, x_rem2_l, x_pick0, x_pick_c, x_st1, x_st2, x_live, x_i, x_l, x_a, x_ild, x_lld, x_rld, x_ist, x_lst, x_rst, x_inc, x_ii, x_ll, x_li, x_cmp, x_ui, x_il, x_lti, x_idiv, x_irem, x_dup_i, x_dup_r, x_pop_i, x_pop_r, x_dupx_ir, x_dup2_ir, x_ifeq, x_iceq, x_iflt, x_iclt, x_ifge, x_icge, x_ifgt, x_icgt, x_ifle, x_icle, x_ifne, x_icne, x_ifnull_r, x_ifnull_n, x_ifnonnull_r, x_ifnonnull_n, x_sw, x_vret, x_iret, x_lret, x_zret, x_zret0, x_zret1, x_rf_s, x_rf_n, x_geti, x_getr, x_puti, x_putz, x_putr, x_ial, x_ias, x_lal, x_las, x_aal, x_aas, x_aast, x_alen, x_new, x_newa, x_copy, x_min, x_abs, x_minl, x_oinit, x_throw, x_callS0, x_callS1, x_callS2, x_callS3, x_callS4, x_callV0, x_callV1, x_callV2, x_callV3, x_callV4, x_callV5, x_retI_v, x_callI0, x_callI1, x_callI2, x_retN_v, x_callSN1, x_callSN2, x_callT0, x_callT1, x_fn, x_sl0, x_sli, x_slr, x_sll, x_ar0, x_ari, x_arr, x_arl, ↓reduceIte, Nat.reduceAdd, Nat.reduceSub, Nat.reduceMul, Nat.reduceEqDiff, Nat.reduceLeDiff, Nat.reduceLT, if_true, if_false, Nat.le_refl, and_true, true_and, and_self, reduceCtorEq, or_false, false_or, or_true, true_or, Nat.zero_le, fa_lit, nI_add, w_mul, nI_ltI, nI_leI, nI_eq, nI_clamp, nI_toInt, if_pos, if_neg, w_div, w_rem2, xk0 hA, xk1 hA, xl1 hA, xk2 hA, xk3 hA, xl3 hA, xr2_2 hA, xi2_0 hA, xi2_1 hA, xk4 hA, xk5 hA, xl5 hA, xr4_2 hA, xi4_0 hA, xi4_1 hA, xk6 hA, xk7 hA, xl7 hA, xr6_2 hA, xi6_0 hA, xi6_1 hA, xk8 hA, xk9 hA, xl9 hA, xr8_2 hA, xi8_0 hA, xi8_1 hA, xk10 hA, xk11 hA, xl11 hA, xr10_2 hA, xi10_0 hA, xi10_1 hA, xr0_7 hA, xr0_8 hA, xr0_9 hA, xr0_10 hA, xr0_11 hA, xr0_12 hA, ga, pm]
/-- whom a unit obeys -/
theorem y_obeyedBy (hA : w_A S a) (h : w_R S a R) (hV : s_V R) (hu : u < s_n (R 2)) : fX6_obeyedBy w_N [.ref a, .int (nI u)] S = some (.inl (some (.int (s_ob R (nI u)))), S) := by
  have b4 := hV.B.2.2.2.1.2
  have gU := y_U hA h hV.B hu (f := 3) (by omega)
  rcases (hV.U u hu).2.2 with q | q
  · have gm := y_getm (f := 3) (h.tO hA hV.B)
    rw [q] at gU
    have e : s_ob R (nI u) = -nI 1 := by
      rcases s_ob_sp (R := R) (x := nI u) with ⟨k1, k2⟩ | ⟨p, k1, k2, k3, k4⟩
      · exact k1
      · have := (hV.O p k1).2.2.1 k3
        rw [k2, w_snI (by have := hV.B.2.1.2; omega), q] at this
        exact absurd this.symm (nI_nm1 (by omega))
    rw [e]
    have n1 : ¬ (-nI 1 : Int32) = nI 1 := by decide
    simp (disch := omega) only [fX6_obeyedBy, kX6_obeyedBy_28, kX6_obeyedBy_0, x_cs0, x_csi, x_csr, x_csn, x_csl, x_ret_v, x_ret_t, x_ret_n, x_tl_s, x_tl_n, x_lk0, x_lk, x_rem0, x_rem_i, x_rem_r, x_rem_l, x_rem2_0, x_rem2_i, x_rem2_r, x_rem2_l, x_pick0, x_pick_c, x_st1, x_st2, x_live, x_i, x_l, x_a, x_ild, x_lld, x_rld, x_ist, x_lst, x_rst, x_inc, x_ii, x_ll, x_li, x_cmp, x_ui, x_il, x_lti, x_idiv, x_irem, x_dup_i, x_dup_r, x_pop_i, x_pop_r, x_dupx_ir, x_dup2_ir, x_ifeq, x_iceq, x_iflt, x_iclt, x_ifge, x_icge, x_ifgt, x_icgt, x_ifle, x_icle, x_ifne, x_icne, x_ifnull_r, x_ifnull_n, x_ifnonnull_r, x_ifnonnull_n, x_sw, x_vret, x_iret, x_lret, x_zret, x_zret0, x_zret1, x_rf_s, x_rf_n, x_geti, x_getr, x_puti, x_putz, x_putr, x_ial, x_ias, x_lal, x_las, x_aal, x_aas, x_aast, x_alen, x_new, x_newa, x_copy, x_min, x_abs, x_minl, x_oinit, x_throw, x_callS0, x_callS1, x_callS2, x_callS3, x_callS4, x_callV0, x_callV1, x_callV2, x_callV3, x_callV4, x_callV5, x_retI_v, x_callI0, x_callI1, x_callI2, x_retN_v, x_callSN1, x_callSN2, x_callT0, x_callT1, x_fn, x_sl0, x_sli, x_slr, x_sll, x_ar0, x_ari, x_arr, x_arl, ↓reduceIte, Nat.reduceAdd, Nat.reduceSub, Nat.reduceMul, Nat.reduceEqDiff, Nat.reduceLeDiff, Nat.reduceLT, if_true, if_false, Nat.le_refl, and_true, true_and, and_self, reduceCtorEq, or_false, false_or, or_true, true_or, Nat.zero_le, fa_lit, nI_add, w_mul, nI_ltI, nI_leI, nI_eq, nI_clamp, nI_toInt, if_pos, if_neg, w_div, w_rem2, xk0 hA, xk1 hA, xl1 hA, xk2 hA, xk3 hA, xl3 hA, xr2_2 hA, xi2_0 hA, xi2_1 hA, xk4 hA, xk5 hA, xl5 hA, xr4_2 hA, xi4_0 hA, xi4_1 hA, xk6 hA, xk7 hA, xl7 hA, xr6_2 hA, xi6_0 hA, xi6_1 hA, xk8 hA, xk9 hA, xl9 hA, xr8_2 hA, xi8_0 hA, xi8_1 hA, xk10 hA, xk11 hA, xl11 hA, xr10_2 hA, xi10_0 hA, xi10_1 hA, xr0_7 hA, xr0_8 hA, xr0_9 hA, xr0_10 hA, xr0_11 hA, xr0_12 hA, gU, gm, n1]
  · obtain ⟨⟨q1, hg⟩, q2⟩ := q
    rw [q1] at gU
    generalize s_n (R (12 + 4 * u + 3)) = g at *
    have gO := y_O hA h hV.B hg (f := 3) (by omega)
    by_cases c : R (64 + 10 * g + 3) = nI 1
    · have e : s_ob R (nI u) = nI g := by
        rcases s_ob_sp (R := R) (x := nI u) with ⟨k1, k2⟩ | ⟨p, k1, k2, k3, k4⟩
        · exact absurd c (k2 g hg q2)
        · rw [k4, hV.one k1 hg k3 c (by rw [k2, q2])]
      rw [e]
      simp (disch := omega) only [fX6_obeyedBy, kX6_obeyedBy_28, kX6_obeyedBy_0, x_cs0, x_csi, x_csr, x_csn, x_csl, x_ret_v, x_ret_t, x_ret_n, x_tl_s, x_tl_n, x_lk0, x_lk, x_rem0, x_rem_i, x_rem_r, x_rem_l, x_rem2_0, x_rem2_i, x_rem2_r, x_rem2_l, x_pick0, x_pick_c, x_st1, x_st2, x_live, x_i, x_l, x_a, x_ild, x_lld, x_rld, x_ist, x_lst, x_rst, x_inc, x_ii, x_ll, x_li, x_cmp, x_ui, x_il, x_lti, x_idiv, x_irem, x_dup_i, x_dup_r, x_pop_i, x_pop_r, x_dupx_ir, x_dup2_ir, x_ifeq, x_iceq, x_iflt, x_iclt, x_ifge, x_icge, x_ifgt, x_icgt, x_ifle, x_icle, x_ifne, x_icne, x_ifnull_r, x_ifnull_n, x_ifnonnull_r, x_ifnonnull_n, x_sw, x_vret, x_iret, x_lret, x_zret, x_zret0, x_zret1, x_rf_s, x_rf_n, x_geti, x_getr, x_puti, x_putz, x_putr, x_ial, x_ias, x_lal, x_las, x_aal, x_aas, x_aast, x_alen, x_new, x_newa, x_copy, x_min, x_abs, x_minl, x_oinit, x_throw, x_callS0, x_callS1, x_callS2, x_callS3, x_callS4, x_callV0, x_callV1, x_callV2, x_callV3, x_callV4, x_callV5, x_retI_v, x_callI0, x_callI1, x_callI2, x_retN_v, x_callSN1, x_callSN2, x_callT0, x_callT1, x_fn, x_sl0, x_sli, x_slr, x_sll, x_ar0, x_ari, x_arr, x_arl, ↓reduceIte, Nat.reduceAdd, Nat.reduceSub, Nat.reduceMul, Nat.reduceEqDiff, Nat.reduceLeDiff, Nat.reduceLT, if_true, if_false, Nat.le_refl, and_true, true_and, and_self, reduceCtorEq, or_false, false_or, or_true, true_or, Nat.zero_le, fa_lit, nI_add, w_mul, nI_ltI, nI_leI, nI_eq, nI_clamp, nI_toInt, if_pos, if_neg, w_div, w_rem2, xk0 hA, xk1 hA, xl1 hA, xk2 hA, xk3 hA, xl3 hA, xr2_2 hA, xi2_0 hA, xi2_1 hA, xk4 hA, xk5 hA, xl5 hA, xr4_2 hA, xi4_0 hA, xi4_1 hA, xk6 hA, xk7 hA, xl7 hA, xr6_2 hA, xi6_0 hA, xi6_1 hA, xk8 hA, xk9 hA, xl9 hA, xr8_2 hA, xi8_0 hA, xi8_1 hA, xk10 hA, xk11 hA, xl11 hA, xr10_2 hA, xi10_0 hA, xi10_1 hA, xr0_7 hA, xr0_8 hA, xr0_9 hA, xr0_10 hA, xr0_11 hA, xr0_12 hA, gU, gO, c]
    · have e : s_ob R (nI u) = -nI 1 := by
        rcases s_ob_sp (R := R) (x := nI u) with ⟨k1, k2⟩ | ⟨p, k1, k2, k3, k4⟩
        · exact k1
        · have w1 := (hV.O p k1).2.2.1 k3
          have b2 := hV.B.2.1.2
          have w2 := (hV.U u hu).2.2
          rw [k2, w_snI (by omega)] at w1
          have hg1 := q1
          rw [w1, nI_eq (by omega) (by omega)] at hg1
          rw [← hg1] at c
          exact absurd k3 c
      rw [e]
      simp (disch := omega) only [fX6_obeyedBy, kX6_obeyedBy_28, kX6_obeyedBy_0, x_cs0, x_csi, x_csr, x_csn, x_csl, x_ret_v, x_ret_t, x_ret_n, x_tl_s, x_tl_n, x_lk0, x_lk, x_rem0, x_rem_i, x_rem_r, x_rem_l, x_rem2_0, x_rem2_i, x_rem2_r, x_rem2_l, x_pick0, x_pick_c, x_st1, x_st2, x_live, x_i, x_l, x_a, x_ild, x_lld, x_rld, x_ist, x_lst, x_rst, x_inc, x_ii, x_ll, x_li, x_cmp, x_ui, x_il, x_lti, x_idiv, x_irem, x_dup_i, x_dup_r, x_pop_i, x_pop_r, x_dupx_ir, x_dup2_ir, x_ifeq, x_iceq, x_iflt, x_iclt, x_ifge, x_icge, x_ifgt, x_icgt, x_ifle, x_icle, x_ifne, x_icne, x_ifnull_r, x_ifnull_n, x_ifnonnull_r, x_ifnonnull_n, x_sw, x_vret, x_iret, x_lret, x_zret, x_zret0, x_zret1, x_rf_s, x_rf_n, x_geti, x_getr, x_puti, x_putz, x_putr, x_ial, x_ias, x_lal, x_las, x_aal, x_aas, x_aast, x_alen, x_new, x_newa, x_copy, x_min, x_abs, x_minl, x_oinit, x_throw, x_callS0, x_callS1, x_callS2, x_callS3, x_callS4, x_callV0, x_callV1, x_callV2, x_callV3, x_callV4, x_callV5, x_retI_v, x_callI0, x_callI1, x_callI2, x_retN_v, x_callSN1, x_callSN2, x_callT0, x_callT1, x_fn, x_sl0, x_sli, x_slr, x_sll, x_ar0, x_ari, x_arr, x_arl, ↓reduceIte, Nat.reduceAdd, Nat.reduceSub, Nat.reduceMul, Nat.reduceEqDiff, Nat.reduceLeDiff, Nat.reduceLT, if_true, if_false, Nat.le_refl, and_true, true_and, and_self, reduceCtorEq, or_false, false_or, or_true, true_or, Nat.zero_le, fa_lit, nI_add, w_mul, nI_ltI, nI_leI, nI_eq, nI_clamp, nI_toInt, if_pos, if_neg, w_div, w_rem2, xk0 hA, xk1 hA, xl1 hA, xk2 hA, xk3 hA, xl3 hA, xr2_2 hA, xi2_0 hA, xi2_1 hA, xk4 hA, xk5 hA, xl5 hA, xr4_2 hA, xi4_0 hA, xi4_1 hA, xk6 hA, xk7 hA, xl7 hA, xr6_2 hA, xi6_0 hA, xi6_1 hA, xk8 hA, xk9 hA, xl9 hA, xr8_2 hA, xi8_0 hA, xi8_1 hA, xk10 hA, xk11 hA, xl11 hA, xr10_2 hA, xi10_0 hA, xi10_1 hA, xr0_7 hA, xr0_8 hA, xr0_9 hA, xr0_10 hA, xr0_11 hA, xr0_12 hA, gU, gO, c]
end Y3
