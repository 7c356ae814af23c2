/-! THE PRESENT ROW CHANGES -/
/-- what an operation on the present may touch -/
abbrev w_PN (S : am_S) (b : Nat) : Prop := 101 ≤ b ∧ b < 113 ∨ b = 126 ∨ w_PI S b
section I3
variable {S S' T : am_S} {a b c o p q i j k m n u t D z d : Nat} {P : Nat → Prop} {R Q : Nat → Int32} {M M' : Nat → Nat → Int32} {x y v : Int32}
theorem w_Ic.now (h : w_Ic S M) (hF : w_F (w_PN S) S S') (hA1 : w_A S' 101) (hA2 : w_A S' 113) (hR : w_R S' 101 Q) (hW : s_W Q) (hT : w_T S' Q) (htr : w_tr S' 126 Q) (h2 : Q 2 = M 139 2) (h5 : s_n (M 139 5) ≤ s_n (Q 5)) (h126 : ∀ j, j < 6 * s_n (M 139 5) → am_i S' 126 j = am_i S 126 j) : w_Ic S' (va_up M 139 Q) := by
  obtain ⟨⟨hC, hn, hs⟩, ⟨n1, n2, n3, n4⟩, ⟨c, o, ⟨c1, c2, c3, c4, c5⟩, hk, hm⟩, hsn, ⟨n, b1, b2, b3, b4⟩, ⟨⟨l, l1, l2, l3, l4⟩, x2⟩⟩ := h
  have low : ∀ b, b < 152 → ¬ (138 ≤ b ∧ b ≤ 151 ∨ 101 ≤ b ∧ b < 125 ∨ b = 126 ∨ b = 130 ∨ b = 131) → ¬ w_PN S b := fun b hb h1 h2 => by
    rcases h2 with h2 | h2 | h2
    · omega
    · omega
    · exact h1 ((w_PI_low n3 h2 hb).elim Or.inl (fun q => q.elim (fun r => Or.inr (Or.inl ⟨Nat.le_trans (by decide) r.1, r.2⟩)) (fun q => Or.inr (Or.inr (Or.inr q)))))
  have hi : ∀ b, b < 152 → ¬ (138 ≤ b ∧ b ≤ 151 ∨ 101 ≤ b ∧ b < 125 ∨ b = 126 ∨ b = 130 ∨ b = 131) → am_i S' b = am_i S b := fun b hb h1 => hF.i (by omega) (low b hb h1)
  have hr : ∀ b, b < 152 → ¬ (138 ≤ b ∧ b ≤ 151 ∨ 101 ≤ b ∧ b < 125 ∨ b = 126 ∨ b = 130 ∨ b = 131) → am_r S' b = am_r S b := fun b hb h1 => hF.r (by omega) (low b hb h1)
  have r100 := hr 100 (by omega) (by omega)
  have r128 := hr 128 (by omega) (by omega)
  have eS : ∀ i, w_Si S' i = w_Si S i := fun i => by
    unfold w_Si
    rw [r100, r128]
  have hn2 := hF.1
  have nPN : ∀ i b, w_Si S i = some b → i ≠ 0 → i ≠ 1 → ∀ q, b ≤ q → q < b + 12 → ¬ w_PN S q := fun i b hib h0 h1 q q1 q2 q3 => by
    rcases q3 with q3 | q3 | q3
    · have hb := hs.1 i b hib
      rcases hb.2.2 with e | e <;> omega
    · have hb := hs.1 i b hib
      rcases hb.2.2 with e | e <;> omega
    · exact w_PI_sit hs n3 hib h1 q q1 q2 q3
  have sA : ∀ i b, w_Si S i = some b → w_A S' b := fun i b hib => by
    by_cases e : i = 1
    · subst e
      have : b = 113 := by cases hib; rfl
      rw [this]
      exact hA2
    · by_cases e0 : i = 0
      · subst e0
        have : b = 101 := by cases hib; rfl
        rw [this]
        exact hA1
      · exact hF.A (hs.1 i b hib).1 (hs.1 i b hib).2.1 (nPN i b hib e0 e)
  have sR : ∀ i b Q, w_Si S i = some b → i ≠ 0 → i ≠ 1 → w_R S b Q → w_R S' b Q := fun i b Q hib e0 e hQ => hF.Rw hQ (hs.1 i b hib).2.1 (nPN i b hib e0 e)
  have tN : ∀ t, am_r S 100 12 = some t → ¬ w_PN S t ∧ ¬ w_PN S (t + 1) := fun t ht => by
    have g5 := (hs.2.2 t ht).2.2.2.2.1
    constructor
    · rintro (q | q | q)
      · omega
      · omega
      · exact (w_PI_trail hs n3 ht q).1 rfl
    · rintro (q | q | q)
      · omega
      · omega
      · exact (w_PI_trail hs n3 ht q).2 rfl
  have u8 : va_up M 139 Q 138 = M 138 := s_up_n (by omega)
  have u9 : va_up M 139 Q 139 = Q := s_up_s
  have u3 : ∀ k, w_hr (va_up M 139 Q) k = w_hr M k := fun k => by
    unfold w_hr
    rw [s_up_n (by omega)]
  refine ⟨⟨hC.fr (fun b hb => ⟨hF.k (by omega), hF.l (by omega)⟩) (fun b j hb h1 h2 h3 h4 h5 => ?_), by omega, ⟨fun i b hib => ?_, fun i j b h1 h2 => ?_, fun t ht => ?_⟩⟩, ?_, ⟨c, o, ⟨by rw [u8]; exact c1, by rw [hi 127 (by omega) (by omega)]; exact c2, by rw [hi 127 (by omega) (by omega)]; exact c3, c4, c5⟩, fun k hkc => ?_, fun k hk2 => ?_⟩, ?_, ?_, ?_⟩
  · rw [hr b (by omega) (by omega)]
  · rw [eS] at hib
    obtain ⟨g1, g2, g3⟩ := hs.1 i b hib
    exact ⟨sA i b hib, by omega, g3⟩
  · rw [eS] at h1 h2
    exact hs.2.1 i j b h1 h2
  · rw [r100] at ht
    obtain ⟨g1, g2, g3, g4, g5, g6⟩ := hs.2.2 t ht
    exact ⟨by rw [hF.k (by omega)]; exact g1, by rw [hF.k (by omega)]; exact g2, by rw [hF.l (by omega)]; exact g3, by rw [hF.r (by omega) (tN t ht).1]; exact g4, g5, by omega⟩
  · rw [show w_In S' (va_up M 139 Q) = (w_R S' 101 (va_up M 139 Q 139) ∧ s_W (va_up M 139 Q 139) ∧ w_T S' (va_up M 139 Q 139) ∧ w_tr S' 126 (va_up M 139 Q 139)) from rfl, u9]
    exact ⟨hR, hW, hT, htr⟩
  · rw [u3, u9]
    obtain ⟨b, g1, g2, g3, g4, g5, g6⟩ := hk k hkc
    have hk10 : (o + k) % 10 < 10 := Nat.mod_lt _ (by omega)
    have gb := g3.1.B.2.1.2
    refine ⟨b, by rw [r128]; exact g1, sR _ b _ (by rw [w_sh.ring hk10]; exact g1) (by omega) (by omega) g2, g3, fun u t hu ht => ?_, by rw [h2]; exact g5, by omega⟩
    rw [h126 _ (by omega)]
    exact g4 u t hu ht
  · rw [u3, u3]
    exact hm k hk2
  · rcases hsn with q | ⟨q, b, t, g1, g2, g3, g4, g5⟩
    · exact Or.inl ⟨by rw [u8]; exact q.1, by rw [hi 100 (by omega) (by omega)]; exact q.2⟩
    · have := (hs.2.2 t g2).2.2.2.2.2
      refine Or.inr ⟨⟨by rw [u8]; exact q.1, by rw [hi 100 (by omega) (by omega)]; exact q.2⟩, b, t, by rw [r100]; exact g1, by rw [r100]; exact g2, ?_⟩
      rw [s_up_n (by omega)]
      exact ⟨sR 2 b _ g1 (by omega) (by omega) g3, g4, fun u t' hu ht => by rw [hF.i (by omega) (tN t g2).2]; exact g5 u t' hu ht⟩
  · refine ⟨n, b1, by rw [u8]; exact b2, by rw [hi 100 (by omega) (by omega)]; exact b3, fun i hin => ?_⟩
    rw [hi 133 (by omega) (by omega), s_up_n (by omega)]
    exact b4 i hin
  · refine ⟨⟨l, l1, by rw [u8]; exact l2, by rw [hi 100 (by omega) (by omega)]; exact l3, fun i hin => ?_⟩, by rw [hi 100 (by omega) (by omega), u8]; exact x2⟩
    rw [hi 137 (by omega) (by omega), s_up_n (by omega)]
    exact l4 i hin
theorem w_Ic.L (h : w_Ic S M) : w_L S (M 139) := ⟨h.1.1, (h.1.2.2.1 0 101 rfl).1, h.2.1.1, h.2.1.2.1.1⟩
/-- places of the past and of units that stay -/
theorem s_pr.cong (h : s_pr R) (hV : s_V R) (hc : ∀ j, (j = 2 ∨ j = 5 ∨ 12 ≤ j ∧ j < 36 ∨ 928 ≤ j) → Q j = R j) : s_pr Q := by
  have b2 := hV.B.2.1.2
  refine ⟨by rw [hc 5 (by omega)]; exact h.1, fun u hu => ?_⟩
  rw [hc 2 (by omega)] at hu
  rw [hc 5 (by omega), hc _ (by omega), hc (12 + 4 * u + 1) (by omega), hc (12 + 4 * u + 0) (by omega)]
  exact h.2 u hu
theorem w_tr.cong (h : w_tr S p R) (hi : am_i S' p = am_i S p) (hc : ∀ j, (j = 2 ∨ j = 5 ∨ 928 ≤ j) → Q j = R j) : w_tr S' p Q := by
  intro u t hu ht
  rw [hc 2 (by omega)] at hu
  rw [hc 5 (by omega)] at ht
  rw [hi, hc _ (by omega)]
  exact h u t hu ht
/-- a change of the data of the present alone -/
theorem w_Ic.put (h : w_Ic S M) (hJ : w_J 101 S S') (hR : w_R S' 101 Q) (hV : s_V Q) (hE : s_Ev Q) (hw : s_wl (M 139) Q) (hc : ∀ j, (j = 2 ∨ j = 5 ∨ 12 ≤ j ∧ j < 36 ∨ 928 ≤ j) → Q j = M 139 j) : w_Ic S' (va_up M 139 Q) := by
  have hA0 := (h.1.2.2.1 0 101 rfl).1
  have hA1 := (h.1.2.2.1 1 113 rfl).1
  have i126 : am_i S' 126 = am_i S 126 := hJ.1.i (by omega)
  refine h.now ((w_F.of hJ.1).mono (fun b hb => Or.inl (by omega))) (hJ.A hA0) (hJ.1.Aa hA1 (fun b h1 h2 => by omega)) hR ⟨hV, h.2.1.2.1.2.1.cong h.2.1.2.1.1 hc, hE⟩ ?_ (h.2.1.2.2.2.cong i126 (fun j hj => hc j (by omega))) (hc 2 (by omega)) (by rw [hc 5 (by omega)]; exact Nat.le_refl _) (fun j _ => by rw [i126])
  exact hw.T (s_BWH h.2.1.2.1.1.B.WH) (h.2.1.2.2.1.J (Or.inl rfl) hJ)
theorem w_Ic.throw (h : w_Ic S M) : w_Ic (am_new S 99 0 6) M ∧ w_le 1 6 S (am_new S 99 0 6) := by
  have hn := h.1.2.1
  have hF : w_F (w_PI S) S (am_new S 99 0 6) := w_F.new
  refine ⟨h.fr hF (w_new_A (h.1.2.2.1 1 113 rfl).1 (by omega)) ?_, w_le.new hn⟩
  have hF2 : w_F (fun _ => False) S (am_new S 99 0 6) := w_F.new
  exact h.2.1.2.2.1.fr hn hF2 (hF2.r (by omega) (fun q => q)) (fun _ _ q => q)
theorem w_Ic.thr (h : w_Ic S M) : w_Ic (o_t c S) M ∧ w_le 1 6 S (o_t c S) ∧ w_kp S (o_t c S) := by
  unfold o_t
  by_cases e : c = 0
  · rw [if_pos e]
    exact ⟨h, w_le.rf.mono (by omega) (by omega), w_kp.rf⟩
  · rw [if_neg e]
    exact ⟨h.throw.1, h.throw.2, w_kp.new h.1.2.1⟩
/-! send -/
def u_send (M : Nat → Nat → Int32) (z x y : Int32) : (Nat × Int32) × (Nat → Nat → Int32) :=
  if u_goal (M 139) z x y = 0 then (if s_n (M 139 4) < 40 then ((0, M 139 4), va_up (s_rec M) 139 (s_disp (M 139) (s_n (M 139 4)) z x y)) else ((0, -nI 3), M)) else ((u_goal (M 139) z x y, 0), M)
theorem u_goal_0 {z : Int32} (hV : s_V R) (h : u_goal R z x y = 0) : (∃ u, z = nI u ∧ u < s_n (R 2)) ∧ s_in R x y ∧ s_cel R x y := by
  unfold u_goal at h
  split at h
  · next q =>
    obtain ⟨u, u1, u2, rfl⟩ := s_is_n q.1
    obtain ⟨i, j, i1, j1, i2, j2, rfl, rfl⟩ := s_cel_n hV q.2
    exact ⟨⟨u, rfl, u1⟩, ⟨s_nnI i1 (by omega), s_nnI j1 (by omega)⟩, q.2⟩
  · cases h
theorem y_send {z : Int32} (h : w_Ic S M) : ∃ S', fX10_send w_N [.ref 100, .int z, .int x, .int y] S = some (o_r (u_send M z x y).1.1 (u_send M z x y).1.2, S') ∧ w_Ic S' (u_send M z x y).2 ∧ w_le 13 959 S S' ∧ w_kp S S' := by
  have hL := h.L
  have g1 := y_needGoal (z := z) (x := x) (y := y) hL
  have hC := h.1.1
  have hA := hL.2.1
  have hV := hL.2.2.2
  have b4 := hV.B.2.2.2.1
  have b42 := b4.2
  have ec := y_count (hL.2.2.1.tO hA hV.B)
  unfold u_send
  by_cases c1 : u_goal (M 139) z x y = 0
  · rw [if_pos c1]
    rw [c1, o_g0, o_t0] at g1
    by_cases c2 : s_n (M 139 4) < 40
    · rw [if_pos c2]
      obtain ⟨⟨u, rfl, hu⟩, hin, -⟩ := u_goal_0 hV c1
      obtain ⟨S1, f1, f2, f3, f4⟩ := y_rec h
      have hL1 := f2.L
      rw [s_rec_139] at hL1
      obtain ⟨S2, k1, k2, k3⟩ := y_addOrder (u := nI u) (x := x) (y := y) hL1.2.1 hL1.2.2.1 hV.B
      rw [if_pos c2] at k1 k2
      have hA1 := hL1.2.1
      have hC1 := hL1.1
      refine ⟨S2, ?_, ?_, (f3.tr (w_le.I k3.1)).mono (by omega) (by omega), f4.tr (w_kp.J k3 (Or.inl rfl))⟩
      · rw [b4.1] at k1 ⊢
        simp (disch := omega) only [fX10_send, kX10_send_0, x_cs0, x_csi, x_csr, x_csn, x_csl, x_ret_v, x_ret_t, x_ret_n, x_tl_s, x_tl_n, x_lk0, x_lk, x_rem0, x_rem_i, x_rem_r, x_rem_l, x_rem2_0, x_rem2_i, x_rem2_r, x_rem2_l, x_pick0, x_pick_c, x_st1, x_st2, x_live, x_i, x_l, x_a, x_ild, x_lld, x_rld, x_ist, x_lst, x_rst, x_inc, x_ii, x_ll, x_li, x_cmp, x_ui, x_il, x_lti, x_idiv, x_irem, x_dup_i, x_dup_r, x_pop_i, x_pop_r, x_dupx_ir, x_dup2_ir, x_ifeq, x_iceq, x_iflt, x_iclt, x_ifge, x_icge, x_ifgt, x_icgt, x_ifle, x_icle, x_ifne, x_icne, x_ifnull_r, x_ifnull_n, x_ifnonnull_r, x_ifnonnull_n, x_sw, x_vret, x_iret, x_lret, x_zret, x_zret0, x_zret1, x_rf_s, x_rf_n, x_geti, x_getr, x_puti, x_putz, x_putr, x_ial, x_ias, x_lal, x_las, x_aal, x_aas, x_aast, x_alen, x_new, x_newa, x_copy, x_min, x_abs, x_minl, x_oinit, x_throw, x_callS0, x_callS1, x_callS2, x_callS3, x_callS4, x_callV0, x_callV1, x_callV2, x_callV3, x_callV4, x_callV5, x_retI_v, x_callI0, x_callI1, x_callI2, x_retN_v, x_callSN1, x_callSN2, x_callT0, x_callT1, x_fn, x_sl0, x_sli, x_slr, x_sll, x_ar0, x_ari, x_arr, x_arl, ↓reduceIte, Nat.reduceAdd, Nat.reduceSub, Nat.reduceMul, Nat.reduceEqDiff, Nat.reduceLeDiff, Nat.reduceLT, if_true, if_false, Nat.le_refl, and_true, true_and, and_self, reduceCtorEq, or_false, false_or, or_true, true_or, Nat.zero_le, fa_lit, nI_add, w_mul, nI_ltI, nI_leI, nI_eq, nI_clamp, nI_toInt, if_pos, if_neg, w_div, w_rem2, xk0 hA, xk1 hA, xl1 hA, xk2 hA, xk3 hA, xl3 hA, xr2_2 hA, xi2_0 hA, xi2_1 hA, xk4 hA, xk5 hA, xl5 hA, xr4_2 hA, xi4_0 hA, xi4_1 hA, xk6 hA, xk7 hA, xl7 hA, xr6_2 hA, xi6_0 hA, xi6_1 hA, xk8 hA, xk9 hA, xl9 hA, xr8_2 hA, xi8_0 hA, xi8_1 hA, xk10 hA, xk11 hA, xl11 hA, xr10_2 hA, xi10_0 hA, xi10_1 hA, xr0_7 hA, xr0_8 hA, xr0_9 hA, xr0_10 hA, xr0_11 hA, xr0_12 hA, yk100 hC, yk125 hC, yk126 hC, yk127 hC, yk128 hC, yk129 hC, yk130 hC, yk131 hC, yk132 hC, yk133 hC, yk134 hC, yk135 hC, yk136 hC, yk137 hC, yl126 hC, yl128 hC, yl130 hC, yl131 hC, yl133 hC, yl137 hC, yr100_0 hC, yr100_1 hC, yr100_2 hC, yr100_3 hC, yr100_4 hC, yr100_5 hC, yr100_6 hC, yr100_7 hC, yr100_8 hC, yr100_9 hC, yr100_10 hC, yr125_0 hC, yr127_0 hC, yr129_0 hC, yr129_1 hC, yr129_2 hC, yr132_0 hC, yr134_0 hC, yr135_0 hC, yr135_1 hC, yr136_0 hC, yr136_1 hC, xk0 hA1, xk1 hA1, xl1 hA1, xk2 hA1, xk3 hA1, xl3 hA1, xr2_2 hA1, xi2_0 hA1, xi2_1 hA1, xk4 hA1, xk5 hA1, xl5 hA1, xr4_2 hA1, xi4_0 hA1, xi4_1 hA1, xk6 hA1, xk7 hA1, xl7 hA1, xr6_2 hA1, xi6_0 hA1, xi6_1 hA1, xk8 hA1, xk9 hA1, xl9 hA1, xr8_2 hA1, xi8_0 hA1, xi8_1 hA1, xk10 hA1, xk11 hA1, xl11 hA1, xr10_2 hA1, xi10_0 hA1, xi10_1 hA1, xr0_7 hA1, xr0_8 hA1, xr0_9 hA1, xr0_10 hA1, xr0_11 hA1, xr0_12 hA1, yk100 hC1, yk125 hC1, yk126 hC1, yk127 hC1, yk128 hC1, yk129 hC1, yk130 hC1, yk131 hC1, yk132 hC1, yk133 hC1, yk134 hC1, yk135 hC1, yk136 hC1, yk137 hC1, yl126 hC1, yl128 hC1, yl130 hC1, yl131 hC1, yl133 hC1, yl137 hC1, yr100_0 hC1, yr100_1 hC1, yr100_2 hC1, yr100_3 hC1, yr100_4 hC1, yr100_5 hC1, yr100_6 hC1, yr100_7 hC1, yr100_8 hC1, yr100_9 hC1, yr100_10 hC1, yr125_0 hC1, yr127_0 hC1, yr129_0 hC1, yr129_1 hC1, yr129_2 hC1, yr132_0 hC1, yr134_0 hC1, yr135_0 hC1, yr135_1 hC1, yr136_0 hC1, yr136_1 hC1, g1, ec, f1, k1, o_r0]
      · refine f2.put k3 k2 (hV.send c2 hu hin) (h.2.1.2.1.2.2.send hV.B c2) ?_ ?_
        · rw [s_rec_139]
          exact fun j hj => s_disp_n (by omega) (by omega)
        · rw [s_rec_139]
          exact fun j hj => s_disp_n (by omega) (by omega)
    · rw [if_neg c2]
      refine ⟨S, ?_, h, w_le.rf.mono (by omega) (by omega), w_kp.rf⟩
      simp (disch := omega) only [fX10_send, kX10_send_0, x_cs0, x_csi, x_csr, x_csn, x_csl, x_ret_v, x_ret_t, x_ret_n, x_tl_s, x_tl_n, x_lk0, x_lk, x_rem0, x_rem_i, x_rem_r, x_rem_l, x_rem2_0, x_rem2_i, x_rem2_r, x_rem2_l, x_pick0, x_pick_c, x_st1, x_st2, x_live, x_i, x_l, x_a, x_ild, x_lld, x_rld, x_ist, x_lst, x_rst, x_inc, x_ii, x_ll, x_li, x_cmp, x_ui, x_il, x_lti, x_idiv, x_irem, x_dup_i, x_dup_r, x_pop_i, x_pop_r, x_dupx_ir, x_dup2_ir, x_ifeq, x_iceq, x_iflt, x_iclt, x_ifge, x_icge, x_ifgt, x_icgt, x_ifle, x_icle, x_ifne, x_icne, x_ifnull_r, x_ifnull_n, x_ifnonnull_r, x_ifnonnull_n, x_sw, x_vret, x_iret, x_lret, x_zret, x_zret0, x_zret1, x_rf_s, x_rf_n, x_geti, x_getr, x_puti, x_putz, x_putr, x_ial, x_ias, x_lal, x_las, x_aal, x_aas, x_aast, x_alen, x_new, x_newa, x_copy, x_min, x_abs, x_minl, x_oinit, x_throw, x_callS0, x_callS1, x_callS2, x_callS3, x_callS4, x_callV0, x_callV1, x_callV2, x_callV3, x_callV4, x_callV5, x_retI_v, x_callI0, x_callI1, x_callI2, x_retN_v, x_callSN1, x_callSN2, x_callT0, x_callT1, x_fn, x_sl0, x_sli, x_slr, x_sll, x_ar0, x_ari, x_arr, x_arl, ↓reduceIte, Nat.reduceAdd, Nat.reduceSub, Nat.reduceMul, Nat.reduceEqDiff, Nat.reduceLeDiff, Nat.reduceLT, if_true, if_false, Nat.le_refl, and_true, true_and, and_self, reduceCtorEq, or_false, false_or, or_true, true_or, Nat.zero_le, fa_lit, nI_add, w_mul, nI_ltI, nI_leI, nI_eq, nI_clamp, nI_toInt, if_pos, if_neg, w_div, w_rem2, xk0 hA, xk1 hA, xl1 hA, xk2 hA, xk3 hA, xl3 hA, xr2_2 hA, xi2_0 hA, xi2_1 hA, xk4 hA, xk5 hA, xl5 hA, xr4_2 hA, xi4_0 hA, xi4_1 hA, xk6 hA, xk7 hA, xl7 hA, xr6_2 hA, xi6_0 hA, xi6_1 hA, xk8 hA, xk9 hA, xl9 hA, xr8_2 hA, xi8_0 hA, xi8_1 hA, xk10 hA, xk11 hA, xl11 hA, xr10_2 hA, xi10_0 hA, xi10_1 hA, xr0_7 hA, xr0_8 hA, xr0_9 hA, xr0_10 hA, xr0_11 hA, xr0_12 hA, yk100 hC, yk125 hC, yk126 hC, yk127 hC, yk128 hC, yk129 hC, yk130 hC, yk131 hC, yk132 hC, yk133 hC, yk134 hC, yk135 hC, yk136 hC, yk137 hC, yl126 hC, yl128 hC, yl130 hC, yl131 hC, yl133 hC, yl137 hC, yr100_0 hC, yr100_1 hC, yr100_2 hC, yr100_3 hC, yr100_4 hC, yr100_5 hC, yr100_6 hC, yr100_7 hC, yr100_8 hC, yr100_9 hC, yr100_10 hC, yr125_0 hC, yr127_0 hC, yr129_0 hC, yr129_1 hC, yr129_2 hC, yr132_0 hC, yr134_0 hC, yr135_0 hC, yr135_1 hC, yr136_0 hC, yr136_1 hC, g1, ec, o_r0]
  · rw [if_neg c1]
    have ht := h.thr (c := u_goal (M 139) z x y)
    refine ⟨_, ?_, ht.1, ht.2.1.mono (by omega) (by omega), ht.2.2⟩
    have hg : ∃ E, o_g (u_goal (M 139) z x y) = .inr E ∧ o_r (u_goal (M 139) z x y) 0 = .inr E := by
      unfold o_g o_r
      rw [if_neg c1, if_neg c1]
      split
      · exact ⟨_, rfl, rfl⟩
      · exact ⟨_, rfl, rfl⟩
    obtain ⟨E, e1, e2⟩ := hg
    rw [e1] at g1
    rw [e2]
    simp (disch := omega) only [fX10_send, kX10_send_0, x_cs0, x_csi, x_csr, x_csn, x_csl, x_ret_v, x_ret_t, x_ret_n, x_tl_s, x_tl_n, x_lk0, x_lk, x_rem0, x_rem_i, x_rem_r, x_rem_l, x_rem2_0, x_rem2_i, x_rem2_r, x_rem2_l, x_pick0, x_pick_c, x_st1, x_st2, x_live, x_i, x_l, x_a, x_ild, x_lld, x_rld, x_ist, x_lst, x_rst, x_inc, x_ii, x_ll, x_li, x_cmp, x_ui, x_il, x_lti, x_idiv, x_irem, x_dup_i, x_dup_r, x_pop_i, x_pop_r, x_dupx_ir, x_dup2_ir, x_ifeq, x_iceq, x_iflt, x_iclt, x_ifge, x_icge, x_ifgt, x_icgt, x_ifle, x_icle, x_ifne, x_icne, x_ifnull_r, x_ifnull_n, x_ifnonnull_r, x_ifnonnull_n, x_sw, x_vret, x_iret, x_lret, x_zret, x_zret0, x_zret1, x_rf_s, x_rf_n, x_geti, x_getr, x_puti, x_putz, x_putr, x_ial, x_ias, x_lal, x_las, x_aal, x_aas, x_aast, x_alen, x_new, x_newa, x_copy, x_min, x_abs, x_minl, x_oinit, x_throw, x_callS0, x_callS1, x_callS2, x_callS3, x_callS4, x_callV0, x_callV1, x_callV2, x_callV3, x_callV4, x_callV5, x_retI_v, x_callI0, x_callI1, x_callI2, x_retN_v, x_callSN1, x_callSN2, x_callT0, x_callT1, x_fn, x_sl0, x_sli, x_slr, x_sll, x_ar0, x_ari, x_arr, x_arl, ↓reduceIte, Nat.reduceAdd, Nat.reduceSub, Nat.reduceMul, Nat.reduceEqDiff, Nat.reduceLeDiff, Nat.reduceLT, if_true, if_false, Nat.le_refl, and_true, true_and, and_self, reduceCtorEq, or_false, false_or, or_true, true_or, Nat.zero_le, fa_lit, nI_add, w_mul, nI_ltI, nI_leI, nI_eq, nI_clamp, nI_toInt, if_pos, if_neg, w_div, w_rem2, xk0 hA, xk1 hA, xl1 hA, xk2 hA, xk3 hA, xl3 hA, xr2_2 hA, xi2_0 hA, xi2_1 hA, xk4 hA, xk5 hA, xl5 hA, xr4_2 hA, xi4_0 hA, xi4_1 hA, xk6 hA, xk7 hA, xl7 hA, xr6_2 hA, xi6_0 hA, xi6_1 hA, xk8 hA, xk9 hA, xl9 hA, xr8_2 hA, xi8_0 hA, xi8_1 hA, xk10 hA, xk11 hA, xl11 hA, xr10_2 hA, xi10_0 hA, xi10_1 hA, xr0_7 hA, xr0_8 hA, xr0_9 hA, xr0_10 hA, xr0_11 hA, xr0_12 hA, yk100 hC, yk125 hC, yk126 hC, yk127 hC, yk128 hC, yk129 hC, yk130 hC, yk131 hC, yk132 hC, yk133 hC, yk134 hC, yk135 hC, yk136 hC, yk137 hC, yl126 hC, yl128 hC, yl130 hC, yl131 hC, yl133 hC, yl137 hC, yr100_0 hC, yr100_1 hC, yr100_2 hC, yr100_3 hC, yr100_4 hC, yr100_5 hC, yr100_6 hC, yr100_7 hC, yr100_8 hC, yr100_9 hC, yr100_10 hC, yr125_0 hC, yr127_0 hC, yr129_0 hC, yr129_1 hC, yr129_2 hC, yr132_0 hC, yr134_0 hC, yr135_0 hC, yr135_1 hC, yr136_0 hC, yr136_1 hC, g1]
end I3
