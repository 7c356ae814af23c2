/-! THE CLASS: load -/
section L43
variable {S S' S0 T V : am_S} {a b c o p q i j k m n u t L e f κ v0 lo h ne A D d z : Nat} {P : Nat → Prop} {B : Nat → Nat} {x y v hi x' y' : Int32} {s s' : p_S} {R Q F : Nat → Int32} {M M' : Nat → Nat → Int32}
/-- a new present: no history, no snapshot, nothing fed -/
theorem w_Ic.lod (h : w_Ic S M) (hF : w_F (fun b => b = 100 ∨ b = 127 ∨ b = 134 ∨ w_PN S b) S S') (rr : ∀ b, b = 100 ∨ b = 127 ∨ b = 134 → am_r S' b = am_r S b) (hA1 : w_A S' 101) (hA2 : w_A S' 113) (hR : w_R S' 101 Q) (hW : s_W Q) (hT : w_T S' Q) (htr : w_tr S' 126 Q)
    (h127 : am_i S' 127 2 = nI 0 ∧ am_i S' 127 1 = nI 0) (h13 : am_i S' 100 13 = nI 0) (h14 : am_i S' 100 14 = nI 0) (h15 : am_i S' 100 15 = -nI 1) (h16 : am_i S' 100 16 = am_i S 100 16) : w_Ic S' (va_up (va_up M 139 Q) 138 (va_up (va_up (u_l8 M (-nI 1)) 5 (nI 0)) 7 (nI 0))) := by
  obtain ⟨⟨hC, hn, hs⟩, ⟨n1, n2, n3, n4⟩, -, -, -, ⟨⟨l, l1, l2, l3, l4⟩, x2⟩⟩ := h
  have low : ∀ b, b < 152 → ¬ (138 ≤ b ∧ b ≤ 151 ∨ 101 ≤ b ∧ b < 125 ∨ b = 100 ∨ b = 126 ∨ b = 127 ∨ b = 130 ∨ b = 131 ∨ b = 134) → ¬ (b = 100 ∨ b = 127 ∨ b = 134 ∨ w_PN S b) := fun b hb h1 h2 => by
    rcases h2 with h2 | h2 | h2 | h2 | h2 | h2
    · omega
    · omega
    · omega
    · omega
    · omega
    · rcases w_PI_low n3 h2 hb with q | q | q | q
      · exact h1 (Or.inl q)
      · exact h1 (Or.inr (Or.inl ⟨Nat.le_trans (by decide) q.1, q.2⟩))
      · exact h1 (Or.inr (Or.inr (Or.inr (Or.inr (Or.inr (Or.inl q))))))
      · exact h1 (Or.inr (Or.inr (Or.inr (Or.inr (Or.inr (Or.inr (Or.inl q)))))))
  have hi : ∀ b, b < 152 → ¬ (138 ≤ b ∧ b ≤ 151 ∨ 101 ≤ b ∧ b < 125 ∨ b = 100 ∨ b = 126 ∨ b = 127 ∨ b = 130 ∨ b = 131 ∨ b = 134) → am_i S' b = am_i S b := fun b hb h1 => hF.i (by omega) (low b hb h1)
  have hr : ∀ b, b < 152 → ¬ (138 ≤ b ∧ b ≤ 151 ∨ 101 ≤ b ∧ b < 125 ∨ b = 126 ∨ b = 130 ∨ b = 131) → am_r S' b = am_r S b := fun b hb h1 => by
    by_cases e : b = 100 ∨ b = 127 ∨ b = 134
    · exact rr b e
    · exact hF.r (by omega) (low b hb (by omega))
  have r100 := hr 100 (by omega) (by omega)
  have r128 := hr 128 (by omega) (by omega)
  have eS : ∀ i, w_Si S' i = w_Si S i := fun i => by
    unfold w_Si
    rw [r100, r128]
  have hn2 := hF.1
  have nPN : ∀ i b, w_Si S i = some b → i ≠ 0 → i ≠ 1 → ∀ q, b ≤ q → q < b + 12 → ¬ (q = 100 ∨ q = 127 ∨ q = 134 ∨ w_PN S q) := fun i b hib h0 h1 q q1 q2 q3 => by
    have hb := hs.1 i b hib
    have h101 := hs.2.1 i 0 101
    have h113 := hs.2.1 i 1 113
    have hb2 : 151 < b := by
      rcases hs.sit hib with e | e | e
      · exact absurd (h101 (by rw [← e]; exact hib) rfl) h0
      · exact absurd (h113 (by rw [← e]; exact hib) rfl) h1
      · exact e
    rcases q3 with q3 | q3 | q3 | q3 | q3 | q3
    · omega
    · omega
    · omega
    · omega
    · omega
    · exact w_PI_sit hs n3 hib h1 q q1 q2 q3
  have sA : ∀ i b, w_Si S i = some b → w_A S' b := fun i b hib => by
    by_cases e : i = 1
    · subst e
      have : b = 113 := by cases hib; rfl
      rw [this]
      exact hA2
    · by_cases e0 : i = 0
      · subst e0
        have : b = 101 := by cases hib; rfl
        rw [this]
        exact hA1
      · exact hF.A (hs.1 i b hib).1 (hs.1 i b hib).2.1 (nPN i b hib e0 e)
  have tN : ∀ t, am_r S 100 12 = some t → ¬ (t = 100 ∨ t = 127 ∨ t = 134 ∨ w_PN S t) := fun t ht => by
    have g5 := (hs.2.2 t ht).2.2.2.2.1
    rintro (q | q | q | q | q | q)
    · omega
    · omega
    · omega
    · omega
    · omega
    · exact (w_PI_trail hs n3 ht q).1 rfl
  have u9 : ∀ W, va_up (va_up M 139 Q) 138 W 139 = Q := fun W => by rw [s_up_n (by omega), s_up_s]
  have un : ∀ W b, b ≠ 138 → b ≠ 139 → va_up (va_up M 139 Q) 138 W b = M b := fun W b h1 h2 => by rw [s_up_n h1, s_up_n h2]
  refine ⟨⟨hC.fr (fun b hb => ⟨hF.k (by omega), hF.l (by omega)⟩) (fun b j hb h1 h2 h3 h4 h5 => by rw [hr b (by omega) (by omega)]), by omega, ⟨fun i b hib => ?_, fun i j b h1 h2 => ?_, fun t ht => ?_⟩⟩, ?_, ⟨0, 0, ⟨?_, h127.1, h127.2, by omega, by omega⟩, fun k hk => absurd hk (Nat.not_lt_zero _), fun k hk => absurd hk (Nat.not_lt_zero _)⟩, Or.inl ⟨?_, h13⟩, ⟨0, by omega, ?_, h14, fun i hi => absurd hi (Nat.not_lt_zero _)⟩, ⟨⟨l, l1, ?_, by rw [h16]; exact l3, fun i hil => ?_⟩, ?_⟩⟩
  · rw [eS] at hib
    obtain ⟨g1, g2, g3⟩ := hs.1 i b hib
    exact ⟨sA i b hib, by omega, g3⟩
  · rw [eS] at h1 h2
    exact hs.2.1 i j b h1 h2
  · rw [r100] at ht
    obtain ⟨g1, g2, g3, g4, g5, g6⟩ := hs.2.2 t ht
    exact ⟨by rw [hF.k (by omega)]; exact g1, by rw [hF.k (by omega)]; exact g2, by rw [hF.l (by omega)]; exact g3, by rw [hF.r (by omega) (tN t ht)]; exact g4, g5, by omega⟩
  · unfold w_In
    rw [u9]
    exact ⟨hR, hW, hT, htr⟩
  · rw [s_up_s, s_up_n (by omega), s_up_s]
  · rw [s_up_s, s_up_s]
  · rw [s_up_s, s_up_n (by omega), s_up_n (by omega)]
    unfold u_l8
    rw [s_up_n (by omega), s_up_s]
  · rw [s_up_s, s_up_n (by omega), s_up_n (by omega)]
    unfold u_l8
    rw [s_up_n (by omega), s_up_n (by omega)]
    exact l2
  · rw [hi 137 (by omega) (by omega), un _ 146 (by omega) (by omega)]
    exact l4 i hil
  · rw [s_up_s, s_up_n (by omega), s_up_n (by omega)]
    unfold u_l8
    rw [s_up_s]
    exact h15
theorem w_I.sy (h : w_I P S T) : w_I P T S := ⟨h.1.symm, h.2.1.symm, h.2.2.1.symm, h.2.2.2.1.symm, h.2.2.2.2.1.symm, h.2.2.2.2.2.1.symm, fun b hb => (h.2.2.2.2.2.2 b hb).symm⟩
theorem w_split (hI : w_I (fun b => b = 134 ∨ 113 ≤ b ∧ b < 125) S S') : ∃ T, w_I (fun b => 113 ≤ b ∧ b < 125) S T ∧ w_I (fun b => b = 134) T S' := by
  have g : ∀ k, k ≤ 12 → ∃ T, w_I (fun b => 113 ≤ b ∧ b < 125) S T ∧ ∀ b, 113 ≤ b → b < 113 + k → am_i T b = am_i S' b := fun k => by
    induction k with
    | zero => exact fun _ => ⟨S, w_I.rf, fun b h1 h2 => absurd h2 (by omega)⟩
    | succ k ih =>
      intro hk
      obtain ⟨T, t1, t2⟩ := ih (by omega)
      refine ⟨am_row T (113 + k) (am_i S' (113 + k)), t1.tr (w_I.row (by show 113 ≤ 113 + k ∧ 113 + k < 125; omega)), fun b h1 h2 => ?_⟩
      by_cases e : b = 113 + k
      · rw [e, x_rows]
      · rw [x_rown e]
        exact t2 b h1 (by omega)
  obtain ⟨T, t1, t2⟩ := g 12 (Nat.le_refl _)
  refine ⟨T, t1, ?_⟩
  refine ⟨hI.1.trans t1.1.symm, hI.2.1.trans t1.2.1.symm, hI.2.2.1.trans t1.2.2.1.symm, hI.2.2.2.1.trans t1.2.2.2.1.symm, hI.2.2.2.2.1.trans t1.2.2.2.2.1.symm, hI.2.2.2.2.2.1.trans t1.2.2.2.2.2.1.symm, fun b hb => ?_⟩
  · by_cases e : 113 ≤ b ∧ b < 125
    · exact (t2 b e.1 (by omega)).symm
    · rw [hI.i (by omega), t1.i (by omega)]
/-- the bytes fed -/
def u_B (M : Nat → Nat → Int32) : Nat → Nat := fun i => s_n (M 147 i)
theorem w_Ib.byt (h : w_Ib S M) : ∃ n, n ≤ 600 ∧ M 138 13 = nI n ∧ am_i S 100 14 = nI n ∧ ∀ i, i < n → am_i S 133 i = M 147 i ∧ M 147 i = nI (u_B M i) ∧ u_B M i < 256 := by
  obtain ⟨n, h1, h2, h3, h4⟩ := h
  refine ⟨n, h1, h2, h3, fun i hi => ?_⟩
  obtain ⟨g1, v, g2, g3⟩ := h4 i hi
  unfold u_B
  rw [g1, g3, w_snI (by omega)]
  exact ⟨rfl, rfl, g2⟩
theorem y_loadE {cd pl : Nat} {T2 : am_S} (h : w_Ic S M) (hw : w_I (fun b => b = 134 ∨ 113 ≤ b ∧ b < 125) (am_putI S 100 14 (nI 0)) T2) (hA : w_A T2 113) : w_Ic (am_putI T2 100 15 (nI pl)) (va_up M 138 (u_l8 M (nI pl))) := by
  obtain ⟨⟨l, l1, l2, l3, l4⟩, x2⟩ := h.2.2.2.2.2
  have hn := h.1.2.1
  have k1 : w_I w_PM S (am_putI S 100 14 (nI 0)) := w_I.put (P := w_PM) (Or.inl rfl)
  have e1 : w_Ic (am_putI S 100 14 (nI 0)) (va_up M 138 (va_up (M 138) 13 (nI 0))) := by
    refine h.misc k1 (by rw [x_i_I, if_pos rfl, if_neg (by omega)]) ⟨0, by omega, by rw [s_up_s, s_up_s], x_i_Is, fun i hi => absurd hi (Nat.not_lt_zero _)⟩ ⟨⟨l, l1, by rw [s_up_s, s_up_n (by omega)]; exact l2, by rw [x_i_I, if_pos rfl, if_neg (by omega)]; exact l3, fun i hi => by rw [x_i_I, if_neg (by omega), s_up_n (by omega)]; exact l4 i hi⟩, by rw [x_i_I, if_pos rfl, if_neg (by omega), s_up_s, s_up_n (by omega)]; exact x2⟩ (s_up_n (by omega)) (s_up_n (by omega)) (s_up_n (by omega)) (by rw [s_up_s, s_up_n (by omega)]) (by rw [s_up_s, s_up_n (by omega)])
  obtain ⟨T, t1, t2⟩ := w_split hw
  have hAT : w_A T 113 := t2.sy.Aa hA (fun b q1 q2 => by omega)
  have n1 : 151 < am_n (am_putI S 100 14 (nI 0)) := hn
  have e2 : w_Ic T (va_up M 138 (va_up (M 138) 13 (nI 0))) := e1.fr ((w_F.of t1).mono (fun b hb => Or.inr (Or.inl hb))) hAT (e1.2.1.2.2.1.fr n1 (w_F.of t1) (by rw [t1.2.2.2.2.2.1]) (fun q hq hq2 => by
    obtain ⟨t, D, ht, hD, e⟩ := hq
    have := (e1.2.1.2.2.1.1 t D ht hD).1.1
    omega))
  have k3 : w_I w_PM T (am_putI T2 100 15 (nI pl)) := (t2.mono (fun b hb => Or.inr (Or.inr (Or.inl hb)))).tr (w_I.put (P := w_PM) (Or.inl rfl))
  have i100 : ∀ j, j ≠ 15 → am_i (am_putI T2 100 15 (nI pl)) 100 j = am_i T 100 j := fun j hj => by
    rw [x_i_I, if_pos rfl, if_neg hj, t2.i (by omega)]
  have i137 : am_i (am_putI T2 100 15 (nI pl)) 137 = am_i T 137 := by
    rw [← t2.i (by omega)]
    funext j
    rw [x_i_I, if_neg (by omega)]
  obtain ⟨⟨l, l1, l2, l3, l4⟩, x2⟩ := e2.2.2.2.2.2
  obtain ⟨n, b1, b2, b3, b4⟩ := e2.2.2.2.2.1
  rw [s_up_s, s_up_s] at b2
  have n0 : n = 0 := by
    have := congrArg s_n b2
    rw [w_snI (by omega), w_snI (by omega)] at this
    omega
  subst n0
  have eM : ∀ b, b ≠ 138 → va_up M 138 (u_l8 M (nI pl)) b = va_up M 138 (va_up (M 138) 13 (nI 0)) b := fun b hb => by rw [s_up_n hb, s_up_n hb]
  have eM8 : ∀ j, j ≠ 20 → va_up M 138 (u_l8 M (nI pl)) 138 j = va_up M 138 (va_up (M 138) 13 (nI 0)) 138 j := fun j hj => by
    rw [s_up_s, s_up_s]
    unfold u_l8
    rw [s_up_n hj]
  refine e2.misc k3 (i100 13 (by omega)) ⟨0, by omega, ?_, by rw [i100 14 (by omega)]; exact b3, fun i hi => absurd hi (Nat.not_lt_zero _)⟩ ⟨⟨l, l1, by rw [eM8 11 (by omega)]; exact l2, by rw [i100 16 (by omega)]; exact l3, fun i hi => by rw [i137, eM 146 (by omega)]; exact l4 i hi⟩, ?_⟩ (eM 139 (by omega)) (eM 142 (by omega)) (eM 143 (by omega)) (eM8 5 (by omega)) (eM8 7 (by omega))
  · rw [eM8 13 (by omega), s_up_s, s_up_s]
  · rw [x_i_Is, s_up_s]
    unfold u_l8
    rw [s_up_s]
theorem p_V.W (h : p_V R) (hl : w_lk Q R) : s_W Q := by
  obtain ⟨hV, h4, h5, h7⟩ := h
  have b2 := hV.B.2.1.2
  refine ⟨hV.cong (fun j hj => hl.1 j (by omega)), ⟨?_, fun u hu => ?_⟩, fun e he => ?_⟩
  · rw [hl.1 5 (by omega), h5, w_snI (by omega)]
    omega
  · rw [hl.1 2 (by omega)] at hu
    rw [hl.1 5 (by omega), h5, w_snI (by omega), hl.1 (12 + 4 * u + 1) (by omega), hl.1 (12 + 4 * u + 0) (by omega), Nat.add_zero]
    exact hl.2 u hu
  · rw [hl.1 7 (by omega), h7, w_snI (by omega)] at he
    omega
theorem y_load (h : w_Ic S M) (hP : s_is x (s_n (M 138 13) + 1) → (p_all (u_B M) (s_n x)).1.1 = 0 → p_V (p_all (u_B M) (s_n x)).2.2) : ∃ S', (∀ Q, fX10_load w_N [.ref 100, .int x] S = some (o_q (u_load M (u_B M) Q x).1.1 (u_load M (u_B M) Q x).1.2, S')) ∧ (∀ Q, (s_is x (s_n (M 138 13) + 1) → (p_all (u_B M) (s_n x)).1.1 = 0 → w_lk Q (p_all (u_B M) (s_n x)).2.2) → w_Ic S' (u_load M (u_B M) Q x).2) ∧ w_le 1 6 S S' ∧ w_kp S S' := by
  have hC := h.1.1
  have hn := h.1.2.1
  have sh := h.1.2.2
  have hA01 := (sh.1 0 101 rfl).1
  have hA13 := (sh.1 1 113 rfl).1
  have hT := h.2.1.2.2.1
  obtain ⟨n, n1, n2, n3, n4⟩ := h.2.2.2.2.1.byt
  have en : s_n (M 138 13) = n := by rw [n2, w_snI (by omega)]
  rw [en] at hP ⊢
  unfold u_load
  rw [en]
  by_cases c : s_is x (n + 1)
  · obtain ⟨L, l1, l2, rfl⟩ := s_is_n c
    rw [w_snI (by omega)] at hP ⊢
    have k1 : w_I (fun b => b = 100) S (am_putI S 100 14 (nI 0)) := w_I.put (P := fun b => b = 100) rfl
    have hC1 := k1.C hC
    have ht1 : w_tx (am_putI S 100 14 (nI 0)) 133 L (u_B M) := ⟨by omega, fun i hi => by
      rw [k1.i (by omega)]
      have g := n4 i (by omega)
      exact ⟨g.1.trans g.2.1, g.2.2⟩⟩
    have hA1 := k1.Aa hA13 (fun b q1 q2 => by omega)
    obtain ⟨S2, f1, f2⟩ := y_readText hC1 hA1 ht1
    have hw := f2.1.1
    have hC2 := f2.1.2.1
    have h7 := f2.2.2.1.2.2
    have hcd := f2.2.2.1.1
    have gp : fX8_errorPlace w_N [.ref 134] S2 = some (.inl (some (.int (am_i S2 134 7))), S2) := by
      simp (disch := omega) only [fX8_errorPlace, kX8_errorPlace_0, x_cs0, x_csi, x_csr, x_csn, x_csl, x_ret_v, x_ret_t, x_ret_n, x_tl_s, x_tl_n, x_lk0, x_lk, x_rem0, x_rem_i, x_rem_r, x_rem_l, x_rem2_0, x_rem2_i, x_rem2_r, x_rem2_l, x_pick0, x_pick_c, x_st1, x_st2, x_live, x_i, x_l, x_a, x_ild, x_lld, x_rld, x_ist, x_lst, x_rst, x_inc, x_ii, x_ll, x_li, x_cmp, x_ui, x_il, x_lti, x_idiv, x_irem, x_dup_i, x_dup_r, x_pop_i, x_pop_r, x_dupx_ir, x_dup2_ir, x_ifeq, x_iceq, x_iflt, x_iclt, x_ifge, x_icge, x_ifgt, x_icgt, x_ifle, x_icle, x_ifne, x_icne, x_ifnull_r, x_ifnull_n, x_ifnonnull_r, x_ifnonnull_n, x_sw, x_vret, x_iret, x_lret, x_zret, x_zret0, x_zret1, x_rf_s, x_rf_n, x_geti, x_getr, x_puti, x_putz, x_putr, x_ial, x_ias, x_lal, x_las, x_aal, x_aas, x_aast, x_alen, x_new, x_newa, x_copy, x_min, x_abs, x_minl, x_oinit, x_throw, x_callS0, x_callS1, x_callS2, x_callS3, x_callS4, x_callV0, x_callV1, x_callV2, x_callV3, x_callV4, x_callV5, x_retI_v, x_callI0, x_callI1, x_callI2, x_retN_v, x_callSN1, x_callSN2, x_callT0, x_callT1, x_fn, x_sl0, x_sli, x_slr, x_sll, x_ar0, x_ari, x_arr, x_arl, ↓reduceIte, Nat.reduceAdd, Nat.reduceSub, Nat.reduceMul, Nat.reduceEqDiff, Nat.reduceLeDiff, Nat.reduceLT, if_true, if_false, Nat.le_refl, and_true, true_and, and_self, reduceCtorEq, or_false, false_or, or_true, true_or, Nat.zero_le, fa_lit, nI_add, w_mul, nI_ltI, nI_leI, nI_eq, nI_clamp, nI_toInt, if_pos, if_neg, w_div, w_rem2, yk100 hC2, yk125 hC2, yk126 hC2, yk127 hC2, yk128 hC2, yk129 hC2, yk130 hC2, yk131 hC2, yk132 hC2, yk133 hC2, yk134 hC2, yk135 hC2, yk136 hC2, yk137 hC2, yl126 hC2, yl128 hC2, yl130 hC2, yl131 hC2, yl133 hC2, yl137 hC2, yr100_0 hC2, yr100_1 hC2, yr100_2 hC2, yr100_3 hC2, yr100_4 hC2, yr100_5 hC2, yr100_6 hC2, yr100_7 hC2, yr100_8 hC2, yr100_9 hC2, yr100_10 hC2, yr125_0 hC2, yr127_0 hC2, yr129_0 hC2, yr129_1 hC2, yr129_2 hC2, yr132_0 hC2, yr134_0 hC2, yr135_0 hC2, yr135_1 hC2, yr136_0 hC2, yr136_1 hC2]
    have K1 := w_kp.I k1 (fun b q1 q2 => by omega)
    have K2 := w_kp.I hw (fun b q1 q2 => by omega)
    have E1 := w_le.I k1
    have E2 := w_le.I hw
    by_cases e : (p_all (u_B M) L).1.1 = 0
    · have hV := hP c e
      have f2' := f2
      rw [e, if_pos rfl] at h7
      rw [e] at f1
      have hA2 := f2.2.2.2.1
      have hR2 := f2.2.2.2.2.1
      generalize hR0 : (p_all (u_B M) L).2.2 = R at *
      have k3 : w_I (fun b => b = 100) S2 (am_putI S2 100 15 (-nI 1)) := w_I.put (P := fun b => b = 100) rfl
      have hC3 := k3.C hC2
      have hA3 := k3.Aa hA2 (fun b q1 q2 => by omega)
      have hR3 := k3.Ra hR2 (fun b q1 q2 => by omega)
      have I03 := (k1.mono (fun b hb => Or.inl hb) : w_I (fun b => b = 100 ∨ b = 134 ∨ 113 ≤ b ∧ b < 125) _ _).tr ((hw.mono (fun b hb => Or.inr hb)).tr (k3.mono (fun b hb => Or.inl hb)))
      have hA03 := I03.Aa hA01 (fun b q1 q2 => by omega)
      have v15 : am_i (am_putI S2 100 15 (-nI 1)) 100 15 = -nI 1 := x_i_Is
      have v14 : am_i (am_putI S2 100 15 (-nI 1)) 100 14 = nI 0 := by rw [x_i_I, if_pos rfl, if_neg (by omega), hw.i (by omega), x_i_Is]
      have v16 : am_i (am_putI S2 100 15 (-nI 1)) 100 16 = am_i S 100 16 := by rw [x_i_I, if_pos rfl, if_neg (by omega), hw.i (by omega), x_i_I, if_pos rfl, if_neg (by omega)]
      generalize hS3 : am_putI S2 100 15 (-nI 1) = S3 at *
      obtain ⟨g1, g2, g3⟩ := y_copyS hA3 hA03 hR3 hV.1.B (by omega)
      generalize w_cS7 S3 113 101 R = S4 at *
      have hI4 : w_I (fun b => 101 ≤ b ∧ b < 101 + 12) S3 S4 := g3.1
      have hC4 := hI4.C hC3
      have hA04 := g3.A hA03
      have hA14 := hI4.Aa hA3 (fun b q1 q2 => by omega)
      have I04 := (I03.mono (fun b hb => Or.inr hb) : w_I (fun b => 101 ≤ b ∧ b < 101 + 12 ∨ b = 100 ∨ b = 134 ∨ 113 ≤ b ∧ b < 125) _ _).tr (hI4.mono (fun b hb => Or.inl hb))
      have er4 : am_r S4 = am_r S := I04.2.2.2.2.2.1
      have hT4 : w_T S4 (M 139) := hT.fr hn (w_F.of I04) (by rw [er4]) (fun q hq hq2 => by
        obtain ⟨t, D, ht, hD, e⟩ := hq
        have := (hT.1 t D ht hD).1.1
        omega)
      obtain ⟨S5, m1, m2, m3⟩ := y_forget hC4 (by rw [I04.1]; exact hn) hT4
      have low : ∀ b, b ≤ 151 → ¬ w_inT S4 b := fun b hb q => by
        obtain ⟨t, D, ht, hD, e⟩ := q
        have := (hT4.1 t D ht hD).1.1
        omega
      have inT : ∀ b, w_inT S4 b → w_inT S b := fun b q => by
        obtain ⟨t, D, ht, hD, e⟩ := q
        rw [er4] at hD
        exact ⟨t, D, ht, hD, e⟩
      have hC5 := m3.C hC4
      have gc := y_hclear hC5
      have k6 : w_I (fun b => b = 127) S5 (am_putI (am_putI S5 127 1 (nI 0)) 127 2 (nI 0)) := (w_I.put (P := fun b => b = 127) rfl).tr (w_I.put rfl)
      have hC6 := k6.C hC5
      have q1 : am_i (am_putI (am_putI S5 127 1 (nI 0)) 127 2 (nI 0)) 127 2 = nI 0 := x_i_Is
      have q2 : am_i (am_putI (am_putI S5 127 1 (nI 0)) 127 2 (nI 0)) 127 1 = nI 0 := by rw [x_i_I, if_pos rfl, if_neg (by omega), x_i_Is]
      generalize hS6 : am_putI (am_putI S5 127 1 (nI 0)) 127 2 (nI 0) = S6 at *
      have k7 : w_I (fun b => b = 100) S6 (am_putI S6 100 13 (nI 0)) := w_I.put (P := fun b => b = 100) rfl
      have hC7 := k7.C hC6
      have a100 : am_i S6 100 = am_i S3 100 := by rw [k6.i (by omega), m3.i (low 100 (by omega)), hI4.i (by omega)]
      have R7 : w_R (am_putI S6 100 13 (nI 0)) 101 R := k7.Ra (k6.Ra (m3.Ra g2 (fun b q1 q2 => low b (by omega))) (fun b q1 q2 => by omega)) (fun b q1 q2 => by omega)
      have A7 : w_A (am_putI S6 100 13 (nI 0)) 101 := k7.Aa (k6.Aa (m3.Aa hA04 (fun b q1 q2 => low b (by omega))) (fun b q1 q2 => by omega)) (fun b q1 q2 => by omega)
      have A17 : w_A (am_putI S6 100 13 (nI 0)) 113 := k7.Aa (k6.Aa (m3.Aa hA14 (fun b q1 q2 => low b (by omega))) (fun b q1 q2 => by omega)) (fun b q1 q2 => by omega)
      have gq := y_count (R7.tU A7 hV.1.B)
      have F : w_F (fun b => b = 100 ∨ b = 127 ∨ b = 134 ∨ w_PN S b) S (am_putI S6 100 13 (nI 0)) := (((w_F.of I04).mono (fun b hb => by
        rcases hb with hb | hb | hb | hb
        · exact Or.inr (Or.inr (Or.inr (Or.inl ⟨hb.1, by omega⟩)))
        · exact Or.inl hb
        · exact Or.inr (Or.inr (Or.inl hb))
        · exact Or.inr (Or.inr (Or.inr (Or.inr (Or.inr (Or.inr (Or.inl hb)))))))).tr ((w_F.of m3).mono (fun b hb => Or.inr (Or.inr (Or.inr (Or.inr (Or.inr (Or.inr (Or.inr (Or.inr (Or.inr (inT b hb))))))))))) |>.tr (((w_F.of k6).mono (fun b hb => Or.inr (Or.inl hb))).tr ((w_F.of k7).mono (fun b hb => Or.inl hb))))
      have er7 : am_r (am_putI S6 100 13 (nI 0)) = am_r S := by rw [k7.2.2.2.2.2.1, k6.2.2.2.2.2.1, m3.2.2.2.2.2.1, er4]
      have hT7 : ∀ Q, w_T (am_putI S6 100 13 (nI 0)) Q := fun Q => (m2 Q).fr (by rw [m3.1, I04.1]; exact hn) (w_F.of ((k6.mono (fun b hb => Or.inl hb) : w_I (fun b => b = 127 ∨ b = 100) _ _).tr (k7.mono (fun b hb => Or.inr hb)))) (by rw [er7, m3.2.2.2.2.2.1, er4]) (fun q hq hq2 => by
        obtain ⟨t, D, ht, hD, e⟩ := hq
        have := ((m2 Q).1 t D ht hD).1.1
        omega)
      refine ⟨am_putI S6 100 13 (nI 0), fun Q => ?_, fun Q hQ => ?_, ?_, ?_⟩
      · rw [if_pos c, if_pos e]
        have u2 : R 2 = nI (s_n (R 2)) := hV.1.B.2.1.1
        show _ = some (o_q 0 (R 2), _)
        rw [u2]
        have k101 := xk0 hA03
        simp (disch := omega) only [fX10_load, kX10_load_12, kX10_load_0, x_cs0, x_csi, x_csr, x_csn, x_csl, x_ret_v, x_ret_t, x_ret_n, x_tl_s, x_tl_n, x_lk0, x_lk, x_rem0, x_rem_i, x_rem_r, x_rem_l, x_rem2_0, x_rem2_i, x_rem2_r, x_rem2_l, x_pick0, x_pick_c, x_st1, x_st2, x_live, x_i, x_l, x_a, x_ild, x_lld, x_rld, x_ist, x_lst, x_rst, x_inc, x_ii, x_ll, x_li, x_cmp, x_ui, x_il, x_lti, x_idiv, x_irem, x_dup_i, x_dup_r, x_pop_i, x_pop_r, x_dupx_ir, x_dup2_ir, x_ifeq, x_iceq, x_iflt, x_iclt, x_ifge, x_icge, x_ifgt, x_icgt, x_ifle, x_icle, x_ifne, x_icne, x_ifnull_r, x_ifnull_n, x_ifnonnull_r, x_ifnonnull_n, x_sw, x_vret, x_iret, x_lret, x_zret, x_zret0, x_zret1, x_rf_s, x_rf_n, x_geti, x_getr, x_puti, x_putz, x_putr, x_ial, x_ias, x_lal, x_las, x_aal, x_aas, x_aast, x_alen, x_new, x_newa, x_copy, x_min, x_abs, x_minl, x_oinit, x_throw, x_callS0, x_callS1, x_callS2, x_callS3, x_callS4, x_callV0, x_callV1, x_callV2, x_callV3, x_callV4, x_callV5, x_retI_v, x_callI0, x_callI1, x_callI2, x_retN_v, x_callSN1, x_callSN2, x_callT0, x_callT1, x_fn, x_sl0, x_sli, x_slr, x_sll, x_ar0, x_ari, x_arr, x_arl, ↓reduceIte, Nat.reduceAdd, Nat.reduceSub, Nat.reduceMul, Nat.reduceEqDiff, Nat.reduceLeDiff, Nat.reduceLT, if_true, if_false, Nat.le_refl, and_true, true_and, and_self, reduceCtorEq, or_false, false_or, or_true, true_or, Nat.zero_le, fa_lit, nI_add, w_mul, nI_ltI, nI_leI, nI_eq, nI_clamp, nI_toInt, if_pos, if_neg, w_div, w_rem2, yk100 hC, yk125 hC, yk126 hC, yk127 hC, yk128 hC, yk129 hC, yk130 hC, yk131 hC, yk132 hC, yk133 hC, yk134 hC, yk135 hC, yk136 hC, yk137 hC, yl126 hC, yl128 hC, yl130 hC, yl131 hC, yl133 hC, yl137 hC, yr100_0 hC, yr100_1 hC, yr100_2 hC, yr100_3 hC, yr100_4 hC, yr100_5 hC, yr100_6 hC, yr100_7 hC, yr100_8 hC, yr100_9 hC, yr100_10 hC, yr125_0 hC, yr127_0 hC, yr129_0 hC, yr129_1 hC, yr129_2 hC, yr132_0 hC, yr134_0 hC, yr135_0 hC, yr135_1 hC, yr136_0 hC, yr136_1 hC, yk100 hC1, yk125 hC1, yk126 hC1, yk127 hC1, yk128 hC1, yk129 hC1, yk130 hC1, yk131 hC1, yk132 hC1, yk133 hC1, yk134 hC1, yk135 hC1, yk136 hC1, yk137 hC1, yl126 hC1, yl128 hC1, yl130 hC1, yl131 hC1, yl133 hC1, yl137 hC1, yr100_0 hC1, yr100_1 hC1, yr100_2 hC1, yr100_3 hC1, yr100_4 hC1, yr100_5 hC1, yr100_6 hC1, yr100_7 hC1, yr100_8 hC1, yr100_9 hC1, yr100_10 hC1, yr125_0 hC1, yr127_0 hC1, yr129_0 hC1, yr129_1 hC1, yr129_2 hC1, yr132_0 hC1, yr134_0 hC1, yr135_0 hC1, yr135_1 hC1, yr136_0 hC1, yr136_1 hC1, yk100 hC2, yk125 hC2, yk126 hC2, yk127 hC2, yk128 hC2, yk129 hC2, yk130 hC2, yk131 hC2, yk132 hC2, yk133 hC2, yk134 hC2, yk135 hC2, yk136 hC2, yk137 hC2, yl126 hC2, yl128 hC2, yl130 hC2, yl131 hC2, yl133 hC2, yl137 hC2, yr100_0 hC2, yr100_1 hC2, yr100_2 hC2, yr100_3 hC2, yr100_4 hC2, yr100_5 hC2, yr100_6 hC2, yr100_7 hC2, yr100_8 hC2, yr100_9 hC2, yr100_10 hC2, yr125_0 hC2, yr127_0 hC2, yr129_0 hC2, yr129_1 hC2, yr129_2 hC2, yr132_0 hC2, yr134_0 hC2, yr135_0 hC2, yr135_1 hC2, yr136_0 hC2, yr136_1 hC2, yk100 hC3, yk125 hC3, yk126 hC3, yk127 hC3, yk128 hC3, yk129 hC3, yk130 hC3, yk131 hC3, yk132 hC3, yk133 hC3, yk134 hC3, yk135 hC3, yk136 hC3, yk137 hC3, yl126 hC3, yl128 hC3, yl130 hC3, yl131 hC3, yl133 hC3, yl137 hC3, yr100_0 hC3, yr100_1 hC3, yr100_2 hC3, yr100_3 hC3, yr100_4 hC3, yr100_5 hC3, yr100_6 hC3, yr100_7 hC3, yr100_8 hC3, yr100_9 hC3, yr100_10 hC3, yr125_0 hC3, yr127_0 hC3, yr129_0 hC3, yr129_1 hC3, yr129_2 hC3, yr132_0 hC3, yr134_0 hC3, yr135_0 hC3, yr135_1 hC3, yr136_0 hC3, yr136_1 hC3, yk100 hC4, yk125 hC4, yk126 hC4, yk127 hC4, yk128 hC4, yk129 hC4, yk130 hC4, yk131 hC4, yk132 hC4, yk133 hC4, yk134 hC4, yk135 hC4, yk136 hC4, yk137 hC4, yl126 hC4, yl128 hC4, yl130 hC4, yl131 hC4, yl133 hC4, yl137 hC4, yr100_0 hC4, yr100_1 hC4, yr100_2 hC4, yr100_3 hC4, yr100_4 hC4, yr100_5 hC4, yr100_6 hC4, yr100_7 hC4, yr100_8 hC4, yr100_9 hC4, yr100_10 hC4, yr125_0 hC4, yr127_0 hC4, yr129_0 hC4, yr129_1 hC4, yr129_2 hC4, yr132_0 hC4, yr134_0 hC4, yr135_0 hC4, yr135_1 hC4, yr136_0 hC4, yr136_1 hC4, yk100 hC5, yk125 hC5, yk126 hC5, yk127 hC5, yk128 hC5, yk129 hC5, yk130 hC5, yk131 hC5, yk132 hC5, yk133 hC5, yk134 hC5, yk135 hC5, yk136 hC5, yk137 hC5, yl126 hC5, yl128 hC5, yl130 hC5, yl131 hC5, yl133 hC5, yl137 hC5, yr100_0 hC5, yr100_1 hC5, yr100_2 hC5, yr100_3 hC5, yr100_4 hC5, yr100_5 hC5, yr100_6 hC5, yr100_7 hC5, yr100_8 hC5, yr100_9 hC5, yr100_10 hC5, yr125_0 hC5, yr127_0 hC5, yr129_0 hC5, yr129_1 hC5, yr129_2 hC5, yr132_0 hC5, yr134_0 hC5, yr135_0 hC5, yr135_1 hC5, yr136_0 hC5, yr136_1 hC5, yk100 hC6, yk125 hC6, yk126 hC6, yk127 hC6, yk128 hC6, yk129 hC6, yk130 hC6, yk131 hC6, yk132 hC6, yk133 hC6, yk134 hC6, yk135 hC6, yk136 hC6, yk137 hC6, yl126 hC6, yl128 hC6, yl130 hC6, yl131 hC6, yl133 hC6, yl137 hC6, yr100_0 hC6, yr100_1 hC6, yr100_2 hC6, yr100_3 hC6, yr100_4 hC6, yr100_5 hC6, yr100_6 hC6, yr100_7 hC6, yr100_8 hC6, yr100_9 hC6, yr100_10 hC6, yr125_0 hC6, yr127_0 hC6, yr129_0 hC6, yr129_1 hC6, yr129_2 hC6, yr132_0 hC6, yr134_0 hC6, yr135_0 hC6, yr135_1 hC6, yr136_0 hC6, yr136_1 hC6, yk100 hC7, yk125 hC7, yk126 hC7, yk127 hC7, yk128 hC7, yk129 hC7, yk130 hC7, yk131 hC7, yk132 hC7, yk133 hC7, yk134 hC7, yk135 hC7, yk136 hC7, yk137 hC7, yl126 hC7, yl128 hC7, yl130 hC7, yl131 hC7, yl133 hC7, yl137 hC7, yr100_0 hC7, yr100_1 hC7, yr100_2 hC7, yr100_3 hC7, yr100_4 hC7, yr100_5 hC7, yr100_6 hC7, yr100_7 hC7, yr100_8 hC7, yr100_9 hC7, yr100_10 hC7, yr125_0 hC7, yr127_0 hC7, yr129_0 hC7, yr129_1 hC7, yr129_2 hC7, yr132_0 hC7, yr134_0 hC7, yr135_0 hC7, yr135_1 hC7, yr136_0 hC7, yr136_1 hC7, xk0 A7, xk1 A7, xl1 A7, xk2 A7, xk3 A7, xl3 A7, xr2_2 A7, xi2_0 A7, xi2_1 A7, xk4 A7, xk5 A7, xl5 A7, xr4_2 A7, xi4_0 A7, xi4_1 A7, xk6 A7, xk7 A7, xl7 A7, xr6_2 A7, xi6_0 A7, xi6_1 A7, xk8 A7, xk9 A7, xl9 A7, xr8_2 A7, xi8_0 A7, xi8_1 A7, xk10 A7, xk11 A7, xl11 A7, xr10_2 A7, xi10_0 A7, xi10_1 A7, xr0_7 A7, xr0_8 A7, xr0_9 A7, xr0_10 A7, xr0_11 A7, xr0_12 A7, n3, f1, gp, h7, hS3, g1, m1, gc, hS6, gq, va_rf, k101]
      · rw [if_pos c, if_pos e]
        have lk := hQ c e
        have W := hV.W lk
        have W2 : s_W (s_ov0 Q (M 139)) := W.eq s_ov0_eq
        have RQ : w_R (am_putI S6 100 13 (nI 0)) 101 Q := R7.congR ⟨W.1.B.2.1.2, W.1.B.2.2.1.2, W.1.B.2.2.2.1.2, W.1.B.2.2.2.2.1.2, W.1.B.2.2.2.2.2.1.2⟩ (fun j hj => lk.1 j hj)
        refine h.lod F (fun b _ => by rw [er7]) A7 A17 (RQ.eq W s_ov0_eq) W2 (hT7 _) (fun u t hu ht => ?_) ⟨?_, ?_⟩ x_i_Is ?_ ?_ ?_
        · have e5 : s_ov0 Q (M 139) 5 = R 5 := (s_ov0_eq 5 (by omega)).trans (lk.1 5 (by omega))
          rw [e5, hV.2.2.1, w_snI (by omega)] at ht
          omega
        · rw [k7.i (by omega)]
          exact q1
        · rw [k7.i (by omega)]
          exact q2
        · rw [x_i_I, if_pos rfl, if_neg (by omega), a100]
          exact v14
        · rw [x_i_I, if_pos rfl, if_neg (by omega), a100]
          exact v15
        · rw [x_i_I, if_pos rfl, if_neg (by omega), a100]
          exact v16
      · exact (((w_le.I I04).tr (w_le.I m3)).tr ((w_le.I k6).tr (w_le.I k7))).mono (by omega) (by omega)
      · exact ((w_kp.I I04 (fun b q1 q2 => by omega)).tr (w_kp.I m3 (fun b q1 q2 => low b (by omega)))).tr ((w_kp.I k6 (fun b q1 q2 => by omega)).tr (w_kp.I k7 (fun b q1 q2 => by omega)))
    · rw [if_neg e] at h7
      have k3 : w_I (fun b => b = 100) S2 (am_putI S2 100 15 (nI (p_all (u_B M) L).1.2)) := w_I.put (P := fun b => b = 100) rfl
      have hC3 := k3.C hC2
      refine ⟨am_putI S2 100 15 (nI (p_all (u_B M) L).1.2), fun Q => ?_, fun Q hQ => ?_, ((E1.tr E2).tr (w_le.I k3)).mono (by omega) (by omega), (K1.tr K2).tr (w_kp.I k3 (fun b q1 q2 => by omega))⟩
      · rw [if_pos c, if_neg e]
        generalize (p_all (u_B M) L).1.2 = pl at *
        generalize (p_all (u_B M) L).1.1 = cd at *
        simp (disch := omega) only [fX10_load, kX10_load_12, kX10_load_0, x_cs0, x_csi, x_csr, x_csn, x_csl, x_ret_v, x_ret_t, x_ret_n, x_tl_s, x_tl_n, x_lk0, x_lk, x_rem0, x_rem_i, x_rem_r, x_rem_l, x_rem2_0, x_rem2_i, x_rem2_r, x_rem2_l, x_pick0, x_pick_c, x_st1, x_st2, x_live, x_i, x_l, x_a, x_ild, x_lld, x_rld, x_ist, x_lst, x_rst, x_inc, x_ii, x_ll, x_li, x_cmp, x_ui, x_il, x_lti, x_idiv, x_irem, x_dup_i, x_dup_r, x_pop_i, x_pop_r, x_dupx_ir, x_dup2_ir, x_ifeq, x_iceq, x_iflt, x_iclt, x_ifge, x_icge, x_ifgt, x_icgt, x_ifle, x_icle, x_ifne, x_icne, x_ifnull_r, x_ifnull_n, x_ifnonnull_r, x_ifnonnull_n, x_sw, x_vret, x_iret, x_lret, x_zret, x_zret0, x_zret1, x_rf_s, x_rf_n, x_geti, x_getr, x_puti, x_putz, x_putr, x_ial, x_ias, x_lal, x_las, x_aal, x_aas, x_aast, x_alen, x_new, x_newa, x_copy, x_min, x_abs, x_minl, x_oinit, x_throw, x_callS0, x_callS1, x_callS2, x_callS3, x_callS4, x_callV0, x_callV1, x_callV2, x_callV3, x_callV4, x_callV5, x_retI_v, x_callI0, x_callI1, x_callI2, x_retN_v, x_callSN1, x_callSN2, x_callT0, x_callT1, x_fn, x_sl0, x_sli, x_slr, x_sll, x_ar0, x_ari, x_arr, x_arl, ↓reduceIte, Nat.reduceAdd, Nat.reduceSub, Nat.reduceMul, Nat.reduceEqDiff, Nat.reduceLeDiff, Nat.reduceLT, if_true, if_false, Nat.le_refl, and_true, true_and, and_self, reduceCtorEq, or_false, false_or, or_true, true_or, Nat.zero_le, fa_lit, nI_add, w_mul, nI_ltI, nI_leI, nI_eq, nI_clamp, nI_toInt, if_pos, if_neg, w_div, w_rem2, yk100 hC, yk125 hC, yk126 hC, yk127 hC, yk128 hC, yk129 hC, yk130 hC, yk131 hC, yk132 hC, yk133 hC, yk134 hC, yk135 hC, yk136 hC, yk137 hC, yl126 hC, yl128 hC, yl130 hC, yl131 hC, yl133 hC, yl137 hC, yr100_0 hC, yr100_1 hC, yr100_2 hC, yr100_3 hC, yr100_4 hC, yr100_5 hC, yr100_6 hC, yr100_7 hC, yr100_8 hC, yr100_9 hC, yr100_10 hC, yr125_0 hC, yr127_0 hC, yr129_0 hC, yr129_1 hC, yr129_2 hC, yr132_0 hC, yr134_0 hC, yr135_0 hC, yr135_1 hC, yr136_0 hC, yr136_1 hC, yk100 hC1, yk125 hC1, yk126 hC1, yk127 hC1, yk128 hC1, yk129 hC1, yk130 hC1, yk131 hC1, yk132 hC1, yk133 hC1, yk134 hC1, yk135 hC1, yk136 hC1, yk137 hC1, yl126 hC1, yl128 hC1, yl130 hC1, yl131 hC1, yl133 hC1, yl137 hC1, yr100_0 hC1, yr100_1 hC1, yr100_2 hC1, yr100_3 hC1, yr100_4 hC1, yr100_5 hC1, yr100_6 hC1, yr100_7 hC1, yr100_8 hC1, yr100_9 hC1, yr100_10 hC1, yr125_0 hC1, yr127_0 hC1, yr129_0 hC1, yr129_1 hC1, yr129_2 hC1, yr132_0 hC1, yr134_0 hC1, yr135_0 hC1, yr135_1 hC1, yr136_0 hC1, yr136_1 hC1, yk100 hC2, yk125 hC2, yk126 hC2, yk127 hC2, yk128 hC2, yk129 hC2, yk130 hC2, yk131 hC2, yk132 hC2, yk133 hC2, yk134 hC2, yk135 hC2, yk136 hC2, yk137 hC2, yl126 hC2, yl128 hC2, yl130 hC2, yl131 hC2, yl133 hC2, yl137 hC2, yr100_0 hC2, yr100_1 hC2, yr100_2 hC2, yr100_3 hC2, yr100_4 hC2, yr100_5 hC2, yr100_6 hC2, yr100_7 hC2, yr100_8 hC2, yr100_9 hC2, yr100_10 hC2, yr125_0 hC2, yr127_0 hC2, yr129_0 hC2, yr129_1 hC2, yr129_2 hC2, yr132_0 hC2, yr134_0 hC2, yr135_0 hC2, yr135_1 hC2, yr136_0 hC2, yr136_1 hC2, yk100 hC3, yk125 hC3, yk126 hC3, yk127 hC3, yk128 hC3, yk129 hC3, yk130 hC3, yk131 hC3, yk132 hC3, yk133 hC3, yk134 hC3, yk135 hC3, yk136 hC3, yk137 hC3, yl126 hC3, yl128 hC3, yl130 hC3, yl131 hC3, yl133 hC3, yl137 hC3, yr100_0 hC3, yr100_1 hC3, yr100_2 hC3, yr100_3 hC3, yr100_4 hC3, yr100_5 hC3, yr100_6 hC3, yr100_7 hC3, yr100_8 hC3, yr100_9 hC3, yr100_10 hC3, yr125_0 hC3, yr127_0 hC3, yr129_0 hC3, yr129_1 hC3, yr129_2 hC3, yr132_0 hC3, yr134_0 hC3, yr135_0 hC3, yr135_1 hC3, yr136_0 hC3, yr136_1 hC3, n3, f1, gp, h7]
        try rfl
      · rw [if_pos c, if_neg e]
        exact y_loadE (cd := 0) h hw f2.2.2.2.1
  · have ht := h.thr (c := 1)
    refine ⟨_, fun Q => ?_, fun Q hQ => ?_, ht.2.1.mono (by omega) (by omega), ht.2.2⟩
    · rw [if_neg c]
      by_cases c2 : x < nI 0
      · simp (disch := omega) only [fX10_load, kX10_load_12, kX10_load_0, x_cs0, x_csi, x_csr, x_csn, x_csl, x_ret_v, x_ret_t, x_ret_n, x_tl_s, x_tl_n, x_lk0, x_lk, x_rem0, x_rem_i, x_rem_r, x_rem_l, x_rem2_0, x_rem2_i, x_rem2_r, x_rem2_l, x_pick0, x_pick_c, x_st1, x_st2, x_live, x_i, x_l, x_a, x_ild, x_lld, x_rld, x_ist, x_lst, x_rst, x_inc, x_ii, x_ll, x_li, x_cmp, x_ui, x_il, x_lti, x_idiv, x_irem, x_dup_i, x_dup_r, x_pop_i, x_pop_r, x_dupx_ir, x_dup2_ir, x_ifeq, x_iceq, x_iflt, x_iclt, x_ifge, x_icge, x_ifgt, x_icgt, x_ifle, x_icle, x_ifne, x_icne, x_ifnull_r, x_ifnull_n, x_ifnonnull_r, x_ifnonnull_n, x_sw, x_vret, x_iret, x_lret, x_zret, x_zret0, x_zret1, x_rf_s, x_rf_n, x_geti, x_getr, x_puti, x_putz, x_putr, x_ial, x_ias, x_lal, x_las, x_aal, x_aas, x_aast, x_alen, x_new, x_newa, x_copy, x_min, x_abs, x_minl, x_oinit, x_throw, x_callS0, x_callS1, x_callS2, x_callS3, x_callS4, x_callV0, x_callV1, x_callV2, x_callV3, x_callV4, x_callV5, x_retI_v, x_callI0, x_callI1, x_callI2, x_retN_v, x_callSN1, x_callSN2, x_callT0, x_callT1, x_fn, x_sl0, x_sli, x_slr, x_sll, x_ar0, x_ari, x_arr, x_arl, ↓reduceIte, Nat.reduceAdd, Nat.reduceSub, Nat.reduceMul, Nat.reduceEqDiff, Nat.reduceLeDiff, Nat.reduceLT, if_true, if_false, Nat.le_refl, and_true, true_and, and_self, reduceCtorEq, or_false, false_or, or_true, true_or, Nat.zero_le, fa_lit, nI_add, w_mul, nI_ltI, nI_leI, nI_eq, nI_clamp, nI_toInt, if_pos, if_neg, w_div, w_rem2, yk100 hC, yk125 hC, yk126 hC, yk127 hC, yk128 hC, yk129 hC, yk130 hC, yk131 hC, yk132 hC, yk133 hC, yk134 hC, yk135 hC, yk136 hC, yk137 hC, yl126 hC, yl128 hC, yl130 hC, yl131 hC, yl133 hC, yl137 hC, yr100_0 hC, yr100_1 hC, yr100_2 hC, yr100_3 hC, yr100_4 hC, yr100_5 hC, yr100_6 hC, yr100_7 hC, yr100_8 hC, yr100_9 hC, yr100_10 hC, yr125_0 hC, yr127_0 hC, yr129_0 hC, yr129_1 hC, yr129_2 hC, yr132_0 hC, yr134_0 hC, yr135_0 hC, yr135_1 hC, yr136_0 hC, yr136_1 hC, c2, o_t1]
        try rfl
      · have c3 : ¬ x ≤ nI n := by
          rw [fa_le, nI_toInt (by omega)]
          rw [fa_lt, nI_toInt (by omega)] at c2
          unfold s_is at c
          omega
        simp (disch := omega) only [fX10_load, kX10_load_12, kX10_load_0, x_cs0, x_csi, x_csr, x_csn, x_csl, x_ret_v, x_ret_t, x_ret_n, x_tl_s, x_tl_n, x_lk0, x_lk, x_rem0, x_rem_i, x_rem_r, x_rem_l, x_rem2_0, x_rem2_i, x_rem2_r, x_rem2_l, x_pick0, x_pick_c, x_st1, x_st2, x_live, x_i, x_l, x_a, x_ild, x_lld, x_rld, x_ist, x_lst, x_rst, x_inc, x_ii, x_ll, x_li, x_cmp, x_ui, x_il, x_lti, x_idiv, x_irem, x_dup_i, x_dup_r, x_pop_i, x_pop_r, x_dupx_ir, x_dup2_ir, x_ifeq, x_iceq, x_iflt, x_iclt, x_ifge, x_icge, x_ifgt, x_icgt, x_ifle, x_icle, x_ifne, x_icne, x_ifnull_r, x_ifnull_n, x_ifnonnull_r, x_ifnonnull_n, x_sw, x_vret, x_iret, x_lret, x_zret, x_zret0, x_zret1, x_rf_s, x_rf_n, x_geti, x_getr, x_puti, x_putz, x_putr, x_ial, x_ias, x_lal, x_las, x_aal, x_aas, x_aast, x_alen, x_new, x_newa, x_copy, x_min, x_abs, x_minl, x_oinit, x_throw, x_callS0, x_callS1, x_callS2, x_callS3, x_callS4, x_callV0, x_callV1, x_callV2, x_callV3, x_callV4, x_callV5, x_retI_v, x_callI0, x_callI1, x_callI2, x_retN_v, x_callSN1, x_callSN2, x_callT0, x_callT1, x_fn, x_sl0, x_sli, x_slr, x_sll, x_ar0, x_ari, x_arr, x_arl, ↓reduceIte, Nat.reduceAdd, Nat.reduceSub, Nat.reduceMul, Nat.reduceEqDiff, Nat.reduceLeDiff, Nat.reduceLT, if_true, if_false, Nat.le_refl, and_true, true_and, and_self, reduceCtorEq, or_false, false_or, or_true, true_or, Nat.zero_le, fa_lit, nI_add, w_mul, nI_ltI, nI_leI, nI_eq, nI_clamp, nI_toInt, if_pos, if_neg, w_div, w_rem2, yk100 hC, yk125 hC, yk126 hC, yk127 hC, yk128 hC, yk129 hC, yk130 hC, yk131 hC, yk132 hC, yk133 hC, yk134 hC, yk135 hC, yk136 hC, yk137 hC, yl126 hC, yl128 hC, yl130 hC, yl131 hC, yl133 hC, yl137 hC, yr100_0 hC, yr100_1 hC, yr100_2 hC, yr100_3 hC, yr100_4 hC, yr100_5 hC, yr100_6 hC, yr100_7 hC, yr100_8 hC, yr100_9 hC, yr100_10 hC, yr125_0 hC, yr127_0 hC, yr129_0 hC, yr129_1 hC, yr129_2 hC, yr132_0 hC, yr134_0 hC, yr135_0 hC, yr135_1 hC, yr136_0 hC, yr136_1 hC, n3, c2, c3, o_t1]
        try rfl
    · rw [if_neg c]
      exact ht.1
end L43
