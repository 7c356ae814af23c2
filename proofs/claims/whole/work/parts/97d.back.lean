/-! UNDO -/
def s_bk (M : Nat → Nat → Int32) (Q : Nat → Int32) (c : Nat) : Nat → Nat → Int32 := va_up (va_up M 139 Q) 138 (va_up (M 138) 5 (nI c))
section B1
variable {S S' T : am_S} {a b c o p q i j k m n u t D z d c' o' : Nat} {P : Nat → Prop} {R Q : Nat → Int32} {M M' : Nat → Nat → Int32} {x y v : Int32}
/-- the present comes back; the history is shorter -/
theorem w_Ic.back (h : w_Ic S M) (hF : w_F (fun b => b = 127 ∨ w_PN S b) S S') (r127 : am_r S' 127 = am_r S 127) (hA1 : w_A S' 101) (hA2 : w_A S' 113) (hR : w_R S' 101 Q) (hW : s_W Q) (hT : w_T S' Q) (htr : w_tr S' 126 Q)
    (hc' : am_i S' 127 2 = nI c') (ho' : am_i S' 127 1 = nI o') (hc10 : c' ≤ 10) (ho10 : o' < 10) (hist : ∀ k, k < c' → ∃ b, am_r S 128 ((o' + k) % 10) = some b ∧ w_R S b (w_hr M k) ∧ s_W (w_hr M k) ∧ w_tr S' 126 (w_hr M k) ∧ w_hr M k 2 = Q 2 ∧ s_n (w_hr M k 5) ≤ s_n (Q 5)) (mono : ∀ k, k + 1 < c' → s_n (w_hr M k 5) ≤ s_n (w_hr M (k + 1) 5)) : w_Ic S' (s_bk M Q c') := by
  obtain ⟨⟨hC, hn, hs⟩, ⟨n1, n2, n3, n4⟩, -, hsn, ⟨n, b1, b2, b3, b4⟩, ⟨⟨l, l1, l2, l3, l4⟩, x2⟩⟩ := h
  have low : ∀ b, b < 152 → ¬ (138 ≤ b ∧ b ≤ 151 ∨ 101 ≤ b ∧ b < 125 ∨ b = 126 ∨ b = 127 ∨ b = 130 ∨ b = 131) → ¬ (b = 127 ∨ w_PN S b) := fun b hb h1 h2 => by
    rcases h2 with h2 | h2 | h2 | h2
    · exact h1 (Or.inr (Or.inr (Or.inr (Or.inl h2))))
    · exact h1 (Or.inr (Or.inl ⟨h2.1, Nat.lt_trans h2.2 (by decide)⟩))
    · exact h1 (Or.inr (Or.inr (Or.inl h2)))
    · exact h1 ((w_PI_low n3 h2 hb).elim Or.inl (fun q => q.elim (fun r => Or.inr (Or.inl ⟨Nat.le_trans (by decide) r.1, r.2⟩)) (fun q => Or.inr (Or.inr (Or.inr (Or.inr q))))))
  have hi : ∀ b, b < 152 → ¬ (138 ≤ b ∧ b ≤ 151 ∨ 101 ≤ b ∧ b < 125 ∨ b = 126 ∨ b = 127 ∨ b = 130 ∨ b = 131) → am_i S' b = am_i S b := fun b hb h1 => hF.i (by omega) (low b hb h1)
  have hr : ∀ b, b < 152 → ¬ (138 ≤ b ∧ b ≤ 151 ∨ 101 ≤ b ∧ b < 125 ∨ b = 126 ∨ b = 130 ∨ b = 131) → am_r S' b = am_r S b := fun b hb h1 => by
    by_cases e : b = 127
    · rw [e, r127]
    · exact hF.r (by omega) (low b hb (by omega))
  have r100 := hr 100 (by omega) (by omega)
  have r128 := hr 128 (by omega) (by omega)
  have eS : ∀ i, w_Si S' i = w_Si S i := fun i => by
    unfold w_Si
    rw [r100, r128]
  have hn2 := hF.1
  have nPN : ∀ i b, w_Si S i = some b → i ≠ 0 → i ≠ 1 → ∀ q, b ≤ q → q < b + 12 → ¬ (q = 127 ∨ w_PN S q) := fun i b hib h0 h1 q q1 q2 q3 => by
    rcases q3 with q3 | q3 | q3 | q3
    · have hb := hs.1 i b hib
      rcases hb.2.2 with e | e <;> omega
    · have hb := hs.1 i b hib
      rcases hb.2.2 with e | e <;> omega
    · have hb := hs.1 i b hib
      rcases hb.2.2 with e | e <;> omega
    · exact w_PI_sit hs n3 hib h1 q q1 q2 q3
  have sA : ∀ i b, w_Si S i = some b → w_A S' b := fun i b hib => by
    by_cases e : i = 1
    · subst e
      have : b = 113 := by cases hib; rfl
      rw [this]
      exact hA2
    · by_cases e0 : i = 0
      · subst e0
        have : b = 101 := by cases hib; rfl
        rw [this]
        exact hA1
      · exact hF.A (hs.1 i b hib).1 (hs.1 i b hib).2.1 (nPN i b hib e0 e)
  have sR : ∀ i b Q, w_Si S i = some b → i ≠ 0 → i ≠ 1 → w_R S b Q → w_R S' b Q := fun i b Q hib e0 e hQ => hF.Rw hQ (hs.1 i b hib).2.1 (nPN i b hib e0 e)
  have tN : ∀ t, am_r S 100 12 = some t → ¬ (t = 127 ∨ w_PN S t) ∧ ¬ (t + 1 = 127 ∨ w_PN S (t + 1)) := fun t ht => by
    have g5 := (hs.2.2 t ht).2.2.2.2.1
    constructor
    · rintro (q | q | q | q)
      · omega
      · omega
      · omega
      · exact (w_PI_trail hs n3 ht q).1 rfl
    · rintro (q | q | q | q)
      · omega
      · omega
      · omega
      · exact (w_PI_trail hs n3 ht q).2 rfl
  have u9 : s_bk M Q c' 139 = Q := by
    unfold s_bk
    rw [s_up_n (by omega), s_up_s]
  have u8 : ∀ j, j ≠ 5 → s_bk M Q c' 138 j = M 138 j := fun j hj => by
    unfold s_bk
    rw [s_up_s, s_up_n hj]
  have u5 : s_bk M Q c' 138 5 = nI c' := by
    unfold s_bk
    rw [s_up_s, s_up_s]
  have un : ∀ b, b ≠ 138 → b ≠ 139 → s_bk M Q c' b = M b := fun b h1 h2 => by
    unfold s_bk
    rw [s_up_n h1, s_up_n h2]
  have u3 : ∀ k, w_hr (s_bk M Q c') k = w_hr M k := fun k => by
    unfold w_hr
    rw [un 143 (by omega) (by omega)]
  refine ⟨⟨hC.fr (fun b hb => ⟨hF.k (by omega), hF.l (by omega)⟩) (fun b j hb h1 h2 h3 h4 h5 => by rw [hr b (by omega) (by omega)]), by omega, ⟨fun i b hib => ?_, fun i j b h1 h2 => ?_, fun t ht => ?_⟩⟩, ?_, ⟨c', o', ⟨u5, hc', ho', hc10, ho10⟩, fun k hkc => ?_, fun k hk2 => by rw [u3, u3]; exact mono k hk2⟩, ?_, ?_, ?_⟩
  · rw [eS] at hib
    obtain ⟨g1, g2, g3⟩ := hs.1 i b hib
    exact ⟨sA i b hib, by omega, g3⟩
  · rw [eS] at h1 h2
    exact hs.2.1 i j b h1 h2
  · rw [r100] at ht
    obtain ⟨g1, g2, g3, g4, g5, g6⟩ := hs.2.2 t ht
    exact ⟨by rw [hF.k (by omega)]; exact g1, by rw [hF.k (by omega)]; exact g2, by rw [hF.l (by omega)]; exact g3, by rw [hF.r (by omega) (tN t ht).1]; exact g4, g5, by omega⟩
  · unfold w_In
    rw [u9]
    exact ⟨hR, hW, hT, htr⟩
  · rw [u3, u9]
    obtain ⟨b, g1, g2, g3, g4, g5, g6⟩ := hist k hkc
    have hk10 : (o' + k) % 10 < 10 := Nat.mod_lt _ (by omega)
    exact ⟨b, by rw [r128]; exact g1, sR _ b _ (by rw [w_sh.ring hk10]; exact g1) (by omega) (by omega) g2, g3, g4, g5, g6⟩
  · rcases hsn with q | ⟨q, b, t, g1, g2, g3, g4, g5⟩
    · exact Or.inl ⟨by rw [u8 7 (by omega)]; exact q.1, by rw [hi 100 (by omega) (by omega)]; exact q.2⟩
    · have := (hs.2.2 t g2).2.2.2.2.2
      refine Or.inr ⟨⟨by rw [u8 7 (by omega)]; exact q.1, by rw [hi 100 (by omega) (by omega)]; exact q.2⟩, b, t, by rw [r100]; exact g1, by rw [r100]; exact g2, ?_⟩
      rw [un 142 (by omega) (by omega)]
      exact ⟨sR 2 b _ g1 (by omega) (by omega) g3, g4, fun u t' hu ht => by rw [hF.i (by omega) (tN t g2).2]; exact g5 u t' hu ht⟩
  · refine ⟨n, b1, by rw [u8 13 (by omega)]; exact b2, by rw [hi 100 (by omega) (by omega)]; exact b3, fun i hin => ?_⟩
    rw [hi 133 (by omega) (by omega), un 147 (by omega) (by omega)]
    exact b4 i hin
  · refine ⟨⟨l, l1, by rw [u8 11 (by omega)]; exact l2, by rw [hi 100 (by omega) (by omega)]; exact l3, fun i hin => ?_⟩, by rw [hi 100 (by omega) (by omega), u8 20 (by omega)]; exact x2⟩
    rw [hi 137 (by omega) (by omega), un 146 (by omega) (by omega)]
    exact l4 i hin
/-- turns do not go down along the history -/
theorem s_mono (f : Nat → Nat) : ∀ d k, (∀ i, i < k + d → f i ≤ f (i + 1)) → f k ≤ f (k + d)
  | 0, k, _ => Nat.le_refl _
  | d + 1, k, h => Nat.le_trans (s_mono f d k (fun i hi => h i (by omega))) (h (k + d) (by omega))
def u_undo (M : Nat → Nat → Int32) : Int32 × (Nat → Nat → Int32) :=
  if s_n (M 138 5) = 0 then (-nI 1, M) else (nI (s_n (M 138 5) - 1), s_bk M (s_ov0 (w_hr M (s_n (M 138 5) - 1)) (M 139)) (s_n (M 138 5) - 1))
theorem y_undo (h : w_Ic S M) : ∃ S', fX10_undo w_N [.ref 100] S = some (.inl (some (.int (u_undo M).1)), S') ∧ w_Ic S' (u_undo M).2 ∧ w_le 0 0 S S' ∧ w_kp S S' := by
  have hC := h.1.1
  have hn := h.1.2.1
  have sh := h.1.2.2
  have hA := (sh.1 0 101 rfl).1
  have hA13 := (sh.1 1 113 rfl).1
  have hT := h.2.1.2.2.1
  obtain ⟨c, o, ⟨c1, c2, c3, c4, c5⟩, hk, hm⟩ := id h.2.2.1
  have ec : s_n (M 138 5) = c := by rw [c1, w_snI (by omega)]
  unfold u_undo
  rw [ec]
  by_cases e : c = 0
  · subst e
    rw [if_pos rfl]
    refine ⟨S, ?_, h, w_le.rf, w_kp.rf⟩
    have g : fX3_bringBack w_N [.ref 127, .ref 101] S = some (.inl (some (.int 0)), S) := by
      simp (disch := omega) only [fX3_bringBack, kX3_bringBack_46, kX3_bringBack_0, x_cs0, x_csi, x_csr, x_csn, x_csl, x_ret_v, x_ret_t, x_ret_n, x_tl_s, x_tl_n, x_lk0, x_lk, x_rem0, x_rem_i, x_rem_r, x_rem_l, x_rem2_0, x_rem2_i, x_rem2_r, x_rem2_l, x_pick0, x_pick_c, x_st1, x_st2, x_live, x_i, x_l, x_a, x_ild, x_lld, x_rld, x_ist, x_lst, x_rst, x_inc, x_ii, x_ll, x_li, x_cmp, x_ui, x_il, x_lti, x_idiv, x_irem, x_dup_i, x_dup_r, x_pop_i, x_pop_r, x_dupx_ir, x_dup2_ir, x_ifeq, x_iceq, x_iflt, x_iclt, x_ifge, x_icge, x_ifgt, x_icgt, x_ifle, x_icle, x_ifne, x_icne, x_ifnull_r, x_ifnull_n, x_ifnonnull_r, x_ifnonnull_n, x_sw, x_vret, x_iret, x_lret, x_zret, x_zret0, x_zret1, x_rf_s, x_rf_n, x_geti, x_getr, x_puti, x_putz, x_putr, x_ial, x_ias, x_lal, x_las, x_aal, x_aas, x_aast, x_alen, x_new, x_newa, x_copy, x_min, x_abs, x_minl, x_oinit, x_throw, x_callS0, x_callS1, x_callS2, x_callS3, x_callS4, x_callV0, x_callV1, x_callV2, x_callV3, x_callV4, x_callV5, x_retI_v, x_callI0, x_callI1, x_callI2, x_retN_v, x_callSN1, x_callSN2, x_callT0, x_callT1, x_fn, x_sl0, x_sli, x_slr, x_sll, x_ar0, x_ari, x_arr, x_arl, ↓reduceIte, Nat.reduceAdd, Nat.reduceSub, Nat.reduceMul, Nat.reduceEqDiff, Nat.reduceLeDiff, Nat.reduceLT, if_true, if_false, Nat.le_refl, and_true, true_and, and_self, reduceCtorEq, or_false, false_or, or_true, true_or, Nat.zero_le, fa_lit, nI_add, w_mul, nI_ltI, nI_leI, nI_eq, nI_clamp, nI_toInt, if_pos, if_neg, w_div, w_rem2, yk100 hC, yk125 hC, yk126 hC, yk127 hC, yk128 hC, yk129 hC, yk130 hC, yk131 hC, yk132 hC, yk133 hC, yk134 hC, yk135 hC, yk136 hC, yk137 hC, yl126 hC, yl128 hC, yl130 hC, yl131 hC, yl133 hC, yl137 hC, yr100_0 hC, yr100_1 hC, yr100_2 hC, yr100_3 hC, yr100_4 hC, yr100_5 hC, yr100_6 hC, yr100_7 hC, yr100_8 hC, yr100_9 hC, yr100_10 hC, yr125_0 hC, yr127_0 hC, yr129_0 hC, yr129_1 hC, yr129_2 hC, yr132_0 hC, yr134_0 hC, yr135_0 hC, yr135_1 hC, yr136_0 hC, yr136_1 hC, c2]
    simp (disch := omega) only [fX10_undo, kX10_undo_0, x_cs0, x_csi, x_csr, x_csn, x_csl, x_ret_v, x_ret_t, x_ret_n, x_tl_s, x_tl_n, x_lk0, x_lk, x_rem0, x_rem_i, x_rem_r, x_rem_l, x_rem2_0, x_rem2_i, x_rem2_r, x_rem2_l, x_pick0, x_pick_c, x_st1, x_st2, x_live, x_i, x_l, x_a, x_ild, x_lld, x_rld, x_ist, x_lst, x_rst, x_inc, x_ii, x_ll, x_li, x_cmp, x_ui, x_il, x_lti, x_idiv, x_irem, x_dup_i, x_dup_r, x_pop_i, x_pop_r, x_dupx_ir, x_dup2_ir, x_ifeq, x_iceq, x_iflt, x_iclt, x_ifge, x_icge, x_ifgt, x_icgt, x_ifle, x_icle, x_ifne, x_icne, x_ifnull_r, x_ifnull_n, x_ifnonnull_r, x_ifnonnull_n, x_sw, x_vret, x_iret, x_lret, x_zret, x_zret0, x_zret1, x_rf_s, x_rf_n, x_geti, x_getr, x_puti, x_putz, x_putr, x_ial, x_ias, x_lal, x_las, x_aal, x_aas, x_aast, x_alen, x_new, x_newa, x_copy, x_min, x_abs, x_minl, x_oinit, x_throw, x_callS0, x_callS1, x_callS2, x_callS3, x_callS4, x_callV0, x_callV1, x_callV2, x_callV3, x_callV4, x_callV5, x_retI_v, x_callI0, x_callI1, x_callI2, x_retN_v, x_callSN1, x_callSN2, x_callT0, x_callT1, x_fn, x_sl0, x_sli, x_slr, x_sll, x_ar0, x_ari, x_arr, x_arl, ↓reduceIte, Nat.reduceAdd, Nat.reduceSub, Nat.reduceMul, Nat.reduceEqDiff, Nat.reduceLeDiff, Nat.reduceLT, if_true, if_false, Nat.le_refl, and_true, true_and, and_self, reduceCtorEq, or_false, false_or, or_true, true_or, Nat.zero_le, fa_lit, nI_add, w_mul, nI_ltI, nI_leI, nI_eq, nI_clamp, nI_toInt, if_pos, if_neg, w_div, w_rem2, yk100 hC, yk125 hC, yk126 hC, yk127 hC, yk128 hC, yk129 hC, yk130 hC, yk131 hC, yk132 hC, yk133 hC, yk134 hC, yk135 hC, yk136 hC, yk137 hC, yl126 hC, yl128 hC, yl130 hC, yl131 hC, yl133 hC, yl137 hC, yr100_0 hC, yr100_1 hC, yr100_2 hC, yr100_3 hC, yr100_4 hC, yr100_5 hC, yr100_6 hC, yr100_7 hC, yr100_8 hC, yr100_9 hC, yr100_10 hC, yr125_0 hC, yr127_0 hC, yr129_0 hC, yr129_1 hC, yr129_2 hC, yr132_0 hC, yr134_0 hC, yr135_0 hC, yr135_1 hC, yr136_0 hC, yr136_1 hC, g]
  · rw [if_neg e]
    dsimp only
    obtain ⟨b, g1, g2, g3, g4, g5, g6⟩ := hk (c - 1) (by omega)
    have hp : (o + (c - 1)) % 10 < 10 := Nat.mod_lt _ (by omega)
    have hsb := sh.1 (3 + (o + (c - 1)) % 10) b (by rw [w_sh.ring hp]; exact g1)
    have hb151 : 151 < b := by
      rcases hsb.2.2 with q | q <;> omega
    obtain ⟨f1, f2, f3⟩ := y_copyS hsb.1 hA g2 g3.1.B (by omega)
    generalize hS1 : w_cS7 S b 101 (w_hr M (c - 1)) = S1 at *
    have kS1 : am_k S1 = am_k S := f3.1.2.2.1
    have i1 : am_i S1 127 = am_i S 127 := f3.1.i (by omega)
    have k6 := xk0 hsb.1
    have hI1 : w_I (fun b => 101 ≤ b ∧ b < 101 + 12) S S1 := f3.1
    have hC1 := hI1.C hC
    have gb : fX3_bringBack w_N [.ref 127, .ref 101] S = some (.inl (some (.int 1)), am_putI S1 127 2 (nI (c - 1))) := by
      have em : o + c - 1 = o + (c - 1) := by omega
      have es : nI (o + c) - nI 1 = nI (o + (c - 1)) := by rw [w_subN (by omega), em]
      have e2 : nI c - nI 1 = nI (c - 1) := w_subN (by omega)
      have i12 : am_i S1 127 2 = nI c := by rw [i1]; exact c2
      simp (disch := omega) only [fX3_bringBack, kX3_bringBack_46, kX3_bringBack_0, x_cs0, x_csi, x_csr, x_csn, x_csl, x_ret_v, x_ret_t, x_ret_n, x_tl_s, x_tl_n, x_lk0, x_lk, x_rem0, x_rem_i, x_rem_r, x_rem_l, x_rem2_0, x_rem2_i, x_rem2_r, x_rem2_l, x_pick0, x_pick_c, x_st1, x_st2, x_live, x_i, x_l, x_a, x_ild, x_lld, x_rld, x_ist, x_lst, x_rst, x_inc, x_ii, x_ll, x_li, x_cmp, x_ui, x_il, x_lti, x_idiv, x_irem, x_dup_i, x_dup_r, x_pop_i, x_pop_r, x_dupx_ir, x_dup2_ir, x_ifeq, x_iceq, x_iflt, x_iclt, x_ifge, x_icge, x_ifgt, x_icgt, x_ifle, x_icle, x_ifne, x_icne, x_ifnull_r, x_ifnull_n, x_ifnonnull_r, x_ifnonnull_n, x_sw, x_vret, x_iret, x_lret, x_zret, x_zret0, x_zret1, x_rf_s, x_rf_n, x_geti, x_getr, x_puti, x_putz, x_putr, x_ial, x_ias, x_lal, x_las, x_aal, x_aas, x_aast, x_alen, x_new, x_newa, x_copy, x_min, x_abs, x_minl, x_oinit, x_throw, x_callS0, x_callS1, x_callS2, x_callS3, x_callS4, x_callV0, x_callV1, x_callV2, x_callV3, x_callV4, x_callV5, x_retI_v, x_callI0, x_callI1, x_callI2, x_retN_v, x_callSN1, x_callSN2, x_callT0, x_callT1, x_fn, x_sl0, x_sli, x_slr, x_sll, x_ar0, x_ari, x_arr, x_arl, ↓reduceIte, Nat.reduceAdd, Nat.reduceSub, Nat.reduceMul, Nat.reduceEqDiff, Nat.reduceLeDiff, Nat.reduceLT, if_true, if_false, Nat.le_refl, and_true, true_and, and_self, reduceCtorEq, or_false, false_or, or_true, true_or, Nat.zero_le, fa_lit, nI_add, w_mul, nI_ltI, nI_leI, nI_eq, nI_clamp, nI_toInt, if_pos, if_neg, w_div, w_rem2, yk100 hC, yk125 hC, yk126 hC, yk127 hC, yk128 hC, yk129 hC, yk130 hC, yk131 hC, yk132 hC, yk133 hC, yk134 hC, yk135 hC, yk136 hC, yk137 hC, yl126 hC, yl128 hC, yl130 hC, yl131 hC, yl133 hC, yl137 hC, yr100_0 hC, yr100_1 hC, yr100_2 hC, yr100_3 hC, yr100_4 hC, yr100_5 hC, yr100_6 hC, yr100_7 hC, yr100_8 hC, yr100_9 hC, yr100_10 hC, yr125_0 hC, yr127_0 hC, yr129_0 hC, yr129_1 hC, yr129_2 hC, yr132_0 hC, yr134_0 hC, yr135_0 hC, yr135_1 hC, yr136_0 hC, yr136_1 hC, yk100 hC1, yk125 hC1, yk126 hC1, yk127 hC1, yk128 hC1, yk129 hC1, yk130 hC1, yk131 hC1, yk132 hC1, yk133 hC1, yk134 hC1, yk135 hC1, yk136 hC1, yk137 hC1, yl126 hC1, yl128 hC1, yl130 hC1, yl131 hC1, yl133 hC1, yl137 hC1, yr100_0 hC1, yr100_1 hC1, yr100_2 hC1, yr100_3 hC1, yr100_4 hC1, yr100_5 hC1, yr100_6 hC1, yr100_7 hC1, yr100_8 hC1, yr100_9 hC1, yr100_10 hC1, yr125_0 hC1, yr127_0 hC1, yr129_0 hC1, yr129_1 hC1, yr129_2 hC1, yr132_0 hC1, yr134_0 hC1, yr135_0 hC1, yr135_1 hC1, yr136_0 hC1, yr136_1 hC1, x_k_I, x_l_I, x_r_I, x_j_I, x_n_I, x_z_I, x_i_Is, x_k_W, x_l_W, x_r_W, x_j_W, x_n_W, x_z_W, x_k_J, x_l_J, x_r_J, x_i_J, x_n_J, x_z_J, x_k_R, x_l_R, x_j_R, x_i_R, x_n_R, x_z_R, x_n_N, x_z_N, x_k_N, x_l_N, x_i_N, x_j_N, x_r_N, c2, c3, es, e2, g1, va_rf, f1, i12, xk0 hA]
    have I2 : w_I (fun b => b = 127) S1 (am_putI S1 127 2 (nI (c - 1))) := w_I.put rfl
    have I12 : w_I (fun b => b = 127 ∨ 101 ≤ b ∧ b < 113) S (am_putI S1 127 2 (nI (c - 1))) := (hI1.mono (fun b hb => Or.inr hb)).tr (I2.mono (fun b hb => Or.inl hb))
    have hC2 := I12.C hC
    have hT2 : w_T (am_putI S1 127 2 (nI (c - 1))) (M 139) := hT.fr hn (w_F.of I12) (by rw [I12.2.2.2.2.2.1]) (fun q hq hq2 => by
      obtain ⟨t, D, ht, hD, e⟩ := hq
      have := (hT.1 t D ht hD).1.1
      omega)
    have en2 : am_n (am_putI S1 127 2 (nI (c - 1))) = am_n S := I12.1
    have er2 : am_r (am_putI S1 127 2 (nI (c - 1))) = am_r S := I12.2.2.2.2.2.1
    have hA2 := I2.Aa (f3.A hA) (fun b h1 h2 => by omega)
    have hA23 := I12.Aa hA13 (fun b h1 h2 => by omega)
    have R2 := I2.Ra f2 (fun b h1 h2 => by omega)
    obtain ⟨S3, m1, m2, m3⟩ := y_forget hC2 (by omega) hT2
    have inT : ∀ b, w_inT (am_putI S1 127 2 (nI (c - 1))) b → w_inT S b := fun b q => by
      obtain ⟨t, D, ht, hD, e⟩ := q
      rw [er2] at hD
      exact ⟨t, D, ht, hD, e⟩
    have low : ∀ b, b ≤ 151 → ¬ w_inT (am_putI S1 127 2 (nI (c - 1))) b := fun b hb q => by
      obtain ⟨t, D, ht, hD, e⟩ := q
      have := (hT2.1 t D ht hD).1.1
      omega
    have er3 : am_r S3 = am_r S := m3.2.2.2.2.2.1.trans er2
    have i3 : am_i S3 127 = am_i (am_putI S1 127 2 (nI (c - 1))) 127 := m3.i (low 127 (by omega))
    have i32 : am_i S3 127 2 = nI (c - 1) := by rw [i3]; exact x_i_Is
    have i31 : am_i S3 127 1 = nI o := by rw [i3, x_i_I, if_pos rfl, if_neg (by omega), i1]; exact c3
    have i126 : am_i S3 126 = am_i S 126 := by rw [m3.i (low 126 (by omega)), I12.i (by omega)]
    have hC3 := m3.C hC2
    have gh := y_hcount hC3
    rw [i32] at gh
    have fIn : ∀ b, w_inT (am_putI S1 127 2 (nI (c - 1))) b → b = 127 ∨ w_PN S b := fun b hb => Or.inr (Or.inr (Or.inr (Or.inr (Or.inr (Or.inr (Or.inr (inT b hb)))))))
    have F : w_F (fun b => b = 127 ∨ w_PN S b) S S3 := ((w_F.of I12).mono (fun b hb => hb.imp id (fun q => Or.inl q))).tr ((w_F.of m3).mono fIn)
    have WQ : s_W (s_ov0 (w_hr M (c - 1)) (M 139)) := g3.eq s_ov0_eq
    have trm : ∀ Q, w_tr S 126 Q → w_tr S3 126 Q := fun Q hQ u t hu ht => by
      rw [i126]
      exact hQ u t hu ht
    refine ⟨S3, ?_, h.back F (by rw [er3]) (m3.Aa hA2 (fun b h1 h2 => low b (by omega))) (m3.Aa hA23 (fun b h1 h2 => low b (by omega))) ((m3.Ra R2 (fun b h1 h2 => low b (by omega))).eq g3 s_ov0_eq) WQ (m2 _) ((trm _ g4).eq g3 s_ov0_eq) i32 i31 (by omega) c5 (fun k hk2 => ?_) (fun k hk2 => hm k (by omega)), ((w_le.I I12).tr (w_le.I m3)).mono (by omega) (by omega), (w_kp.I I12 (fun b h1 h2 => by omega)).tr (w_kp.I m3 (fun b h1 h2 => low b (by omega)))⟩
    · simp (disch := omega) only [fX10_undo, kX10_undo_0, x_cs0, x_csi, x_csr, x_csn, x_csl, x_ret_v, x_ret_t, x_ret_n, x_tl_s, x_tl_n, x_lk0, x_lk, x_rem0, x_rem_i, x_rem_r, x_rem_l, x_rem2_0, x_rem2_i, x_rem2_r, x_rem2_l, x_pick0, x_pick_c, x_st1, x_st2, x_live, x_i, x_l, x_a, x_ild, x_lld, x_rld, x_ist, x_lst, x_rst, x_inc, x_ii, x_ll, x_li, x_cmp, x_ui, x_il, x_lti, x_idiv, x_irem, x_dup_i, x_dup_r, x_pop_i, x_pop_r, x_dupx_ir, x_dup2_ir, x_ifeq, x_iceq, x_iflt, x_iclt, x_ifge, x_icge, x_ifgt, x_icgt, x_ifle, x_icle, x_ifne, x_icne, x_ifnull_r, x_ifnull_n, x_ifnonnull_r, x_ifnonnull_n, x_sw, x_vret, x_iret, x_lret, x_zret, x_zret0, x_zret1, x_rf_s, x_rf_n, x_geti, x_getr, x_puti, x_putz, x_putr, x_ial, x_ias, x_lal, x_las, x_aal, x_aas, x_aast, x_alen, x_new, x_newa, x_copy, x_min, x_abs, x_minl, x_oinit, x_throw, x_callS0, x_callS1, x_callS2, x_callS3, x_callS4, x_callV0, x_callV1, x_callV2, x_callV3, x_callV4, x_callV5, x_retI_v, x_callI0, x_callI1, x_callI2, x_retN_v, x_callSN1, x_callSN2, x_callT0, x_callT1, x_fn, x_sl0, x_sli, x_slr, x_sll, x_ar0, x_ari, x_arr, x_arl, ↓reduceIte, Nat.reduceAdd, Nat.reduceSub, Nat.reduceMul, Nat.reduceEqDiff, Nat.reduceLeDiff, Nat.reduceLT, if_true, if_false, Nat.le_refl, and_true, true_and, and_self, reduceCtorEq, or_false, false_or, or_true, true_or, Nat.zero_le, fa_lit, nI_add, w_mul, nI_ltI, nI_leI, nI_eq, nI_clamp, nI_toInt, if_pos, if_neg, w_div, w_rem2, yk100 hC, yk125 hC, yk126 hC, yk127 hC, yk128 hC, yk129 hC, yk130 hC, yk131 hC, yk132 hC, yk133 hC, yk134 hC, yk135 hC, yk136 hC, yk137 hC, yl126 hC, yl128 hC, yl130 hC, yl131 hC, yl133 hC, yl137 hC, yr100_0 hC, yr100_1 hC, yr100_2 hC, yr100_3 hC, yr100_4 hC, yr100_5 hC, yr100_6 hC, yr100_7 hC, yr100_8 hC, yr100_9 hC, yr100_10 hC, yr125_0 hC, yr127_0 hC, yr129_0 hC, yr129_1 hC, yr129_2 hC, yr132_0 hC, yr134_0 hC, yr135_0 hC, yr135_1 hC, yr136_0 hC, yr136_1 hC, yk100 hC2, yk125 hC2, yk126 hC2, yk127 hC2, yk128 hC2, yk129 hC2, yk130 hC2, yk131 hC2, yk132 hC2, yk133 hC2, yk134 hC2, yk135 hC2, yk136 hC2, yk137 hC2, yl126 hC2, yl128 hC2, yl130 hC2, yl131 hC2, yl133 hC2, yl137 hC2, yr100_0 hC2, yr100_1 hC2, yr100_2 hC2, yr100_3 hC2, yr100_4 hC2, yr100_5 hC2, yr100_6 hC2, yr100_7 hC2, yr100_8 hC2, yr100_9 hC2, yr100_10 hC2, yr125_0 hC2, yr127_0 hC2, yr129_0 hC2, yr129_1 hC2, yr129_2 hC2, yr132_0 hC2, yr134_0 hC2, yr135_0 hC2, yr135_1 hC2, yr136_0 hC2, yr136_1 hC2, yk100 hC3, yk125 hC3, yk126 hC3, yk127 hC3, yk128 hC3, yk129 hC3, yk130 hC3, yk131 hC3, yk132 hC3, yk133 hC3, yk134 hC3, yk135 hC3, yk136 hC3, yk137 hC3, yl126 hC3, yl128 hC3, yl130 hC3, yl131 hC3, yl133 hC3, yl137 hC3, yr100_0 hC3, yr100_1 hC3, yr100_2 hC3, yr100_3 hC3, yr100_4 hC3, yr100_5 hC3, yr100_6 hC3, yr100_7 hC3, yr100_8 hC3, yr100_9 hC3, yr100_10 hC3, yr125_0 hC3, yr127_0 hC3, yr129_0 hC3, yr129_1 hC3, yr129_2 hC3, yr132_0 hC3, yr134_0 hC3, yr135_0 hC3, yr135_1 hC3, yr136_0 hC3, yr136_1 hC3, gb, m1, gh]
    · obtain ⟨b', k1, k2, k3, k4, k5, k6⟩ := hk k (by omega)
      refine ⟨b', k1, k2, k3, trm _ k4, ?_, ?_⟩
      · rw [s_ov0_eq 2 (by omega), g5]
        exact k5
      · rw [s_ov0_eq 5 (by omega)]
        have := s_mono (fun i => if i < c then s_n (w_hr M i 5) else s_n (w_hr M (c - 1) 5)) (c - 1 - k) k (fun i hi => by
          show (if i < c then _ else _) ≤ (if i + 1 < c then _ else _)
          rw [if_pos (by omega), if_pos (by omega)]
          exact hm i (by omega))
        rw [show k + (c - 1 - k) = c - 1 by omega] at this
        have this : (if k < c then s_n (w_hr M k 5) else s_n (w_hr M (c - 1) 5)) ≤ (if c - 1 < c then s_n (w_hr M (c - 1) 5) else s_n (w_hr M (c - 1) 5)) := this
        rw [if_pos (by omega), if_pos (by omega)] at this
        exact this
theorem z_undo (hZ : w_Z S) (hM : w_Mq M S) (hc : M 138 5 = nI c) (hc2 : c ≤ 10) : ∃ S', fX11_undo w_N [.ref 138] S = some (.inl (some (.int (u_undo M).1)), S') ∧ w_Mq (u_undo M).2 S' ∧ w_I w_P7 S S' := by
  have t0 : w_th 0 S (am_putI S 138 6 (nI 0)) := w_th.put
  have hZ1 := t0.Z hZ
  have hM1 := hM.th t0
  have e5 := (hM1.2.2.2.2.2 5 (by omega)).trans hc
  unfold u_undo
  rw [hc, w_snI (by omega)]
  by_cases e : c = 0
  · subst e
    rw [if_pos rfl]
    refine ⟨_, ?_, hM1, t0.P7⟩
    simp (disch := omega) only [fX11_undo, kX11_undo_0, x_cs0, x_csi, x_csr, x_csn, x_csl, x_ret_v, x_ret_t, x_ret_n, x_tl_s, x_tl_n, x_lk0, x_lk, x_rem0, x_rem_i, x_rem_r, x_rem_l, x_rem2_0, x_rem2_i, x_rem2_r, x_rem2_l, x_pick0, x_pick_c, x_st1, x_st2, x_live, x_i, x_l, x_a, x_ild, x_lld, x_rld, x_ist, x_lst, x_rst, x_inc, x_ii, x_ll, x_li, x_cmp, x_ui, x_il, x_lti, x_idiv, x_irem, x_dup_i, x_dup_r, x_pop_i, x_pop_r, x_dupx_ir, x_dup2_ir, x_ifeq, x_iceq, x_iflt, x_iclt, x_ifge, x_icge, x_ifgt, x_icgt, x_ifle, x_icle, x_ifne, x_icne, x_ifnull_r, x_ifnull_n, x_ifnonnull_r, x_ifnonnull_n, x_sw, x_vret, x_iret, x_lret, x_zret, x_zret0, x_zret1, x_rf_s, x_rf_n, x_geti, x_getr, x_puti, x_putz, x_putr, x_ial, x_ias, x_lal, x_las, x_aal, x_aas, x_aast, x_alen, x_new, x_newa, x_copy, x_min, x_abs, x_minl, x_oinit, x_throw, x_callS0, x_callS1, x_callS2, x_callS3, x_callS4, x_callV0, x_callV1, x_callV2, x_callV3, x_callV4, x_callV5, x_retI_v, x_callI0, x_callI1, x_callI2, x_retN_v, x_callSN1, x_callSN2, x_callT0, x_callT1, x_fn, x_sl0, x_sli, x_slr, x_sll, x_ar0, x_ari, x_arr, x_arl, ↓reduceIte, Nat.reduceAdd, Nat.reduceSub, Nat.reduceMul, Nat.reduceEqDiff, Nat.reduceLeDiff, Nat.reduceLT, if_true, if_false, Nat.le_refl, and_true, true_and, and_self, reduceCtorEq, or_false, false_or, or_true, true_or, Nat.zero_le, fa_lit, nI_add, w_mul, nI_ltI, nI_leI, nI_eq, nI_clamp, nI_toInt, if_pos, if_neg, w_div, w_rem2, zk138 hZ, zk139 hZ, zk140 hZ, zk141 hZ, zk142 hZ, zk143 hZ, zk144 hZ, zk145 hZ, zk146 hZ, zk147 hZ, zk148 hZ, zk149 hZ, zk150 hZ, zk151 hZ, zl139 hZ, zl140 hZ, zl141 hZ, zl142 hZ, zl143 hZ, zl144 hZ, zl145 hZ, zl146 hZ, zl147 hZ, zl148 hZ, zl149 hZ, zl150 hZ, zl151 hZ, zr138_0 hZ, zr138_1 hZ, zr138_2 hZ, zr138_3 hZ, zr138_4 hZ, zr138_8 hZ, zr138_9 hZ, zr138_10 hZ, zr138_12 hZ, zr138_24 hZ, zr138_25 hZ, zr138_26 hZ, zr148_0 hZ, zr148_1 hZ, zr148_2 hZ, zr148_3 hZ, zr148_4 hZ, zr148_5 hZ, zr148_6 hZ, zr148_7 hZ, zr148_8 hZ, zk138 hZ1, zk139 hZ1, zk140 hZ1, zk141 hZ1, zk142 hZ1, zk143 hZ1, zk144 hZ1, zk145 hZ1, zk146 hZ1, zk147 hZ1, zk148 hZ1, zk149 hZ1, zk150 hZ1, zk151 hZ1, zl139 hZ1, zl140 hZ1, zl141 hZ1, zl142 hZ1, zl143 hZ1, zl144 hZ1, zl145 hZ1, zl146 hZ1, zl147 hZ1, zl148 hZ1, zl149 hZ1, zl150 hZ1, zl151 hZ1, zr138_0 hZ1, zr138_1 hZ1, zr138_2 hZ1, zr138_3 hZ1, zr138_4 hZ1, zr138_8 hZ1, zr138_9 hZ1, zr138_10 hZ1, zr138_12 hZ1, zr138_24 hZ1, zr138_25 hZ1, zr138_26 hZ1, zr148_0 hZ1, zr148_1 hZ1, zr148_2 hZ1, zr148_3 hZ1, zr148_4 hZ1, zr148_5 hZ1, zr148_6 hZ1, zr148_7 hZ1, zr148_8 hZ1, e5]
  · rw [if_neg e]
    dsimp only
    have I2 : w_I w_P7 (am_putI S 138 6 (nI 0)) (am_putI (am_putI S 138 6 (nI 0)) 138 5 (nI (c - 1))) := w_I.put (by show 138 ≤ 138 ∧ 138 ≤ 150; omega)
    have hZ2 := I2.Z hZ1
    have g := z_copy (S := am_putI (am_putI S 138 6 (nI 0)) 138 5 (nI (c - 1))) (a := 143) (b := 139) (p := c - 1) (q := 0) (zk143 hZ2) (zk139 hZ2) (zl143 hZ2) (zl139 hZ2) (by omega) (by omega) (by omega) (by omega) (by omega)
    have j139 : am_i (am_putI (am_putI S 138 6 (nI 0)) 138 5 (nI (c - 1))) 139 = M 139 := by
      funext q
      rw [x_i_I, if_neg (by omega), hM1.1]
    have j143 : am_i (am_putI (am_putI S 138 6 (nI 0)) 138 5 (nI (c - 1))) 143 = M 143 := by
      funext q
      rw [x_i_I, if_neg (by omega), hM1.2.2.1]
    have eq : w_cp (am_putI (am_putI S 138 6 (nI 0)) 138 5 (nI (c - 1))) 143 (c - 1) 139 0 3934 = am_row (am_putI (am_putI S 138 6 (nI 0)) 138 5 (nI (c - 1))) 139 (s_ov0 (w_hr M (c - 1)) (M 139)) := by
      unfold w_cp
      congr 1
      funext q
      unfold s_ov0 w_hr
      rw [j139, j143, Nat.mul_zero, Nat.zero_add, Nat.sub_zero]
      by_cases g : q < 3934
      · rw [if_pos g, if_pos g, if_pos (by omega)]
      · rw [if_neg g, if_neg (by omega)]
    rw [eq] at g
    have es : nI c - nI 1 = nI (c - 1) := w_subN (by omega)
    have i25 : am_i (am_putI (am_putI S 138 6 (nI 0)) 138 5 (nI (c - 1))) 138 5 = nI (c - 1) := x_i_Is
    have i35 : am_i (am_row (am_putI (am_putI S 138 6 (nI 0)) 138 5 (nI (c - 1))) 139 (s_ov0 (w_hr M (c - 1)) (M 139))) 138 5 = nI (c - 1) := by rw [x_rown (by omega)]; exact x_i_Is
    obtain ⟨h1, h2, h3, h4, h5, h6⟩ := hM1
    refine ⟨am_row (am_putI (am_putI S 138 6 (nI 0)) 138 5 (nI (c - 1))) 139 (s_ov0 (w_hr M (c - 1)) (M 139)), ?_, ⟨?_, ?_, ?_, ?_, ?_, fun j hj => ?_⟩, t0.P7.tr (I2.tr (w_I.row (by show 138 ≤ 139 ∧ 139 ≤ 150; omega)))⟩
    · simp (disch := omega) only [fX11_undo, kX11_undo_0, x_cs0, x_csi, x_csr, x_csn, x_csl, x_ret_v, x_ret_t, x_ret_n, x_tl_s, x_tl_n, x_lk0, x_lk, x_rem0, x_rem_i, x_rem_r, x_rem_l, x_rem2_0, x_rem2_i, x_rem2_r, x_rem2_l, x_pick0, x_pick_c, x_st1, x_st2, x_live, x_i, x_l, x_a, x_ild, x_lld, x_rld, x_ist, x_lst, x_rst, x_inc, x_ii, x_ll, x_li, x_cmp, x_ui, x_il, x_lti, x_idiv, x_irem, x_dup_i, x_dup_r, x_pop_i, x_pop_r, x_dupx_ir, x_dup2_ir, x_ifeq, x_iceq, x_iflt, x_iclt, x_ifge, x_icge, x_ifgt, x_icgt, x_ifle, x_icle, x_ifne, x_icne, x_ifnull_r, x_ifnull_n, x_ifnonnull_r, x_ifnonnull_n, x_sw, x_vret, x_iret, x_lret, x_zret, x_zret0, x_zret1, x_rf_s, x_rf_n, x_geti, x_getr, x_puti, x_putz, x_putr, x_ial, x_ias, x_lal, x_las, x_aal, x_aas, x_aast, x_alen, x_new, x_newa, x_copy, x_min, x_abs, x_minl, x_oinit, x_throw, x_callS0, x_callS1, x_callS2, x_callS3, x_callS4, x_callV0, x_callV1, x_callV2, x_callV3, x_callV4, x_callV5, x_retI_v, x_callI0, x_callI1, x_callI2, x_retN_v, x_callSN1, x_callSN2, x_callT0, x_callT1, x_fn, x_sl0, x_sli, x_slr, x_sll, x_ar0, x_ari, x_arr, x_arl, ↓reduceIte, Nat.reduceAdd, Nat.reduceSub, Nat.reduceMul, Nat.reduceEqDiff, Nat.reduceLeDiff, Nat.reduceLT, if_true, if_false, Nat.le_refl, and_true, true_and, and_self, reduceCtorEq, or_false, false_or, or_true, true_or, Nat.zero_le, fa_lit, nI_add, w_mul, nI_ltI, nI_leI, nI_eq, nI_clamp, nI_toInt, if_pos, if_neg, w_div, w_rem2, zk138 hZ, zk139 hZ, zk140 hZ, zk141 hZ, zk142 hZ, zk143 hZ, zk144 hZ, zk145 hZ, zk146 hZ, zk147 hZ, zk148 hZ, zk149 hZ, zk150 hZ, zk151 hZ, zl139 hZ, zl140 hZ, zl141 hZ, zl142 hZ, zl143 hZ, zl144 hZ, zl145 hZ, zl146 hZ, zl147 hZ, zl148 hZ, zl149 hZ, zl150 hZ, zl151 hZ, zr138_0 hZ, zr138_1 hZ, zr138_2 hZ, zr138_3 hZ, zr138_4 hZ, zr138_8 hZ, zr138_9 hZ, zr138_10 hZ, zr138_12 hZ, zr138_24 hZ, zr138_25 hZ, zr138_26 hZ, zr148_0 hZ, zr148_1 hZ, zr148_2 hZ, zr148_3 hZ, zr148_4 hZ, zr148_5 hZ, zr148_6 hZ, zr148_7 hZ, zr148_8 hZ, zk138 hZ1, zk139 hZ1, zk140 hZ1, zk141 hZ1, zk142 hZ1, zk143 hZ1, zk144 hZ1, zk145 hZ1, zk146 hZ1, zk147 hZ1, zk148 hZ1, zk149 hZ1, zk150 hZ1, zk151 hZ1, zl139 hZ1, zl140 hZ1, zl141 hZ1, zl142 hZ1, zl143 hZ1, zl144 hZ1, zl145 hZ1, zl146 hZ1, zl147 hZ1, zl148 hZ1, zl149 hZ1, zl150 hZ1, zl151 hZ1, zr138_0 hZ1, zr138_1 hZ1, zr138_2 hZ1, zr138_3 hZ1, zr138_4 hZ1, zr138_8 hZ1, zr138_9 hZ1, zr138_10 hZ1, zr138_12 hZ1, zr138_24 hZ1, zr138_25 hZ1, zr138_26 hZ1, zr148_0 hZ1, zr148_1 hZ1, zr148_2 hZ1, zr148_3 hZ1, zr148_4 hZ1, zr148_5 hZ1, zr148_6 hZ1, zr148_7 hZ1, zr148_8 hZ1, zk138 hZ2, zk139 hZ2, zk140 hZ2, zk141 hZ2, zk142 hZ2, zk143 hZ2, zk144 hZ2, zk145 hZ2, zk146 hZ2, zk147 hZ2, zk148 hZ2, zk149 hZ2, zk150 hZ2, zk151 hZ2, zl139 hZ2, zl140 hZ2, zl141 hZ2, zl142 hZ2, zl143 hZ2, zl144 hZ2, zl145 hZ2, zl146 hZ2, zl147 hZ2, zl148 hZ2, zl149 hZ2, zl150 hZ2, zl151 hZ2, zr138_0 hZ2, zr138_1 hZ2, zr138_2 hZ2, zr138_3 hZ2, zr138_4 hZ2, zr138_8 hZ2, zr138_9 hZ2, zr138_10 hZ2, zr138_12 hZ2, zr138_24 hZ2, zr138_25 hZ2, zr138_26 hZ2, zr148_0 hZ2, zr148_1 hZ2, zr148_2 hZ2, zr148_3 hZ2, zr148_4 hZ2, zr148_5 hZ2, zr148_6 hZ2, zr148_7 hZ2, zr148_8 hZ2, x_k_W, x_l_W, x_r_W, e5, es, i25, g, i35]
    · unfold s_bk
      rw [x_rows, s_up_n (by omega), s_up_s]
    · unfold s_bk
      rw [x_rown (by omega), s_up_n (by omega), s_up_n (by omega), ← h2]
      funext q
      rw [x_i_I, if_neg (by omega)]
    · unfold s_bk
      rw [x_rown (by omega), s_up_n (by omega), s_up_n (by omega), ← h3]
      funext q
      rw [x_i_I, if_neg (by omega)]
    · unfold s_bk
      rw [x_rown (by omega), s_up_n (by omega), s_up_n (by omega), ← h4]
      funext q
      rw [x_i_I, if_neg (by omega)]
    · unfold s_bk
      rw [x_rown (by omega), s_up_n (by omega), s_up_n (by omega), ← h5]
      funext q
      rw [x_i_I, if_neg (by omega)]
    · unfold s_bk
      rw [x_rown (by omega), s_up_s, x_i_I, if_pos rfl, s_up]
      by_cases g : j = 5
      · rw [if_pos g, if_pos g]
      · rw [if_neg g, if_neg g]
        exact h6 j hj
end B1
