/-! TURNS PASS IN THE PRESENT -/
def s_ps (k : Nat) (R : Nat → Int32) : Nat → Int32 := s_it (fun _ Q => s_pass Q) k 0 R
def u_pass (M : Nat → Nat → Int32) (x : Int32) : (Nat × Int32) × (Nat → Nat → Int32) :=
  if s_rg x 1 60 then (if s_n (M 139 5) + s_n x ≤ 500 then ((0, s_ps (s_n x) (M 139) 7 - M 139 7), va_up (s_rec M) 139 (s_ps (s_n x) (M 139))) else ((0, -nI 2), M)) else ((1, 0), M)
theorem w_subN {k m : Nat} (h : k ≤ m) : nI m - nI k = nI (m - k) := by
  have e : nI m = nI (m - k) + nI k := by rw [nI_add, Nat.sub_add_cancel h]
  rw [e, Int32.add_sub_cancel]
theorem s_rg_n {x : Int32} {l h : Nat} (c : s_rg x l h) (hh : h < 2 ^ 31) : ∃ k, x = nI k ∧ l ≤ k ∧ k ≤ h := by
  refine ⟨x.toInt.toNat, ?_, by have := c.1; have := c.2; omega, by have := c.1; have := c.2; omega⟩
  rw [fa_eq, nI_toInt (by have := c.2; omega)]
  have := c.1
  omega
section Y24
variable {S S' T : am_S} {a b c o p q i j k m n u t D d cl : Nat} {P : Nat → Prop} {R R' Q : Nat → Int32} {M M' : Nat → Nat → Int32} {x y z v : Int32}
theorem y_trail (hC : w_C S) (hA : w_A S 101) (hR : w_R S 101 R) (hV : s_V R) (ht : s_n (R 5) < 500) : ∃ S', fX9_record w_N [.ref 125, .ref 101] S = some (.inl none, S') ∧ w_I (fun b => b = 126) S S' ∧ ∀ j, am_i S' 126 j = if 6 * s_n (R 5) ≤ j ∧ j < 6 * s_n (R 5) + s_n (R 2) then nI 100 * R (12 + 4 * (j - 6 * s_n (R 5)) + 1) + R (12 + 4 * (j - 6 * s_n (R 5)) + 0) else am_i S 126 j := by
  have b2 := hV.B.2.1.2
  have w5 := hV.B.2.2.2.2.2.2.1
  have e5 : am_i S 101 4 = nI (s_n (R 5)) := hR.1.2.2.2.2.1.trans w5.1
  have ec := y_count (hR.tU hA hV.B)
  obtain ⟨T, f1, f2, -⟩ := w_genL (σ := Unit) (body := bX9_record_10 w_N) (lvf := fun i => [(0, .ref 125), (1, .ref 101), (2, .int (nI (s_n (R 2)))), (3, .int (nI i))]) (n := s_n (R 2)) (g := fun _ s => s) (P := fun i T _ => w_I (fun b => b = 126) S T ∧ ∀ j, am_i T 126 j = if 6 * s_n (R 5) ≤ j ∧ j < 6 * s_n (R 5) + i then nI 100 * R (12 + 4 * (j - 6 * s_n (R 5)) + 1) + R (12 + 4 * (j - 6 * s_n (R 5)) + 0) else am_i S 126 j) (Fr := fun _ _ => True) (res := fun T _ => some (.inl none, T)) (fun _ => trivial) (fun _ _ _ _ _ => trivial)
    (fun i T s r hi hP => by
      obtain ⟨p1, p2⟩ := hP
      have hA1 := p1.Aa hA (fun b h1 h2 => by omega)
      have hR1 := p1.Ra hR (fun b h1 h2 => by omega)
      have hC1 := p1.C hC
      have g0 := y_U hA1 hR1 hV.B hi (f := 0) (by omega)
      have g1 := y_U hA1 hR1 hV.B hi (f := 1) (by omega)
      have e5' : am_i T 101 4 = nI (s_n (R 5)) := by rw [p1.i (by omega)]; exact e5
      refine ⟨am_putI T 126 (6 * s_n (R 5) + i) (nI 100 * R (12 + 4 * i + 1) + R (12 + 4 * i + 0)), ?_, ⟨p1.tr (w_I.put rfl), fun j => ?_⟩, trivial⟩
      · have em : s_n (R 5) * 6 + i = 6 * s_n (R 5) + i := by omega
        simp (disch := omega) only [bX9_record_10, kX9_record_69, x_cs0, x_csi, x_csr, x_csn, x_csl, x_ret_v, x_ret_t, x_ret_n, x_tl_s, x_tl_n, x_lk0, x_lk, x_rem0, x_rem_i, x_rem_r, x_rem_l, x_rem2_0, x_rem2_i, x_rem2_r, x_rem2_l, x_pick0, x_pick_c, x_st1, x_st2, x_live, x_i, x_l, x_a, x_ild, x_lld, x_rld, x_ist, x_lst, x_rst, x_inc, x_ii, x_ll, x_li, x_cmp, x_ui, x_il, x_lti, x_idiv, x_irem, x_dup_i, x_dup_r, x_pop_i, x_pop_r, x_dupx_ir, x_dup2_ir, x_ifeq, x_iceq, x_iflt, x_iclt, x_ifge, x_icge, x_ifgt, x_icgt, x_ifle, x_icle, x_ifne, x_icne, x_ifnull_r, x_ifnull_n, x_ifnonnull_r, x_ifnonnull_n, x_sw, x_vret, x_iret, x_lret, x_zret, x_zret0, x_zret1, x_rf_s, x_rf_n, x_geti, x_getr, x_puti, x_putz, x_putr, x_ial, x_ias, x_lal, x_las, x_aal, x_aas, x_aast, x_alen, x_new, x_newa, x_copy, x_min, x_abs, x_minl, x_oinit, x_throw, x_callS0, x_callS1, x_callS2, x_callS3, x_callS4, x_callV0, x_callV1, x_callV2, x_callV3, x_callV4, x_callV5, x_retI_v, x_callI0, x_callI1, x_callI2, x_retN_v, x_callSN1, x_callSN2, x_callT0, x_callT1, x_fn, x_sl0, x_sli, x_slr, x_sll, x_ar0, x_ari, x_arr, x_arl, ↓reduceIte, Nat.reduceAdd, Nat.reduceSub, Nat.reduceMul, Nat.reduceEqDiff, Nat.reduceLeDiff, Nat.reduceLT, if_true, if_false, Nat.le_refl, and_true, true_and, and_self, reduceCtorEq, or_false, false_or, or_true, true_or, Nat.zero_le, fa_lit, nI_add, w_mul, nI_ltI, nI_leI, nI_eq, nI_clamp, nI_toInt, if_pos, if_neg, w_div, w_rem2, xk0 hA1, xk1 hA1, xl1 hA1, xk2 hA1, xk3 hA1, xl3 hA1, xr2_2 hA1, xi2_0 hA1, xi2_1 hA1, xk4 hA1, xk5 hA1, xl5 hA1, xr4_2 hA1, xi4_0 hA1, xi4_1 hA1, xk6 hA1, xk7 hA1, xl7 hA1, xr6_2 hA1, xi6_0 hA1, xi6_1 hA1, xk8 hA1, xk9 hA1, xl9 hA1, xr8_2 hA1, xi8_0 hA1, xi8_1 hA1, xk10 hA1, xk11 hA1, xl11 hA1, xr10_2 hA1, xi10_0 hA1, xi10_1 hA1, xr0_7 hA1, xr0_8 hA1, xr0_9 hA1, xr0_10 hA1, xr0_11 hA1, xr0_12 hA1, yk100 hC1, yk125 hC1, yk126 hC1, yk127 hC1, yk128 hC1, yk129 hC1, yk130 hC1, yk131 hC1, yk132 hC1, yk133 hC1, yk134 hC1, yk135 hC1, yk136 hC1, yk137 hC1, yl126 hC1, yl128 hC1, yl130 hC1, yl131 hC1, yl133 hC1, yl137 hC1, yr100_0 hC1, yr100_1 hC1, yr100_2 hC1, yr100_3 hC1, yr100_4 hC1, yr100_5 hC1, yr100_6 hC1, yr100_7 hC1, yr100_8 hC1, yr100_9 hC1, yr100_10 hC1, yr125_0 hC1, yr127_0 hC1, yr129_0 hC1, yr129_1 hC1, yr129_2 hC1, yr132_0 hC1, yr134_0 hC1, yr135_0 hC1, yr135_1 hC1, yr136_0 hC1, yr136_1 hC1, e5', g0, g1, y_nameOf, em]
      · rw [x_i_I, if_pos rfl]
        by_cases e : j = 6 * s_n (R 5) + i
        · rw [if_pos e, if_pos (by omega), e, Nat.add_sub_cancel_left]
        · rw [if_neg e, p2 j]
          by_cases g : 6 * s_n (R 5) ≤ j ∧ j < 6 * s_n (R 5) + i
          · rw [if_pos g, if_pos (by omega)]
          · rw [if_neg g, if_neg (by omega)])
    (fun T s r hP => by simp (disch := omega) only [bX9_record_10, x_cs0, x_csi, x_csr, x_csn, x_csl, x_ret_v, x_ret_t, x_ret_n, x_tl_s, x_tl_n, x_lk0, x_lk, x_rem0, x_rem_i, x_rem_r, x_rem_l, x_rem2_0, x_rem2_i, x_rem2_r, x_rem2_l, x_pick0, x_pick_c, x_st1, x_st2, x_live, x_i, x_l, x_a, x_ild, x_lld, x_rld, x_ist, x_lst, x_rst, x_inc, x_ii, x_ll, x_li, x_cmp, x_ui, x_il, x_lti, x_idiv, x_irem, x_dup_i, x_dup_r, x_pop_i, x_pop_r, x_dupx_ir, x_dup2_ir, x_ifeq, x_iceq, x_iflt, x_iclt, x_ifge, x_icge, x_ifgt, x_icgt, x_ifle, x_icle, x_ifne, x_icne, x_ifnull_r, x_ifnull_n, x_ifnonnull_r, x_ifnonnull_n, x_sw, x_vret, x_iret, x_lret, x_zret, x_zret0, x_zret1, x_rf_s, x_rf_n, x_geti, x_getr, x_puti, x_putz, x_putr, x_ial, x_ias, x_lal, x_las, x_aal, x_aas, x_aast, x_alen, x_new, x_newa, x_copy, x_min, x_abs, x_minl, x_oinit, x_throw, x_callS0, x_callS1, x_callS2, x_callS3, x_callS4, x_callV0, x_callV1, x_callV2, x_callV3, x_callV4, x_callV5, x_retI_v, x_callI0, x_callI1, x_callI2, x_retN_v, x_callSN1, x_callSN2, x_callT0, x_callT1, x_fn, x_sl0, x_sli, x_slr, x_sll, x_ar0, x_ari, x_arr, x_arl, ↓reduceIte, Nat.reduceAdd, Nat.reduceSub, Nat.reduceMul, Nat.reduceEqDiff, Nat.reduceLeDiff, Nat.reduceLT, if_true, if_false, Nat.le_refl, and_true, true_and, and_self, reduceCtorEq, or_false, false_or, or_true, true_or, Nat.zero_le, fa_lit, nI_add, w_mul, nI_ltI, nI_leI, nI_eq, nI_clamp, nI_toInt, if_pos, if_neg, w_div, w_rem2]) w_N 0 S () (by show s_n (R 2) - 0 < 5000; omega) (Nat.zero_le _) ⟨w_I.rf, fun j => by rw [if_neg (by omega)]⟩
  refine ⟨T, ?_, f2.1, f2.2⟩
  rw [← f1]
  simp (disch := omega) only [fX9_record, kX9_record_0, kX9_record_10, x_cs0, x_csi, x_csr, x_csn, x_csl, x_ret_v, x_ret_t, x_ret_n, x_tl_s, x_tl_n, x_lk0, x_lk, x_rem0, x_rem_i, x_rem_r, x_rem_l, x_rem2_0, x_rem2_i, x_rem2_r, x_rem2_l, x_pick0, x_pick_c, x_st1, x_st2, x_live, x_i, x_l, x_a, x_ild, x_lld, x_rld, x_ist, x_lst, x_rst, x_inc, x_ii, x_ll, x_li, x_cmp, x_ui, x_il, x_lti, x_idiv, x_irem, x_dup_i, x_dup_r, x_pop_i, x_pop_r, x_dupx_ir, x_dup2_ir, x_ifeq, x_iceq, x_iflt, x_iclt, x_ifge, x_icge, x_ifgt, x_icgt, x_ifle, x_icle, x_ifne, x_icne, x_ifnull_r, x_ifnull_n, x_ifnonnull_r, x_ifnonnull_n, x_sw, x_vret, x_iret, x_lret, x_zret, x_zret0, x_zret1, x_rf_s, x_rf_n, x_geti, x_getr, x_puti, x_putz, x_putr, x_ial, x_ias, x_lal, x_las, x_aal, x_aas, x_aast, x_alen, x_new, x_newa, x_copy, x_min, x_abs, x_minl, x_oinit, x_throw, x_callS0, x_callS1, x_callS2, x_callS3, x_callS4, x_callV0, x_callV1, x_callV2, x_callV3, x_callV4, x_callV5, x_retI_v, x_callI0, x_callI1, x_callI2, x_retN_v, x_callSN1, x_callSN2, x_callT0, x_callT1, x_fn, x_sl0, x_sli, x_slr, x_sll, x_ar0, x_ari, x_arr, x_arl, ↓reduceIte, Nat.reduceAdd, Nat.reduceSub, Nat.reduceMul, Nat.reduceEqDiff, Nat.reduceLeDiff, Nat.reduceLT, if_true, if_false, Nat.le_refl, and_true, true_and, and_self, reduceCtorEq, or_false, false_or, or_true, true_or, Nat.zero_le, fa_lit, nI_add, w_mul, nI_ltI, nI_leI, nI_eq, nI_clamp, nI_toInt, if_pos, if_neg, w_div, w_rem2, xk0 hA, xk1 hA, xl1 hA, xk2 hA, xk3 hA, xl3 hA, xr2_2 hA, xi2_0 hA, xi2_1 hA, xk4 hA, xk5 hA, xl5 hA, xr4_2 hA, xi4_0 hA, xi4_1 hA, xk6 hA, xk7 hA, xl7 hA, xr6_2 hA, xi6_0 hA, xi6_1 hA, xk8 hA, xk9 hA, xl9 hA, xr8_2 hA, xi8_0 hA, xi8_1 hA, xk10 hA, xk11 hA, xl11 hA, xr10_2 hA, xi10_0 hA, xi10_1 hA, xr0_7 hA, xr0_8 hA, xr0_9 hA, xr0_10 hA, xr0_11 hA, xr0_12 hA, ec]
theorem w_Ic.wQ (h : w_Ic S M) : w_Q S 101 (M 139) := ⟨⟨h.1.1, h.1.2.1⟩, ⟨(h.1.2.2.1 0 101 rfl).1, (h.1.2.2.1 0 101 rfl).1⟩, ⟨h.2.1.1, h.2.1.2.1.1⟩, M 139, h.2.1.1, h.2.1.2.1.1.B, h.2.1.2.2.1, s_wl.rf⟩
/-- a turn of the present, with its trail -/
theorem y_turn (h : w_Ic S M) (ht : s_n (M 139 5) < 500) : ∃ S1 S', fX9_record w_N [.ref 125, .ref 101] S = some (.inl none, S1) ∧ fX1_passTurn w_N [.ref 132, .ref 101] S1 = some (.inl none, S') ∧ w_Ic S' (va_up M 139 (s_pass (M 139))) ∧ w_le 0 0 S S' ∧ w_kp S S' ∧ w_C S1 ∧ w_A S1 101 := by
  have hQ := h.wQ
  have hn := h.1.2.1
  have sh := h.1.2.2
  have hW := h.2.1.2.1
  have hV := hW.1
  have hT := h.2.1.2.2.1
  have b2 := hV.B.2.1.2
  obtain ⟨S1, f1, f2, f3⟩ := y_trail h.1.1 hQ.2.1.1 hQ.2.2.1.1 hV ht
  have hA1 := f2.Aa hQ.2.1.1 (fun b h1 h2 => by omega)
  have hA13 := f2.Aa (sh.1 1 113 rfl).1 (fun b h1 h2 => by omega)
  have hR1 := f2.Ra hQ.2.2.1.1 (fun b h1 h2 => by omega)
  have hC1 := f2.C h.1.1
  have en : am_n S1 = am_n S := f2.1
  have er : am_r S1 = am_r S := f2.2.2.2.2.2.1
  have hT1 : w_T S1 (M 139) := hT.fr hn (w_F.of f2) (by rw [er]) (fun q hq hq2 => by
    obtain ⟨t, D, ht, hD, e⟩ := hq
    have := (hT.1 t D ht hD).1.1
    omega)
  have Q1 : w_Q S1 101 (M 139) := ⟨⟨hC1, by omega⟩, ⟨hA1, hA1⟩, ⟨hR1, hV⟩, M 139, hR1, hV.B, hT1, s_wl.rf⟩
  obtain ⟨S2, k1, k2, k3⟩ := y_passTurn Q1 (Or.inl rfl) (by omega)
  have V2 := hV.turn (by omega)
  have P2 := s_pass_pr hV ht
  have inT : ∀ b, w_inT S1 b → w_inT S b := fun b q => by
    obtain ⟨t, D, ht, hD, e⟩ := q
    rw [er] at hD
    exact ⟨t, D, ht, hD, e⟩
  have low : ∀ b, b ≤ 151 → ¬ w_inT S1 b := fun b hb q => by
    obtain ⟨t, D, ht, hD, e⟩ := q
    have := (hT1.1 t D ht hD).1.1
    omega
  have F2 := k3.F
  have i126 : am_i S2 126 = am_i S1 126 := F2.i (by omega) (fun q => by
    rcases q with q | q | q | q
    · omega
    · omega
    · omega
    · exact low 126 (by omega) q)
  have e5 : s_n (s_pass (M 139) 5) = s_n (M 139 5) + 1 := by rw [V2.2.2, w_snI (by omega)]
  obtain ⟨R0, r1, r2, r3, r4⟩ := k2.2.2.2
  have hT2 : w_T S2 (s_pass (M 139)) := (r4.sy).T (s_BWH r2.WH) r3
  refine ⟨S1, S2, f1, k1, ?_, ((w_le.I f2).tr (w_le.O k3)).mono (by omega) (by omega), (w_kp.I f2 (fun b h1 h2 => by omega)).tr (w_kp.O k3 (Or.inl rfl) (by omega) hT1), hC1, hA1⟩
  refine h.now (((w_F.of f2).mono (fun b hb => Or.inr (Or.inl hb))).tr (F2.mono (fun b hb => ?_))) k2.2.1.2 (F2.A hA13 (by omega) (fun b h1 h2 q => ?_)) k2.2.2.1.1 ⟨V2.1, P2.1, hW.2.2.turn hV (by omega)⟩ hT2 (fun u t hu ht2 => ?_) P2.2.2 (by omega) (fun j hj => ?_)
  · rcases hb with q | q | q | q
    · exact Or.inl (by omega)
    · exact Or.inr (Or.inr (Or.inr (Or.inr (Or.inl q))))
    · exact Or.inr (Or.inr (Or.inr (Or.inr (Or.inr (Or.inl q)))))
    · exact Or.inr (Or.inr (Or.inr (Or.inr (Or.inr (Or.inr (inT b q))))))
  · rcases q with q | q | q | q
    · omega
    · omega
    · omega
    · exact low b (by omega) q
  · rw [P2.2.2] at hu
    rw [i126, f3, P2.2.1 u t (by omega) (by omega)]
    by_cases e : t = s_n (M 139 5)
    · rw [if_pos (by omega), e, hW.2.1.2 u hu, show 6 * s_n (M 139 5) + u - 6 * s_n (M 139 5) = u by omega]
    · rw [if_neg (by omega)]
      exact h.2.1.2.2.2 u t hu (by omega)
  · rw [i126, f3, if_neg (by omega)]
theorem s_it_s {σ : Type} {g : σ → σ} : ∀ k i (s : σ), s_it (fun _ => g) k i s = s_it (fun _ => g) k 0 s
  | 0, _, _ => rfl
  | k + 1, i, s => by
    rw [s_it, s_it, s_it_s k (i + 1), s_it_s k (0 + 1)]
theorem y_pass (h : w_Ic S M) : ∃ S', fX10_pass w_N [.ref 100, .int x] S = some (o_q (u_pass M x).1.1 (u_pass M x).1.2, S') ∧ w_Ic S' (u_pass M x).2 ∧ w_le 13 959 S S' ∧ w_kp S S' := by
  have hL := h.L
  have hC := h.1.1
  have hA := hL.2.1
  have hV := hL.2.2.2
  have w5 := hV.B.2.2.2.2.2.2.1
  have b5 := w5.2
  have e5 : am_i S 101 4 = nI (s_n (M 139 5)) := hL.2.2.1.1.2.2.2.2.1.trans w5.1
  unfold u_pass
  by_cases c1 : s_rg x 1 60
  · rw [if_pos c1]
    have g1 := y_needTurns1 (S := S) c1 (by omega)
    obtain ⟨k, rfl, k1, k2⟩ := s_rg_n c1 (by omega)
    rw [w_snI (by omega)]
    have es := w_subN (k := k) (m := 500) (by omega)
    by_cases c2 : s_n (M 139 5) + k ≤ 500
    · rw [if_pos c2]
      obtain ⟨S1, f1, f2, f3, f4⟩ := y_rec h
      have hL1 := f2.L
      rw [s_rec_139] at hL1
      have hA1 := hL1.2.1
      have hC1 := hL1.1
      have b7 := hV.B.2.2.2.2.1
      have ec := y_count (hL1.2.2.1.tE hA1 hV.B)
      have u0 : va_up (s_rec M) 139 (M 139) = s_rec M := by
        funext b
        rw [s_up]
        by_cases e : b = 139
        · rw [if_pos e, e, s_rec_139]
        · rw [if_neg e]
      obtain ⟨T, g2, g3, g4⟩ := w_genL (body := bX10_pass_47 w_N) (lvf := fun i => [(0, .ref 100), (1, .int (nI k)), (2, .int (M 139 7)), (3, .int (nI i))]) (n := k) (g := fun _ Q => s_pass Q) (P := fun i T Q => w_Ic T (va_up (s_rec M) 139 Q) ∧ s_n (Q 5) = s_n (M 139 5) + i) (Fr := fun A B => w_le 0 0 A B ∧ w_kp A B) (res := fun T Q => some (.inl (some (.int (Q 7 - M 139 7))), T))
        (fun _ => ⟨w_le.rf, w_kp.rf⟩) (fun _ _ _ h1 h2 => ⟨h1.1.tr h2.1, h1.2.tr h2.2⟩)
        (fun i T Q r hi hP => by
          obtain ⟨p1, p2⟩ := hP
          have i9 : va_up (s_rec M) 139 Q 139 = Q := s_up_s
          obtain ⟨T1, T2, m1, m2, m3, m4, m5, m6, m7⟩ := y_turn p1 (by rw [i9]; omega)
          rw [i9, w_upup (h := Q) (f := Q)] at m3
          have hCT := p1.1.1
          have VQ := p1.2.1.2.1.1
          rw [i9] at VQ
          refine ⟨T2, ?_, ⟨m3, by rw [(VQ.turn (by omega)).2.2, w_snI (by omega)]; omega⟩, m4, m5⟩
          simp (disch := omega) only [bX10_pass_47, x_cs0, x_csi, x_csr, x_csn, x_csl, x_ret_v, x_ret_t, x_ret_n, x_tl_s, x_tl_n, x_lk0, x_lk, x_rem0, x_rem_i, x_rem_r, x_rem_l, x_rem2_0, x_rem2_i, x_rem2_r, x_rem2_l, x_pick0, x_pick_c, x_st1, x_st2, x_live, x_i, x_l, x_a, x_ild, x_lld, x_rld, x_ist, x_lst, x_rst, x_inc, x_ii, x_ll, x_li, x_cmp, x_ui, x_il, x_lti, x_idiv, x_irem, x_dup_i, x_dup_r, x_pop_i, x_pop_r, x_dupx_ir, x_dup2_ir, x_ifeq, x_iceq, x_iflt, x_iclt, x_ifge, x_icge, x_ifgt, x_icgt, x_ifle, x_icle, x_ifne, x_icne, x_ifnull_r, x_ifnull_n, x_ifnonnull_r, x_ifnonnull_n, x_sw, x_vret, x_iret, x_lret, x_zret, x_zret0, x_zret1, x_rf_s, x_rf_n, x_geti, x_getr, x_puti, x_putz, x_putr, x_ial, x_ias, x_lal, x_las, x_aal, x_aas, x_aast, x_alen, x_new, x_newa, x_copy, x_min, x_abs, x_minl, x_oinit, x_throw, x_callS0, x_callS1, x_callS2, x_callS3, x_callS4, x_callV0, x_callV1, x_callV2, x_callV3, x_callV4, x_callV5, x_retI_v, x_callI0, x_callI1, x_callI2, x_retN_v, x_callSN1, x_callSN2, x_callT0, x_callT1, x_fn, x_sl0, x_sli, x_slr, x_sll, x_ar0, x_ari, x_arr, x_arl, ↓reduceIte, Nat.reduceAdd, Nat.reduceSub, Nat.reduceMul, Nat.reduceEqDiff, Nat.reduceLeDiff, Nat.reduceLT, if_true, if_false, Nat.le_refl, and_true, true_and, and_self, reduceCtorEq, or_false, false_or, or_true, true_or, Nat.zero_le, fa_lit, nI_add, w_mul, nI_ltI, nI_leI, nI_eq, nI_clamp, nI_toInt, if_pos, if_neg, w_div, w_rem2, yk100 hCT, yk125 hCT, yk126 hCT, yk127 hCT, yk128 hCT, yk129 hCT, yk130 hCT, yk131 hCT, yk132 hCT, yk133 hCT, yk134 hCT, yk135 hCT, yk136 hCT, yk137 hCT, yl126 hCT, yl128 hCT, yl130 hCT, yl131 hCT, yl133 hCT, yl137 hCT, yr100_0 hCT, yr100_1 hCT, yr100_2 hCT, yr100_3 hCT, yr100_4 hCT, yr100_5 hCT, yr100_6 hCT, yr100_7 hCT, yr100_8 hCT, yr100_9 hCT, yr100_10 hCT, yr125_0 hCT, yr127_0 hCT, yr129_0 hCT, yr129_1 hCT, yr129_2 hCT, yr132_0 hCT, yr134_0 hCT, yr135_0 hCT, yr135_1 hCT, yr136_0 hCT, yr136_1 hCT, yk100 m6, yk125 m6, yk126 m6, yk127 m6, yk128 m6, yk129 m6, yk130 m6, yk131 m6, yk132 m6, yk133 m6, yk134 m6, yk135 m6, yk136 m6, yk137 m6, yl126 m6, yl128 m6, yl130 m6, yl131 m6, yl133 m6, yl137 m6, yr100_0 m6, yr100_1 m6, yr100_2 m6, yr100_3 m6, yr100_4 m6, yr100_5 m6, yr100_6 m6, yr100_7 m6, yr100_8 m6, yr100_9 m6, yr100_10 m6, yr125_0 m6, yr127_0 m6, yr129_0 m6, yr129_1 m6, yr129_2 m6, yr132_0 m6, yr134_0 m6, yr135_0 m6, yr135_1 m6, yr136_0 m6, yr136_1 m6, m1, m2])
        (fun T Q r hP => by
          have hCT := hP.1.1.1
          have hLT := hP.1.L
          rw [s_up_s] at hLT
          have hAT := hLT.2.1
          have ecT := y_count (hLT.2.2.1.tE hAT hLT.2.2.2.B)
          rw [← hLT.2.2.2.B.2.2.2.2.1.1] at ecT
          simp (disch := omega) only [bX10_pass_47, x_cs0, x_csi, x_csr, x_csn, x_csl, x_ret_v, x_ret_t, x_ret_n, x_tl_s, x_tl_n, x_lk0, x_lk, x_rem0, x_rem_i, x_rem_r, x_rem_l, x_rem2_0, x_rem2_i, x_rem2_r, x_rem2_l, x_pick0, x_pick_c, x_st1, x_st2, x_live, x_i, x_l, x_a, x_ild, x_lld, x_rld, x_ist, x_lst, x_rst, x_inc, x_ii, x_ll, x_li, x_cmp, x_ui, x_il, x_lti, x_idiv, x_irem, x_dup_i, x_dup_r, x_pop_i, x_pop_r, x_dupx_ir, x_dup2_ir, x_ifeq, x_iceq, x_iflt, x_iclt, x_ifge, x_icge, x_ifgt, x_icgt, x_ifle, x_icle, x_ifne, x_icne, x_ifnull_r, x_ifnull_n, x_ifnonnull_r, x_ifnonnull_n, x_sw, x_vret, x_iret, x_lret, x_zret, x_zret0, x_zret1, x_rf_s, x_rf_n, x_geti, x_getr, x_puti, x_putz, x_putr, x_ial, x_ias, x_lal, x_las, x_aal, x_aas, x_aast, x_alen, x_new, x_newa, x_copy, x_min, x_abs, x_minl, x_oinit, x_throw, x_callS0, x_callS1, x_callS2, x_callS3, x_callS4, x_callV0, x_callV1, x_callV2, x_callV3, x_callV4, x_callV5, x_retI_v, x_callI0, x_callI1, x_callI2, x_retN_v, x_callSN1, x_callSN2, x_callT0, x_callT1, x_fn, x_sl0, x_sli, x_slr, x_sll, x_ar0, x_ari, x_arr, x_arl, ↓reduceIte, Nat.reduceAdd, Nat.reduceSub, Nat.reduceMul, Nat.reduceEqDiff, Nat.reduceLeDiff, Nat.reduceLT, if_true, if_false, Nat.le_refl, and_true, true_and, and_self, reduceCtorEq, or_false, false_or, or_true, true_or, Nat.zero_le, fa_lit, nI_add, w_mul, nI_ltI, nI_leI, nI_eq, nI_clamp, nI_toInt, if_pos, if_neg, w_div, w_rem2, yk100 hCT, yk125 hCT, yk126 hCT, yk127 hCT, yk128 hCT, yk129 hCT, yk130 hCT, yk131 hCT, yk132 hCT, yk133 hCT, yk134 hCT, yk135 hCT, yk136 hCT, yk137 hCT, yl126 hCT, yl128 hCT, yl130 hCT, yl131 hCT, yl133 hCT, yl137 hCT, yr100_0 hCT, yr100_1 hCT, yr100_2 hCT, yr100_3 hCT, yr100_4 hCT, yr100_5 hCT, yr100_6 hCT, yr100_7 hCT, yr100_8 hCT, yr100_9 hCT, yr100_10 hCT, yr125_0 hCT, yr127_0 hCT, yr129_0 hCT, yr129_1 hCT, yr129_2 hCT, yr132_0 hCT, yr134_0 hCT, yr135_0 hCT, yr135_1 hCT, yr136_0 hCT, yr136_1 hCT, xk0 hAT, xk1 hAT, xl1 hAT, xk2 hAT, xk3 hAT, xl3 hAT, xr2_2 hAT, xi2_0 hAT, xi2_1 hAT, xk4 hAT, xk5 hAT, xl5 hAT, xr4_2 hAT, xi4_0 hAT, xi4_1 hAT, xk6 hAT, xk7 hAT, xl7 hAT, xr6_2 hAT, xi6_0 hAT, xi6_1 hAT, xk8 hAT, xk9 hAT, xl9 hAT, xr8_2 hAT, xi8_0 hAT, xi8_1 hAT, xk10 hAT, xk11 hAT, xl11 hAT, xr10_2 hAT, xi10_0 hAT, xi10_1 hAT, xr0_7 hAT, xr0_8 hAT, xr0_9 hAT, xr0_10 hAT, xr0_11 hAT, xr0_12 hAT, ecT]) w_N 0 S1 (M 139) (by show k - 0 < 5000; omega) (Nat.zero_le _) ⟨by rw [u0]; exact f2, by omega⟩
      rw [Nat.sub_zero] at g2 g3
      refine ⟨T, ?_, g3.1, (f3.tr g4.1).mono (by omega) (by omega), f4.tr g4.2⟩
      have g2' : am_loop (bX10_pass_47 w_N) w_N [(0, .ref 100), (1, .int (nI k)), (2, .int (M 139 7)), (3, .int (nI 0))] [] S1 = some (.inl (some (.int (s_ps k (M 139) 7 - M 139 7))), T) := g2
      rw [← b7.1] at ec
      simp (disch := omega) only [fX10_pass, kX10_pass_0, kX10_pass_47, x_cs0, x_csi, x_csr, x_csn, x_csl, x_ret_v, x_ret_t, x_ret_n, x_tl_s, x_tl_n, x_lk0, x_lk, x_rem0, x_rem_i, x_rem_r, x_rem_l, x_rem2_0, x_rem2_i, x_rem2_r, x_rem2_l, x_pick0, x_pick_c, x_st1, x_st2, x_live, x_i, x_l, x_a, x_ild, x_lld, x_rld, x_ist, x_lst, x_rst, x_inc, x_ii, x_ll, x_li, x_cmp, x_ui, x_il, x_lti, x_idiv, x_irem, x_dup_i, x_dup_r, x_pop_i, x_pop_r, x_dupx_ir, x_dup2_ir, x_ifeq, x_iceq, x_iflt, x_iclt, x_ifge, x_icge, x_ifgt, x_icgt, x_ifle, x_icle, x_ifne, x_icne, x_ifnull_r, x_ifnull_n, x_ifnonnull_r, x_ifnonnull_n, x_sw, x_vret, x_iret, x_lret, x_zret, x_zret0, x_zret1, x_rf_s, x_rf_n, x_geti, x_getr, x_puti, x_putz, x_putr, x_ial, x_ias, x_lal, x_las, x_aal, x_aas, x_aast, x_alen, x_new, x_newa, x_copy, x_min, x_abs, x_minl, x_oinit, x_throw, x_callS0, x_callS1, x_callS2, x_callS3, x_callS4, x_callV0, x_callV1, x_callV2, x_callV3, x_callV4, x_callV5, x_retI_v, x_callI0, x_callI1, x_callI2, x_retN_v, x_callSN1, x_callSN2, x_callT0, x_callT1, x_fn, x_sl0, x_sli, x_slr, x_sll, x_ar0, x_ari, x_arr, x_arl, ↓reduceIte, Nat.reduceAdd, Nat.reduceSub, Nat.reduceMul, Nat.reduceEqDiff, Nat.reduceLeDiff, Nat.reduceLT, if_true, if_false, Nat.le_refl, and_true, true_and, and_self, reduceCtorEq, or_false, false_or, or_true, true_or, Nat.zero_le, fa_lit, nI_add, w_mul, nI_ltI, nI_leI, nI_eq, nI_clamp, nI_toInt, if_pos, if_neg, w_div, w_rem2, xk0 hA, xk1 hA, xl1 hA, xk2 hA, xk3 hA, xl3 hA, xr2_2 hA, xi2_0 hA, xi2_1 hA, xk4 hA, xk5 hA, xl5 hA, xr4_2 hA, xi4_0 hA, xi4_1 hA, xk6 hA, xk7 hA, xl7 hA, xr6_2 hA, xi6_0 hA, xi6_1 hA, xk8 hA, xk9 hA, xl9 hA, xr8_2 hA, xi8_0 hA, xi8_1 hA, xk10 hA, xk11 hA, xl11 hA, xr10_2 hA, xi10_0 hA, xi10_1 hA, xr0_7 hA, xr0_8 hA, xr0_9 hA, xr0_10 hA, xr0_11 hA, xr0_12 hA, yk100 hC, yk125 hC, yk126 hC, yk127 hC, yk128 hC, yk129 hC, yk130 hC, yk131 hC, yk132 hC, yk133 hC, yk134 hC, yk135 hC, yk136 hC, yk137 hC, yl126 hC, yl128 hC, yl130 hC, yl131 hC, yl133 hC, yl137 hC, yr100_0 hC, yr100_1 hC, yr100_2 hC, yr100_3 hC, yr100_4 hC, yr100_5 hC, yr100_6 hC, yr100_7 hC, yr100_8 hC, yr100_9 hC, yr100_10 hC, yr125_0 hC, yr127_0 hC, yr129_0 hC, yr129_1 hC, yr129_2 hC, yr132_0 hC, yr134_0 hC, yr135_0 hC, yr135_1 hC, yr136_0 hC, yr136_1 hC, xk0 hA1, xk1 hA1, xl1 hA1, xk2 hA1, xk3 hA1, xl3 hA1, xr2_2 hA1, xi2_0 hA1, xi2_1 hA1, xk4 hA1, xk5 hA1, xl5 hA1, xr4_2 hA1, xi4_0 hA1, xi4_1 hA1, xk6 hA1, xk7 hA1, xl7 hA1, xr6_2 hA1, xi6_0 hA1, xi6_1 hA1, xk8 hA1, xk9 hA1, xl9 hA1, xr8_2 hA1, xi8_0 hA1, xi8_1 hA1, xk10 hA1, xk11 hA1, xl11 hA1, xr10_2 hA1, xi10_0 hA1, xi10_1 hA1, xr0_7 hA1, xr0_8 hA1, xr0_9 hA1, xr0_10 hA1, xr0_11 hA1, xr0_12 hA1, yk100 hC1, yk125 hC1, yk126 hC1, yk127 hC1, yk128 hC1, yk129 hC1, yk130 hC1, yk131 hC1, yk132 hC1, yk133 hC1, yk134 hC1, yk135 hC1, yk136 hC1, yk137 hC1, yl126 hC1, yl128 hC1, yl130 hC1, yl131 hC1, yl133 hC1, yl137 hC1, yr100_0 hC1, yr100_1 hC1, yr100_2 hC1, yr100_3 hC1, yr100_4 hC1, yr100_5 hC1, yr100_6 hC1, yr100_7 hC1, yr100_8 hC1, yr100_9 hC1, yr100_10 hC1, yr125_0 hC1, yr127_0 hC1, yr129_0 hC1, yr129_1 hC1, yr129_2 hC1, yr132_0 hC1, yr134_0 hC1, yr135_0 hC1, yr135_1 hC1, yr136_0 hC1, yr136_1 hC1, g1, e5, es, f1, ec, g2']
    · rw [if_neg c2]
      refine ⟨S, ?_, h, w_le.rf.mono (by omega) (by omega), w_kp.rf⟩
      simp (disch := omega) only [fX10_pass, kX10_pass_0, x_cs0, x_csi, x_csr, x_csn, x_csl, x_ret_v, x_ret_t, x_ret_n, x_tl_s, x_tl_n, x_lk0, x_lk, x_rem0, x_rem_i, x_rem_r, x_rem_l, x_rem2_0, x_rem2_i, x_rem2_r, x_rem2_l, x_pick0, x_pick_c, x_st1, x_st2, x_live, x_i, x_l, x_a, x_ild, x_lld, x_rld, x_ist, x_lst, x_rst, x_inc, x_ii, x_ll, x_li, x_cmp, x_ui, x_il, x_lti, x_idiv, x_irem, x_dup_i, x_dup_r, x_pop_i, x_pop_r, x_dupx_ir, x_dup2_ir, x_ifeq, x_iceq, x_iflt, x_iclt, x_ifge, x_icge, x_ifgt, x_icgt, x_ifle, x_icle, x_ifne, x_icne, x_ifnull_r, x_ifnull_n, x_ifnonnull_r, x_ifnonnull_n, x_sw, x_vret, x_iret, x_lret, x_zret, x_zret0, x_zret1, x_rf_s, x_rf_n, x_geti, x_getr, x_puti, x_putz, x_putr, x_ial, x_ias, x_lal, x_las, x_aal, x_aas, x_aast, x_alen, x_new, x_newa, x_copy, x_min, x_abs, x_minl, x_oinit, x_throw, x_callS0, x_callS1, x_callS2, x_callS3, x_callS4, x_callV0, x_callV1, x_callV2, x_callV3, x_callV4, x_callV5, x_retI_v, x_callI0, x_callI1, x_callI2, x_retN_v, x_callSN1, x_callSN2, x_callT0, x_callT1, x_fn, x_sl0, x_sli, x_slr, x_sll, x_ar0, x_ari, x_arr, x_arl, ↓reduceIte, Nat.reduceAdd, Nat.reduceSub, Nat.reduceMul, Nat.reduceEqDiff, Nat.reduceLeDiff, Nat.reduceLT, if_true, if_false, Nat.le_refl, and_true, true_and, and_self, reduceCtorEq, or_false, false_or, or_true, true_or, Nat.zero_le, fa_lit, nI_add, w_mul, nI_ltI, nI_leI, nI_eq, nI_clamp, nI_toInt, if_pos, if_neg, w_div, w_rem2, xk0 hA, xk1 hA, xl1 hA, xk2 hA, xk3 hA, xl3 hA, xr2_2 hA, xi2_0 hA, xi2_1 hA, xk4 hA, xk5 hA, xl5 hA, xr4_2 hA, xi4_0 hA, xi4_1 hA, xk6 hA, xk7 hA, xl7 hA, xr6_2 hA, xi6_0 hA, xi6_1 hA, xk8 hA, xk9 hA, xl9 hA, xr8_2 hA, xi8_0 hA, xi8_1 hA, xk10 hA, xk11 hA, xl11 hA, xr10_2 hA, xi10_0 hA, xi10_1 hA, xr0_7 hA, xr0_8 hA, xr0_9 hA, xr0_10 hA, xr0_11 hA, xr0_12 hA, yk100 hC, yk125 hC, yk126 hC, yk127 hC, yk128 hC, yk129 hC, yk130 hC, yk131 hC, yk132 hC, yk133 hC, yk134 hC, yk135 hC, yk136 hC, yk137 hC, yl126 hC, yl128 hC, yl130 hC, yl131 hC, yl133 hC, yl137 hC, yr100_0 hC, yr100_1 hC, yr100_2 hC, yr100_3 hC, yr100_4 hC, yr100_5 hC, yr100_6 hC, yr100_7 hC, yr100_8 hC, yr100_9 hC, yr100_10 hC, yr125_0 hC, yr127_0 hC, yr129_0 hC, yr129_1 hC, yr129_2 hC, yr132_0 hC, yr134_0 hC, yr135_0 hC, yr135_1 hC, yr136_0 hC, yr136_1 hC, g1, e5, es]
  · rw [if_neg c1]
    have g1 := y_needTurns0 (S := S) c1 (by omega)
    have ht := h.thr (c := 1)
    refine ⟨_, ?_, ht.1, ht.2.1.mono (by omega) (by omega), ht.2.2⟩
    simp (disch := omega) only [fX10_pass, kX10_pass_0, x_cs0, x_csi, x_csr, x_csn, x_csl, x_ret_v, x_ret_t, x_ret_n, x_tl_s, x_tl_n, x_lk0, x_lk, x_rem0, x_rem_i, x_rem_r, x_rem_l, x_rem2_0, x_rem2_i, x_rem2_r, x_rem2_l, x_pick0, x_pick_c, x_st1, x_st2, x_live, x_i, x_l, x_a, x_ild, x_lld, x_rld, x_ist, x_lst, x_rst, x_inc, x_ii, x_ll, x_li, x_cmp, x_ui, x_il, x_lti, x_idiv, x_irem, x_dup_i, x_dup_r, x_pop_i, x_pop_r, x_dupx_ir, x_dup2_ir, x_ifeq, x_iceq, x_iflt, x_iclt, x_ifge, x_icge, x_ifgt, x_icgt, x_ifle, x_icle, x_ifne, x_icne, x_ifnull_r, x_ifnull_n, x_ifnonnull_r, x_ifnonnull_n, x_sw, x_vret, x_iret, x_lret, x_zret, x_zret0, x_zret1, x_rf_s, x_rf_n, x_geti, x_getr, x_puti, x_putz, x_putr, x_ial, x_ias, x_lal, x_las, x_aal, x_aas, x_aast, x_alen, x_new, x_newa, x_copy, x_min, x_abs, x_minl, x_oinit, x_throw, x_callS0, x_callS1, x_callS2, x_callS3, x_callS4, x_callV0, x_callV1, x_callV2, x_callV3, x_callV4, x_callV5, x_retI_v, x_callI0, x_callI1, x_callI2, x_retN_v, x_callSN1, x_callSN2, x_callT0, x_callT1, x_fn, x_sl0, x_sli, x_slr, x_sll, x_ar0, x_ari, x_arr, x_arl, ↓reduceIte, Nat.reduceAdd, Nat.reduceSub, Nat.reduceMul, Nat.reduceEqDiff, Nat.reduceLeDiff, Nat.reduceLT, if_true, if_false, Nat.le_refl, and_true, true_and, and_self, reduceCtorEq, or_false, false_or, or_true, true_or, Nat.zero_le, fa_lit, nI_add, w_mul, nI_ltI, nI_leI, nI_eq, nI_clamp, nI_toInt, if_pos, if_neg, w_div, w_rem2, g1, o_t1]
/-! the reference's -/
theorem w_Mq.P3 (h : w_Mq (va_up M 139 R) S) (k : w_I w_P3 S S') (e : am_i S' 139 = Q) : w_Mq (va_up M 139 Q) S' := by
  obtain ⟨h1, h2, h3, h4, h5, h6⟩ := h
  rw [s_up_n (by omega)] at h2 h3 h4 h5
  refine ⟨by rw [e, s_up_s], ?_, ?_, ?_, ?_, fun j hj => ?_⟩
  · rw [k.i (by omega), s_up_n (by omega)]
    exact h2
  · rw [k.i (by omega), s_up_n (by omega)]
    exact h3
  · rw [k.i (by omega), s_up_n (by omega)]
    exact h4
  · rw [k.i (by omega), s_up_n (by omega)]
    exact h5
  · have := h6 j hj
    rw [s_up_n (by omega)] at this
    rw [k.i (by omega), s_up_n (by omega)]
    exact this
theorem z_pass (hZ : w_Z S) (hM : w_Mq M S) (hV : s_V (M 139)) (h5 : s_n (M 139 5) ≤ 500) (hc : M 138 5 = nI c) (hc2 : c ≤ 10) : w_Zo (u_pass M x) (fX11_pass w_N) [.ref 138, .int x] S := by
  have t0 : w_th 0 S (am_putI S 138 6 (nI 0)) := w_th.put
  have hZ1 := t0.Z hZ
  have hM1 := hM.th t0
  have w5 := hV.B.2.2.2.2.2.2.1
  have b5 := w5.2
  have gr := z_inRange (S := am_putI S 138 6 (nI 0)) (x := x) (y := nI 1) (z := nI 60)
  have er : (nI 1 ≤ x ∧ x ≤ nI 60) ↔ s_rg x 1 60 := by
    rw [fa_le, fa_le, nI_toInt (by omega), nI_toInt (by omega)]
  have gf := z_raise (x := nI 1) hZ1
  have gt := z_turnNow' hZ1 hM1.1
  rw [w5.1] at gt
  unfold u_pass
  by_cases c1 : s_rg x 1 60
  · rw [if_pos c1]
    rw [w_bt (er.mpr c1)] at gr
    obtain ⟨k, rfl, k1, k2⟩ := s_rg_n c1 (by omega)
    rw [w_snI (by omega)]
    by_cases c2 : s_n (M 139 5) + k ≤ 500
    · rw [if_pos c2]
      obtain ⟨S2, f1, f2, f3, f4⟩ := hM1.rec hc hc2 hZ1
      have hZ2 := f3.Z hZ1
      have i2 : am_i S2 139 = M 139 := by rw [f2.1, s_rec_139]
      have i6 : am_i S2 138 6 = nI 0 := by rw [f4 6 (by omega)]; exact x_i_Is
      have u0 : va_up (s_rec M) 139 (M 139) = s_rec M := by
        funext b
        rw [s_up]
        by_cases e : b = 139
        · rw [if_pos e, e, s_rec_139]
        · rw [if_neg e]
      obtain ⟨T, g2, g3, g4⟩ := w_genL (body := bX11_pass_50 w_N) (lvf := fun i => [(0, .ref 138), (1, .int (nI k)), (2, .int (M 139 7)), (3, .int (nI i))]) (n := k) (g := fun _ Q => s_pass Q) (P := fun i T Q => w_Z T ∧ w_Mq (va_up (s_rec M) 139 Q) T ∧ am_i T 138 6 = nI 0 ∧ s_V Q ∧ s_n (Q 5) = s_n (M 139 5) + i) (Fr := w_I w_P7) (res := fun T Q => some (.inl (some (.int (Q 7 - M 139 7))), T))
        (fun _ => w_I.rf) (fun _ _ _ => w_I.tr)
        (fun i T Q r hi hP => by
          obtain ⟨p1, p2, p3, p4, p5⟩ := hP
          have i9 : am_i T 139 = Q := by rw [p2.1, s_up_s]
          obtain ⟨T1, m1, m2, m3⟩ := z_passTurn p1 i9 p4 (by omega)
          have V := p4.turn (by omega)
          refine ⟨T1, ?_, ⟨m3.Z p1, p2.P3 m3 m2, by rw [m3.i (by omega)]; exact p3, V.1, by rw [V.2.2, w_snI (by omega)]; omega⟩, m3.mono (fun b hb => by show 138 ≤ b ∧ b ≤ 150; omega)⟩
          simp (disch := omega) only [bX11_pass_50, x_cs0, x_csi, x_csr, x_csn, x_csl, x_ret_v, x_ret_t, x_ret_n, x_tl_s, x_tl_n, x_lk0, x_lk, x_rem0, x_rem_i, x_rem_r, x_rem_l, x_rem2_0, x_rem2_i, x_rem2_r, x_rem2_l, x_pick0, x_pick_c, x_st1, x_st2, x_live, x_i, x_l, x_a, x_ild, x_lld, x_rld, x_ist, x_lst, x_rst, x_inc, x_ii, x_ll, x_li, x_cmp, x_ui, x_il, x_lti, x_idiv, x_irem, x_dup_i, x_dup_r, x_pop_i, x_pop_r, x_dupx_ir, x_dup2_ir, x_ifeq, x_iceq, x_iflt, x_iclt, x_ifge, x_icge, x_ifgt, x_icgt, x_ifle, x_icle, x_ifne, x_icne, x_ifnull_r, x_ifnull_n, x_ifnonnull_r, x_ifnonnull_n, x_sw, x_vret, x_iret, x_lret, x_zret, x_zret0, x_zret1, x_rf_s, x_rf_n, x_geti, x_getr, x_puti, x_putz, x_putr, x_ial, x_ias, x_lal, x_las, x_aal, x_aas, x_aast, x_alen, x_new, x_newa, x_copy, x_min, x_abs, x_minl, x_oinit, x_throw, x_callS0, x_callS1, x_callS2, x_callS3, x_callS4, x_callV0, x_callV1, x_callV2, x_callV3, x_callV4, x_callV5, x_retI_v, x_callI0, x_callI1, x_callI2, x_retN_v, x_callSN1, x_callSN2, x_callT0, x_callT1, x_fn, x_sl0, x_sli, x_slr, x_sll, x_ar0, x_ari, x_arr, x_arl, ↓reduceIte, Nat.reduceAdd, Nat.reduceSub, Nat.reduceMul, Nat.reduceEqDiff, Nat.reduceLeDiff, Nat.reduceLT, if_true, if_false, Nat.le_refl, and_true, true_and, and_self, reduceCtorEq, or_false, false_or, or_true, true_or, Nat.zero_le, fa_lit, nI_add, w_mul, nI_ltI, nI_leI, nI_eq, nI_clamp, nI_toInt, if_pos, if_neg, w_div, w_rem2, zk138 p1, zk139 p1, zk140 p1, zk141 p1, zk142 p1, zk143 p1, zk144 p1, zk145 p1, zk146 p1, zk147 p1, zk148 p1, zk149 p1, zk150 p1, zk151 p1, zl139 p1, zl140 p1, zl141 p1, zl142 p1, zl143 p1, zl144 p1, zl145 p1, zl146 p1, zl147 p1, zl148 p1, zl149 p1, zl150 p1, zl151 p1, zr138_0 p1, zr138_1 p1, zr138_2 p1, zr138_3 p1, zr138_4 p1, zr138_8 p1, zr138_9 p1, zr138_10 p1, zr138_12 p1, zr138_24 p1, zr138_25 p1, zr138_26 p1, zr148_0 p1, zr148_1 p1, zr148_2 p1, zr148_3 p1, zr148_4 p1, zr148_5 p1, zr148_6 p1, zr148_7 p1, zr148_8 p1, m1])
        (fun T Q r hP => by
          obtain ⟨p1, p2, p3, p4, p5⟩ := hP
          have i9 : am_i T 139 7 = Q 7 := by rw [p2.1, s_up_s]
          simp (disch := omega) only [bX11_pass_50, x_cs0, x_csi, x_csr, x_csn, x_csl, x_ret_v, x_ret_t, x_ret_n, x_tl_s, x_tl_n, x_lk0, x_lk, x_rem0, x_rem_i, x_rem_r, x_rem_l, x_rem2_0, x_rem2_i, x_rem2_r, x_rem2_l, x_pick0, x_pick_c, x_st1, x_st2, x_live, x_i, x_l, x_a, x_ild, x_lld, x_rld, x_ist, x_lst, x_rst, x_inc, x_ii, x_ll, x_li, x_cmp, x_ui, x_il, x_lti, x_idiv, x_irem, x_dup_i, x_dup_r, x_pop_i, x_pop_r, x_dupx_ir, x_dup2_ir, x_ifeq, x_iceq, x_iflt, x_iclt, x_ifge, x_icge, x_ifgt, x_icgt, x_ifle, x_icle, x_ifne, x_icne, x_ifnull_r, x_ifnull_n, x_ifnonnull_r, x_ifnonnull_n, x_sw, x_vret, x_iret, x_lret, x_zret, x_zret0, x_zret1, x_rf_s, x_rf_n, x_geti, x_getr, x_puti, x_putz, x_putr, x_ial, x_ias, x_lal, x_las, x_aal, x_aas, x_aast, x_alen, x_new, x_newa, x_copy, x_min, x_abs, x_minl, x_oinit, x_throw, x_callS0, x_callS1, x_callS2, x_callS3, x_callS4, x_callV0, x_callV1, x_callV2, x_callV3, x_callV4, x_callV5, x_retI_v, x_callI0, x_callI1, x_callI2, x_retN_v, x_callSN1, x_callSN2, x_callT0, x_callT1, x_fn, x_sl0, x_sli, x_slr, x_sll, x_ar0, x_ari, x_arr, x_arl, ↓reduceIte, Nat.reduceAdd, Nat.reduceSub, Nat.reduceMul, Nat.reduceEqDiff, Nat.reduceLeDiff, Nat.reduceLT, if_true, if_false, Nat.le_refl, and_true, true_and, and_self, reduceCtorEq, or_false, false_or, or_true, true_or, Nat.zero_le, fa_lit, nI_add, w_mul, nI_ltI, nI_leI, nI_eq, nI_clamp, nI_toInt, if_pos, if_neg, w_div, w_rem2, zk138 p1, zk139 p1, zk140 p1, zk141 p1, zk142 p1, zk143 p1, zk144 p1, zk145 p1, zk146 p1, zk147 p1, zk148 p1, zk149 p1, zk150 p1, zk151 p1, zl139 p1, zl140 p1, zl141 p1, zl142 p1, zl143 p1, zl144 p1, zl145 p1, zl146 p1, zl147 p1, zl148 p1, zl149 p1, zl150 p1, zl151 p1, zr138_0 p1, zr138_1 p1, zr138_2 p1, zr138_3 p1, zr138_4 p1, zr138_8 p1, zr138_9 p1, zr138_10 p1, zr138_12 p1, zr138_24 p1, zr138_25 p1, zr138_26 p1, zr148_0 p1, zr148_1 p1, zr148_2 p1, zr148_3 p1, zr148_4 p1, zr148_5 p1, zr148_6 p1, zr148_7 p1, zr148_8 p1, i9]) w_N 0 S2 (M 139) (by show k - 0 < 5000; omega) (Nat.zero_le _) ⟨hZ2, by rw [u0]; exact f2, i6, hV, by omega⟩
      rw [Nat.sub_zero] at g2 g3
      have g2' : am_loop (bX11_pass_50 w_N) w_N [(0, .ref 138), (1, .int (nI k)), (2, .int (M 139 7)), (3, .int (nI 0))] [] S2 = some (.inl (some (.int (s_ps k (M 139) 7 - M 139 7))), T) := g2
      have i27 : am_i S2 139 7 = M 139 7 := by rw [i2]
      refine ⟨T, ?_, g3.2.2.1, g3.2.1, (t0.P7.tr (f3.mono (fun b hb => by show 138 ≤ b ∧ b ≤ 150; omega))).tr g4⟩
      simp (disch := omega) only [fX11_pass, kX11_pass_0, kX11_pass_50, x_cs0, x_csi, x_csr, x_csn, x_csl, x_ret_v, x_ret_t, x_ret_n, x_tl_s, x_tl_n, x_lk0, x_lk, x_rem0, x_rem_i, x_rem_r, x_rem_l, x_rem2_0, x_rem2_i, x_rem2_r, x_rem2_l, x_pick0, x_pick_c, x_st1, x_st2, x_live, x_i, x_l, x_a, x_ild, x_lld, x_rld, x_ist, x_lst, x_rst, x_inc, x_ii, x_ll, x_li, x_cmp, x_ui, x_il, x_lti, x_idiv, x_irem, x_dup_i, x_dup_r, x_pop_i, x_pop_r, x_dupx_ir, x_dup2_ir, x_ifeq, x_iceq, x_iflt, x_iclt, x_ifge, x_icge, x_ifgt, x_icgt, x_ifle, x_icle, x_ifne, x_icne, x_ifnull_r, x_ifnull_n, x_ifnonnull_r, x_ifnonnull_n, x_sw, x_vret, x_iret, x_lret, x_zret, x_zret0, x_zret1, x_rf_s, x_rf_n, x_geti, x_getr, x_puti, x_putz, x_putr, x_ial, x_ias, x_lal, x_las, x_aal, x_aas, x_aast, x_alen, x_new, x_newa, x_copy, x_min, x_abs, x_minl, x_oinit, x_throw, x_callS0, x_callS1, x_callS2, x_callS3, x_callS4, x_callV0, x_callV1, x_callV2, x_callV3, x_callV4, x_callV5, x_retI_v, x_callI0, x_callI1, x_callI2, x_retN_v, x_callSN1, x_callSN2, x_callT0, x_callT1, x_fn, x_sl0, x_sli, x_slr, x_sll, x_ar0, x_ari, x_arr, x_arl, ↓reduceIte, Nat.reduceAdd, Nat.reduceSub, Nat.reduceMul, Nat.reduceEqDiff, Nat.reduceLeDiff, Nat.reduceLT, if_true, if_false, Nat.le_refl, and_true, true_and, and_self, reduceCtorEq, or_false, false_or, or_true, true_or, Nat.zero_le, fa_lit, nI_add, w_mul, nI_ltI, nI_leI, nI_eq, nI_clamp, nI_toInt, if_pos, if_neg, w_div, w_rem2, zk138 hZ, zk139 hZ, zk140 hZ, zk141 hZ, zk142 hZ, zk143 hZ, zk144 hZ, zk145 hZ, zk146 hZ, zk147 hZ, zk148 hZ, zk149 hZ, zk150 hZ, zk151 hZ, zl139 hZ, zl140 hZ, zl141 hZ, zl142 hZ, zl143 hZ, zl144 hZ, zl145 hZ, zl146 hZ, zl147 hZ, zl148 hZ, zl149 hZ, zl150 hZ, zl151 hZ, zr138_0 hZ, zr138_1 hZ, zr138_2 hZ, zr138_3 hZ, zr138_4 hZ, zr138_8 hZ, zr138_9 hZ, zr138_10 hZ, zr138_12 hZ, zr138_24 hZ, zr138_25 hZ, zr138_26 hZ, zr148_0 hZ, zr148_1 hZ, zr148_2 hZ, zr148_3 hZ, zr148_4 hZ, zr148_5 hZ, zr148_6 hZ, zr148_7 hZ, zr148_8 hZ, zk138 hZ1, zk139 hZ1, zk140 hZ1, zk141 hZ1, zk142 hZ1, zk143 hZ1, zk144 hZ1, zk145 hZ1, zk146 hZ1, zk147 hZ1, zk148 hZ1, zk149 hZ1, zk150 hZ1, zk151 hZ1, zl139 hZ1, zl140 hZ1, zl141 hZ1, zl142 hZ1, zl143 hZ1, zl144 hZ1, zl145 hZ1, zl146 hZ1, zl147 hZ1, zl148 hZ1, zl149 hZ1, zl150 hZ1, zl151 hZ1, zr138_0 hZ1, zr138_1 hZ1, zr138_2 hZ1, zr138_3 hZ1, zr138_4 hZ1, zr138_8 hZ1, zr138_9 hZ1, zr138_10 hZ1, zr138_12 hZ1, zr138_24 hZ1, zr138_25 hZ1, zr138_26 hZ1, zr148_0 hZ1, zr148_1 hZ1, zr148_2 hZ1, zr148_3 hZ1, zr148_4 hZ1, zr148_5 hZ1, zr148_6 hZ1, zr148_7 hZ1, zr148_8 hZ1, zk138 hZ2, zk139 hZ2, zk140 hZ2, zk141 hZ2, zk142 hZ2, zk143 hZ2, zk144 hZ2, zk145 hZ2, zk146 hZ2, zk147 hZ2, zk148 hZ2, zk149 hZ2, zk150 hZ2, zk151 hZ2, zl139 hZ2, zl140 hZ2, zl141 hZ2, zl142 hZ2, zl143 hZ2, zl144 hZ2, zl145 hZ2, zl146 hZ2, zl147 hZ2, zl148 hZ2, zl149 hZ2, zl150 hZ2, zl151 hZ2, zr138_0 hZ2, zr138_1 hZ2, zr138_2 hZ2, zr138_3 hZ2, zr138_4 hZ2, zr138_8 hZ2, zr138_9 hZ2, zr138_10 hZ2, zr138_12 hZ2, zr138_24 hZ2, zr138_25 hZ2, zr138_26 hZ2, zr148_0 hZ2, zr148_1 hZ2, zr148_2 hZ2, zr148_3 hZ2, zr148_4 hZ2, zr148_5 hZ2, zr148_6 hZ2, zr148_7 hZ2, zr148_8 hZ2, gr, gt, f1, i27, g2']
    · rw [if_neg c2]
      refine ⟨_, ?_, x_i_Is, hM1, t0.P7⟩
      simp (disch := omega) only [fX11_pass, kX11_pass_0, x_cs0, x_csi, x_csr, x_csn, x_csl, x_ret_v, x_ret_t, x_ret_n, x_tl_s, x_tl_n, x_lk0, x_lk, x_rem0, x_rem_i, x_rem_r, x_rem_l, x_rem2_0, x_rem2_i, x_rem2_r, x_rem2_l, x_pick0, x_pick_c, x_st1, x_st2, x_live, x_i, x_l, x_a, x_ild, x_lld, x_rld, x_ist, x_lst, x_rst, x_inc, x_ii, x_ll, x_li, x_cmp, x_ui, x_il, x_lti, x_idiv, x_irem, x_dup_i, x_dup_r, x_pop_i, x_pop_r, x_dupx_ir, x_dup2_ir, x_ifeq, x_iceq, x_iflt, x_iclt, x_ifge, x_icge, x_ifgt, x_icgt, x_ifle, x_icle, x_ifne, x_icne, x_ifnull_r, x_ifnull_n, x_ifnonnull_r, x_ifnonnull_n, x_sw, x_vret, x_iret, x_lret, x_zret, x_zret0, x_zret1, x_rf_s, x_rf_n, x_geti, x_getr, x_puti, x_putz, x_putr, x_ial, x_ias, x_lal, x_las, x_aal, x_aas, x_aast, x_alen, x_new, x_newa, x_copy, x_min, x_abs, x_minl, x_oinit, x_throw, x_callS0, x_callS1, x_callS2, x_callS3, x_callS4, x_callV0, x_callV1, x_callV2, x_callV3, x_callV4, x_callV5, x_retI_v, x_callI0, x_callI1, x_callI2, x_retN_v, x_callSN1, x_callSN2, x_callT0, x_callT1, x_fn, x_sl0, x_sli, x_slr, x_sll, x_ar0, x_ari, x_arr, x_arl, ↓reduceIte, Nat.reduceAdd, Nat.reduceSub, Nat.reduceMul, Nat.reduceEqDiff, Nat.reduceLeDiff, Nat.reduceLT, if_true, if_false, Nat.le_refl, and_true, true_and, and_self, reduceCtorEq, or_false, false_or, or_true, true_or, Nat.zero_le, fa_lit, nI_add, w_mul, nI_ltI, nI_leI, nI_eq, nI_clamp, nI_toInt, if_pos, if_neg, w_div, w_rem2, zk138 hZ, zk139 hZ, zk140 hZ, zk141 hZ, zk142 hZ, zk143 hZ, zk144 hZ, zk145 hZ, zk146 hZ, zk147 hZ, zk148 hZ, zk149 hZ, zk150 hZ, zk151 hZ, zl139 hZ, zl140 hZ, zl141 hZ, zl142 hZ, zl143 hZ, zl144 hZ, zl145 hZ, zl146 hZ, zl147 hZ, zl148 hZ, zl149 hZ, zl150 hZ, zl151 hZ, zr138_0 hZ, zr138_1 hZ, zr138_2 hZ, zr138_3 hZ, zr138_4 hZ, zr138_8 hZ, zr138_9 hZ, zr138_10 hZ, zr138_12 hZ, zr138_24 hZ, zr138_25 hZ, zr138_26 hZ, zr148_0 hZ, zr148_1 hZ, zr148_2 hZ, zr148_3 hZ, zr148_4 hZ, zr148_5 hZ, zr148_6 hZ, zr148_7 hZ, zr148_8 hZ, zk138 hZ1, zk139 hZ1, zk140 hZ1, zk141 hZ1, zk142 hZ1, zk143 hZ1, zk144 hZ1, zk145 hZ1, zk146 hZ1, zk147 hZ1, zk148 hZ1, zk149 hZ1, zk150 hZ1, zk151 hZ1, zl139 hZ1, zl140 hZ1, zl141 hZ1, zl142 hZ1, zl143 hZ1, zl144 hZ1, zl145 hZ1, zl146 hZ1, zl147 hZ1, zl148 hZ1, zl149 hZ1, zl150 hZ1, zl151 hZ1, zr138_0 hZ1, zr138_1 hZ1, zr138_2 hZ1, zr138_3 hZ1, zr138_4 hZ1, zr138_8 hZ1, zr138_9 hZ1, zr138_10 hZ1, zr138_12 hZ1, zr138_24 hZ1, zr138_25 hZ1, zr138_26 hZ1, zr148_0 hZ1, zr148_1 hZ1, zr148_2 hZ1, zr148_3 hZ1, zr148_4 hZ1, zr148_5 hZ1, zr148_6 hZ1, zr148_7 hZ1, zr148_8 hZ1, gr, gt]
  · rw [if_neg c1]
    rw [w_bf (fun q => c1 (er.mp q))] at gr
    refine ⟨_, ?_, x_i_Is, hM1.th (c := 1) w_th.put, t0.P7.tr (w_I.put (by show 138 ≤ 138 ∧ 138 ≤ 150; omega))⟩
    simp (disch := omega) only [fX11_pass, kX11_pass_0, x_cs0, x_csi, x_csr, x_csn, x_csl, x_ret_v, x_ret_t, x_ret_n, x_tl_s, x_tl_n, x_lk0, x_lk, x_rem0, x_rem_i, x_rem_r, x_rem_l, x_rem2_0, x_rem2_i, x_rem2_r, x_rem2_l, x_pick0, x_pick_c, x_st1, x_st2, x_live, x_i, x_l, x_a, x_ild, x_lld, x_rld, x_ist, x_lst, x_rst, x_inc, x_ii, x_ll, x_li, x_cmp, x_ui, x_il, x_lti, x_idiv, x_irem, x_dup_i, x_dup_r, x_pop_i, x_pop_r, x_dupx_ir, x_dup2_ir, x_ifeq, x_iceq, x_iflt, x_iclt, x_ifge, x_icge, x_ifgt, x_icgt, x_ifle, x_icle, x_ifne, x_icne, x_ifnull_r, x_ifnull_n, x_ifnonnull_r, x_ifnonnull_n, x_sw, x_vret, x_iret, x_lret, x_zret, x_zret0, x_zret1, x_rf_s, x_rf_n, x_geti, x_getr, x_puti, x_putz, x_putr, x_ial, x_ias, x_lal, x_las, x_aal, x_aas, x_aast, x_alen, x_new, x_newa, x_copy, x_min, x_abs, x_minl, x_oinit, x_throw, x_callS0, x_callS1, x_callS2, x_callS3, x_callS4, x_callV0, x_callV1, x_callV2, x_callV3, x_callV4, x_callV5, x_retI_v, x_callI0, x_callI1, x_callI2, x_retN_v, x_callSN1, x_callSN2, x_callT0, x_callT1, x_fn, x_sl0, x_sli, x_slr, x_sll, x_ar0, x_ari, x_arr, x_arl, ↓reduceIte, Nat.reduceAdd, Nat.reduceSub, Nat.reduceMul, Nat.reduceEqDiff, Nat.reduceLeDiff, Nat.reduceLT, if_true, if_false, Nat.le_refl, and_true, true_and, and_self, reduceCtorEq, or_false, false_or, or_true, true_or, Nat.zero_le, fa_lit, nI_add, w_mul, nI_ltI, nI_leI, nI_eq, nI_clamp, nI_toInt, if_pos, if_neg, w_div, w_rem2, zk138 hZ, zk139 hZ, zk140 hZ, zk141 hZ, zk142 hZ, zk143 hZ, zk144 hZ, zk145 hZ, zk146 hZ, zk147 hZ, zk148 hZ, zk149 hZ, zk150 hZ, zk151 hZ, zl139 hZ, zl140 hZ, zl141 hZ, zl142 hZ, zl143 hZ, zl144 hZ, zl145 hZ, zl146 hZ, zl147 hZ, zl148 hZ, zl149 hZ, zl150 hZ, zl151 hZ, zr138_0 hZ, zr138_1 hZ, zr138_2 hZ, zr138_3 hZ, zr138_4 hZ, zr138_8 hZ, zr138_9 hZ, zr138_10 hZ, zr138_12 hZ, zr138_24 hZ, zr138_25 hZ, zr138_26 hZ, zr148_0 hZ, zr148_1 hZ, zr148_2 hZ, zr148_3 hZ, zr148_4 hZ, zr148_5 hZ, zr148_6 hZ, zr148_7 hZ, zr148_8 hZ, zk138 hZ1, zk139 hZ1, zk140 hZ1, zk141 hZ1, zk142 hZ1, zk143 hZ1, zk144 hZ1, zk145 hZ1, zk146 hZ1, zk147 hZ1, zk148 hZ1, zk149 hZ1, zk150 hZ1, zk151 hZ1, zl139 hZ1, zl140 hZ1, zl141 hZ1, zl142 hZ1, zl143 hZ1, zl144 hZ1, zl145 hZ1, zl146 hZ1, zl147 hZ1, zl148 hZ1, zl149 hZ1, zl150 hZ1, zl151 hZ1, zr138_0 hZ1, zr138_1 hZ1, zr138_2 hZ1, zr138_3 hZ1, zr138_4 hZ1, zr138_8 hZ1, zr138_9 hZ1, zr138_10 hZ1, zr138_12 hZ1, zr138_24 hZ1, zr138_25 hZ1, zr138_26 hZ1, zr148_0 hZ1, zr148_1 hZ1, zr148_2 hZ1, zr148_3 hZ1, zr148_4 hZ1, zr148_5 hZ1, zr148_6 hZ1, zr148_7 hZ1, zr148_8 hZ1, gr, gf]
end Y24
