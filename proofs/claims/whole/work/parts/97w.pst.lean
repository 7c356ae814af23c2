/-! THE PARSER'S STATE: ((code, place), token, row) -/
abbrev p_S : Type := (Nat × Nat) × (Nat × Nat × Nat) × (Nat → Int32)
def p_fail (s : p_S) (c : Nat) : p_S := if s.1.1 = 0 then ((c, s.2.1.1), s.2) else s
def p_next (B : Nat → Nat) (L : Nat) (s : p_S) : p_S := (s.1, l_nx B L s.2.1.2.1, s.2.2)
/-- the number that a token is -/
def p_val (B : Nat → Nat) (T : Nat × Nat × Nat) : Nat := l_vn B (T.2.1 - T.1) T.1 0
def p_num (B : Nat → Nat) (L : Nat) (s : p_S) (lo h : Nat) : p_S × Nat :=
  if s.1.1 = 0 then (if (p_next B L s).2.1.2.2 = 2 then (if lo ≤ p_val B (p_next B L s).2.1 ∧ p_val B (p_next B L s).2.1 < h then (p_next B L s, p_val B (p_next B L s).2.1) else (p_fail (p_next B L s) 2, lo)) else (p_fail (p_next B L s) 1, lo)) else (s, lo)
/-- a token of the text -/
def p_ok (B : Nat → Nat) (L : Nat) (T : Nat × Nat × Nat) : Prop := T.1 ≤ T.2.1 ∧ T.2.1 ≤ L ∧ T.2.2 < 4 ∧ (T.2.2 ≠ 0 → T.1 < T.2.1) ∧ (T.2.2 = 2 → ∀ i, T.1 ≤ i → i < T.2.1 → l_kc (B i) = 2)
/-- the class within a reading -/
def w_pc (S0 S : am_S) (L : Nat) (B : Nat → Nat) (s : p_S) : Prop := (w_I (fun b => b = 134 ∨ 113 ≤ b ∧ b < 125) S0 S ∧ w_C S ∧ w_tx S 133 L B ∧ am_i S 134 1 = nI L) ∧ (p_ok B L s.2.1 ∧ am_i S 134 2 = nI s.2.1.1 ∧ am_i S 134 3 = nI s.2.1.2.1 ∧ am_i S 134 4 = nI s.2.1.2.2 ∧ am_i S 134 5 = nI (l_v B s.2.1)) ∧ (s.1.1 ≤ 4 ∧ am_i S 134 6 = nI s.1.1 ∧ am_i S 134 7 = if s.1.1 = 0 then -nI 1 else nI s.1.2) ∧ w_A S 113 ∧ w_R S 113 s.2.2 ∧ s_VC s.2.2
section L8
variable {S S' T : am_S} {a b c o p q i j k m n u t L e f κ v0 lo h : Nat} {P : Nat → Prop} {B : Nat → Nat} {x y z v : Int32} {s s' : p_S}
theorem l_nx_ok (he : e ≤ L) : p_ok B L (l_nx B L e) := by
  obtain ⟨g1, g2, g3, g4⟩ := l_go_sp (B := B) (κ := 0) he
  unfold l_nx
  by_cases c : l_go B L 0 e < L
  · rw [if_pos c]
    have hlt := l_kc_lt (c := B (l_go B L 0 e))
    generalize hp : l_go B L 0 e = p at *
    by_cases c3 : l_kc (B p) = 3
    · rw [if_pos c3]
      refine ⟨?_, ?_, ?_, ?_, ?_⟩
      · show p ≤ p + 1; omega
      · show p + 1 ≤ L; omega
      · show l_kc (B p) < 4; omega
      · show _ → p < p + 1; omega
      · intro q
        have q' : l_kc (B p) = 2 := q
        omega
    · rw [if_neg c3]
      have eg : l_go B L (l_kc (B p)) p = l_go B L (l_kc (B p)) (p + 1) := l_go_s c rfl
      obtain ⟨k1, k2, k3, k4⟩ := l_go_sp (B := B) (κ := l_kc (B p)) (show p ≤ L by omega)
      have k5 := (l_go_sp (B := B) (κ := l_kc (B p)) (show p + 1 ≤ L by omega)).1
      refine ⟨k1, k2, hlt, ?_, ?_⟩
      · intro _
        show p < l_go B L (l_kc (B p)) p
        omega
      · intro q i h1 h2
        have q' : l_kc (B p) = 2 := q
        rw [← q']
        exact k3 i h1 h2
  · rw [if_neg c]
    refine ⟨Nat.le_refl _, Nat.le_refl _, ?_, ?_, ?_⟩
    · show 0 < 4; omega
    · intro q
      exact absurd rfl q
    · intro q
      cases q
theorem l_v_n (h : p_ok B L s.2.1) (hk : s.2.1.2.2 = 2) : l_v B s.2.1 = min (p_val B s.2.1) 100000 := by
  obtain ⟨⟨c, pl⟩, ⟨p, q, κ⟩, R⟩ := s
  obtain ⟨h1, h2, h3, h4, h5⟩ := h
  dsimp only at *
  have hpq := h4 (by omega)
  have hd := l_k2.mp (h5 hk p (Nat.le_refl _) hpq)
  unfold l_v p_val
  dsimp only
  rw [if_pos hk]
  obtain ⟨k, hk2⟩ : ∃ k, q - p = k + 1 := ⟨q - p - 1, by omega⟩
  rw [hk2, Nat.add_sub_cancel, l_vn, ← l_vc_n]
  congr 1
  omega
theorem w_pc.fr {S0 : am_S} (h : w_pc S0 S L B s) (hI : w_I (fun b => b = 134) S S') (h1 : am_i S' 134 1 = nI L) (h2 : p_ok B L s'.2.1 ∧ am_i S' 134 2 = nI s'.2.1.1 ∧ am_i S' 134 3 = nI s'.2.1.2.1 ∧ am_i S' 134 4 = nI s'.2.1.2.2 ∧ am_i S' 134 5 = nI (l_v B s'.2.1)) (h3 : s'.1.1 ≤ 4 ∧ am_i S' 134 6 = nI s'.1.1 ∧ am_i S' 134 7 = if s'.1.1 = 0 then -nI 1 else nI s'.1.2) (hR : s'.2.2 = s.2.2) : w_pc S0 S' L B s' := by
  obtain ⟨⟨a1, a2, a3, a4⟩, -, -, a7, a8, a9⟩ := h
  refine ⟨⟨a1.tr (hI.mono (fun b hb => Or.inl hb)), hI.C a2, a3.of hI (by omega), h1⟩, h2, h3, hI.Aa a7 (fun b q1 q2 => by omega), ?_, ?_⟩
  · rw [hR]
    exact hI.Ra a8 (fun b q1 q2 => by omega)
  · rw [hR]
    exact a9
theorem y_fail {S0 : am_S} (h : w_pc S0 S L B s) (hc : c ≤ 4) (hc0 : c ≠ 0) : ∃ S', fX8_fail w_N [.ref 134, .int (nI c)] S = some (.inl none, S') ∧ w_pc S0 S' L B (p_fail s c) := by
  have hC := h.1.2.1
  obtain ⟨k1, k2, k3, k4, k5⟩ := h.2.1
  obtain ⟨m1, m2, m3⟩ := h.2.2.1
  unfold p_fail
  by_cases e : s.1.1 = 0
  · rw [if_pos e]
    rw [e] at m2
    have hI : w_I (fun b => b = 134) S (am_putI S 134 6 (nI c)) := w_I.put (P := fun b => b = 134) rfl
    have hC1 := hI.C hC
    have i2 : am_i (am_putI S 134 6 (nI c)) 134 2 = nI s.2.1.1 := by rw [x_i_I, if_pos rfl, if_neg (by omega)]; exact k2
    refine ⟨am_putI (am_putI S 134 6 (nI c)) 134 7 (nI s.2.1.1), ?_, h.fr (hI.tr (w_I.put (P := fun b => b = 134) rfl)) ?_ ⟨k1, ?_, ?_, ?_, ?_⟩ ⟨hc, ?_, x_i_Is.trans (if_neg hc0).symm⟩ rfl⟩
    · simp (disch := omega) only [fX8_fail, kX8_fail_20, kX8_fail_0, x_cs0, x_csi, x_csr, x_csn, x_csl, x_ret_v, x_ret_t, x_ret_n, x_tl_s, x_tl_n, x_lk0, x_lk, x_rem0, x_rem_i, x_rem_r, x_rem_l, x_rem2_0, x_rem2_i, x_rem2_r, x_rem2_l, x_pick0, x_pick_c, x_st1, x_st2, x_live, x_i, x_l, x_a, x_ild, x_lld, x_rld, x_ist, x_lst, x_rst, x_inc, x_ii, x_ll, x_li, x_cmp, x_ui, x_il, x_lti, x_idiv, x_irem, x_dup_i, x_dup_r, x_pop_i, x_pop_r, x_dupx_ir, x_dup2_ir, x_ifeq, x_iceq, x_iflt, x_iclt, x_ifge, x_icge, x_ifgt, x_icgt, x_ifle, x_icle, x_ifne, x_icne, x_ifnull_r, x_ifnull_n, x_ifnonnull_r, x_ifnonnull_n, x_sw, x_vret, x_iret, x_lret, x_zret, x_zret0, x_zret1, x_rf_s, x_rf_n, x_geti, x_getr, x_puti, x_putz, x_putr, x_ial, x_ias, x_lal, x_las, x_aal, x_aas, x_aast, x_alen, x_new, x_newa, x_copy, x_min, x_abs, x_minl, x_oinit, x_throw, x_callS0, x_callS1, x_callS2, x_callS3, x_callS4, x_callV0, x_callV1, x_callV2, x_callV3, x_callV4, x_callV5, x_retI_v, x_callI0, x_callI1, x_callI2, x_retN_v, x_callSN1, x_callSN2, x_callT0, x_callT1, x_fn, x_sl0, x_sli, x_slr, x_sll, x_ar0, x_ari, x_arr, x_arl, ↓reduceIte, Nat.reduceAdd, Nat.reduceSub, Nat.reduceMul, Nat.reduceEqDiff, Nat.reduceLeDiff, Nat.reduceLT, if_true, if_false, Nat.le_refl, and_true, true_and, and_self, reduceCtorEq, or_false, false_or, or_true, true_or, Nat.zero_le, fa_lit, nI_add, w_mul, nI_ltI, nI_leI, nI_eq, nI_clamp, nI_toInt, if_pos, if_neg, w_div, w_rem2, yk100 hC, yk125 hC, yk126 hC, yk127 hC, yk128 hC, yk129 hC, yk130 hC, yk131 hC, yk132 hC, yk133 hC, yk134 hC, yk135 hC, yk136 hC, yk137 hC, yl126 hC, yl128 hC, yl130 hC, yl131 hC, yl133 hC, yl137 hC, yr100_0 hC, yr100_1 hC, yr100_2 hC, yr100_3 hC, yr100_4 hC, yr100_5 hC, yr100_6 hC, yr100_7 hC, yr100_8 hC, yr100_9 hC, yr100_10 hC, yr125_0 hC, yr127_0 hC, yr129_0 hC, yr129_1 hC, yr129_2 hC, yr132_0 hC, yr134_0 hC, yr135_0 hC, yr135_1 hC, yr136_0 hC, yr136_1 hC, yk100 hC1, yk125 hC1, yk126 hC1, yk127 hC1, yk128 hC1, yk129 hC1, yk130 hC1, yk131 hC1, yk132 hC1, yk133 hC1, yk134 hC1, yk135 hC1, yk136 hC1, yk137 hC1, yl126 hC1, yl128 hC1, yl130 hC1, yl131 hC1, yl133 hC1, yl137 hC1, yr100_0 hC1, yr100_1 hC1, yr100_2 hC1, yr100_3 hC1, yr100_4 hC1, yr100_5 hC1, yr100_6 hC1, yr100_7 hC1, yr100_8 hC1, yr100_9 hC1, yr100_10 hC1, yr125_0 hC1, yr127_0 hC1, yr129_0 hC1, yr129_1 hC1, yr129_2 hC1, yr132_0 hC1, yr134_0 hC1, yr135_0 hC1, yr135_1 hC1, yr136_0 hC1, yr136_1 hC1, m2, i2]
    · rw [x_i_I, if_pos rfl, if_neg (by omega), x_i_I, if_pos rfl, if_neg (by omega)]
      exact h.1.2.2.2
    · rw [x_i_I, if_pos rfl, if_neg (by omega)]
      exact i2
    · rw [x_i_I, if_pos rfl, if_neg (by omega), x_i_I, if_pos rfl, if_neg (by omega)]
      exact k3
    · rw [x_i_I, if_pos rfl, if_neg (by omega), x_i_I, if_pos rfl, if_neg (by omega)]
      exact k4
    · rw [x_i_I, if_pos rfl, if_neg (by omega), x_i_I, if_pos rfl, if_neg (by omega)]
      exact k5
    · rw [x_i_I, if_pos rfl, if_neg (by omega)]
      exact x_i_Is
  · rw [if_neg e]
    refine ⟨S, ?_, h⟩
    generalize s.1.1 = w at *
    simp (disch := omega) only [fX8_fail, kX8_fail_20, kX8_fail_0, x_cs0, x_csi, x_csr, x_csn, x_csl, x_ret_v, x_ret_t, x_ret_n, x_tl_s, x_tl_n, x_lk0, x_lk, x_rem0, x_rem_i, x_rem_r, x_rem_l, x_rem2_0, x_rem2_i, x_rem2_r, x_rem2_l, x_pick0, x_pick_c, x_st1, x_st2, x_live, x_i, x_l, x_a, x_ild, x_lld, x_rld, x_ist, x_lst, x_rst, x_inc, x_ii, x_ll, x_li, x_cmp, x_ui, x_il, x_lti, x_idiv, x_irem, x_dup_i, x_dup_r, x_pop_i, x_pop_r, x_dupx_ir, x_dup2_ir, x_ifeq, x_iceq, x_iflt, x_iclt, x_ifge, x_icge, x_ifgt, x_icgt, x_ifle, x_icle, x_ifne, x_icne, x_ifnull_r, x_ifnull_n, x_ifnonnull_r, x_ifnonnull_n, x_sw, x_vret, x_iret, x_lret, x_zret, x_zret0, x_zret1, x_rf_s, x_rf_n, x_geti, x_getr, x_puti, x_putz, x_putr, x_ial, x_ias, x_lal, x_las, x_aal, x_aas, x_aast, x_alen, x_new, x_newa, x_copy, x_min, x_abs, x_minl, x_oinit, x_throw, x_callS0, x_callS1, x_callS2, x_callS3, x_callS4, x_callV0, x_callV1, x_callV2, x_callV3, x_callV4, x_callV5, x_retI_v, x_callI0, x_callI1, x_callI2, x_retN_v, x_callSN1, x_callSN2, x_callT0, x_callT1, x_fn, x_sl0, x_sli, x_slr, x_sll, x_ar0, x_ari, x_arr, x_arl, ↓reduceIte, Nat.reduceAdd, Nat.reduceSub, Nat.reduceMul, Nat.reduceEqDiff, Nat.reduceLeDiff, Nat.reduceLT, if_true, if_false, Nat.le_refl, and_true, true_and, and_self, reduceCtorEq, or_false, false_or, or_true, true_or, Nat.zero_le, fa_lit, nI_add, w_mul, nI_ltI, nI_leI, nI_eq, nI_clamp, nI_toInt, if_pos, if_neg, w_div, w_rem2, yk100 hC, yk125 hC, yk126 hC, yk127 hC, yk128 hC, yk129 hC, yk130 hC, yk131 hC, yk132 hC, yk133 hC, yk134 hC, yk135 hC, yk136 hC, yk137 hC, yl126 hC, yl128 hC, yl130 hC, yl131 hC, yl133 hC, yl137 hC, yr100_0 hC, yr100_1 hC, yr100_2 hC, yr100_3 hC, yr100_4 hC, yr100_5 hC, yr100_6 hC, yr100_7 hC, yr100_8 hC, yr100_9 hC, yr100_10 hC, yr125_0 hC, yr127_0 hC, yr129_0 hC, yr129_1 hC, yr129_2 hC, yr132_0 hC, yr134_0 hC, yr135_0 hC, yr135_1 hC, yr136_0 hC, yr136_1 hC, m2]
theorem y_nextT {S0 : am_S} (h : w_pc S0 S L B s) : ∃ S', fX8_next w_N [.ref 134] S = some (.inl none, S') ∧ w_pc S0 S' L B (p_next B L s) := by
  obtain ⟨k1, k2, k3, k4, k5⟩ := h.2.1
  have hy : w_yl S S L B := ⟨w_I.rf, h.1.2.1, h.1.2.2.1, h.1.2.2.2, fun _ _ => rfl⟩
  obtain ⟨S', f1, f2, f3, f4, f5, f6⟩ := y_next hy k3 k1.2.1
  obtain ⟨m1, m2, m3⟩ := h.2.2.1
  refine ⟨S', f1, h.fr f2.1 f2.2.2.2.1 ⟨l_nx_ok k1.2.1, f3, f4, f5, f6⟩ ⟨m1, ?_, ?_⟩ rfl⟩
  · rw [f2.2.2.2.2 6 (by omega)]
    exact m2
  · rw [f2.2.2.2.2 7 (by omega)]
    exact m3
end L8
