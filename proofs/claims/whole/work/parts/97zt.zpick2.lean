/-! THE REFERENCE READS: a picket is put into the row -/
def s_pkr (Q F : Nat → Int32) (ne i : Nat) : Nat → Int32 := fun j => if 36 + 7 * ne ≤ j ∧ j < 36 + 7 * ne + i then F (j - (36 + 7 * ne)) else Q j
section L37
variable {S S' S0 T V : am_S} {a b c o p q i j k m n u t L e f κ v0 lo h ne A : Nat} {P : Nat → Prop} {B : Nat → Nat} {x y z v hi x' y' : Int32} {s s' : p_S} {R Q F : Nat → Int32}
theorem s_pkr_0 : s_pkr Q F ne 0 = Q := by
  funext j
  unfold s_pkr
  rw [if_neg (by omega)]
theorem s_pkr_s : va_up (s_pkr Q F ne i) (36 + 7 * ne + i) (F i) = s_pkr Q F ne (i + 1) := by
  funext j
  rw [s_up]
  unfold s_pkr
  by_cases e : j = 36 + 7 * ne + i
  · rw [if_pos e, if_pos (by omega), e, show 36 + 7 * ne + i - (36 + 7 * ne) = i by omega]
  · rw [if_neg e]
    by_cases h : 36 + 7 * ne ≤ j ∧ j < 36 + 7 * ne + i
    · rw [if_pos h, if_pos (by omega)]
    · rw [if_neg h, if_neg (by omega)]
theorem z_pkL (hZ : w_Z V) (hA : am_k V A = 20) (hl : am_l V A = 7) (hn : am_i V 140 3 = nI ne) (hn4 : ne < 4) (hA2 : A ≠ 140) : ∃ T, kX11_readPicket_197 w_N [(0, .ref 138), (5, .ref A), (6, .int (nI 0))] [] V = some (.inl none, T) ∧ w_I (fun b => b = 140) V T ∧ am_i T 140 = va_up (s_pkr (am_i V 140) (am_i V A) ne 7) 3 (nI (ne + 1)) := by
  obtain ⟨T, r, n1, n2⟩ := w_genR (σ := Unit) (body := bX11_readPicket_197 w_N) (lvf := fun i => [(0, .ref 138), (5, .ref A), (6, .int (nI i))]) (n := 7) (g := fun _ s => s) (P := fun i T _ => T = am_row V 140 (s_pkr (am_i V 140) (am_i V A) ne i))
    (fun i T s r hi hP => by
      have hI : w_I (fun b => b = 140) V T := by rw [hP]; exact w_I.row rfl
      have hZT := hI.Z hZ
      have kT : am_k T A = 20 := by rw [hI.2.2.1]; exact hA
      have lT : am_l T A = 7 := by rw [hI.2.2.2.1]; exact hl
      have iT : am_i T A i = am_i V A i := by rw [hI.i hA2]
      have nT : am_i T 140 3 = nI ne := by
        rw [hP, x_rows]
        unfold s_pkr
        rw [if_neg (by omega)]
        exact hn
      have zp := z_picketAt (S := T) (u := ne) (j := i)
      refine ⟨am_putI T 140 (36 + 7 * ne + i) (am_i V A i), ?_, ?_⟩
      · simp (disch := omega) only [bX11_readPicket_197, x_cs0, x_csi, x_csr, x_csn, x_csl, x_ret_v, x_ret_t, x_ret_n, x_tl_s, x_tl_n, x_lk0, x_lk, x_rem0, x_rem_i, x_rem_r, x_rem_l, x_rem2_0, x_rem2_i, x_rem2_r, x_rem2_l, x_pick0, x_pick_c, x_st1, x_st2, x_live, x_i, x_l, x_a, x_ild, x_lld, x_rld, x_ist, x_lst, x_rst, x_inc, x_ii, x_ll, x_li, x_cmp, x_ui, x_il, x_lti, x_idiv, x_irem, x_dup_i, x_dup_r, x_pop_i, x_pop_r, x_dupx_ir, x_dup2_ir, x_ifeq, x_iceq, x_iflt, x_iclt, x_ifge, x_icge, x_ifgt, x_icgt, x_ifle, x_icle, x_ifne, x_icne, x_ifnull_r, x_ifnull_n, x_ifnonnull_r, x_ifnonnull_n, x_sw, x_vret, x_iret, x_lret, x_zret, x_zret0, x_zret1, x_rf_s, x_rf_n, x_geti, x_getr, x_puti, x_putz, x_putr, x_ial, x_ias, x_lal, x_las, x_aal, x_aas, x_aast, x_alen, x_new, x_newa, x_copy, x_min, x_abs, x_minl, x_oinit, x_throw, x_callS0, x_callS1, x_callS2, x_callS3, x_callS4, x_callV0, x_callV1, x_callV2, x_callV3, x_callV4, x_callV5, x_retI_v, x_callI0, x_callI1, x_callI2, x_retN_v, x_callSN1, x_callSN2, x_callT0, x_callT1, x_fn, x_sl0, x_sli, x_slr, x_sll, x_ar0, x_ari, x_arr, x_arl, ↓reduceIte, Nat.reduceAdd, Nat.reduceSub, Nat.reduceMul, Nat.reduceEqDiff, Nat.reduceLeDiff, Nat.reduceLT, if_true, if_false, Nat.le_refl, and_true, true_and, and_self, reduceCtorEq, or_false, false_or, or_true, true_or, Nat.zero_le, fa_lit, nI_add, w_mul, nI_ltI, nI_leI, nI_eq, nI_clamp, nI_toInt, if_pos, if_neg, w_div, w_rem2, zk138 hZT, zk139 hZT, zk140 hZT, zk141 hZT, zk142 hZT, zk143 hZT, zk144 hZT, zk145 hZT, zk146 hZT, zk147 hZT, zk148 hZT, zk149 hZT, zk150 hZT, zk151 hZT, zl139 hZT, zl140 hZT, zl141 hZT, zl142 hZT, zl143 hZT, zl144 hZT, zl145 hZT, zl146 hZT, zl147 hZT, zl148 hZT, zl149 hZT, zl150 hZT, zl151 hZT, zr138_0 hZT, zr138_1 hZT, zr138_2 hZT, zr138_3 hZT, zr138_4 hZT, zr138_8 hZT, zr138_9 hZT, zr138_10 hZT, zr138_12 hZT, zr138_24 hZT, zr138_25 hZT, zr138_26 hZT, zr148_0 hZT, zr148_1 hZT, zr148_2 hZT, zr148_3 hZT, zr148_4 hZT, zr148_5 hZT, zr148_6 hZT, zr148_7 hZT, zr148_8 hZT, kT, lT, iT, nT, zp]
      · rw [hP, x_rowput, x_rr, x_rows, s_pkr_s]) w_N 0 V () (by show 7 - 0 < 5000; omega) (Nat.zero_le _) (by rw [s_pkr_0, x_row_self])
  have hI : w_I (fun b => b = 140) V T := by rw [n2]; exact w_I.row rfl
  have hZT := hI.Z hZ
  have nT : am_i T 140 3 = nI ne := by
    rw [n2, x_rows]
    unfold s_pkr
    rw [if_neg (by omega)]
    exact hn
  refine ⟨am_putI T 140 3 (nI (ne + 1)), ?_, hI.tr (w_I.put (P := fun b => b = 140) rfl), ?_⟩
  · have g : am_loop (bX11_readPicket_197 w_N) w_N [(0, .ref 138), (5, .ref A), (6, .int (nI 0))] [] V = some (.inl none, am_putI T 140 3 (nI (ne + 1))) := by
      refine Eq.trans n1 ?_
      simp (disch := omega) only [bX11_readPicket_197, kX11_readPicket_241, x_cs0, x_csi, x_csr, x_csn, x_csl, x_ret_v, x_ret_t, x_ret_n, x_tl_s, x_tl_n, x_lk0, x_lk, x_rem0, x_rem_i, x_rem_r, x_rem_l, x_rem2_0, x_rem2_i, x_rem2_r, x_rem2_l, x_pick0, x_pick_c, x_st1, x_st2, x_live, x_i, x_l, x_a, x_ild, x_lld, x_rld, x_ist, x_lst, x_rst, x_inc, x_ii, x_ll, x_li, x_cmp, x_ui, x_il, x_lti, x_idiv, x_irem, x_dup_i, x_dup_r, x_pop_i, x_pop_r, x_dupx_ir, x_dup2_ir, x_ifeq, x_iceq, x_iflt, x_iclt, x_ifge, x_icge, x_ifgt, x_icgt, x_ifle, x_icle, x_ifne, x_icne, x_ifnull_r, x_ifnull_n, x_ifnonnull_r, x_ifnonnull_n, x_sw, x_vret, x_iret, x_lret, x_zret, x_zret0, x_zret1, x_rf_s, x_rf_n, x_geti, x_getr, x_puti, x_putz, x_putr, x_ial, x_ias, x_lal, x_las, x_aal, x_aas, x_aast, x_alen, x_new, x_newa, x_copy, x_min, x_abs, x_minl, x_oinit, x_throw, x_callS0, x_callS1, x_callS2, x_callS3, x_callS4, x_callV0, x_callV1, x_callV2, x_callV3, x_callV4, x_callV5, x_retI_v, x_callI0, x_callI1, x_callI2, x_retN_v, x_callSN1, x_callSN2, x_callT0, x_callT1, x_fn, x_sl0, x_sli, x_slr, x_sll, x_ar0, x_ari, x_arr, x_arl, ↓reduceIte, Nat.reduceAdd, Nat.reduceSub, Nat.reduceMul, Nat.reduceEqDiff, Nat.reduceLeDiff, Nat.reduceLT, if_true, if_false, Nat.le_refl, and_true, true_and, and_self, reduceCtorEq, or_false, false_or, or_true, true_or, Nat.zero_le, fa_lit, nI_add, w_mul, nI_ltI, nI_leI, nI_eq, nI_clamp, nI_toInt, if_pos, if_neg, w_div, w_rem2, zk138 hZT, zk139 hZT, zk140 hZT, zk141 hZT, zk142 hZT, zk143 hZT, zk144 hZT, zk145 hZT, zk146 hZT, zk147 hZT, zk148 hZT, zk149 hZT, zk150 hZT, zk151 hZT, zl139 hZT, zl140 hZT, zl141 hZT, zl142 hZT, zl143 hZT, zl144 hZT, zl145 hZT, zl146 hZT, zl147 hZT, zl148 hZT, zl149 hZT, zl150 hZT, zl151 hZT, zr138_0 hZT, zr138_1 hZT, zr138_2 hZT, zr138_3 hZT, zr138_4 hZT, zr138_8 hZT, zr138_9 hZT, zr138_10 hZT, zr138_12 hZT, zr138_24 hZT, zr138_25 hZT, zr138_26 hZT, zr148_0 hZT, zr148_1 hZT, zr148_2 hZT, zr148_3 hZT, zr148_4 hZT, zr148_5 hZT, zr148_6 hZT, zr148_7 hZT, zr148_8 hZT, nT]
    simp (disch := omega) only [kX11_readPicket_197, x_cs0, x_csi, x_csr, x_csn, x_csl, x_ret_v, x_ret_t, x_ret_n, x_tl_s, x_tl_n, x_lk0, x_lk, x_rem0, x_rem_i, x_rem_r, x_rem_l, x_rem2_0, x_rem2_i, x_rem2_r, x_rem2_l, x_pick0, x_pick_c, x_st1, x_st2, x_live, x_i, x_l, x_a, x_ild, x_lld, x_rld, x_ist, x_lst, x_rst, x_inc, x_ii, x_ll, x_li, x_cmp, x_ui, x_il, x_lti, x_idiv, x_irem, x_dup_i, x_dup_r, x_pop_i, x_pop_r, x_dupx_ir, x_dup2_ir, x_ifeq, x_iceq, x_iflt, x_iclt, x_ifge, x_icge, x_ifgt, x_icgt, x_ifle, x_icle, x_ifne, x_icne, x_ifnull_r, x_ifnull_n, x_ifnonnull_r, x_ifnonnull_n, x_sw, x_vret, x_iret, x_lret, x_zret, x_zret0, x_zret1, x_rf_s, x_rf_n, x_geti, x_getr, x_puti, x_putz, x_putr, x_ial, x_ias, x_lal, x_las, x_aal, x_aas, x_aast, x_alen, x_new, x_newa, x_copy, x_min, x_abs, x_minl, x_oinit, x_throw, x_callS0, x_callS1, x_callS2, x_callS3, x_callS4, x_callV0, x_callV1, x_callV2, x_callV3, x_callV4, x_callV5, x_retI_v, x_callI0, x_callI1, x_callI2, x_retN_v, x_callSN1, x_callSN2, x_callT0, x_callT1, x_fn, x_sl0, x_sli, x_slr, x_sll, x_ar0, x_ari, x_arr, x_arl, ↓reduceIte, Nat.reduceAdd, Nat.reduceSub, Nat.reduceMul, Nat.reduceEqDiff, Nat.reduceLeDiff, Nat.reduceLT, if_true, if_false, Nat.le_refl, and_true, true_and, and_self, reduceCtorEq, or_false, false_or, or_true, true_or, Nat.zero_le, g]
  · rw [w_iA, n2, x_rows]
theorem w_lk.pick {g d f t : Int32} (h : w_lk Q R) (h2 : s_n (R 2) < 7) (hn4 : ne < 4) (f0 : F 0 = x) (f1 : F 1 = y) (f2 : F 2 = g) (f3 : F 3 = d) (f4 : F 4 = f) (f5 : F 5 = t) (f6 : F 6 = nI 0) : w_lk (va_up (s_pkr Q F ne 7) 3 (nI (ne + 1))) (s_addP R ne x y g d f t) := by
  have hc : ∀ j, j ≠ 3 → (j < 36 + 7 * ne ∨ 36 + 7 * ne + 7 ≤ j) → s_addP R ne x y g d f t j = R j := fun j h1 h2 => by
    unfold s_addP
    rw [s_up_n h1, s_up_n (by omega), s_up_n (by omega), s_up_n (by omega), s_up_n (by omega), s_up_n (by omega), s_up_n (by omega), s_up_n (by omega)]
  have hq : ∀ j, j ≠ 3 → (j < 36 + 7 * ne ∨ 36 + 7 * ne + 7 ≤ j) → va_up (s_pkr Q F ne 7) 3 (nI (ne + 1)) j = Q j := fun j h1 h2 => by
    rw [s_up_n h1]
    unfold s_pkr
    rw [if_neg (by omega)]
  have hi : ∀ i, i < 7 → va_up (s_pkr Q F ne 7) 3 (nI (ne + 1)) (36 + 7 * ne + i) = F i := fun i hi => by
    rw [s_up_n (by omega)]
    unfold s_pkr
    rw [if_pos (by omega), show 36 + 7 * ne + i - (36 + 7 * ne) = i by omega]
  refine ⟨fun j hj => ?_, fun u hu => ?_⟩
  · by_cases e : j = 3
    · rw [e, s_up_s]
      unfold s_addP
      rw [s_up_s]
    · by_cases g' : j < 36 + 7 * ne ∨ 36 + 7 * ne + 7 ≤ j
      · rw [hc j e g', hq j e g']
        exact h.1 j hj
      · obtain ⟨i, hi7, rfl⟩ : ∃ i, i < 7 ∧ j = 36 + 7 * ne + i := ⟨j - (36 + 7 * ne), by omega, by omega⟩
        rw [hi i hi7]
        unfold s_addP
        rcases (show i = 0 ∨ i = 1 ∨ i = 2 ∨ i = 3 ∨ i = 4 ∨ i = 5 ∨ i = 6 by omega) with rfl | rfl | rfl | rfl | rfl | rfl | rfl
        · rw [s_up_n (by omega), s_up_n (by omega), s_up_n (by omega), s_up_n (by omega), s_up_n (by omega), s_up_n (by omega), s_up_n (by omega), s_up_s, f0]
        · rw [s_up_n (by omega), s_up_n (by omega), s_up_n (by omega), s_up_n (by omega), s_up_n (by omega), s_up_n (by omega), s_up_s, f1]
        · rw [s_up_n (by omega), s_up_n (by omega), s_up_n (by omega), s_up_n (by omega), s_up_n (by omega), s_up_s, f2]
        · rw [s_up_n (by omega), s_up_n (by omega), s_up_n (by omega), s_up_n (by omega), s_up_s, f3]
        · rw [s_up_n (by omega), s_up_n (by omega), s_up_n (by omega), s_up_s, f4]
        · rw [s_up_n (by omega), s_up_n (by omega), s_up_s, f5]
        · rw [s_up_n (by omega), s_up_s, f6]
  · rw [hc 2 (by omega) (by omega)] at hu
    rw [hc _ (by omega) (by omega), hc _ (by omega) (by omega), hq _ (by omega) (by omega)]
    exact h.2 u hu
theorem w_zo.pk (H : w_zo S0 S L B s x y) (e : s.1.1 = 0) (hF : w_F (fun b => b = 140) S T) (hn : am_n T = am_n S + 1) (hz : am_z T = am_z S + 7) (hV : p_V Q) (hl : w_lk (am_i T 140) Q) (h3 : s_n (Q 3) = s_n (s.2.2 3) + 1) : w_zo S0 T L B (p_set s Q) x y := by
  obtain ⟨⟨a1, a2, k, k1, k2, k3, k4⟩, ⟨b1, b2, b3⟩, a5, a6, a7, a8, a9⟩ := H
  have n3 := hV.1.B.2.2.1.2
  have low : ∀ b, 138 ≤ b → b ≤ 151 → b < am_n S := fun b h1 h2 => by
    have := a1.1
    omega
  have i138 : am_i T 138 = am_i S 138 := hF.i (low 138 (by omega) (by omega)) (by omega)
  have i147 : am_i T 147 = am_i S 147 := hF.i (low 147 (by omega) (by omega)) (by omega)
  have zT : w_Z T := by
    have hk : ∀ b, 138 ≤ b → b ≤ 151 → am_k T b = am_k S b := fun b h1 h2 => hF.k (low b h1 h2)
    have hl : ∀ b, 138 ≤ b → b ≤ 151 → am_l T b = am_l S b := fun b h1 h2 => hF.l (low b h1 h2)
    have hr : ∀ b, 138 ≤ b → b ≤ 151 → b ≠ 140 → am_r T b = am_r S b := fun b h1 h2 h3 => hF.r (low b h1 h2) h3
    unfold w_Z at b1 ⊢
    simp (disch := omega) only [hk, hl, hr]
    exact b1
  have kk := k4 e
  refine ⟨⟨a1.tr (hF.mono (fun b hb => Or.inr hb)), a2, k + 1, ?_, by omega, by omega, fun q => ?_⟩, ⟨zT, ⟨b2.1, fun i hi => by rw [i147]; exact b2.2 i hi⟩, by rw [i138]; exact b3⟩, fun j hj => by rw [i138]; exact a5 j hj, by rw [i138]; exact a6, by rw [i138]; exact a7, by rw [i138]; exact a8, fun _ => ⟨hV, hl⟩⟩
  · omega
  · show k + 1 = s_n (Q 3)
    omega
/-- while the array is filled -/
def w_rv (S7 V : am_S) (A i j : Nat) : Prop := w_F (fun b => b = A) S7 V ∧ am_n V = A + 1 ∧ am_z V = am_z S7 + 7 ∧ (am_k V A = 20 ∧ am_l V A = 7) ∧ w_Z V ∧ am_i V 138 22 = nI i ∧ am_i V 138 23 = nI j
theorem w_rv.put {S7 : am_S} (h : w_rv S7 V A i j) (hA : 151 < A) (q : Nat) (v : Int32) : w_rv S7 (am_putI V A q v) A i j := by
  have k : w_I (fun b => b = A) V (am_putI V A q v) := w_I.put (P := fun b => b = A) rfl
  exact ⟨h.1.tr (w_F.of k), h.2.1, h.2.2.1, h.2.2.2.1, k.Z h.2.2.2.2.1, by rw [k.i (by omega)]; exact h.2.2.2.2.2.1, by rw [k.i (by omega)]; exact h.2.2.2.2.2.2⟩
end L37
