/-! THE REFERENCE ASKS: its codes -/
def q_at : List Int32 → Nat → Int32
  | [], _ => nI 0
  | c :: _, 0 => c
  | _ :: C, i + 1 => q_at C i
def q_t (i : Nat) : Nat := if i = 0 then 23 else if i = 1 then 5 else 22 + i
/-- the reference within a question, at the token of s, with the codes C, op opened, d places to spare -/
def w_zc (S0 S : am_S) (L : Nat) (B : Nat → Nat) (s : p_S) (C : List Int32) (op d : Nat) : Prop :=
  w_I (fun b => b = 138 ∨ b = 149) S0 S ∧ (w_zt S S L B s ∧ L ≤ 200) ∧ (∀ j, (j < 15 ∨ j = 20) → am_i S 138 j = am_i S0 138 j) ∧ am_i S 138 21 = nI op ∧ (s.1.1 = 0 → C.length + d ≤ s.2.1.1 ∧ am_i S 138 27 = nI C.length ∧ ∀ i, i < C.length → am_i S 149 i = q_at C i)
section L56
variable {S S' T S0 : am_S} {a b c o p q i j k m n u t L e f κ v0 lo h op d l r : Nat} {P : Nat → Prop} {B : Nat → Nat} {x y z v hi : Int32} {s s' : p_S} {R : Nat → Int32} {C : List Int32}
theorem q_at_l {D : List Int32} : ∀ (C : List Int32) i, i < C.length → q_at (C ++ D) i = q_at C i
  | [], i, h => absurd h (Nat.not_lt_zero _)
  | c :: C, 0, _ => rfl
  | c :: C, i + 1, h => by
    have h2 : i < C.length := Nat.lt_of_succ_lt_succ h
    exact q_at_l C i h2
theorem q_at_r {D : List Int32} {i : Nat} : ∀ (C : List Int32), q_at (C ++ D) (C.length + i) = q_at D i
  | [] => by
    show q_at D (0 + i) = q_at D i
    rw [Nat.zero_add]
  | c :: C => by
    have e : (c :: C).length + i = (C.length + i) + 1 := by
      rw [List.length_cons]
      omega
    rw [e]
    exact q_at_r C
theorem w_zc.Z (H : w_zc S0 S L B s C op d) : w_Z S := H.2.1.1.Z
theorem w_zc.lift (H : w_zc S0 S L B s C op d) (k : w_zt S S' L B s') (h : s'.1.1 = 0 → s.1.1 = 0 ∧ s.2.1.1 + e ≤ s'.2.1.1) : w_zc S0 S' L B s' C op (d + e) := by
  obtain ⟨a1, ⟨a2, a3⟩, a4, a5, a6⟩ := H
  have hI := k.1
  refine ⟨a1.tr (hI.mono (fun b hb => Or.inl hb)), ⟨k.self, a3⟩, fun j hj => (k.2.2.1 j (by omega)).trans (a4 j hj), (k.2.2.1 21 (by omega)).trans a5, fun q => ?_⟩
  obtain ⟨h1, h2⟩ := h q
  obtain ⟨b1, b2, b3⟩ := a6 h1
  exact ⟨by omega, (k.2.2.1 27 (by omega)).trans b2, fun i hi => by rw [hI.i (by omega)]; exact b3 i hi⟩
theorem w_zc.er (H : w_zc S0 S L B s C op d) (h : s.1.1 ≠ 0) (e : s'.1 = s.1) {C' : List Int32} {d' : Nat} : w_zc S0 S L B s' C' op d' := by
  obtain ⟨a1, ⟨a2, a3⟩, a4, a5, a6⟩ := H
  exact ⟨a1, ⟨a2.er h e, a3⟩, a4, a5, fun q => absurd q (by rw [e]; exact h)⟩
theorem w_zc.less (H : w_zc S0 S L B s C op (d + e)) : w_zc S0 S L B s C op d := by
  obtain ⟨a1, a2, a4, a5, a6⟩ := H
  exact ⟨a1, a2, a4, a5, fun q => ⟨by have := (a6 q).1; omega, (a6 q).2⟩⟩
theorem w_zc.tk (H : w_zc S0 S L B s C op d) (e : s.1.1 = 0) : p_ok B L s.2.1 := by
  obtain ⟨T, t1, -, -, -, t5⟩ := H.2.1.1.2.2.2.2
  rw [← t5 e]
  exact t1
theorem q_gt (h : p_ok B L s.2.1) (hk : s.2.1.2.2 ≠ 0) : s.2.1.1 + 1 ≤ (p_next B L s).2.1.1 := by
  have h1 := h.2.2.2.1 hk
  have h2 := l_nx_ge (B := B) h.2.1
  have : s.2.1.2.1 ≤ (p_next B L s).2.1.1 := h2
  omega
theorem q_ge (h : p_ok B L s.2.1) : s.2.1.1 ≤ (p_next B L s).2.1.1 := by
  have h1 := h.1
  have h2 := l_nx_ge (B := B) h.2.1
  have : s.2.1.2.1 ≤ (p_next B L s).2.1.1 := h2
  omega
theorem zq_adv (H : w_zc S0 S L B s C op d) (hk : s.1.1 = 0 → s.2.1.2.2 ≠ 0) : ∃ S', fX11_advance w_N [.ref 138] S = some (.inl none, S') ∧ w_zc S0 S' L B (p_next B L s) C op (d + 1) := by
  obtain ⟨S', f1, f2⟩ := t_adv H.2.1.1
  exact ⟨S', f1, H.lift f2 (fun q => ⟨q, q_gt (H.tk q) (hk q)⟩)⟩
theorem zq_ck0 (H : w_zc S0 S L B s C op d) (hc : c ≤ 4) (hc0 : c ≠ 0) : ∃ S', fX11_check w_N [.ref 138, .int (nI 0), .int (nI c)] S = some (.inl none, S') ∧ w_zc S0 S' L B (p_fail s c) C op d := by
  obtain ⟨S', f1, f2⟩ := t_ck0 H.2.1.1 hc hc0
  exact ⟨S', f1, H.lift (e := 0) f2 (fun q => absurd q (p_fail_0 hc0))⟩
theorem zq_emE (H : w_zc S0 S L B s C op d) (e : s.1.1 ≠ 0) (c : Int32) : fX11_emit w_N [.ref 138, .int c] S = some (.inl none, S) := by
  have hZ := H.Z
  have h18 := H.2.1.1.k18
  generalize s.1.1 = w at *
  obtain ⟨h18, hw⟩ := h18
  simp (disch := omega) only [fX11_emit, kX11_emit_27, kX11_emit_0, x_cs0, x_csi, x_csr, x_csn, x_csl, x_ret_v, x_ret_t, x_ret_n, x_tl_s, x_tl_n, x_lk0, x_lk, x_rem0, x_rem_i, x_rem_r, x_rem_l, x_rem2_0, x_rem2_i, x_rem2_r, x_rem2_l, x_pick0, x_pick_c, x_st1, x_st2, x_live, x_i, x_l, x_a, x_ild, x_lld, x_rld, x_ist, x_lst, x_rst, x_inc, x_ii, x_ll, x_li, x_cmp, x_ui, x_il, x_lti, x_idiv, x_irem, x_dup_i, x_dup_r, x_pop_i, x_pop_r, x_dupx_ir, x_dup2_ir, x_ifeq, x_iceq, x_iflt, x_iclt, x_ifge, x_icge, x_ifgt, x_icgt, x_ifle, x_icle, x_ifne, x_icne, x_ifnull_r, x_ifnull_n, x_ifnonnull_r, x_ifnonnull_n, x_sw, x_vret, x_iret, x_lret, x_zret, x_zret0, x_zret1, x_rf_s, x_rf_n, x_geti, x_getr, x_puti, x_putz, x_putr, x_ial, x_ias, x_lal, x_las, x_aal, x_aas, x_aast, x_alen, x_new, x_newa, x_copy, x_min, x_abs, x_minl, x_oinit, x_throw, x_callS0, x_callS1, x_callS2, x_callS3, x_callS4, x_callV0, x_callV1, x_callV2, x_callV3, x_callV4, x_callV5, x_retI_v, x_callI0, x_callI1, x_callI2, x_retN_v, x_callSN1, x_callSN2, x_callT0, x_callT1, x_fn, x_sl0, x_sli, x_slr, x_sll, x_ar0, x_ari, x_arr, x_arl, ↓reduceIte, Nat.reduceAdd, Nat.reduceSub, Nat.reduceMul, Nat.reduceEqDiff, Nat.reduceLeDiff, Nat.reduceLT, if_true, if_false, Nat.le_refl, and_true, true_and, and_self, reduceCtorEq, or_false, false_or, or_true, true_or, Nat.zero_le, fa_lit, nI_add, w_mul, nI_ltI, nI_leI, nI_eq, nI_clamp, nI_toInt, if_pos, if_neg, w_div, w_rem2, zk138 hZ, zk139 hZ, zk140 hZ, zk141 hZ, zk142 hZ, zk143 hZ, zk144 hZ, zk145 hZ, zk146 hZ, zk147 hZ, zk148 hZ, zk149 hZ, zk150 hZ, zk151 hZ, zl139 hZ, zl140 hZ, zl141 hZ, zl142 hZ, zl143 hZ, zl144 hZ, zl145 hZ, zl146 hZ, zl147 hZ, zl148 hZ, zl149 hZ, zl150 hZ, zl151 hZ, zr138_0 hZ, zr138_1 hZ, zr138_2 hZ, zr138_3 hZ, zr138_4 hZ, zr138_8 hZ, zr138_9 hZ, zr138_10 hZ, zr138_12 hZ, zr138_24 hZ, zr138_25 hZ, zr138_26 hZ, zr148_0 hZ, zr148_1 hZ, zr148_2 hZ, zr148_3 hZ, zr148_4 hZ, zr148_5 hZ, zr148_6 hZ, zr148_7 hZ, zr148_8 hZ, h18]
theorem w_zt.fr2 (H : w_zt S S L B s) (hI : w_I (fun b => b = 138 ∨ b = 149) S S') (h : ∀ j, j < 20 → am_i S' 138 j = am_i S 138 j) : w_zt S' S' L B s := by
  obtain ⟨a1, ⟨b1, b2, b3⟩, a5, ⟨m1, m2, m3⟩, T, t1, t2, t3, t4, t5⟩ := H
  exact ⟨w_I.rf, ⟨hI.Z b1, b2.of hI (by omega), by rw [h 14 (by omega)]; exact b3⟩, fun _ _ => rfl, ⟨m1, by rw [h 18 (by omega)]; exact m2, fun q => by rw [h 19 (by omega)]; exact m3 q⟩, T, t1, by rw [h 16 (by omega)]; exact t2, by rw [h 15 (by omega)]; exact t3, by rw [h 17 (by omega)]; exact t4, t5⟩
/-- a code, with room -/
theorem zq_em (H : w_zc S0 S L B s C op d) (hr : s.1.1 = 0 → C.length + 1 + n ≤ s.2.1.1 + m) (hr2 : s.1.1 = 0 → C.length < 200) (c : Int32) : ∃ S', fX11_emit w_N [.ref 138, .int c] S = some (.inl none, S') ∧ w_I (fun b => b = 138 ∨ b = 149) S S' ∧ w_zt S' S' L B s ∧ (∀ j, (j < 15 ∨ j = 20 ∨ j = 21) → am_i S' 138 j = am_i S 138 j) ∧ (s.1.1 = 0 → am_i S' 138 27 = nI (C ++ [c]).length ∧ ∀ i, i < (C ++ [c]).length → am_i S' 149 i = q_at (C ++ [c]) i) := by
  by_cases e : s.1.1 = 0
  · have hZ := H.Z
    have h18 := H.2.1.1.k18.1
    rw [e] at h18
    obtain ⟨b1, b2, b3⟩ := H.2.2.2.2 e
    have hl := hr2 e
    have I1 : w_I (fun b => b = 149) S (am_putI S 149 C.length c) := w_I.put (P := fun b => b = 149) rfl
    have hZ1 := I1.Z hZ
    have b2' : am_i (am_putI S 149 C.length c) 138 27 = nI C.length := by rw [I1.i (by omega)]; exact b2
    have I2 : w_I (fun b => b = 138) (am_putI S 149 C.length c) (am_putI (am_putI S 149 C.length c) 138 27 (nI (C.length + 1))) := w_I.put (P := fun b => b = 138) rfl
    have I12 := (I1.mono (fun b hb => Or.inr hb) : w_I (fun b => b = 138 ∨ b = 149) _ _).tr (I2.mono (fun b hb => Or.inl hb))
    have ij : ∀ j, j ≠ 27 → am_i (am_putI (am_putI S 149 C.length c) 138 27 (nI (C.length + 1))) 138 j = am_i S 138 j := fun j hj => by
      rw [x_i_I, if_pos rfl, if_neg hj, I1.i (by omega)]
    refine ⟨am_putI (am_putI S 149 C.length c) 138 27 (nI (C.length + 1)), ?_, I12, H.2.1.1.fr2 I12 (fun j hj => ij j (by omega)), fun j hj => ij j (by omega), fun _ => ⟨?_, fun i hi => ?_⟩⟩
    · generalize C.length = cl at *
      simp (disch := omega) only [fX11_emit, kX11_emit_27, kX11_emit_0, x_cs0, x_csi, x_csr, x_csn, x_csl, x_ret_v, x_ret_t, x_ret_n, x_tl_s, x_tl_n, x_lk0, x_lk, x_rem0, x_rem_i, x_rem_r, x_rem_l, x_rem2_0, x_rem2_i, x_rem2_r, x_rem2_l, x_pick0, x_pick_c, x_st1, x_st2, x_live, x_i, x_l, x_a, x_ild, x_lld, x_rld, x_ist, x_lst, x_rst, x_inc, x_ii, x_ll, x_li, x_cmp, x_ui, x_il, x_lti, x_idiv, x_irem, x_dup_i, x_dup_r, x_pop_i, x_pop_r, x_dupx_ir, x_dup2_ir, x_ifeq, x_iceq, x_iflt, x_iclt, x_ifge, x_icge, x_ifgt, x_icgt, x_ifle, x_icle, x_ifne, x_icne, x_ifnull_r, x_ifnull_n, x_ifnonnull_r, x_ifnonnull_n, x_sw, x_vret, x_iret, x_lret, x_zret, x_zret0, x_zret1, x_rf_s, x_rf_n, x_geti, x_getr, x_puti, x_putz, x_putr, x_ial, x_ias, x_lal, x_las, x_aal, x_aas, x_aast, x_alen, x_new, x_newa, x_copy, x_min, x_abs, x_minl, x_oinit, x_throw, x_callS0, x_callS1, x_callS2, x_callS3, x_callS4, x_callV0, x_callV1, x_callV2, x_callV3, x_callV4, x_callV5, x_retI_v, x_callI0, x_callI1, x_callI2, x_retN_v, x_callSN1, x_callSN2, x_callT0, x_callT1, x_fn, x_sl0, x_sli, x_slr, x_sll, x_ar0, x_ari, x_arr, x_arl, ↓reduceIte, Nat.reduceAdd, Nat.reduceSub, Nat.reduceMul, Nat.reduceEqDiff, Nat.reduceLeDiff, Nat.reduceLT, if_true, if_false, Nat.le_refl, and_true, true_and, and_self, reduceCtorEq, or_false, false_or, or_true, true_or, Nat.zero_le, fa_lit, nI_add, w_mul, nI_ltI, nI_leI, nI_eq, nI_clamp, nI_toInt, if_pos, if_neg, w_div, w_rem2, zk138 hZ, zk139 hZ, zk140 hZ, zk141 hZ, zk142 hZ, zk143 hZ, zk144 hZ, zk145 hZ, zk146 hZ, zk147 hZ, zk148 hZ, zk149 hZ, zk150 hZ, zk151 hZ, zl139 hZ, zl140 hZ, zl141 hZ, zl142 hZ, zl143 hZ, zl144 hZ, zl145 hZ, zl146 hZ, zl147 hZ, zl148 hZ, zl149 hZ, zl150 hZ, zl151 hZ, zr138_0 hZ, zr138_1 hZ, zr138_2 hZ, zr138_3 hZ, zr138_4 hZ, zr138_8 hZ, zr138_9 hZ, zr138_10 hZ, zr138_12 hZ, zr138_24 hZ, zr138_25 hZ, zr138_26 hZ, zr148_0 hZ, zr148_1 hZ, zr148_2 hZ, zr148_3 hZ, zr148_4 hZ, zr148_5 hZ, zr148_6 hZ, zr148_7 hZ, zr148_8 hZ, zk138 hZ1, zk139 hZ1, zk140 hZ1, zk141 hZ1, zk142 hZ1, zk143 hZ1, zk144 hZ1, zk145 hZ1, zk146 hZ1, zk147 hZ1, zk148 hZ1, zk149 hZ1, zk150 hZ1, zk151 hZ1, zl139 hZ1, zl140 hZ1, zl141 hZ1, zl142 hZ1, zl143 hZ1, zl144 hZ1, zl145 hZ1, zl146 hZ1, zl147 hZ1, zl148 hZ1, zl149 hZ1, zl150 hZ1, zl151 hZ1, zr138_0 hZ1, zr138_1 hZ1, zr138_2 hZ1, zr138_3 hZ1, zr138_4 hZ1, zr138_8 hZ1, zr138_9 hZ1, zr138_10 hZ1, zr138_12 hZ1, zr138_24 hZ1, zr138_25 hZ1, zr138_26 hZ1, zr148_0 hZ1, zr148_1 hZ1, zr148_2 hZ1, zr148_3 hZ1, zr148_4 hZ1, zr148_5 hZ1, zr148_6 hZ1, zr148_7 hZ1, zr148_8 hZ1, h18, b2, b2']
    · rw [x_i_Is, List.length_append, List.length_singleton]
    · rw [List.length_append, List.length_singleton] at hi
      rw [x_i_I, if_neg (by omega), x_i_I, if_pos rfl]
      by_cases g : i = C.length
      · rw [if_pos g, g]
        exact (q_at_r (D := [c]) (i := 0) C).symm
      · rw [if_neg g, q_at_l _ _ (by omega)]
        exact b3 i (by omega)
  · exact ⟨S, zq_emE H e c, w_I.rf, H.2.1.1, fun _ _ => rfl, fun q => absurd q e⟩
/-- a code behind its token -/
theorem zq_em1 (H : w_zc S0 S L B s C op (d + 1)) (c : Int32) : ∃ S', fX11_emit w_N [.ref 138, .int c] S = some (.inl none, S') ∧ w_zc S0 S' L B s (C ++ [c]) op d := by
  have hb : s.1.1 = 0 → C.length + (d + 1) ≤ s.2.1.1 := fun e => (H.2.2.2.2 e).1
  have hl : s.1.1 = 0 → s.2.1.1 ≤ 200 := fun e => by
    have := (H.tk e).1
    have := (H.tk e).2.1
    have := H.2.1.2
    omega
  obtain ⟨S', f1, f2, f3, f4, f5⟩ := zq_em (n := d) (m := 0) H (fun e => by have := hb e; omega) (fun e => by have := hb e; have := hl e; omega) c
  obtain ⟨a1, ⟨a2, a3⟩, a4, a5, a6⟩ := H
  refine ⟨S', f1, a1.tr f2, ⟨f3, a3⟩, fun j hj => (f4 j (by omega)).trans (a4 j hj), (f4 21 (by omega)).trans a5, fun e => ⟨?_, f5 e⟩⟩
  rw [List.length_append, List.length_singleton]
  have := hb e
  omega
/-- a code, then its token is left -/
theorem zq_em2 (H : w_zc S0 S L B s C op d) (hk : s.1.1 = 0 → s.2.1.2.2 ≠ 0) (c : Int32) : ∃ S1 S', fX11_emit w_N [.ref 138, .int c] S = some (.inl none, S1) ∧ w_Z S1 ∧ fX11_advance w_N [.ref 138] S1 = some (.inl none, S') ∧ w_zc S0 S' L B (p_next B L s) (C ++ [c]) op d := by
  have hb : s.1.1 = 0 → C.length + d ≤ s.2.1.1 := fun e => (H.2.2.2.2 e).1
  have hl : s.1.1 = 0 → s.2.1.1 < 200 := fun e => by
    have := (H.tk e).2.2.2.1 (hk e)
    have := (H.tk e).2.1
    have := H.2.1.2
    omega
  obtain ⟨S1, f1, f2, f3, f4, f5⟩ := zq_em (n := 0) (m := 1) H (fun e => by have := hb e; omega) (fun e => by have := hb e; have := hl e; omega) c
  obtain ⟨S', g1, g2⟩ := t_adv f3
  obtain ⟨a1, ⟨a2, a3⟩, a4, a5, a6⟩ := id H
  have hI := g2.1
  refine ⟨S1, S', f1, f3.Z, g1, (a1.tr f2).tr (hI.mono (fun b hb => Or.inl hb)), ⟨g2.self, a3⟩, fun j hj => (g2.2.2.1 j (by omega)).trans ((f4 j (by omega)).trans (a4 j hj)), (g2.2.2.1 21 (by omega)).trans ((f4 21 (by omega)).trans a5), fun e => ?_⟩
  have e : s.1.1 = 0 := e
  obtain ⟨q1, q2⟩ := f5 e
  have q3 := q_gt (H.tk e) (hk e)
  refine ⟨?_, (g2.2.2.1 27 (by omega)).trans q1, fun i hi => by rw [hI.i (by omega)]; exact q2 i hi⟩
  rw [List.length_append, List.length_singleton]
  have := hb e
  omega
end L56
