/-! THE REFERENCE ASKS: factors, conjunctions, tests -/
def q_zs (S0 : am_S) (L : Nat) (B : Nat → Nat) (r : Option (am_O × am_S)) (x : q_T) (C : List Int32) (op d : Nat) : Prop := ∃ S', r = some (.inl none, S') ∧ w_zc S0 S' L B x.1 (C ++ x.2.1) op d
def q_fw (L : Nat) (s s' : p_S) : Prop := s.2.1.1 ≤ s.2.1.2.1 ∧ s.2.1.2.1 ≤ L → s.2.1.1 ≤ s'.2.1.1 ∧ s'.2.1.1 ≤ s'.2.1.2.1 ∧ s'.2.1.2.1 ≤ L
section L58
variable {S S' T S0 S1 : am_S} {a b c o p q i j k m n u t L e f κ v0 lo h op d dd l r : Nat} {P : Nat → Prop} {B : Nat → Nat} {x y z v hi : Int32} {s s' s2 : p_S} {R : Nat → Int32} {C : List Int32} {rF : am_F} {G : Nat → p_S → q_T}
/-! forward -/
theorem q_fw.rf : q_fw L s s := fun h => ⟨Nat.le_refl _, h⟩
theorem q_fw.tr (h : q_fw L s s') (k : q_fw L s' s2) : q_fw L s s2 := fun q => ⟨Nat.le_trans (h q).1 (k (h q).2).1, (k (h q).2).2⟩
theorem q_fw.next : q_fw L s (p_next B L s) := fun h => by
  have k := l_nx_ok (B := B) h.2
  have g := l_nx_ge (B := B) h.2
  exact ⟨Nat.le_trans h.1 g, k.1, k.2.1⟩
theorem q_fw.fail : q_fw L s (p_fail s c) := by
  have e : (p_fail s c).2.1 = s.2.1 := by rw [p_fail_2]
  intro q
  rw [e]
  exact q_fw.rf q
theorem q_fw.ite {p : Prop} [Decidable p] (h : q_fw L s s') (k : q_fw L s s2) : q_fw L s (if p then s' else s2) := by
  split
  · exact h
  · exact k
theorem q_fw.opd : q_fw L s (q_op B s).1 := by
  unfold q_op
  split
  · exact q_fw.ite q_fw.fail q_fw.rf
  · exact q_fw.ite q_fw.fail q_fw.rf
theorem q_fw.fac (hG : q_fw L s (G op s).1) : q_fw L s (q_fac R B L G op s).1 := by
  unfold q_fac
  split
  · split
    · exact hG
    · unfold q_cmp
      have e1 : q_fw L s (p_next B L (q_op B s).1) := q_fw.opd.tr q_fw.next
      have e2 : q_fw L (p_next B L (q_op B s).1) (q_m B (p_next B L (q_op B s).1)) := q_fw.ite q_fw.fail q_fw.rf
      exact ((((e1.tr e2).tr q_fw.next).tr q_fw.opd).tr q_fw.next)
  · exact q_fw.rf
theorem q_fw.cl (hG : ∀ s, q_fw L s (G op s).1) : ∀ k (x : q_T), q_fw L x.1 (q_cl R B L G op k x).1
  | 0, x => q_fw.rf
  | k + 1, x => by
    rw [q_cl]
    split
    · have g := q_fw.cl hG k ((q_fac R B L G op (p_next B L x.1)).1, x.2.1 ++ (q_fac R B L G op (p_next B L x.1)).2.1 ++ [-nI 24], fun o => x.2.2 o && (q_fac R B L G op (p_next B L x.1)).2.2 o)
      exact (q_fw.next.tr (q_fw.fac (hG _))).tr g
    · exact q_fw.rf
theorem q_fw.conj (hG : ∀ s, q_fw L s (G op s).1) : q_fw L s (q_conj R B L G op s).1 := (q_fw.fac (hG s)).tr (q_fw.cl hG 200 _)
theorem q_fw.tl (hG : ∀ s, q_fw L s (G op s).1) : ∀ k (x : q_T), q_fw L x.1 (q_tl R B L G op k x).1
  | 0, x => q_fw.rf
  | k + 1, x => by
    rw [q_tl]
    split
    · have g := q_fw.tl hG k ((q_conj R B L G op (p_next B L x.1)).1, x.2.1 ++ (q_conj R B L G op (p_next B L x.1)).2.1 ++ [-nI 25], fun o => x.2.2 o || (q_conj R B L G op (p_next B L x.1)).2.2 o)
      exact (q_fw.next.tr (q_fw.conj hG)).tr g
    · exact q_fw.rf
theorem q_fw.test (hG : ∀ s, q_fw L s (G op s).1) : q_fw L s (q_test R B L G op s).1 := (q_fw.conj hG).tr (q_fw.tl hG 200 _)
theorem q_fw.opn : ∀ d op (s : p_S), q_fw L s (q_open R B L d op s).1
  | 0, op, s => q_fw.rf
  | d + 1, op, s => by
    rw [q_open]
    split
    · split
      · exact q_fw.next.tr (q_fw.fac (q_fw.opn d (op + 1) _))
      · exact (q_fw.next.tr (q_fw.test (fun s => q_fw.opn d (op + 1) s))).tr ((q_fw.ite q_fw.rf q_fw.fail).tr q_fw.next)
    · exact q_fw.fail
/-! the runs -/
theorem zq_sy (H : w_zc S0 S L B s C op d) (hc : c < 256) : fX11_isSymbol w_N [.ref 138, .int (nI c)] S = some (.inl (some (.int (w_b (s.1.1 = 0 ∧ l_sg B s.2.1 c)))), S) := t_sy H.2.1.1 hc
theorem zq_wd (H : w_zc S0 S L B s C op d) (hT : am_isT t) : fX11_isWord w_N [.ref 138, .ref t] S = some (.inl (some (.int (w_b (s.1.1 = 0 ∧ l_w B s.2.1 t)))), S) := t_wd H.2.1.1 hT
theorem zq_acc1 (H : w_zc S0 S L B s C op d) (e : s.1.1 = 0) (hT : am_isT t) (hw : l_w B s.2.1 t) : ∃ S', fX11_accept w_N [.ref 138, .ref t] S = some (.inl (some (.int (nI 1))), S') ∧ w_zc S0 S' L B (p_next B L s) C op (d + 1) := by
  have hZ := H.Z
  have g := zq_wd H hT
  rw [w_bt ⟨e, hw⟩] at g
  obtain ⟨S', f1, f2⟩ := t_sc H.2.1.1 e
  have hk : s.2.1.2.2 ≠ 0 := by
    have := hw.1
    omega
  refine ⟨S', ?_, H.lift f2 (fun q => ⟨q, q_gt (H.tk q) hk⟩)⟩
  simp (disch := omega) only [fX11_accept, kX11_accept_14, kX11_accept_0, x_cs0, x_csi, x_csr, x_csn, x_csl, x_ret_v, x_ret_t, x_ret_n, x_tl_s, x_tl_n, x_lk0, x_lk, x_rem0, x_rem_i, x_rem_r, x_rem_l, x_rem2_0, x_rem2_i, x_rem2_r, x_rem2_l, x_pick0, x_pick_c, x_st1, x_st2, x_live, x_i, x_l, x_a, x_ild, x_lld, x_rld, x_ist, x_lst, x_rst, x_inc, x_ii, x_ll, x_li, x_cmp, x_ui, x_il, x_lti, x_idiv, x_irem, x_dup_i, x_dup_r, x_pop_i, x_pop_r, x_dupx_ir, x_dup2_ir, x_ifeq, x_iceq, x_iflt, x_iclt, x_ifge, x_icge, x_ifgt, x_icgt, x_ifle, x_icle, x_ifne, x_icne, x_ifnull_r, x_ifnull_n, x_ifnonnull_r, x_ifnonnull_n, x_sw, x_vret, x_iret, x_lret, x_zret, x_zret0, x_zret1, x_rf_s, x_rf_n, x_geti, x_getr, x_puti, x_putz, x_putr, x_ial, x_ias, x_lal, x_las, x_aal, x_aas, x_aast, x_alen, x_new, x_newa, x_copy, x_min, x_abs, x_minl, x_oinit, x_throw, x_callS0, x_callS1, x_callS2, x_callS3, x_callS4, x_callV0, x_callV1, x_callV2, x_callV3, x_callV4, x_callV5, x_retI_v, x_callI0, x_callI1, x_callI2, x_retN_v, x_callSN1, x_callSN2, x_callT0, x_callT1, x_fn, x_sl0, x_sli, x_slr, x_sll, x_ar0, x_ari, x_arr, x_arl, ↓reduceIte, Nat.reduceAdd, Nat.reduceSub, Nat.reduceMul, Nat.reduceEqDiff, Nat.reduceLeDiff, Nat.reduceLT, if_true, if_false, Nat.le_refl, and_true, true_and, and_self, reduceCtorEq, or_false, false_or, or_true, true_or, Nat.zero_le, fa_lit, nI_add, w_mul, nI_ltI, nI_leI, nI_eq, nI_clamp, nI_toInt, if_pos, if_neg, w_div, w_rem2, zk138 hZ, zk139 hZ, zk140 hZ, zk141 hZ, zk142 hZ, zk143 hZ, zk144 hZ, zk145 hZ, zk146 hZ, zk147 hZ, zk148 hZ, zk149 hZ, zk150 hZ, zk151 hZ, zl139 hZ, zl140 hZ, zl141 hZ, zl142 hZ, zl143 hZ, zl144 hZ, zl145 hZ, zl146 hZ, zl147 hZ, zl148 hZ, zl149 hZ, zl150 hZ, zl151 hZ, zr138_0 hZ, zr138_1 hZ, zr138_2 hZ, zr138_3 hZ, zr138_4 hZ, zr138_8 hZ, zr138_9 hZ, zr138_10 hZ, zr138_12 hZ, zr138_24 hZ, zr138_25 hZ, zr138_26 hZ, zr148_0 hZ, zr148_1 hZ, zr148_2 hZ, zr148_3 hZ, zr148_4 hZ, zr148_5 hZ, zr148_6 hZ, zr148_7 hZ, zr148_8 hZ, g, f1]
theorem zq_acc0 (H : w_zc S0 S L B s C op d) (hT : am_isT t) (hw : ¬ (s.1.1 = 0 ∧ l_w B s.2.1 t)) : fX11_accept w_N [.ref 138, .ref t] S = some (.inl (some (.int (nI 0))), S) := by
  have hZ := H.Z
  have g := zq_wd H hT
  rw [w_bf hw] at g
  simp (disch := omega) only [fX11_accept, kX11_accept_14, kX11_accept_0, x_cs0, x_csi, x_csr, x_csn, x_csl, x_ret_v, x_ret_t, x_ret_n, x_tl_s, x_tl_n, x_lk0, x_lk, x_rem0, x_rem_i, x_rem_r, x_rem_l, x_rem2_0, x_rem2_i, x_rem2_r, x_rem2_l, x_pick0, x_pick_c, x_st1, x_st2, x_live, x_i, x_l, x_a, x_ild, x_lld, x_rld, x_ist, x_lst, x_rst, x_inc, x_ii, x_ll, x_li, x_cmp, x_ui, x_il, x_lti, x_idiv, x_irem, x_dup_i, x_dup_r, x_pop_i, x_pop_r, x_dupx_ir, x_dup2_ir, x_ifeq, x_iceq, x_iflt, x_iclt, x_ifge, x_icge, x_ifgt, x_icgt, x_ifle, x_icle, x_ifne, x_icne, x_ifnull_r, x_ifnull_n, x_ifnonnull_r, x_ifnonnull_n, x_sw, x_vret, x_iret, x_lret, x_zret, x_zret0, x_zret1, x_rf_s, x_rf_n, x_geti, x_getr, x_puti, x_putz, x_putr, x_ial, x_ias, x_lal, x_las, x_aal, x_aas, x_aast, x_alen, x_new, x_newa, x_copy, x_min, x_abs, x_minl, x_oinit, x_throw, x_callS0, x_callS1, x_callS2, x_callS3, x_callS4, x_callV0, x_callV1, x_callV2, x_callV3, x_callV4, x_callV5, x_retI_v, x_callI0, x_callI1, x_callI2, x_retN_v, x_callSN1, x_callSN2, x_callT0, x_callT1, x_fn, x_sl0, x_sli, x_slr, x_sll, x_ar0, x_ari, x_arr, x_arl, ↓reduceIte, Nat.reduceAdd, Nat.reduceSub, Nat.reduceMul, Nat.reduceEqDiff, Nat.reduceLeDiff, Nat.reduceLT, if_true, if_false, Nat.le_refl, and_true, true_and, and_self, reduceCtorEq, or_false, false_or, or_true, true_or, Nat.zero_le, fa_lit, nI_add, w_mul, nI_ltI, nI_leI, nI_eq, nI_clamp, nI_toInt, if_pos, if_neg, w_div, w_rem2, zk138 hZ, zk139 hZ, zk140 hZ, zk141 hZ, zk142 hZ, zk143 hZ, zk144 hZ, zk145 hZ, zk146 hZ, zk147 hZ, zk148 hZ, zk149 hZ, zk150 hZ, zk151 hZ, zl139 hZ, zl140 hZ, zl141 hZ, zl142 hZ, zl143 hZ, zl144 hZ, zl145 hZ, zl146 hZ, zl147 hZ, zl148 hZ, zl149 hZ, zl150 hZ, zl151 hZ, zr138_0 hZ, zr138_1 hZ, zr138_2 hZ, zr138_3 hZ, zr138_4 hZ, zr138_8 hZ, zr138_9 hZ, zr138_10 hZ, zr138_12 hZ, zr138_24 hZ, zr138_25 hZ, zr138_26 hZ, zr148_0 hZ, zr148_1 hZ, zr148_2 hZ, zr148_3 hZ, zr148_4 hZ, zr148_5 hZ, zr148_6 hZ, zr148_7 hZ, zr148_8 hZ, g]
theorem zq_exp (H : w_zc S0 S L B s C op d) (hc : c < 256) : ∃ S', fX11_expect w_N [.ref 138, .int (nI c)] S = some (.inl none, S') ∧ w_zc S0 S' L B (p_next B L (if l_sg B s.2.1 c then s else p_fail s 1)) C op d := by
  have hZ := H.Z
  have g := zq_sy H hc
  by_cases h1 : s.1.1 = 0 ∧ l_sg B s.2.1 c
  · rw [if_pos h1.2]
    rw [w_bt h1] at g
    obtain ⟨S', f1, f2⟩ := zq_adv H (fun _ => by have := h1.2.1; omega)
    refine ⟨S', ?_, f2.less⟩
    simp (disch := omega) only [fX11_expect, kX11_expect_0, x_cs0, x_csi, x_csr, x_csn, x_csl, x_ret_v, x_ret_t, x_ret_n, x_tl_s, x_tl_n, x_lk0, x_lk, x_rem0, x_rem_i, x_rem_r, x_rem_l, x_rem2_0, x_rem2_i, x_rem2_r, x_rem2_l, x_pick0, x_pick_c, x_st1, x_st2, x_live, x_i, x_l, x_a, x_ild, x_lld, x_rld, x_ist, x_lst, x_rst, x_inc, x_ii, x_ll, x_li, x_cmp, x_ui, x_il, x_lti, x_idiv, x_irem, x_dup_i, x_dup_r, x_pop_i, x_pop_r, x_dupx_ir, x_dup2_ir, x_ifeq, x_iceq, x_iflt, x_iclt, x_ifge, x_icge, x_ifgt, x_icgt, x_ifle, x_icle, x_ifne, x_icne, x_ifnull_r, x_ifnull_n, x_ifnonnull_r, x_ifnonnull_n, x_sw, x_vret, x_iret, x_lret, x_zret, x_zret0, x_zret1, x_rf_s, x_rf_n, x_geti, x_getr, x_puti, x_putz, x_putr, x_ial, x_ias, x_lal, x_las, x_aal, x_aas, x_aast, x_alen, x_new, x_newa, x_copy, x_min, x_abs, x_minl, x_oinit, x_throw, x_callS0, x_callS1, x_callS2, x_callS3, x_callS4, x_callV0, x_callV1, x_callV2, x_callV3, x_callV4, x_callV5, x_retI_v, x_callI0, x_callI1, x_callI2, x_retN_v, x_callSN1, x_callSN2, x_callT0, x_callT1, x_fn, x_sl0, x_sli, x_slr, x_sll, x_ar0, x_ari, x_arr, x_arl, ↓reduceIte, Nat.reduceAdd, Nat.reduceSub, Nat.reduceMul, Nat.reduceEqDiff, Nat.reduceLeDiff, Nat.reduceLT, if_true, if_false, Nat.le_refl, and_true, true_and, and_self, reduceCtorEq, or_false, false_or, or_true, true_or, Nat.zero_le, fa_lit, nI_add, w_mul, nI_ltI, nI_leI, nI_eq, nI_clamp, nI_toInt, if_pos, if_neg, w_div, w_rem2, zk138 hZ, zk139 hZ, zk140 hZ, zk141 hZ, zk142 hZ, zk143 hZ, zk144 hZ, zk145 hZ, zk146 hZ, zk147 hZ, zk148 hZ, zk149 hZ, zk150 hZ, zk151 hZ, zl139 hZ, zl140 hZ, zl141 hZ, zl142 hZ, zl143 hZ, zl144 hZ, zl145 hZ, zl146 hZ, zl147 hZ, zl148 hZ, zl149 hZ, zl150 hZ, zl151 hZ, zr138_0 hZ, zr138_1 hZ, zr138_2 hZ, zr138_3 hZ, zr138_4 hZ, zr138_8 hZ, zr138_9 hZ, zr138_10 hZ, zr138_12 hZ, zr138_24 hZ, zr138_25 hZ, zr138_26 hZ, zr148_0 hZ, zr148_1 hZ, zr148_2 hZ, zr148_3 hZ, zr148_4 hZ, zr148_5 hZ, zr148_6 hZ, zr148_7 hZ, zr148_8 hZ, g, z_ck1, f1]
  · rw [w_bf h1] at g
    obtain ⟨S1, k1, k2⟩ := zq_ck0 H (c := 1) (by omega) (by omega)
    have hZ1 := k2.Z
    obtain ⟨S', f1, f2⟩ := zq_adv k2 (fun q => absurd q (p_fail_0 (by omega)))
    refine ⟨S', ?_, f2.er (p_fail_0 (by omega)) ?_⟩
    · simp (disch := omega) only [fX11_expect, kX11_expect_0, x_cs0, x_csi, x_csr, x_csn, x_csl, x_ret_v, x_ret_t, x_ret_n, x_tl_s, x_tl_n, x_lk0, x_lk, x_rem0, x_rem_i, x_rem_r, x_rem_l, x_rem2_0, x_rem2_i, x_rem2_r, x_rem2_l, x_pick0, x_pick_c, x_st1, x_st2, x_live, x_i, x_l, x_a, x_ild, x_lld, x_rld, x_ist, x_lst, x_rst, x_inc, x_ii, x_ll, x_li, x_cmp, x_ui, x_il, x_lti, x_idiv, x_irem, x_dup_i, x_dup_r, x_pop_i, x_pop_r, x_dupx_ir, x_dup2_ir, x_ifeq, x_iceq, x_iflt, x_iclt, x_ifge, x_icge, x_ifgt, x_icgt, x_ifle, x_icle, x_ifne, x_icne, x_ifnull_r, x_ifnull_n, x_ifnonnull_r, x_ifnonnull_n, x_sw, x_vret, x_iret, x_lret, x_zret, x_zret0, x_zret1, x_rf_s, x_rf_n, x_geti, x_getr, x_puti, x_putz, x_putr, x_ial, x_ias, x_lal, x_las, x_aal, x_aas, x_aast, x_alen, x_new, x_newa, x_copy, x_min, x_abs, x_minl, x_oinit, x_throw, x_callS0, x_callS1, x_callS2, x_callS3, x_callS4, x_callV0, x_callV1, x_callV2, x_callV3, x_callV4, x_callV5, x_retI_v, x_callI0, x_callI1, x_callI2, x_retN_v, x_callSN1, x_callSN2, x_callT0, x_callT1, x_fn, x_sl0, x_sli, x_slr, x_sll, x_ar0, x_ari, x_arr, x_arl, ↓reduceIte, Nat.reduceAdd, Nat.reduceSub, Nat.reduceMul, Nat.reduceEqDiff, Nat.reduceLeDiff, Nat.reduceLT, if_true, if_false, Nat.le_refl, and_true, true_and, and_self, reduceCtorEq, or_false, false_or, or_true, true_or, Nat.zero_le, fa_lit, nI_add, w_mul, nI_ltI, nI_leI, nI_eq, nI_clamp, nI_toInt, if_pos, if_neg, w_div, w_rem2, zk138 hZ, zk139 hZ, zk140 hZ, zk141 hZ, zk142 hZ, zk143 hZ, zk144 hZ, zk145 hZ, zk146 hZ, zk147 hZ, zk148 hZ, zk149 hZ, zk150 hZ, zk151 hZ, zl139 hZ, zl140 hZ, zl141 hZ, zl142 hZ, zl143 hZ, zl144 hZ, zl145 hZ, zl146 hZ, zl147 hZ, zl148 hZ, zl149 hZ, zl150 hZ, zl151 hZ, zr138_0 hZ, zr138_1 hZ, zr138_2 hZ, zr138_3 hZ, zr138_4 hZ, zr138_8 hZ, zr138_9 hZ, zr138_10 hZ, zr138_12 hZ, zr138_24 hZ, zr138_25 hZ, zr138_26 hZ, zr148_0 hZ, zr148_1 hZ, zr148_2 hZ, zr148_3 hZ, zr148_4 hZ, zr148_5 hZ, zr148_6 hZ, zr148_7 hZ, zr148_8 hZ, zk138 hZ1, zk139 hZ1, zk140 hZ1, zk141 hZ1, zk142 hZ1, zk143 hZ1, zk144 hZ1, zk145 hZ1, zk146 hZ1, zk147 hZ1, zk148 hZ1, zk149 hZ1, zk150 hZ1, zk151 hZ1, zl139 hZ1, zl140 hZ1, zl141 hZ1, zl142 hZ1, zl143 hZ1, zl144 hZ1, zl145 hZ1, zl146 hZ1, zl147 hZ1, zl148 hZ1, zl149 hZ1, zl150 hZ1, zl151 hZ1, zr138_0 hZ1, zr138_1 hZ1, zr138_2 hZ1, zr138_3 hZ1, zr138_4 hZ1, zr138_8 hZ1, zr138_9 hZ1, zr138_10 hZ1, zr138_12 hZ1, zr138_24 hZ1, zr138_25 hZ1, zr138_26 hZ1, zr148_0 hZ1, zr148_1 hZ1, zr148_2 hZ1, zr148_3 hZ1, zr148_4 hZ1, zr148_5 hZ1, zr148_6 hZ1, zr148_7 hZ1, zr148_8 hZ1, g, k1, f1]
    · rw [p_next_1, p_next_1]
      split
      · rename_i h2
        rw [p_fail_e (fun q => h1 ⟨q, h2⟩)]
      · rfl
theorem zq_tail {bb kk : Int32} (hck : fX11_check w_N [.ref 138, .int bb, .int (nI 1)] S = some (.inl none, S1)) (hZ : w_Z S) (H1 : w_zc S0 S1 L B s C op d) (hk : s.1.1 = 0 → s.2.1.2.2 ≠ 0) : ∃ S', kX11_compileFactor_143 w_N rF [(0, .ref 138), (1, .int kk)] [.int bb, .ref 138] S = some (.inl none, S') ∧ w_zc S0 S' L B (p_next B L (q_op B (p_next B L s)).1) (C ++ [q_code B (p_next B L s).2.1] ++ [kk]) op d := by
  have hZ1 := H1.Z
  obtain ⟨S2, f1, f2⟩ := zq_adv H1 hk
  have hZ2 := f2.Z
  obtain ⟨S3, g1, g2⟩ := zq_cv f2
  have hZ3 := g2.Z
  obtain ⟨S4, k1, k2⟩ := zq_em1 g2 kk
  refine ⟨S4, ?_, k2⟩
  simp (disch := omega) only [kX11_compileFactor_143, kX11_compileFactor_160, x_cs0, x_csi, x_csr, x_csn, x_csl, x_ret_v, x_ret_t, x_ret_n, x_tl_s, x_tl_n, x_lk0, x_lk, x_rem0, x_rem_i, x_rem_r, x_rem_l, x_rem2_0, x_rem2_i, x_rem2_r, x_rem2_l, x_pick0, x_pick_c, x_st1, x_st2, x_live, x_i, x_l, x_a, x_ild, x_lld, x_rld, x_ist, x_lst, x_rst, x_inc, x_ii, x_ll, x_li, x_cmp, x_ui, x_il, x_lti, x_idiv, x_irem, x_dup_i, x_dup_r, x_pop_i, x_pop_r, x_dupx_ir, x_dup2_ir, x_ifeq, x_iceq, x_iflt, x_iclt, x_ifge, x_icge, x_ifgt, x_icgt, x_ifle, x_icle, x_ifne, x_icne, x_ifnull_r, x_ifnull_n, x_ifnonnull_r, x_ifnonnull_n, x_sw, x_vret, x_iret, x_lret, x_zret, x_zret0, x_zret1, x_rf_s, x_rf_n, x_geti, x_getr, x_puti, x_putz, x_putr, x_ial, x_ias, x_lal, x_las, x_aal, x_aas, x_aast, x_alen, x_new, x_newa, x_copy, x_min, x_abs, x_minl, x_oinit, x_throw, x_callS0, x_callS1, x_callS2, x_callS3, x_callS4, x_callV0, x_callV1, x_callV2, x_callV3, x_callV4, x_callV5, x_retI_v, x_callI0, x_callI1, x_callI2, x_retN_v, x_callSN1, x_callSN2, x_callT0, x_callT1, x_fn, x_sl0, x_sli, x_slr, x_sll, x_ar0, x_ari, x_arr, x_arl, ↓reduceIte, Nat.reduceAdd, Nat.reduceSub, Nat.reduceMul, Nat.reduceEqDiff, Nat.reduceLeDiff, Nat.reduceLT, if_true, if_false, Nat.le_refl, and_true, true_and, and_self, reduceCtorEq, or_false, false_or, or_true, true_or, Nat.zero_le, fa_lit, nI_add, w_mul, nI_ltI, nI_leI, nI_eq, nI_clamp, nI_toInt, if_pos, if_neg, w_div, w_rem2, zk138 hZ, zk139 hZ, zk140 hZ, zk141 hZ, zk142 hZ, zk143 hZ, zk144 hZ, zk145 hZ, zk146 hZ, zk147 hZ, zk148 hZ, zk149 hZ, zk150 hZ, zk151 hZ, zl139 hZ, zl140 hZ, zl141 hZ, zl142 hZ, zl143 hZ, zl144 hZ, zl145 hZ, zl146 hZ, zl147 hZ, zl148 hZ, zl149 hZ, zl150 hZ, zl151 hZ, zr138_0 hZ, zr138_1 hZ, zr138_2 hZ, zr138_3 hZ, zr138_4 hZ, zr138_8 hZ, zr138_9 hZ, zr138_10 hZ, zr138_12 hZ, zr138_24 hZ, zr138_25 hZ, zr138_26 hZ, zr148_0 hZ, zr148_1 hZ, zr148_2 hZ, zr148_3 hZ, zr148_4 hZ, zr148_5 hZ, zr148_6 hZ, zr148_7 hZ, zr148_8 hZ, zk138 hZ1, zk139 hZ1, zk140 hZ1, zk141 hZ1, zk142 hZ1, zk143 hZ1, zk144 hZ1, zk145 hZ1, zk146 hZ1, zk147 hZ1, zk148 hZ1, zk149 hZ1, zk150 hZ1, zk151 hZ1, zl139 hZ1, zl140 hZ1, zl141 hZ1, zl142 hZ1, zl143 hZ1, zl144 hZ1, zl145 hZ1, zl146 hZ1, zl147 hZ1, zl148 hZ1, zl149 hZ1, zl150 hZ1, zl151 hZ1, zr138_0 hZ1, zr138_1 hZ1, zr138_2 hZ1, zr138_3 hZ1, zr138_4 hZ1, zr138_8 hZ1, zr138_9 hZ1, zr138_10 hZ1, zr138_12 hZ1, zr138_24 hZ1, zr138_25 hZ1, zr138_26 hZ1, zr148_0 hZ1, zr148_1 hZ1, zr148_2 hZ1, zr148_3 hZ1, zr148_4 hZ1, zr148_5 hZ1, zr148_6 hZ1, zr148_7 hZ1, zr148_8 hZ1, zk138 hZ2, zk139 hZ2, zk140 hZ2, zk141 hZ2, zk142 hZ2, zk143 hZ2, zk144 hZ2, zk145 hZ2, zk146 hZ2, zk147 hZ2, zk148 hZ2, zk149 hZ2, zk150 hZ2, zk151 hZ2, zl139 hZ2, zl140 hZ2, zl141 hZ2, zl142 hZ2, zl143 hZ2, zl144 hZ2, zl145 hZ2, zl146 hZ2, zl147 hZ2, zl148 hZ2, zl149 hZ2, zl150 hZ2, zl151 hZ2, zr138_0 hZ2, zr138_1 hZ2, zr138_2 hZ2, zr138_3 hZ2, zr138_4 hZ2, zr138_8 hZ2, zr138_9 hZ2, zr138_10 hZ2, zr138_12 hZ2, zr138_24 hZ2, zr138_25 hZ2, zr138_26 hZ2, zr148_0 hZ2, zr148_1 hZ2, zr148_2 hZ2, zr148_3 hZ2, zr148_4 hZ2, zr148_5 hZ2, zr148_6 hZ2, zr148_7 hZ2, zr148_8 hZ2, zk138 hZ3, zk139 hZ3, zk140 hZ3, zk141 hZ3, zk142 hZ3, zk143 hZ3, zk144 hZ3, zk145 hZ3, zk146 hZ3, zk147 hZ3, zk148 hZ3, zk149 hZ3, zk150 hZ3, zk151 hZ3, zl139 hZ3, zl140 hZ3, zl141 hZ3, zl142 hZ3, zl143 hZ3, zl144 hZ3, zl145 hZ3, zl146 hZ3, zl147 hZ3, zl148 hZ3, zl149 hZ3, zl150 hZ3, zl151 hZ3, zr138_0 hZ3, zr138_1 hZ3, zr138_2 hZ3, zr138_3 hZ3, zr138_4 hZ3, zr138_8 hZ3, zr138_9 hZ3, zr138_10 hZ3, zr138_12 hZ3, zr138_24 hZ3, zr138_25 hZ3, zr138_26 hZ3, zr148_0 hZ3, zr148_1 hZ3, zr148_2 hZ3, zr148_3 hZ3, zr148_4 hZ3, zr148_5 hZ3, zr148_6 hZ3, zr148_7 hZ3, zr148_8 hZ3, hck, f1, g1, k1]
theorem zq_fac (H : w_zc S0 S L B s C op d) (hG : s.1.1 = 0 → (l_w B s.2.1 22 ∨ l_sg B s.2.1 40) → q_zs S0 L B (fX11_compileFactor w_N rF [.ref 138] S) (G op s) C op d) : q_zs S0 L B (fX11_compileFactor w_N rF [.ref 138] S) (q_fac R B L G op s) C op d := by
  have hZ := H.Z
  have g22 := zq_wd H (t := 22) (by decide)
  have g40 := zq_sy H (c := 40) (by omega)
  by_cases c : s.1.1 = 0 ∧ (l_w B s.2.1 22 ∨ l_sg B s.2.1 40)
  · unfold q_fac
    rw [if_pos c.1, if_pos c.2]
    exact hG c.1 c.2
  · rw [w_bf (fun q => c ⟨q.1, Or.inl q.2⟩)] at g22
    rw [w_bf (fun q => c ⟨q.1, Or.inr q.2⟩)] at g40
    obtain ⟨S1, f1, f2⟩ := zq_cv H
    have hZ1 := f2.Z
    have s60 := zq_sy f2 (c := 60) (by omega)
    have s61 := zq_sy f2 (c := 61) (by omega)
    have s62 := zq_sy f2 (c := 62) (by omega)
    have bad : (p_next B L (q_op B s).1).1.1 ≠ 0 → q_zs S0 L B (fX11_compileFactor w_N rF [.ref 138] S) (q_fac R B L G op s) C op d := fun ne => by
      rw [w_bf (fun q => ne q.1)] at s60 s61 s62
      obtain ⟨S2, a1, a2⟩ := zq_ck0 f2 (c := 1) (by omega) (by omega)
      obtain ⟨S3, b1, b2⟩ := zq_tail (rF := rF) (kk := -nI 22) a1 hZ1 a2 (fun q => absurd q (p_fail_0 (by omega)))
      have ne2 : (p_next B L (q_op B (p_next B L (p_fail (p_next B L (q_op B s).1) 1))).1).1 = (q_op B s).1.1 := by
        rw [p_next_1, p_fail_e ne, q_op_e (by rw [p_next_1]; exact ne)]
        rfl
      have ef : (q_fac R B L G op s).1.1 = (q_op B s).1.1 := by
        unfold q_fac
        by_cases e : s.1.1 = 0
        · rw [if_pos e, if_neg (fun q => c ⟨e, q⟩)]
          unfold q_cmp
          dsimp only
          have em : q_m B (p_next B L (q_op B s).1) = p_next B L (q_op B s).1 := by
            unfold q_m
            split
            · exact p_fail_e ne
            · rfl
          rw [em, p_next_1, q_op_e (by rw [p_next_1]; exact ne)]
          rfl
        · rw [if_neg e, q_op_e e]
      refine ⟨S3, ?_, b2.er (by rw [ne2]; exact ne) (ef.trans ne2.symm)⟩
      have eo : ∀ (kk bb : Int32) (U : am_S), kX11_compileFactor_143 w_N rF [(1, .int kk), (0, .ref 138)] [.int bb, .ref 138] U = kX11_compileFactor_143 w_N rF [(0, .ref 138), (1, .int kk)] [.int bb, .ref 138] U := fun _ _ _ => rfl
      generalize hK : kX11_compileFactor_143 w_N rF = K at *
      simp (disch := omega) only [fX11_compileFactor, kX11_compileFactor_0, kX11_compileFactor_121, hK, x_cs0, x_csi, x_csr, x_csn, x_csl, x_ret_v, x_ret_t, x_ret_n, x_tl_s, x_tl_n, x_lk0, x_lk, x_rem0, x_rem_i, x_rem_r, x_rem_l, x_rem2_0, x_rem2_i, x_rem2_r, x_rem2_l, x_pick0, x_pick_c, x_st1, x_st2, x_live, x_i, x_l, x_a, x_ild, x_lld, x_rld, x_ist, x_lst, x_rst, x_inc, x_ii, x_ll, x_li, x_cmp, x_ui, x_il, x_lti, x_idiv, x_irem, x_dup_i, x_dup_r, x_pop_i, x_pop_r, x_dupx_ir, x_dup2_ir, x_ifeq, x_iceq, x_iflt, x_iclt, x_ifge, x_icge, x_ifgt, x_icgt, x_ifle, x_icle, x_ifne, x_icne, x_ifnull_r, x_ifnull_n, x_ifnonnull_r, x_ifnonnull_n, x_sw, x_vret, x_iret, x_lret, x_zret, x_zret0, x_zret1, x_rf_s, x_rf_n, x_geti, x_getr, x_puti, x_putz, x_putr, x_ial, x_ias, x_lal, x_las, x_aal, x_aas, x_aast, x_alen, x_new, x_newa, x_copy, x_min, x_abs, x_minl, x_oinit, x_throw, x_callS0, x_callS1, x_callS2, x_callS3, x_callS4, x_callV0, x_callV1, x_callV2, x_callV3, x_callV4, x_callV5, x_retI_v, x_callI0, x_callI1, x_callI2, x_retN_v, x_callSN1, x_callSN2, x_callT0, x_callT1, x_fn, x_sl0, x_sli, x_slr, x_sll, x_ar0, x_ari, x_arr, x_arl, ↓reduceIte, Nat.reduceAdd, Nat.reduceSub, Nat.reduceMul, Nat.reduceEqDiff, Nat.reduceLeDiff, Nat.reduceLT, if_true, if_false, Nat.le_refl, and_true, true_and, and_self, reduceCtorEq, or_false, false_or, or_true, true_or, Nat.zero_le, fa_lit, nI_add, w_mul, nI_ltI, nI_leI, nI_eq, nI_clamp, nI_toInt, if_pos, if_neg, w_div, w_rem2, zk138 hZ, zk139 hZ, zk140 hZ, zk141 hZ, zk142 hZ, zk143 hZ, zk144 hZ, zk145 hZ, zk146 hZ, zk147 hZ, zk148 hZ, zk149 hZ, zk150 hZ, zk151 hZ, zl139 hZ, zl140 hZ, zl141 hZ, zl142 hZ, zl143 hZ, zl144 hZ, zl145 hZ, zl146 hZ, zl147 hZ, zl148 hZ, zl149 hZ, zl150 hZ, zl151 hZ, zr138_0 hZ, zr138_1 hZ, zr138_2 hZ, zr138_3 hZ, zr138_4 hZ, zr138_8 hZ, zr138_9 hZ, zr138_10 hZ, zr138_12 hZ, zr138_24 hZ, zr138_25 hZ, zr138_26 hZ, zr148_0 hZ, zr148_1 hZ, zr148_2 hZ, zr148_3 hZ, zr148_4 hZ, zr148_5 hZ, zr148_6 hZ, zr148_7 hZ, zr148_8 hZ, zk138 hZ1, zk139 hZ1, zk140 hZ1, zk141 hZ1, zk142 hZ1, zk143 hZ1, zk144 hZ1, zk145 hZ1, zk146 hZ1, zk147 hZ1, zk148 hZ1, zk149 hZ1, zk150 hZ1, zk151 hZ1, zl139 hZ1, zl140 hZ1, zl141 hZ1, zl142 hZ1, zl143 hZ1, zl144 hZ1, zl145 hZ1, zl146 hZ1, zl147 hZ1, zl148 hZ1, zl149 hZ1, zl150 hZ1, zl151 hZ1, zr138_0 hZ1, zr138_1 hZ1, zr138_2 hZ1, zr138_3 hZ1, zr138_4 hZ1, zr138_8 hZ1, zr138_9 hZ1, zr138_10 hZ1, zr138_12 hZ1, zr138_24 hZ1, zr138_25 hZ1, zr138_26 hZ1, zr148_0 hZ1, zr148_1 hZ1, zr148_2 hZ1, zr148_3 hZ1, zr148_4 hZ1, zr148_5 hZ1, zr148_6 hZ1, zr148_7 hZ1, zr148_8 hZ1, g22, g40, f1, s60, s61, s62, eo, b1]
    by_cases e : (p_next B L (q_op B s).1).1.1 = 0
    · have e0 : s.1.1 = 0 := by
        by_cases q : s.1.1 = 0
        · exact q
        · rw [p_next_1, q_op_e q] at e
          exact absurd e q
      have eq : q_fac R B L G op s = q_cmp R B L s := by
        unfold q_fac
        rw [if_pos e0, if_neg (fun q => c ⟨e0, q⟩)]
      rw [eq]
      unfold q_cmp
      clear bad eq
      generalize hm : p_next B L (q_op B s).1 = m at *
      have fin : ∀ (k : Nat) (bb : Int32) (S2 : am_S), q_k B m.2.1 = k → fX11_check w_N [.ref 138, .int bb, .int (nI 1)] S1 = some (.inl none, S2) → w_zc S0 S2 L B (q_m B m) (C ++ [q_code B s.2.1]) op d → ((q_m B m).1.1 = 0 → (q_m B m).2.1.2.2 ≠ 0) → fX11_compileFactor w_N rF [.ref 138] S = kX11_compileFactor_143 w_N rF [(0, .ref 138), (1, .int (-nI (20 + k)))] [.int bb, .ref 138] S1 → q_zs S0 L B (fX11_compileFactor w_N rF [.ref 138] S) (p_next B L (q_op B (p_next B L (q_m B m))).1, [q_code B s.2.1, q_code B (p_next B L (q_m B m)).2.1, -nI (20 + q_k B m.2.1)], fun o => q_rel (q_k B m.2.1) (q_val R (q_op B s).2 o) (q_val R (q_op B (p_next B L (q_m B m))).2 o)) C op d := by
        intro k bb S2 hk hck h2 hkd hrun
        obtain ⟨S3, b1, b2⟩ := zq_tail (rF := rF) (kk := -nI (20 + k)) hck hZ1 h2 hkd
        rw [hk]
        refine ⟨S3, hrun.trans b1, ?_⟩
        have el : C ++ [q_code B s.2.1, q_code B (p_next B L (q_m B m)).2.1, -nI (20 + k)] = C ++ [q_code B s.2.1] ++ [q_code B (p_next B L (q_m B m)).2.1] ++ [-nI (20 + k)] := by
          rw [List.append_assoc, List.append_assoc]
          rfl
        dsimp only
        rw [el]
        exact b2
      have eo : ∀ (kk bb : Int32) (U : am_S), kX11_compileFactor_143 w_N rF [(1, .int kk), (0, .ref 138)] [.int bb, .ref 138] U = kX11_compileFactor_143 w_N rF [(0, .ref 138), (1, .int kk)] [.int bb, .ref 138] U := fun _ _ _ => rfl
      by_cases d0 : l_sg B m.2.1 60
      · rw [w_bt ⟨e, d0⟩] at s60
        have hk : q_k B m.2.1 = 0 := if_pos d0
        have hm : q_m B m = m := by
          unfold q_m
          rw [hk, if_neg (fun q => absurd q.1 (by decide))]
        refine fin 0 (nI 1) S1 hk (z_ck1 _) (by rw [hm]; exact f2) (fun _ => by rw [hm]; have := d0.1; omega) ?_
        generalize hK : kX11_compileFactor_143 w_N rF = K at *
        have n1 : ¬ (-nI 20 : Int32) = -nI 22 := by decide
        simp (disch := omega) only [fX11_compileFactor, kX11_compileFactor_0, kX11_compileFactor_121, kX11_compileFactor_138, hK, x_cs0, x_csi, x_csr, x_csn, x_csl, x_ret_v, x_ret_t, x_ret_n, x_tl_s, x_tl_n, x_lk0, x_lk, x_rem0, x_rem_i, x_rem_r, x_rem_l, x_rem2_0, x_rem2_i, x_rem2_r, x_rem2_l, x_pick0, x_pick_c, x_st1, x_st2, x_live, x_i, x_l, x_a, x_ild, x_lld, x_rld, x_ist, x_lst, x_rst, x_inc, x_ii, x_ll, x_li, x_cmp, x_ui, x_il, x_lti, x_idiv, x_irem, x_dup_i, x_dup_r, x_pop_i, x_pop_r, x_dupx_ir, x_dup2_ir, x_ifeq, x_iceq, x_iflt, x_iclt, x_ifge, x_icge, x_ifgt, x_icgt, x_ifle, x_icle, x_ifne, x_icne, x_ifnull_r, x_ifnull_n, x_ifnonnull_r, x_ifnonnull_n, x_sw, x_vret, x_iret, x_lret, x_zret, x_zret0, x_zret1, x_rf_s, x_rf_n, x_geti, x_getr, x_puti, x_putz, x_putr, x_ial, x_ias, x_lal, x_las, x_aal, x_aas, x_aast, x_alen, x_new, x_newa, x_copy, x_min, x_abs, x_minl, x_oinit, x_throw, x_callS0, x_callS1, x_callS2, x_callS3, x_callS4, x_callV0, x_callV1, x_callV2, x_callV3, x_callV4, x_callV5, x_retI_v, x_callI0, x_callI1, x_callI2, x_retN_v, x_callSN1, x_callSN2, x_callT0, x_callT1, x_fn, x_sl0, x_sli, x_slr, x_sll, x_ar0, x_ari, x_arr, x_arl, ↓reduceIte, Nat.reduceAdd, Nat.reduceSub, Nat.reduceMul, Nat.reduceEqDiff, Nat.reduceLeDiff, Nat.reduceLT, if_true, if_false, Nat.le_refl, and_true, true_and, and_self, reduceCtorEq, or_false, false_or, or_true, true_or, Nat.zero_le, fa_lit, nI_add, w_mul, nI_ltI, nI_leI, nI_eq, nI_clamp, nI_toInt, if_pos, if_neg, w_div, w_rem2, zk138 hZ, zk139 hZ, zk140 hZ, zk141 hZ, zk142 hZ, zk143 hZ, zk144 hZ, zk145 hZ, zk146 hZ, zk147 hZ, zk148 hZ, zk149 hZ, zk150 hZ, zk151 hZ, zl139 hZ, zl140 hZ, zl141 hZ, zl142 hZ, zl143 hZ, zl144 hZ, zl145 hZ, zl146 hZ, zl147 hZ, zl148 hZ, zl149 hZ, zl150 hZ, zl151 hZ, zr138_0 hZ, zr138_1 hZ, zr138_2 hZ, zr138_3 hZ, zr138_4 hZ, zr138_8 hZ, zr138_9 hZ, zr138_10 hZ, zr138_12 hZ, zr138_24 hZ, zr138_25 hZ, zr138_26 hZ, zr148_0 hZ, zr148_1 hZ, zr148_2 hZ, zr148_3 hZ, zr148_4 hZ, zr148_5 hZ, zr148_6 hZ, zr148_7 hZ, zr148_8 hZ, zk138 hZ1, zk139 hZ1, zk140 hZ1, zk141 hZ1, zk142 hZ1, zk143 hZ1, zk144 hZ1, zk145 hZ1, zk146 hZ1, zk147 hZ1, zk148 hZ1, zk149 hZ1, zk150 hZ1, zk151 hZ1, zl139 hZ1, zl140 hZ1, zl141 hZ1, zl142 hZ1, zl143 hZ1, zl144 hZ1, zl145 hZ1, zl146 hZ1, zl147 hZ1, zl148 hZ1, zl149 hZ1, zl150 hZ1, zl151 hZ1, zr138_0 hZ1, zr138_1 hZ1, zr138_2 hZ1, zr138_3 hZ1, zr138_4 hZ1, zr138_8 hZ1, zr138_9 hZ1, zr138_10 hZ1, zr138_12 hZ1, zr138_24 hZ1, zr138_25 hZ1, zr138_26 hZ1, zr148_0 hZ1, zr148_1 hZ1, zr148_2 hZ1, zr148_3 hZ1, zr148_4 hZ1, zr148_5 hZ1, zr148_6 hZ1, zr148_7 hZ1, zr148_8 hZ1, g22, g40, f1, s60, n1, eo]
      · rw [w_bf (fun q => d0 q.2)] at s60
        by_cases d1 : l_sg B m.2.1 61
        · rw [w_bt ⟨e, d1⟩] at s61
          have hk : q_k B m.2.1 = 1 := (if_neg d0).trans (if_pos d1)
          have hm : q_m B m = m := by
            unfold q_m
            rw [hk, if_neg (fun q => absurd q.1 (by decide))]
          refine fin 1 (nI 1) S1 hk (z_ck1 _) (by rw [hm]; exact f2) (fun _ => by rw [hm]; have := d1.1; omega) ?_
          generalize hK : kX11_compileFactor_143 w_N rF = K at *
          have n1 : ¬ (-nI 21 : Int32) = -nI 22 := by decide
          simp (disch := omega) only [fX11_compileFactor, kX11_compileFactor_0, kX11_compileFactor_121, kX11_compileFactor_138, hK, x_cs0, x_csi, x_csr, x_csn, x_csl, x_ret_v, x_ret_t, x_ret_n, x_tl_s, x_tl_n, x_lk0, x_lk, x_rem0, x_rem_i, x_rem_r, x_rem_l, x_rem2_0, x_rem2_i, x_rem2_r, x_rem2_l, x_pick0, x_pick_c, x_st1, x_st2, x_live, x_i, x_l, x_a, x_ild, x_lld, x_rld, x_ist, x_lst, x_rst, x_inc, x_ii, x_ll, x_li, x_cmp, x_ui, x_il, x_lti, x_idiv, x_irem, x_dup_i, x_dup_r, x_pop_i, x_pop_r, x_dupx_ir, x_dup2_ir, x_ifeq, x_iceq, x_iflt, x_iclt, x_ifge, x_icge, x_ifgt, x_icgt, x_ifle, x_icle, x_ifne, x_icne, x_ifnull_r, x_ifnull_n, x_ifnonnull_r, x_ifnonnull_n, x_sw, x_vret, x_iret, x_lret, x_zret, x_zret0, x_zret1, x_rf_s, x_rf_n, x_geti, x_getr, x_puti, x_putz, x_putr, x_ial, x_ias, x_lal, x_las, x_aal, x_aas, x_aast, x_alen, x_new, x_newa, x_copy, x_min, x_abs, x_minl, x_oinit, x_throw, x_callS0, x_callS1, x_callS2, x_callS3, x_callS4, x_callV0, x_callV1, x_callV2, x_callV3, x_callV4, x_callV5, x_retI_v, x_callI0, x_callI1, x_callI2, x_retN_v, x_callSN1, x_callSN2, x_callT0, x_callT1, x_fn, x_sl0, x_sli, x_slr, x_sll, x_ar0, x_ari, x_arr, x_arl, ↓reduceIte, Nat.reduceAdd, Nat.reduceSub, Nat.reduceMul, Nat.reduceEqDiff, Nat.reduceLeDiff, Nat.reduceLT, if_true, if_false, Nat.le_refl, and_true, true_and, and_self, reduceCtorEq, or_false, false_or, or_true, true_or, Nat.zero_le, fa_lit, nI_add, w_mul, nI_ltI, nI_leI, nI_eq, nI_clamp, nI_toInt, if_pos, if_neg, w_div, w_rem2, zk138 hZ, zk139 hZ, zk140 hZ, zk141 hZ, zk142 hZ, zk143 hZ, zk144 hZ, zk145 hZ, zk146 hZ, zk147 hZ, zk148 hZ, zk149 hZ, zk150 hZ, zk151 hZ, zl139 hZ, zl140 hZ, zl141 hZ, zl142 hZ, zl143 hZ, zl144 hZ, zl145 hZ, zl146 hZ, zl147 hZ, zl148 hZ, zl149 hZ, zl150 hZ, zl151 hZ, zr138_0 hZ, zr138_1 hZ, zr138_2 hZ, zr138_3 hZ, zr138_4 hZ, zr138_8 hZ, zr138_9 hZ, zr138_10 hZ, zr138_12 hZ, zr138_24 hZ, zr138_25 hZ, zr138_26 hZ, zr148_0 hZ, zr148_1 hZ, zr148_2 hZ, zr148_3 hZ, zr148_4 hZ, zr148_5 hZ, zr148_6 hZ, zr148_7 hZ, zr148_8 hZ, zk138 hZ1, zk139 hZ1, zk140 hZ1, zk141 hZ1, zk142 hZ1, zk143 hZ1, zk144 hZ1, zk145 hZ1, zk146 hZ1, zk147 hZ1, zk148 hZ1, zk149 hZ1, zk150 hZ1, zk151 hZ1, zl139 hZ1, zl140 hZ1, zl141 hZ1, zl142 hZ1, zl143 hZ1, zl144 hZ1, zl145 hZ1, zl146 hZ1, zl147 hZ1, zl148 hZ1, zl149 hZ1, zl150 hZ1, zl151 hZ1, zr138_0 hZ1, zr138_1 hZ1, zr138_2 hZ1, zr138_3 hZ1, zr138_4 hZ1, zr138_8 hZ1, zr138_9 hZ1, zr138_10 hZ1, zr138_12 hZ1, zr138_24 hZ1, zr138_25 hZ1, zr138_26 hZ1, zr148_0 hZ1, zr148_1 hZ1, zr148_2 hZ1, zr148_3 hZ1, zr148_4 hZ1, zr148_5 hZ1, zr148_6 hZ1, zr148_7 hZ1, zr148_8 hZ1, g22, g40, f1, s60, s61, n1, eo]
        · rw [w_bf (fun q => d1 q.2)] at s61
          have hk : q_k B m.2.1 = 2 := (if_neg d0).trans (if_neg d1)
          by_cases d2 : l_sg B m.2.1 62
          · rw [w_bt ⟨e, d2⟩] at s62
            have hm : q_m B m = m := by
              unfold q_m
              rw [if_neg (fun q => q.2 d2)]
            refine fin 2 (nI 1) S1 hk (z_ck1 _) (by rw [hm]; exact f2) (fun _ => by rw [hm]; have := d2.1; omega) ?_
            generalize hK : kX11_compileFactor_143 w_N rF = K at *
            simp (disch := omega) only [fX11_compileFactor, kX11_compileFactor_0, kX11_compileFactor_121, kX11_compileFactor_138, hK, x_cs0, x_csi, x_csr, x_csn, x_csl, x_ret_v, x_ret_t, x_ret_n, x_tl_s, x_tl_n, x_lk0, x_lk, x_rem0, x_rem_i, x_rem_r, x_rem_l, x_rem2_0, x_rem2_i, x_rem2_r, x_rem2_l, x_pick0, x_pick_c, x_st1, x_st2, x_live, x_i, x_l, x_a, x_ild, x_lld, x_rld, x_ist, x_lst, x_rst, x_inc, x_ii, x_ll, x_li, x_cmp, x_ui, x_il, x_lti, x_idiv, x_irem, x_dup_i, x_dup_r, x_pop_i, x_pop_r, x_dupx_ir, x_dup2_ir, x_ifeq, x_iceq, x_iflt, x_iclt, x_ifge, x_icge, x_ifgt, x_icgt, x_ifle, x_icle, x_ifne, x_icne, x_ifnull_r, x_ifnull_n, x_ifnonnull_r, x_ifnonnull_n, x_sw, x_vret, x_iret, x_lret, x_zret, x_zret0, x_zret1, x_rf_s, x_rf_n, x_geti, x_getr, x_puti, x_putz, x_putr, x_ial, x_ias, x_lal, x_las, x_aal, x_aas, x_aast, x_alen, x_new, x_newa, x_copy, x_min, x_abs, x_minl, x_oinit, x_throw, x_callS0, x_callS1, x_callS2, x_callS3, x_callS4, x_callV0, x_callV1, x_callV2, x_callV3, x_callV4, x_callV5, x_retI_v, x_callI0, x_callI1, x_callI2, x_retN_v, x_callSN1, x_callSN2, x_callT0, x_callT1, x_fn, x_sl0, x_sli, x_slr, x_sll, x_ar0, x_ari, x_arr, x_arl, ↓reduceIte, Nat.reduceAdd, Nat.reduceSub, Nat.reduceMul, Nat.reduceEqDiff, Nat.reduceLeDiff, Nat.reduceLT, if_true, if_false, Nat.le_refl, and_true, true_and, and_self, reduceCtorEq, or_false, false_or, or_true, true_or, Nat.zero_le, fa_lit, nI_add, w_mul, nI_ltI, nI_leI, nI_eq, nI_clamp, nI_toInt, if_pos, if_neg, w_div, w_rem2, zk138 hZ, zk139 hZ, zk140 hZ, zk141 hZ, zk142 hZ, zk143 hZ, zk144 hZ, zk145 hZ, zk146 hZ, zk147 hZ, zk148 hZ, zk149 hZ, zk150 hZ, zk151 hZ, zl139 hZ, zl140 hZ, zl141 hZ, zl142 hZ, zl143 hZ, zl144 hZ, zl145 hZ, zl146 hZ, zl147 hZ, zl148 hZ, zl149 hZ, zl150 hZ, zl151 hZ, zr138_0 hZ, zr138_1 hZ, zr138_2 hZ, zr138_3 hZ, zr138_4 hZ, zr138_8 hZ, zr138_9 hZ, zr138_10 hZ, zr138_12 hZ, zr138_24 hZ, zr138_25 hZ, zr138_26 hZ, zr148_0 hZ, zr148_1 hZ, zr148_2 hZ, zr148_3 hZ, zr148_4 hZ, zr148_5 hZ, zr148_6 hZ, zr148_7 hZ, zr148_8 hZ, zk138 hZ1, zk139 hZ1, zk140 hZ1, zk141 hZ1, zk142 hZ1, zk143 hZ1, zk144 hZ1, zk145 hZ1, zk146 hZ1, zk147 hZ1, zk148 hZ1, zk149 hZ1, zk150 hZ1, zk151 hZ1, zl139 hZ1, zl140 hZ1, zl141 hZ1, zl142 hZ1, zl143 hZ1, zl144 hZ1, zl145 hZ1, zl146 hZ1, zl147 hZ1, zl148 hZ1, zl149 hZ1, zl150 hZ1, zl151 hZ1, zr138_0 hZ1, zr138_1 hZ1, zr138_2 hZ1, zr138_3 hZ1, zr138_4 hZ1, zr138_8 hZ1, zr138_9 hZ1, zr138_10 hZ1, zr138_12 hZ1, zr138_24 hZ1, zr138_25 hZ1, zr138_26 hZ1, zr148_0 hZ1, zr148_1 hZ1, zr148_2 hZ1, zr148_3 hZ1, zr148_4 hZ1, zr148_5 hZ1, zr148_6 hZ1, zr148_7 hZ1, zr148_8 hZ1, g22, g40, f1, s60, s61, s62, eo]
          · rw [w_bf (fun q => d2 q.2)] at s62
            have hm : q_m B m = p_fail m 1 := by
              unfold q_m
              rw [if_pos ⟨hk, d2⟩]
            obtain ⟨S2, a1, a2⟩ := zq_ck0 f2 (c := 1) (by omega) (by omega)
            refine fin 2 (nI 0) S2 hk a1 (by rw [hm]; exact a2) (fun q => by rw [hm] at q; exact absurd q (p_fail_0 (by omega))) ?_
            generalize hK : kX11_compileFactor_143 w_N rF = K at *
            simp (disch := omega) only [fX11_compileFactor, kX11_compileFactor_0, kX11_compileFactor_121, kX11_compileFactor_138, hK, x_cs0, x_csi, x_csr, x_csn, x_csl, x_ret_v, x_ret_t, x_ret_n, x_tl_s, x_tl_n, x_lk0, x_lk, x_rem0, x_rem_i, x_rem_r, x_rem_l, x_rem2_0, x_rem2_i, x_rem2_r, x_rem2_l, x_pick0, x_pick_c, x_st1, x_st2, x_live, x_i, x_l, x_a, x_ild, x_lld, x_rld, x_ist, x_lst, x_rst, x_inc, x_ii, x_ll, x_li, x_cmp, x_ui, x_il, x_lti, x_idiv, x_irem, x_dup_i, x_dup_r, x_pop_i, x_pop_r, x_dupx_ir, x_dup2_ir, x_ifeq, x_iceq, x_iflt, x_iclt, x_ifge, x_icge, x_ifgt, x_icgt, x_ifle, x_icle, x_ifne, x_icne, x_ifnull_r, x_ifnull_n, x_ifnonnull_r, x_ifnonnull_n, x_sw, x_vret, x_iret, x_lret, x_zret, x_zret0, x_zret1, x_rf_s, x_rf_n, x_geti, x_getr, x_puti, x_putz, x_putr, x_ial, x_ias, x_lal, x_las, x_aal, x_aas, x_aast, x_alen, x_new, x_newa, x_copy, x_min, x_abs, x_minl, x_oinit, x_throw, x_callS0, x_callS1, x_callS2, x_callS3, x_callS4, x_callV0, x_callV1, x_callV2, x_callV3, x_callV4, x_callV5, x_retI_v, x_callI0, x_callI1, x_callI2, x_retN_v, x_callSN1, x_callSN2, x_callT0, x_callT1, x_fn, x_sl0, x_sli, x_slr, x_sll, x_ar0, x_ari, x_arr, x_arl, ↓reduceIte, Nat.reduceAdd, Nat.reduceSub, Nat.reduceMul, Nat.reduceEqDiff, Nat.reduceLeDiff, Nat.reduceLT, if_true, if_false, Nat.le_refl, and_true, true_and, and_self, reduceCtorEq, or_false, false_or, or_true, true_or, Nat.zero_le, fa_lit, nI_add, w_mul, nI_ltI, nI_leI, nI_eq, nI_clamp, nI_toInt, if_pos, if_neg, w_div, w_rem2, zk138 hZ, zk139 hZ, zk140 hZ, zk141 hZ, zk142 hZ, zk143 hZ, zk144 hZ, zk145 hZ, zk146 hZ, zk147 hZ, zk148 hZ, zk149 hZ, zk150 hZ, zk151 hZ, zl139 hZ, zl140 hZ, zl141 hZ, zl142 hZ, zl143 hZ, zl144 hZ, zl145 hZ, zl146 hZ, zl147 hZ, zl148 hZ, zl149 hZ, zl150 hZ, zl151 hZ, zr138_0 hZ, zr138_1 hZ, zr138_2 hZ, zr138_3 hZ, zr138_4 hZ, zr138_8 hZ, zr138_9 hZ, zr138_10 hZ, zr138_12 hZ, zr138_24 hZ, zr138_25 hZ, zr138_26 hZ, zr148_0 hZ, zr148_1 hZ, zr148_2 hZ, zr148_3 hZ, zr148_4 hZ, zr148_5 hZ, zr148_6 hZ, zr148_7 hZ, zr148_8 hZ, zk138 hZ1, zk139 hZ1, zk140 hZ1, zk141 hZ1, zk142 hZ1, zk143 hZ1, zk144 hZ1, zk145 hZ1, zk146 hZ1, zk147 hZ1, zk148 hZ1, zk149 hZ1, zk150 hZ1, zk151 hZ1, zl139 hZ1, zl140 hZ1, zl141 hZ1, zl142 hZ1, zl143 hZ1, zl144 hZ1, zl145 hZ1, zl146 hZ1, zl147 hZ1, zl148 hZ1, zl149 hZ1, zl150 hZ1, zl151 hZ1, zr138_0 hZ1, zr138_1 hZ1, zr138_2 hZ1, zr138_3 hZ1, zr138_4 hZ1, zr138_8 hZ1, zr138_9 hZ1, zr138_10 hZ1, zr138_12 hZ1, zr138_24 hZ1, zr138_25 hZ1, zr138_26 hZ1, zr148_0 hZ1, zr148_1 hZ1, zr148_2 hZ1, zr148_3 hZ1, zr148_4 hZ1, zr148_5 hZ1, zr148_6 hZ1, zr148_7 hZ1, zr148_8 hZ1, g22, g40, f1, s60, s61, s62, eo]
    · exact bad e
end L58
