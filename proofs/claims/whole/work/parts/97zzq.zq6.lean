/-! THE REFERENCE: query -/
section L66
variable {S S' T S0 S1 : am_S} {a b p q i j k m n u t L e f κ v0 lo h op d dd l r o : Nat} {P : Nat → Prop} {B : Nat → Nat} {c x y z hi : Int32} {s s' s2 : p_S} {R : Nat → Int32} {C : List Int32} {M : Nat → Nat → Int32}
theorem l_w_20 {T : Nat × Nat × Nat} (h : l_w B T 20) : ¬ l_w B T 21 := fun q => by
  have h1 := h.2.1
  have h2 := q.2.1
  have e : l_len 20 ≠ l_len 21 := by decide
  exact e (h1.symm.trans h2)
theorem zq_hd (H : w_zc S S L B (p_next B L p_s0) [] 0 0) : ∃ bb fi T4, (∀ x : Int32, kX11_query_67 w_N [(0, .ref 138), (2, .int fi)] [.int bb, .ref 138] S = kX11_query_67 w_N [(2, .int fi), (0, .ref 138), (1, .int x)] [.int bb, .ref 138] S) ∧ fX11_isWord w_N [.ref 138, .ref 21] S = some (.inl (some (.int fi)), S) ∧ (fi = nI 1 ∧ bb = nI 1 ∧ l_w B (p_next B L p_s0).2.1 21 ∨ fi = nI 0 ∧ ¬ l_w B (p_next B L p_s0).2.1 21 ∧ fX11_isWord w_N [.ref 138, .ref 20] S = some (.inl (some (.int bb)), S) ∧ (bb = nI 1 ∧ l_w B (p_next B L p_s0).2.1 20 ∨ bb = nI 0 ∧ ¬ l_w B (p_next B L p_s0).2.1 20)) ∧ fX11_check w_N [.ref 138, .int bb, .int (nI 1)] S = some (.inl none, T4) ∧ w_zc S T4 L B (q_head B L) [] 0 0 ∧ ((q_head B L).1.1 = 0 → (q_head B L).2.1.2.2 ≠ 0) := by
  have g21 := zq_wd H (t := 21) (by decide)
  have g20 := zq_wd H (t := 20) (by decide)
  have e : (p_next B L p_s0).1.1 = 0 := rfl
  unfold q_head
  generalize p_next B L p_s0 = t at *
  by_cases c21 : l_w B t.2.1 21
  · rw [w_bt ⟨e, c21⟩] at g21
    rw [if_pos (Or.inr c21)]
    exact ⟨nI 1, nI 1, S, fun _ => rfl, g21, Or.inl ⟨rfl, rfl, c21⟩, z_ck1 _, H, fun _ => by have := c21.1; omega⟩
  · rw [w_bf (fun q => c21 q.2)] at g21
    by_cases c20 : l_w B t.2.1 20
    · rw [w_bt ⟨e, c20⟩] at g20
      rw [if_pos (Or.inl c20)]
      exact ⟨nI 1, nI 0, S, fun _ => rfl, g21, Or.inr ⟨rfl, c21, g20, Or.inl ⟨rfl, c20⟩⟩, z_ck1 _, H, fun _ => by have := c20.1; omega⟩
    · rw [w_bf (fun q => c20 q.2)] at g20
      rw [if_neg (fun q => q.elim c20 c21)]
      obtain ⟨T4, a1, a2⟩ := zq_ck0 H (c := 1) (by omega) (by omega)
      exact ⟨nI 0, nI 0, T4, fun _ => rfl, g21, Or.inr ⟨rfl, c21, g20, Or.inr ⟨rfl, c20⟩⟩, a1, a2, fun q => absurd q (p_fail_0 (by omega))⟩
theorem zq_run0 {bb fi : Int32} {T1 T3 : am_S} (hZ : w_Z S) (hZ1 : w_Z (am_putI S 138 6 (nI 0))) (hT1 : am_putI (am_putI S 138 6 (nI 0)) 138 27 (nI 0) = T1) (zT1 : w_Z T1) (zT3 : w_Z T3) (e13 : am_i (am_putI S 138 6 (nI 0)) 138 13 = nI n) (hn : n ≤ 600) (gr : fX11_inRange w_N [.int x, .int (nI 0), .int (nI (min n 200))] (am_putI S 138 6 (nI 0)) = some (.inl (some (.int 1)), am_putI S 138 6 (nI 0))) (d1 : fX11_startText w_N [.ref 138, .int x] T1 = some (.inl none, T3)) (w21 : fX11_isWord w_N [.ref 138, .ref 21] T3 = some (.inl (some (.int fi)), T3)) (hh : fi = nI 1 ∧ bb = nI 1 ∨ fi = nI 0 ∧ fX11_isWord w_N [.ref 138, .ref 20] T3 = some (.inl (some (.int bb)), T3) ∧ (bb = nI 1 ∨ bb = nI 0)) : fX11_query w_N [.ref 138, .int x] S = kX11_query_67 w_N [(2, .int fi), (0, .ref 138), (1, .int x)] [.int bb, .ref 138] T3 := by
  have em : w_min (nI n) (nI 200) = nI (min n 200) := by
    unfold w_min
    by_cases c : n ≤ 200
    · rw [Nat.min_eq_left c]
      simp (disch := omega) only [fa_lit, nI_add, w_mul, nI_ltI, nI_leI, nI_eq, nI_clamp, nI_toInt, if_pos, if_neg, w_div, w_rem2]
    · rw [Nat.min_eq_right (by omega)]
      simp (disch := omega) only [fa_lit, nI_add, w_mul, nI_ltI, nI_leI, nI_eq, nI_clamp, nI_toInt, if_pos, if_neg, w_div, w_rem2]
  have k8 := zk138 hZ
  have k81 := zk138 hZ1
  have k82 := zk138 zT1
  have k83 := zk138 zT3
  have eo : ∀ (fi bb : Int32) (U : am_S), kX11_query_67 w_N [(2, .int fi), (0, .ref 138), (1, .int x)] [.int bb, .ref 138] U = kX11_query_67 w_N [(0, .ref 138), (2, .int fi)] [.int bb, .ref 138] U := fun _ _ _ => rfl
  generalize hK : kX11_query_67 w_N = K at *
  generalize hI : fX11_inRange w_N = fI at *
  generalize hS : fX11_startText w_N = fS at *
  generalize hW : fX11_isWord w_N = fW at *
  rcases hh with ⟨rfl, rfl⟩ | ⟨rfl, h20, rfl | rfl⟩
  · simp (disch := omega) only [fX11_query, kX11_query_0, kX11_query_62, hK, hI, hS, hW, x_cs0, x_csi, x_csr, x_csn, x_csl, x_ret_v, x_ret_t, x_ret_n, x_tl_s, x_tl_n, x_lk0, x_lk, x_rem0, x_rem_i, x_rem_r, x_rem_l, x_rem2_0, x_rem2_i, x_rem2_r, x_rem2_l, x_pick0, x_pick_c, x_st1, x_st2, x_live, x_i, x_l, x_a, x_ild, x_lld, x_rld, x_ist, x_lst, x_rst, x_inc, x_ii, x_ll, x_li, x_cmp, x_ui, x_il, x_lti, x_idiv, x_irem, x_dup_i, x_dup_r, x_pop_i, x_pop_r, x_dupx_ir, x_dup2_ir, x_ifeq, x_iceq, x_iflt, x_iclt, x_ifge, x_icge, x_ifgt, x_icgt, x_ifle, x_icle, x_ifne, x_icne, x_ifnull_r, x_ifnull_n, x_ifnonnull_r, x_ifnonnull_n, x_sw, x_vret, x_iret, x_lret, x_zret, x_zret0, x_zret1, x_rf_s, x_rf_n, x_geti, x_getr, x_puti, x_putz, x_putr, x_ial, x_ias, x_lal, x_las, x_aal, x_aas, x_aast, x_alen, x_new, x_newa, x_copy, x_min, x_abs, x_minl, x_oinit, x_throw, x_callS0, x_callS1, x_callS2, x_callS3, x_callS4, x_callV0, x_callV1, x_callV2, x_callV3, x_callV4, x_callV5, x_retI_v, x_callI0, x_callI1, x_callI2, x_retN_v, x_callSN1, x_callSN2, x_callT0, x_callT1, x_fn, x_sl0, x_sli, x_slr, x_sll, x_ar0, x_ari, x_arr, x_arl, ↓reduceIte, Nat.reduceAdd, Nat.reduceSub, Nat.reduceMul, Nat.reduceEqDiff, Nat.reduceLeDiff, Nat.reduceLT, if_true, if_false, Nat.le_refl, and_true, true_and, and_self, reduceCtorEq, or_false, false_or, or_true, true_or, Nat.zero_le, fa_lit, nI_add, w_mul, nI_ltI, nI_leI, nI_eq, nI_clamp, nI_toInt, if_pos, if_neg, w_div, w_rem2, k8, k81, k82, k83, e13, em, gr, hT1, d1, w21, eo]
  · simp (disch := omega) only [fX11_query, kX11_query_0, kX11_query_62, hK, hI, hS, hW, x_cs0, x_csi, x_csr, x_csn, x_csl, x_ret_v, x_ret_t, x_ret_n, x_tl_s, x_tl_n, x_lk0, x_lk, x_rem0, x_rem_i, x_rem_r, x_rem_l, x_rem2_0, x_rem2_i, x_rem2_r, x_rem2_l, x_pick0, x_pick_c, x_st1, x_st2, x_live, x_i, x_l, x_a, x_ild, x_lld, x_rld, x_ist, x_lst, x_rst, x_inc, x_ii, x_ll, x_li, x_cmp, x_ui, x_il, x_lti, x_idiv, x_irem, x_dup_i, x_dup_r, x_pop_i, x_pop_r, x_dupx_ir, x_dup2_ir, x_ifeq, x_iceq, x_iflt, x_iclt, x_ifge, x_icge, x_ifgt, x_icgt, x_ifle, x_icle, x_ifne, x_icne, x_ifnull_r, x_ifnull_n, x_ifnonnull_r, x_ifnonnull_n, x_sw, x_vret, x_iret, x_lret, x_zret, x_zret0, x_zret1, x_rf_s, x_rf_n, x_geti, x_getr, x_puti, x_putz, x_putr, x_ial, x_ias, x_lal, x_las, x_aal, x_aas, x_aast, x_alen, x_new, x_newa, x_copy, x_min, x_abs, x_minl, x_oinit, x_throw, x_callS0, x_callS1, x_callS2, x_callS3, x_callS4, x_callV0, x_callV1, x_callV2, x_callV3, x_callV4, x_callV5, x_retI_v, x_callI0, x_callI1, x_callI2, x_retN_v, x_callSN1, x_callSN2, x_callT0, x_callT1, x_fn, x_sl0, x_sli, x_slr, x_sll, x_ar0, x_ari, x_arr, x_arl, ↓reduceIte, Nat.reduceAdd, Nat.reduceSub, Nat.reduceMul, Nat.reduceEqDiff, Nat.reduceLeDiff, Nat.reduceLT, if_true, if_false, Nat.le_refl, and_true, true_and, and_self, reduceCtorEq, or_false, false_or, or_true, true_or, Nat.zero_le, fa_lit, nI_add, w_mul, nI_ltI, nI_leI, nI_eq, nI_clamp, nI_toInt, if_pos, if_neg, w_div, w_rem2, k8, k81, k82, k83, e13, em, gr, hT1, d1, w21, h20, eo]
  · simp (disch := omega) only [fX11_query, kX11_query_0, kX11_query_62, hK, hI, hS, hW, x_cs0, x_csi, x_csr, x_csn, x_csl, x_ret_v, x_ret_t, x_ret_n, x_tl_s, x_tl_n, x_lk0, x_lk, x_rem0, x_rem_i, x_rem_r, x_rem_l, x_rem2_0, x_rem2_i, x_rem2_r, x_rem2_l, x_pick0, x_pick_c, x_st1, x_st2, x_live, x_i, x_l, x_a, x_ild, x_lld, x_rld, x_ist, x_lst, x_rst, x_inc, x_ii, x_ll, x_li, x_cmp, x_ui, x_il, x_lti, x_idiv, x_irem, x_dup_i, x_dup_r, x_pop_i, x_pop_r, x_dupx_ir, x_dup2_ir, x_ifeq, x_iceq, x_iflt, x_iclt, x_ifge, x_icge, x_ifgt, x_icgt, x_ifle, x_icle, x_ifne, x_icne, x_ifnull_r, x_ifnull_n, x_ifnonnull_r, x_ifnonnull_n, x_sw, x_vret, x_iret, x_lret, x_zret, x_zret0, x_zret1, x_rf_s, x_rf_n, x_geti, x_getr, x_puti, x_putz, x_putr, x_ial, x_ias, x_lal, x_las, x_aal, x_aas, x_aast, x_alen, x_new, x_newa, x_copy, x_min, x_abs, x_minl, x_oinit, x_throw, x_callS0, x_callS1, x_callS2, x_callS3, x_callS4, x_callV0, x_callV1, x_callV2, x_callV3, x_callV4, x_callV5, x_retI_v, x_callI0, x_callI1, x_callI2, x_retN_v, x_callSN1, x_callSN2, x_callT0, x_callT1, x_fn, x_sl0, x_sli, x_slr, x_sll, x_ar0, x_ari, x_arr, x_arl, ↓reduceIte, Nat.reduceAdd, Nat.reduceSub, Nat.reduceMul, Nat.reduceEqDiff, Nat.reduceLeDiff, Nat.reduceLT, if_true, if_false, Nat.le_refl, and_true, true_and, and_self, reduceCtorEq, or_false, false_or, or_true, true_or, Nat.zero_le, fa_lit, nI_add, w_mul, nI_ltI, nI_leI, nI_eq, nI_clamp, nI_toInt, if_pos, if_neg, w_div, w_rem2, k8, k81, k82, k83, e13, em, gr, hT1, d1, w21, h20, eo]
theorem z_query (hZ : w_Z S) (hM : w_Mq M S) (hV : s_V (M 139)) (h13 : M 138 13 = nI n) (hn : n ≤ 600) (hB : ∀ i, i < n → M 147 i = nI (B i) ∧ B i < 256) : w_Zn 0 0 (u_query M B x) (fX11_query w_N) [.ref 138, .int x] S := by
  have t0 : w_th 0 S (am_putI S 138 6 (nI 0)) := w_th.put
  have hZ1 := t0.Z hZ
  have hM1 := hM.th t0
  have e13 := (hM1.2.2.2.2.2 13 (by omega)).trans h13
  have gr := z_inRange (S := am_putI S 138 6 (nI 0)) (x := x) (y := nI 0) (z := nI (min n 200))
  rw [w_inRc (by omega)] at gr
  have b4 := hV.B.2.2.2.1
  unfold u_query
  rw [h13, w_snI (by omega)]
  by_cases c : s_is x (min n 200 + 1)
  · rw [if_pos c]
    rw [w_bt c] at gr
    obtain ⟨L, l1, l2, rfl⟩ := s_is_n c
    rw [w_snI (by omega)]
    have hL : L ≤ 200 := by omega
    have k1 : w_I (fun b => b = 138) (am_putI S 138 6 (nI 0)) (am_putI (am_putI S 138 6 (nI 0)) 138 27 (nI 0)) := w_I.put (P := fun b => b = 138) rfl
    have zT1 := k1.Z hZ1
    have v27 : am_i (am_putI (am_putI S 138 6 (nI 0)) 138 27 (nI 0)) 138 27 = nI 0 := x_i_Is
    have vj : ∀ j, j ≠ 27 → am_i (am_putI (am_putI S 138 6 (nI 0)) 138 27 (nI 0)) 138 j = am_i (am_putI S 138 6 (nI 0)) 138 j := fun j hj => by rw [x_i_I, if_pos rfl, if_neg hj]
    generalize hT1 : am_putI (am_putI S 138 6 (nI 0)) 138 27 (nI 0) = T1 at *
    have ht1 : w_tx T1 147 L B := ⟨by omega, fun i hi => by
      rw [k1.i (by omega), hM1.2.2.2.2.1]
      exact hB i (by omega)⟩
    obtain ⟨T2, T3, d1, d2, d3, d4, d5⟩ := z_start2 zT1 ht1
    have zT3 := d5.Z
    have I13 : w_I (fun b => b = 138) T1 T3 := d2.tr d5.1
    have H3 : w_zc T3 T3 L B (p_next B L p_s0) [] 0 0 := ⟨w_I.rf, ⟨d5.self, hL⟩, fun _ _ => rfl, (d5.2.2.1 21 (by omega)).trans d4, fun _ => ⟨Nat.zero_le _, (d5.2.2.1 27 (by omega)).trans ((d3 27 (by omega) (by omega) (by omega) (by omega)).trans v27), fun i hi => absurd hi (Nat.not_lt_zero _)⟩⟩
    obtain ⟨bb, fi, T4, eo, w21, hh, a1, a2, a3⟩ := zq_hd H3
    obtain ⟨T6, bb2, T7, b1, b2, b3, b4'⟩ := zq_67 (R := M 139) (fi := fi) a1 zT3 a2 a3
    have b4' : w_zc T3 T7 L B (q_fin (M 139) B L) (q_all (M 139) B L).2.1 0 0 := b4'
    have I37 : w_I (fun b => b = 138 ∨ b = 149) T3 T7 := b4'.1
    have r7 : am_i T7 139 = M 139 := by
      rw [I37.i (by omega), I13.i (by omega), k1.i (by omega)]
      exact hM1.1
    have len : (q_fin (M 139) B L).1.1 = 0 → (q_all (M 139) B L).2.1.length ≤ 200 := fun e => by
      have q1 := (b4'.2.2.2.2 e).1
      have q2 := b4'.tk e
      have q3 := q2.1
      have q4 := q2.2.1
      omega
    have hfi : fi = nI 0 ∨ fi = nI 1 := hh.elim (fun q => Or.inr q.1) (fun q => Or.inl q.1)
    obtain ⟨T8, T9, c1, c2, c3, c4, c5, c6⟩ := zq_99 (R := M 139) (n := s_n (M 139 4)) (H := (q_all (M 139) B L).2.2) b3 b2 b4' r7 b4.1 (by have := b4.2; omega) (fun e => ⟨len e, (q_gall e).2⟩) hfi
    have run0 := zq_run0 (bb := bb) (fi := fi) hZ hZ1 hT1 zT1 zT3 e13 hn gr d1 w21 (hh.imp (fun q => ⟨q.1, q.2.1⟩) (fun q => ⟨q.1, q.2.2.1, q.2.2.2.imp (fun w => w.1) (fun w => w.1)⟩))
    have runA := ((run0.trans (eo (nI L)).symm).trans b1).trans c1
    have ans : (if (q_fin (M 139) B L).1.1 = 0 then (if fi = nI 1 then q_fst (q_all (M 139) B L).2.2 (s_n (M 139 4)) else q_cnt (q_all (M 139) B L).2.2 (s_n (M 139 4))) else -nI 1000000000 - nI (q_fin (M 139) B L).1.1) = q_ans (M 139) B L := by
      unfold q_ans
      by_cases e : (q_fin (M 139) B L).1.1 = 0
      · rw [if_pos e, if_pos e]
        rcases hh with ⟨h1, h2, h3⟩ | ⟨h1, h2, h3, h4⟩
        · rw [if_pos h1, if_neg (fun q => l_w_20 q h3)]
        · have n1 : ¬ fi = nI 1 := by
            rw [h1]
            decide
          rw [if_neg n1]
          rcases h4 with ⟨g1, g2⟩ | ⟨g1, g2⟩
          · rw [if_pos g2]
          · exfalso
            have hd : (q_head B L).1.1 ≠ 0 := by
              unfold q_head
              rw [if_neg (fun q => q.elim g2 h2)]
              exact p_fail_0 (by omega)
            have hx : (q_all (M 139) B L).1.1.1 = 0 := by
              have e := e
              unfold q_fin at e
              split at e
              · exact e
              · exact absurd e (p_fail_0 (by omega))
            have ee : (q_all (M 139) B L).1.1 = (q_head B L).1 := by
              have ff : q_fac (M 139) B L (q_open (M 139) B L 8) 0 (p_next B L (q_head B L)) = (p_next B L (q_head B L), [], fun _ => false) := by
                unfold q_fac
                exact if_neg hd
              have cc : q_conj (M 139) B L (q_open (M 139) B L 8) 0 (p_next B L (q_head B L)) = (p_next B L (q_head B L), [], fun _ => false) := by
                unfold q_conj
                rw [ff]
                show (if _ then _ else _) = _
                rw [if_neg (fun q => hd q.1)]
              unfold q_all q_test
              rw [cc]
              show ((if _ then _ else _) : q_T).1.1 = _
              rw [if_neg (fun q => hd q.1)]
              rfl
            rw [ee] at hx
            exact hd hx
      · rw [if_neg e, if_neg e]
    rw [ans] at runA
    have i9 := c6.2.2.2.2.1
    have io : ∀ b, b ≠ 138 → b ≠ 149 → am_i T9 b = am_i (am_putI S 138 6 (nI 0)) b := fun b h1 h2 => by
      rw [i9, c2.i h1, I37.i (by omega), I13.i h1, k1.i h1]
    have i8 : ∀ j, j ≠ 13 → j ≠ 20 → j < 14 → am_i T9 138 j = am_i (am_putI S 138 6 (nI 0)) 138 j := fun j h1 h2 h3 => by
      rw [i9, c5 j h1 h2, b4'.2.2.1 j (by omega), d5.2.2.1 j (by omega), d3 j (by omega) (by omega) (by omega) (by omega), vj j (by omega)]
    have F9 : w_F w_P7 S T9 := (((w_F.of t0.P7).tr (((w_F.of k1).mono (fun b hb => by show 138 ≤ b ∧ b ≤ 150; omega)).tr ((w_F.of I13).mono (fun b hb => by show 138 ≤ b ∧ b ≤ 150; omega)))).tr (((w_F.of I37).mono (fun b hb => by show 138 ≤ b ∧ b ≤ 150; omega)).tr ((w_F.of c2).mono (fun b hb => by show 138 ≤ b ∧ b ≤ 150; omega)))).tr c6.F
    have n9 : am_n T9 = am_n S ∧ am_z T9 = am_z S := ⟨by rw [c6.1, c2.1, I37.1, I13.1, k1.1, t0.1.1], by rw [c6.2.1, c2.2.1, I37.2.1, I13.2.1, k1.2.1, t0.1.2.1]⟩
    have zT9 : w_Z T9 := c6.Z (c2.Z b4'.Z)
    obtain ⟨m1, m2, m3, m4, m5, m6⟩ := hM1
    refine ⟨T9, runA, ?_, ⟨?_, ?_, ?_, ?_, ?_, fun j hj => ?_⟩, zT9, F9, by omega, by omega⟩
    · show am_i T9 138 6 = nI 0
      rw [i8 6 (by omega) (by omega) (by omega)]
      exact x_i_Is
    · dsimp only
      rw [s_up_n (by omega), io 139 (by omega) (by omega)]
      exact m1
    · dsimp only
      rw [s_up_n (by omega), io 142 (by omega) (by omega)]
      exact m2
    · dsimp only
      rw [s_up_n (by omega), io 143 (by omega) (by omega)]
      exact m3
    · dsimp only
      rw [s_up_n (by omega), io 146 (by omega) (by omega)]
      exact m4
    · dsimp only
      rw [s_up_n (by omega), io 147 (by omega) (by omega)]
      exact m5
    · dsimp only
      rw [s_up_s]
      unfold u_l8
      by_cases j20 : j = 20
      · rw [j20, s_up_s, i9]
        exact c4
      · rw [s_up_n j20, s_up]
        by_cases j13 : j = 13
        · rw [if_pos j13, j13, i9]
          exact c3
        · rw [if_neg j13, i8 j j13 j20 (by omega)]
          exact m6 j hj
  · rw [if_neg c]
    rw [w_bf c] at gr
    have gf := z_raise (x := nI 1) hZ1
    have t1 : w_th 1 S (am_putI (am_putI S 138 6 (nI 0)) 138 6 (nI 1)) := w_th.put2
    refine ⟨_, ?_, t1.2.2, hM.th t1, t1.Z hZ, w_F.of t1.P7, by rw [t1.1.1]; omega, by rw [t1.1.2.1]; omega⟩
    have em : w_min (nI n) (nI 200) = nI (min n 200) := by
      unfold w_min
      by_cases c : n ≤ 200
      · rw [Nat.min_eq_left c]
        simp (disch := omega) only [fa_lit, nI_add, w_mul, nI_ltI, nI_leI, nI_eq, nI_clamp, nI_toInt, if_pos, if_neg, w_div, w_rem2]
      · rw [Nat.min_eq_right (by omega)]
        simp (disch := omega) only [fa_lit, nI_add, w_mul, nI_ltI, nI_leI, nI_eq, nI_clamp, nI_toInt, if_pos, if_neg, w_div, w_rem2]
    have k8 := zk138 hZ
    have k81 := zk138 hZ1
    generalize hI : fX11_inRange w_N = fI at *
    generalize hRs : fX11_raise w_N = fR at *
    simp (disch := omega) only [fX11_query, kX11_query_0, hI, hRs, x_cs0, x_csi, x_csr, x_csn, x_csl, x_ret_v, x_ret_t, x_ret_n, x_tl_s, x_tl_n, x_lk0, x_lk, x_rem0, x_rem_i, x_rem_r, x_rem_l, x_rem2_0, x_rem2_i, x_rem2_r, x_rem2_l, x_pick0, x_pick_c, x_st1, x_st2, x_live, x_i, x_l, x_a, x_ild, x_lld, x_rld, x_ist, x_lst, x_rst, x_inc, x_ii, x_ll, x_li, x_cmp, x_ui, x_il, x_lti, x_idiv, x_irem, x_dup_i, x_dup_r, x_pop_i, x_pop_r, x_dupx_ir, x_dup2_ir, x_ifeq, x_iceq, x_iflt, x_iclt, x_ifge, x_icge, x_ifgt, x_icgt, x_ifle, x_icle, x_ifne, x_icne, x_ifnull_r, x_ifnull_n, x_ifnonnull_r, x_ifnonnull_n, x_sw, x_vret, x_iret, x_lret, x_zret, x_zret0, x_zret1, x_rf_s, x_rf_n, x_geti, x_getr, x_puti, x_putz, x_putr, x_ial, x_ias, x_lal, x_las, x_aal, x_aas, x_aast, x_alen, x_new, x_newa, x_copy, x_min, x_abs, x_minl, x_oinit, x_throw, x_callS0, x_callS1, x_callS2, x_callS3, x_callS4, x_callV0, x_callV1, x_callV2, x_callV3, x_callV4, x_callV5, x_retI_v, x_callI0, x_callI1, x_callI2, x_retN_v, x_callSN1, x_callSN2, x_callT0, x_callT1, x_fn, x_sl0, x_sli, x_slr, x_sll, x_ar0, x_ari, x_arr, x_arl, ↓reduceIte, Nat.reduceAdd, Nat.reduceSub, Nat.reduceMul, Nat.reduceEqDiff, Nat.reduceLeDiff, Nat.reduceLT, if_true, if_false, Nat.le_refl, and_true, true_and, and_self, reduceCtorEq, or_false, false_or, or_true, true_or, Nat.zero_le, fa_lit, nI_add, w_mul, nI_ltI, nI_leI, nI_eq, nI_clamp, nI_toInt, if_pos, if_neg, w_div, w_rem2, k8, k81, e13, em, gr, gf]
end L66
