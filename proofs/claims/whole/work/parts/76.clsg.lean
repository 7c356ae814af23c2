section Y15
variable {S S' S2 : am_S} {x y z v : Int32} {i j o u n w hh c d b m t p np ne no a L f k D E hd j0 m0 cl : Nat} {R R' F : Nat → Int32} {q : s_Q} {r r4 : am_K}
theorem y_cL2 (hQ : w_Q S a R) (ha : a = 101 ∨ a = 113) (ho : o < s_n (R 4)) (hs : R (64 + 10 * o + 3) = nI 0) (hu : s_n (R (64 + 10 * o + 0)) = u) (hc : c < 144) (ht : t < 144) (h : i = 2 ∨ c = t) (hi : i ≤ 2) :
    ∃ S', am_loop (bX1_carry_60 w_N) (m + 1) (lvC a o u t c i) [] S = some (.inl none, S') ∧ w_Q S' a (if c = t then s_arrive R o else R) ∧ w_O a S S' := by
  rw [am_loop_s, y_stE hi hc ht h]
  by_cases e : c = t
  · subst e
    rw [if_pos rfl]
    exact y_198b hQ ha ho hs hu ht
  · rw [if_neg e]
    exact ⟨S, y_198a hc ht e, hQ, w_O.rf⟩
theorem s_ride_w (h : (if b = t then s_arrive (s_at R o b) o else s_at R o b) = R') : w_b ((if b = t then s_arrive (s_at R o b) o else s_at R o b) (64 + 10 * o + 3) = nI 0) = w_b (R' (64 + 10 * o + 3) = nI 0) := by rw [h]
theorem s_arr_3 (hV : s_V R) (ho : o < s_n (R 4)) : ¬ s_arrive R o (64 + 10 * o + 3) = nI 0 := by
  have a4 := hV.B.2.2.2.1.2
  have a2 := hV.B.2.1.2
  have hu := (hV.O o ho).1.1.2
  unfold s_arrive
  try dsimp only
  split
  · unfold s_become
    rw [s_bec_3, nI_eq (by omega) (by omega)]
    omega
  · rw [s_up_n (by omega)]
    unfold s_become
    rw [s_bec_3, nI_eq (by omega) (by omega)]
    omega
theorem y_carryL (hQ : w_Q S a R) (ha : a = 101 ∨ a = 113) (ho : o < s_n (R 4)) (hs : R (64 + 10 * o + 3) = nI 0) (hu : s_n (R (64 + 10 * o + 0)) = u) (hc : s_ce (R (64 + 10 * o + 7)) (R (64 + 10 * o + 8)) = c) (ht : s_ce (R (12 + 4 * u + 0)) (R (12 + 4 * u + 1)) = t) :
    ∃ S', am_loop (bX1_carry_60 w_N) w_N (lvC a o u t c 0) [] S = some (.inl none, S') ∧ w_Q S' a (s_carry R o) ∧ w_O a S S' := by
  have hV := hQ.2.2.1.2
  have hB := s_BWH hV.B.WH
  have hO := hV.O o ho
  have k1 := (hO.1.2.2.2.2.2).ok hV.B
  have k2 := ((hV.U _ hO.1.1.2).1.1).ok hV.B
  have th := s_there_ce hV ho
  have a4 := hV.B.2.2.2.1.2
  have a2 := hV.B.2.1.2
  have hu2 := hO.1.1.2
  rw [hu] at hu2
  rw [hu, ht] at k2
  rw [hc] at k1
  rw [hc, hu, ht] at th
  unfold s_carry
  show ∃ S', am_loop (bX1_carry_60 w_N) (4999 + 1) (lvC a o u t c 0) [] S = some (.inl none, S') ∧ _
  by_cases e : c = t
  · rw [if_pos (th.mpr e)]
    have := y_cL2 (m := 4999) (i := 0) hQ ha ho hs hu k1.2.2.2 k2.2.2.2 (Or.inr e) (by omega)
    rw [if_pos e] at this
    exact this
  · rw [if_neg (fun q => e (th.mp q))]
    dsimp only
    rw [hu, ht]
    rw [am_loop_s]
    rcases y_stp (r := am_loop (bX1_carry_60 w_N) 4999) (i := 0) hQ ha ho hs hu hc ht e (by omega) with ⟨S', f1, f2, f3, f4⟩ | ⟨S1, b, b3, f1, f2, f3, hbf, f4⟩
    · rw [if_pos f4]
      exact ⟨S', f1, f2, f3⟩
    · have V1 := f2.2.2.1.2
      have e4 : s_at R o b 4 = R 4 := s_at_n (by omega)
      have ho1 : o < s_n (s_at R o b 4) := by rw [e4]; exact ho
      have hs1 : s_at R o b (64 + 10 * o + 3) = nI 0 := by rw [s_at_3, hs]
      have ew : s_at R o b (64 + 10 * o + 0) = R (64 + 10 * o + 0) := by
        unfold s_at
        simp (disch := omega) only [s_up_n]
      have hu1 : s_n (s_at R o b (64 + 10 * o + 0)) = u := by rw [ew, hu]
      have wl : s_wl R (s_at R o b) := fun j hj => s_at_n (by omega)
      have ht1 : s_ce (s_at R o b (12 + 4 * u + 0)) (s_at R o b (12 + 4 * u + 1)) = t := by rw [s_at_n (by omega), s_at_n (by omega), ht]
      by_cases eb : b = t
      · have h2 := y_cL2 (m := 4998) (i := 1) f2 ha ho1 hs1 hu1 b3 k2.2.2.2 (Or.inr eb) (by omega)
        rw [if_pos eb] at h2
        obtain ⟨S2, g1, g2, g3⟩ := h2
        have hw0 : w_b (s_arrive (s_at R o b) o (64 + 10 * o + 3) = nI 0) = nI 0 := w_bf (s_arr_3 V1 ho1)
        rw [f4, if_pos eb]
        dsimp only
        rw [if_pos hw0]
        exact ⟨S2, f1.trans g1, g2, f3.tr g3⟩
      · rw [f4, if_neg eb]
        have hn0 : ¬ w_b (s_at R o b (64 + 10 * o + 3) = nI 0) = nI 0 := by
          rw [w_bt hs1]
          decide
        rw [if_neg hn0]
        dsimp only
        have hb1 : am_loop (bX1_carry_60 w_N) 4999 (lvC a o u t b 1) [] S1 = bX1_carry_60 w_N (am_loop (bX1_carry_60 w_N) 4998) (lvC a o u t b 1) [] S1 := by rw [show 4999 = 4998 + 1 from rfl, am_loop_s]
        have hfar : s_far (s_at R o b) t = s_far R t := wl.far hB t
        rcases y_stp (r := am_loop (bX1_carry_60 w_N) 4998) (i := 1) f2 ha ho1 hs1 hu1 (s_at_ce b3) ht1 eb (by omega) with ⟨S', g1, g2, g3, g4⟩ | ⟨S2, b', b3', g1, g2, g3, hbf', g4⟩
        · rw [hfar] at g2
          exact ⟨S', f1.trans (hb1.trans g1), g2, f3.tr g3⟩
        · rw [hfar] at g4
          have V2 := g2.2.2.1.2
          have e42 : s_at (s_at R o b) o b' 4 = s_at R o b 4 := s_at_n (by omega)
          have ew2 : s_at (s_at R o b) o b' (64 + 10 * o + 0) = s_at R o b (64 + 10 * o + 0) := by
            unfold s_at
            simp (disch := omega) only [s_up_n]
          have h3 := y_cL2 (m := 4997) (i := 2) (u := u) g2 ha (o := o) (by rw [e42]; exact ho1) (by rw [s_at_3, hs1]) (by rw [ew2, hu1]) b3' k2.2.2.2 (Or.inl rfl) (by omega)
          obtain ⟨S3, h4, h5, h6⟩ := h3
          rw [g4]
          exact ⟨S3, f1.trans (hb1.trans (g1.trans h4)), h5, f3.tr (g3.tr h6)⟩
theorem y_carry (hQ : w_Q S a R) (ha : a = 101 ∨ a = 113) (ho : o < s_n (R 4)) (hs : R (64 + 10 * o + 3) = nI 0) : ∃ S', fX1_carry w_N [.ref 132, .ref a, .int (nI o)] S = some (.inl none, S') ∧ w_Q S' a (s_carry R o) ∧ w_O a S S' := by
  have hV := hQ.2.2.1.2
  have hA := hQ.2.1.2
  have h := hQ.2.2.1.1
  have hO := hV.O o ho
  have hin := hO.1.2.2.2.2.2
  have hu2 := hO.1.1.2
  have hun := (hV.U _ hu2).1.1
  obtain ⟨S', f1, f2, f3⟩ := y_carryL hQ ha ho hs rfl rfl rfl
  have g0 := y_O hA h hV.B ho (f := 0) (by omega)
  have g7 := y_O hA h hV.B ho (f := 7) (by omega)
  have g8 := y_O hA h hV.B ho (f := 8) (by omega)
  have u0 := y_U hA h hV.B hu2 (f := 0) (by omega)
  have u1 := y_U hA h hV.B hu2 (f := 1) (by omega)
  rw [hO.1.1.1] at g0
  rw [hin.1.1] at g7
  rw [hin.2.1] at g8
  rw [hun.1.1] at u0
  rw [hun.2.1] at u1
  refine ⟨S', ?_, f2, f3⟩
  simp (disch := omega) only [fX1_carry, kX1_carry_0, kX1_carry_60, x_cs0, x_csi, x_csr, x_csn, x_csl, x_ret_v, x_ret_t, x_ret_n, x_tl_s, x_tl_n, x_lk0, x_lk, x_rem0, x_rem_i, x_rem_r, x_rem_l, x_rem2_0, x_rem2_i, x_rem2_r, x_rem2_l, x_pick0, x_pick_c, x_st1, x_st2, x_live, x_i, x_l, x_a, x_ild, x_lld, x_rld, x_ist, x_lst, x_rst, x_inc, x_ii, x_ll, x_li, x_cmp, x_ui, x_il, x_lti, x_idiv, x_irem, x_dup_i, x_dup_r, x_pop_i, x_pop_r, x_dupx_ir, x_dup2_ir, x_ifeq, x_iceq, x_iflt, x_iclt, x_ifge, x_icge, x_ifgt, x_icgt, x_ifle, x_icle, x_ifne, x_icne, x_ifnull_r, x_ifnull_n, x_ifnonnull_r, x_ifnonnull_n, x_sw, x_vret, x_iret, x_lret, x_zret, x_zret0, x_zret1, x_rf_s, x_rf_n, x_geti, x_getr, x_puti, x_putz, x_putr, x_ial, x_ias, x_lal, x_las, x_aal, x_aas, x_aast, x_alen, x_new, x_newa, x_copy, x_min, x_abs, x_minl, x_oinit, x_throw, x_callS0, x_callS1, x_callS2, x_callS3, x_callS4, x_callV0, x_callV1, x_callV2, x_callV3, x_callV4, x_callV5, x_retI_v, x_callI0, x_callI1, x_callI2, x_retN_v, x_callSN1, x_callSN2, x_callT0, x_callT1, x_fn, x_sl0, x_sli, x_slr, x_sll, x_ar0, x_ari, x_arr, x_arl, ↓reduceIte, Nat.reduceAdd, Nat.reduceSub, Nat.reduceMul, Nat.reduceEqDiff, Nat.reduceLeDiff, Nat.reduceLT, if_true, if_false, Nat.le_refl, and_true, true_and, and_self, reduceCtorEq, or_false, false_or, or_true, true_or, Nat.zero_le, fa_lit, nI_add, w_mul, nI_ltI, nI_leI, nI_eq, nI_clamp, nI_toInt, if_pos, if_neg, w_div, w_rem2, xk0 hA, xk1 hA, xl1 hA, xk2 hA, xk3 hA, xl3 hA, xr2_2 hA, xi2_0 hA, xi2_1 hA, xk4 hA, xk5 hA, xl5 hA, xr4_2 hA, xi4_0 hA, xi4_1 hA, xk6 hA, xk7 hA, xl7 hA, xr6_2 hA, xi6_0 hA, xi6_1 hA, xk8 hA, xk9 hA, xl9 hA, xr8_2 hA, xi8_0 hA, xi8_1 hA, xk10 hA, xk11 hA, xl11 hA, xr10_2 hA, xi10_0 hA, xi10_1 hA, xr0_7 hA, xr0_8 hA, xr0_9 hA, xr0_10 hA, xr0_11 hA, xr0_12 hA, g0, g7, g8, u0, u1, y_cellAt]
  exact f1
end Y15
