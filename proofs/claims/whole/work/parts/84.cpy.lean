/-! THE CLASS: situations made and copied -/
/-- nothing old but the cells P -/
abbrev w_old (S S' : am_S) : Prop := w_F (fun _ => False) S S'
section F1
variable {S T U : am_S} {P Q : Nat → Prop} {a b i j k : Nat} {x : Int32} {o : Option Nat}
theorem w_F.rf : w_F P S S := ⟨Nat.le_refl _, Nat.le_refl _, fun _ _ => ⟨rfl, rfl⟩, fun _ _ _ => ⟨rfl, rfl, rfl⟩⟩
theorem w_F.tr (h : w_F P S T) (k : w_F P T U) : w_F P S U := by
  obtain ⟨a1, a2, a3, a4⟩ := h
  obtain ⟨b1, b2, b3, b4⟩ := k
  refine ⟨by omega, by omega, fun b hb => ?_, fun b hb hP => ?_⟩
  · obtain ⟨c1, c2⟩ := a3 b hb
    obtain ⟨d1, d2⟩ := b3 b (by omega)
    exact ⟨d1.trans c1, d2.trans c2⟩
  · obtain ⟨c1, c2, c3⟩ := a4 b hb hP
    obtain ⟨d1, d2, d3⟩ := b4 b (by omega) hP
    exact ⟨d1.trans c1, d2.trans c2, d3.trans c3⟩
theorem w_F.mono (h : w_F P S T) (hq : ∀ b, P b → Q b) : w_F Q S T := ⟨h.1, h.2.1, h.2.2.1, fun b hb hn => h.2.2.2 b hb (fun q => hn (hq b q))⟩
theorem w_F.of (h : w_I P S T) : w_F P S T := ⟨Nat.le_of_eq h.1.symm, Nat.le_of_eq h.2.1.symm, fun b _ => by rw [h.2.2.1, h.2.2.2.1]; exact ⟨rfl, rfl⟩, fun b _ hn => by rw [h.2.2.2.2.1, h.2.2.2.2.2.1]; exact ⟨h.2.2.2.2.2.2 b hn, rfl, rfl⟩⟩
theorem w_F.new {kd l sl : Nat} : w_F P S (am_new S kd l sl) := by
  refine ⟨by rw [x_n_N]; omega, by rw [x_z_N]; omega, fun b hb => ⟨by rw [x_k_N, if_neg (by omega)], by rw [x_l_N, if_neg (by omega)]⟩, fun b hb _ => ⟨?_, ?_, ?_⟩⟩
  · funext i
    rw [x_i_N, if_neg (by omega)]
  · funext i
    rw [x_j_N, if_neg (by omega)]
  · funext i
    rw [x_r_N, if_neg (by omega)]
theorem w_F.putI (h : P a ∨ am_n S ≤ a) : w_F P S (am_putI S a j x) := by
  refine ⟨Nat.le_refl _, Nat.le_refl _, fun b _ => ⟨rfl, rfl⟩, fun b hb hP => ⟨?_, rfl, rfl⟩⟩
  funext i
  rw [x_i_I, if_neg]
  intro e
  subst e
  rcases h with h | h
  · exact hP h
  · omega
theorem w_F.putR (h : P a ∨ am_n S ≤ a) : w_F P S (am_putR S a j o) := by
  refine ⟨Nat.le_refl _, Nat.le_refl _, fun b _ => ⟨rfl, rfl⟩, fun b hb hP => ⟨rfl, rfl, ?_⟩⟩
  funext i
  rw [x_r_R, if_neg]
  intro e
  subst e
  rcases h with h | h
  · exact hP h
  · omega
theorem w_F.row {f : Nat → Int32} (h : P a ∨ am_n S ≤ a) : w_F P S (am_row S a f) := by
  refine ⟨Nat.le_refl _, Nat.le_refl _, fun b _ => ⟨rfl, rfl⟩, fun b hb hP => ⟨?_, rfl, rfl⟩⟩
  refine x_rown ?_
  intro e
  subst e
  rcases h with h | h
  · exact hP h
  · omega
theorem w_F.k (h : w_F P S T) (hb : b < am_n S) : am_k T b = am_k S b := (h.2.2.1 b hb).1
theorem w_F.l (h : w_F P S T) (hb : b < am_n S) : am_l T b = am_l S b := (h.2.2.1 b hb).2
theorem w_F.i (h : w_F P S T) (hb : b < am_n S) (hP : ¬ P b) : am_i T b = am_i S b := (h.2.2.2 b hb hP).1
theorem w_F.r (h : w_F P S T) (hb : b < am_n S) (hP : ¬ P b) : am_r T b = am_r S b := (h.2.2.2 b hb hP).2.2
theorem w_F.O (h : w_O a S T) : w_F (fun b => a ≤ b ∧ b < a + 12 ∨ b = 130 ∨ b = 131 ∨ w_inT S b) S T ∨ am_z T < am_z S := by
  by_cases hz : am_z S ≤ am_z T
  · exact Or.inl ⟨h.1.1, hz, h.2.1, fun b hb hP => ⟨h.2.2.2.1 b hb (fun q => hP (Or.inr (Or.inr (Or.inl q)))) (fun q => hP (Or.inl q)) (fun q => hP (Or.inr (Or.inr (Or.inr q)))), h.1.2 b hb, h.2.2.1 b hb (fun q => hP (Or.inr (Or.inl q)))⟩⟩
  · exact Or.inr (by omega)
/-- a situation is where it was -/
theorem w_F.A (h : w_F P S T) (hA : w_A S a) (hn : a + 12 ≤ am_n S) (hP : ∀ b, a ≤ b → b < a + 12 → ¬ P b) : w_A T a := by
  have hk : ∀ i, i < 12 → am_k T (a + i) = am_k S (a + i) := fun i hi => h.k (by omega)
  have hl : ∀ i, i < 12 → am_l T (a + i) = am_l S (a + i) := fun i hi => h.l (by omega)
  have hi : ∀ i, i < 12 → am_i T (a + i) = am_i S (a + i) := fun i hi => h.i (by omega) (hP _ (by omega) (by omega))
  have hr : ∀ i, i < 12 → am_r T (a + i) = am_r S (a + i) := fun i hi => h.r (by omega) (hP _ (by omega) (by omega))
  have k0 : am_k T a = am_k S a := h.k (by omega)
  have r0 : am_r T a = am_r S a := h.r (by omega) (hP _ (by omega) (by omega))
  unfold w_A at hA ⊢
  simp (disch := omega) only [hk, hl, hi, hr, k0, r0]
  exact hA
theorem w_F.Rw {R : Nat → Int32} (h : w_F P S T) (hR : w_R S a R) (hn : a + 12 ≤ am_n S) (hP : ∀ b, a ≤ b → b < a + 12 → ¬ P b) : w_R T a R := by
  have hi : ∀ i, i < 12 → am_i T (a + i) = am_i S (a + i) := fun i hi => h.i (by omega) (hP _ (by omega) (by omega))
  have i0 : am_i T a = am_i S a := h.i (by omega) (hP _ (by omega) (by omega))
  unfold w_R at hR ⊢
  simp (disch := omega) only [hi, i0]
  exact hR
end F1
/-- a table copied -/
def w_cT (S : am_S) (T P P2 n C : Nat) : am_S := am_putI (am_cpy S P2 0 P 0 (n * C)) T 3 (nI n)
section F2
variable {S S' : am_S} {x y z v : Int32} {i j o u n w hh c d b m t p np ne no a T P L C f k T2 P2 L2 q : Nat} {R R' F Q : Nat → Int32}
theorem x_n_cT : am_n (w_cT S T P P2 n C) = am_n S := rfl
theorem x_z_cT : am_z (w_cT S T P P2 n C) = am_z S := rfl
theorem x_k_cT : am_k (w_cT S T P P2 n C) = am_k S := rfl
theorem x_l_cT : am_l (w_cT S T P P2 n C) = am_l S := rfl
theorem x_r_cT : am_r (w_cT S T P P2 n C) = am_r S := rfl
theorem x_j_cT : am_j (w_cT S T P P2 n C) = am_j S := rfl
theorem x_i_cTn (h1 : q ≠ T) (h2 : q ≠ P) : am_i (w_cT S T P P2 n C) q = am_i S q := by
  funext i
  unfold w_cT am_cpy
  rw [x_i_I, if_neg h1, x_rown h2]
theorem x_i_cTT (h : T ≠ P) : am_i (w_cT S T P P2 n C) T i = if i = 3 then nI n else am_i S T i := by
  unfold w_cT am_cpy
  rw [x_i_I, if_pos rfl, x_rown h]
theorem x_i_cTP (h : T ≠ P) : am_i (w_cT S T P P2 n C) P i = if i < n * C then am_i S P2 i else am_i S P i := by
  unfold w_cT am_cpy va_cpy
  rw [x_i_I, if_neg (Ne.symm h), x_rows]
  dsimp only
  simp only [Nat.zero_le, true_and, Nat.zero_add, Nat.sub_zero]
theorem y_copyT (h : w_tb S T2 P2 C n L2) (h1 : am_k S T = 7) (h2 : am_r S T 2 = some P) (h3 : am_k S P = 20) (h4 : am_l S P = L2) (hTP : T ≠ P) (hTP2 : T2 ≠ P) : fX7_copyFrom w_N [.ref T, .ref T2] S = some (.inl none, w_cT S T P P2 n C) := by
  obtain ⟨⟨a1, a2, a3, a4⟩, ⟨b1, b2⟩, c1, c2, c3, c4⟩ := h
  have hm : n * C < 2 ^ 31 := by omega
  have e5 : am_i (am_cpy S P2 0 P 0 (n * C)) T2 3 = nI n := by
    unfold am_cpy
    rw [x_rown hTP2]
    exact a4
  have k5 : am_k (am_cpy S P2 0 P 0 (n * C)) = am_k S := rfl
  have hle : n * C ≤ L2 := c1
  unfold w_cT
  generalize n * C = nc at *
  simp (disch := omega) only [fX7_copyFrom, kX7_copyFrom_0, kX7_copyFrom_54, x_cs0, x_csi, x_csr, x_csn, x_csl, x_ret_v, x_ret_t, x_ret_n, x_tl_s, x_tl_n, x_lk0, x_lk, x_rem0, x_rem_i, x_rem_r, x_rem_l, x_rem2_0, x_rem2_i, x_rem2_r, x_rem2_l, x_pick0, x_pick_c, x_st1, x_st2, x_live, x_i, x_l, x_a, x_ild, x_lld, x_rld, x_ist, x_lst, x_rst, x_inc, x_ii, x_ll, x_li, x_cmp, x_ui, x_il, x_lti, x_idiv, x_irem, x_dup_i, x_dup_r, x_pop_i, x_pop_r, x_dupx_ir, x_dup2_ir, x_ifeq, x_iceq, x_iflt, x_iclt, x_ifge, x_icge, x_ifgt, x_icgt, x_ifle, x_icle, x_ifne, x_icne, x_ifnull_r, x_ifnull_n, x_ifnonnull_r, x_ifnonnull_n, x_sw, x_vret, x_iret, x_lret, x_zret, x_zret0, x_zret1, x_rf_s, x_rf_n, x_geti, x_getr, x_puti, x_putz, x_putr, x_ial, x_ias, x_lal, x_las, x_aal, x_aas, x_aast, x_alen, x_new, x_newa, x_copy, x_min, x_abs, x_minl, x_oinit, x_throw, x_callS0, x_callS1, x_callS2, x_callS3, x_callS4, x_callV0, x_callV1, x_callV2, x_callV3, x_callV4, x_callV5, x_retI_v, x_callI0, x_callI1, x_callI2, x_retN_v, x_callSN1, x_callSN2, x_callT0, x_callT1, x_fn, x_sl0, x_sli, x_slr, x_sll, x_ar0, x_ari, x_arr, x_arl, ↓reduceIte, Nat.reduceAdd, Nat.reduceSub, Nat.reduceMul, Nat.reduceEqDiff, Nat.reduceLeDiff, Nat.reduceLT, if_true, if_false, Nat.le_refl, and_true, true_and, and_self, reduceCtorEq, or_false, false_or, or_true, true_or, Nat.zero_le, fa_lit, nI_add, w_mul, nI_ltI, nI_leI, nI_eq, nI_clamp, nI_toInt, if_pos, if_neg, w_div, w_rem2, a1, a2, a3, a4, b1, b2, h1, h2, h3, h4, va_rf, k5, e5, Int.natCast_add]
  sorry
end F2
