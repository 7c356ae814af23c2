/-! THE CLASS: situations made and copied -/
/-- nothing old but the cells P -/
abbrev w_old (S S' : am_S) : Prop := w_F (fun _ => False) S S'
section F1
variable {S T U : am_S} {P Q : Nat → Prop} {a b j m : Nat} {x : Int32} {o : Option Nat}
theorem w_F.rf : w_F P S S := ⟨Nat.le_refl _, Nat.le_refl _, fun _ _ => ⟨rfl, rfl⟩, fun _ _ _ => ⟨rfl, rfl, rfl⟩⟩
theorem w_F.tr (h : w_F P S T) (k : w_F P T U) : w_F P S U := by
  obtain ⟨a1, a2, a3, a4⟩ := h
  obtain ⟨b1, b2, b3, b4⟩ := k
  refine ⟨by omega, by omega, fun b hb => ?_, fun b hb hP => ?_⟩
  · obtain ⟨c1, c2⟩ := a3 b hb
    obtain ⟨d1, d2⟩ := b3 b (by omega)
    exact ⟨d1.trans c1, d2.trans c2⟩
  · obtain ⟨c1, c2, c3⟩ := a4 b hb hP
    obtain ⟨d1, d2, d3⟩ := b4 b (by omega) hP
    exact ⟨d1.trans c1, d2.trans c2, d3.trans c3⟩
theorem w_F.mono (h : w_F P S T) (hq : ∀ b, P b → Q b) : w_F Q S T := ⟨h.1, h.2.1, h.2.2.1, fun b hb hn => h.2.2.2 b hb (fun q => hn (hq b q))⟩
theorem w_F.of (h : w_I P S T) : w_F P S T := ⟨Nat.le_of_eq h.1.symm, Nat.le_of_eq h.2.1.symm, fun b _ => by rw [h.2.2.1, h.2.2.2.1]; exact ⟨rfl, rfl⟩, fun b _ hn => by rw [h.2.2.2.2.1, h.2.2.2.2.2.1]; exact ⟨h.2.2.2.2.2.2 b hn, rfl, rfl⟩⟩
theorem w_F.new {kd l sl : Nat} : w_F P S (am_new S kd l sl) := by
  refine ⟨by rw [x_n_N]; omega, by rw [x_z_N]; omega, fun b hb => ⟨by rw [x_k_N, if_neg (by omega)], by rw [x_l_N, if_neg (by omega)]⟩, fun b hb _ => ⟨?_, ?_, ?_⟩⟩
  · funext i
    rw [x_i_N, if_neg (by omega)]
  · funext i
    rw [x_j_N, if_neg (by omega)]
  · funext i
    rw [x_r_N, if_neg (by omega)]
theorem w_F.putI (h : P a ∨ am_n S ≤ a) : w_F P S (am_putI S a j x) := by
  refine ⟨Nat.le_refl _, Nat.le_refl _, fun b _ => ⟨rfl, rfl⟩, fun b hb hP => ⟨?_, rfl, rfl⟩⟩
  funext i
  rw [x_i_I, if_neg]
  intro e
  subst e
  rcases h with h | h
  · exact hP h
  · omega
theorem w_F.putR (h : P a ∨ am_n S ≤ a) : w_F P S (am_putR S a j o) := by
  refine ⟨Nat.le_refl _, Nat.le_refl _, fun b _ => ⟨rfl, rfl⟩, fun b hb hP => ⟨rfl, rfl, ?_⟩⟩
  funext i
  rw [x_r_R, if_neg]
  intro e
  subst e
  rcases h with h | h
  · exact hP h
  · omega
theorem w_F.row {f : Nat → Int32} (h : P a ∨ am_n S ≤ a) : w_F P S (am_row S a f) := by
  refine ⟨Nat.le_refl _, Nat.le_refl _, fun b _ => ⟨rfl, rfl⟩, fun b hb hP => ⟨?_, rfl, rfl⟩⟩
  refine x_rown ?_
  intro e
  subst e
  rcases h with h | h
  · exact hP h
  · omega
theorem w_F.k (h : w_F P S T) (hb : b < am_n S) : am_k T b = am_k S b := (h.2.2.1 b hb).1
theorem w_F.l (h : w_F P S T) (hb : b < am_n S) : am_l T b = am_l S b := (h.2.2.1 b hb).2
theorem w_F.i (h : w_F P S T) (hb : b < am_n S) (hP : ¬ P b) : am_i T b = am_i S b := (h.2.2.2 b hb hP).1
theorem w_F.r (h : w_F P S T) (hb : b < am_n S) (hP : ¬ P b) : am_r T b = am_r S b := (h.2.2.2 b hb hP).2.2
theorem w_F.O (h : w_O a S T) : w_F (fun b => a ≤ b ∧ b < a + 12 ∨ b = 130 ∨ b = 131 ∨ w_inT S b) S T ∨ am_z T < am_z S := by
  by_cases hz : am_z S ≤ am_z T
  · exact Or.inl ⟨h.1.1, hz, h.2.1, fun b hb hP => ⟨h.2.2.2.1 b hb (fun q => hP (Or.inr (Or.inr (Or.inl q)))) (fun q => hP (Or.inl q)) (fun q => hP (Or.inr (Or.inr (Or.inr q)))), h.1.2 b hb, h.2.2.1 b hb (fun q => hP (Or.inr (Or.inl q)))⟩⟩
  · exact Or.inr (by omega)
/-- a situation is where it was -/
theorem w_F.A (h : w_F P S T) (hA : w_A S a) (hn : a + 12 ≤ am_n S) (hP : ∀ b, a ≤ b → b < a + 12 → ¬ P b) : w_A T a := by
  have hk : ∀ i, i < 12 → am_k T (a + i) = am_k S (a + i) := fun i hi => h.k (by omega)
  have hl : ∀ i, i < 12 → am_l T (a + i) = am_l S (a + i) := fun i hi => h.l (by omega)
  have hi : ∀ i, i < 12 → am_i T (a + i) = am_i S (a + i) := fun i hi => h.i (by omega) (hP _ (by omega) (by omega))
  have hr : ∀ i, i < 12 → am_r T (a + i) = am_r S (a + i) := fun i hi => h.r (by omega) (hP _ (by omega) (by omega))
  have k0 : am_k T a = am_k S a := h.k (by omega)
  have r0 : am_r T a = am_r S a := h.r (by omega) (hP _ (by omega) (by omega))
  unfold w_A at hA ⊢
  simp (disch := omega) only [hk, hl, hi, hr, k0, r0]
  exact hA
theorem w_F.Rw {R : Nat → Int32} (h : w_F P S T) (hR : w_R S a R) (hn : a + 12 ≤ am_n S) (hP : ∀ b, a ≤ b → b < a + 12 → ¬ P b) : w_R T a R := by
  have hi : ∀ i, i < 12 → am_i T (a + i) = am_i S (a + i) := fun i hi => h.i (by omega) (hP _ (by omega) (by omega))
  have i0 : am_i T a = am_i S a := h.i (by omega) (hP _ (by omega) (by omega))
  unfold w_R at hR ⊢
  simp (disch := omega) only [hi, i0]
  exact hR
end F1
/-- a table copied -/
def w_cT (S : am_S) (T P P2 n C : Nat) : am_S := am_putI (am_cpy S P2 0 P 0 (n * C)) T 3 (nI n)
section F2
variable {S S' : am_S} {x y z v : Int32} {i j o u n w hh c d b m t p np ne no a T P L C f k T2 P2 L2 q : Nat} {R R' F Q : Nat → Int32}
theorem x_n_cT : am_n (w_cT S T P P2 n C) = am_n S := rfl
theorem x_z_cT : am_z (w_cT S T P P2 n C) = am_z S := rfl
theorem x_k_cT : am_k (w_cT S T P P2 n C) = am_k S := rfl
theorem x_l_cT : am_l (w_cT S T P P2 n C) = am_l S := rfl
theorem x_r_cT : am_r (w_cT S T P P2 n C) = am_r S := rfl
theorem x_j_cT : am_j (w_cT S T P P2 n C) = am_j S := rfl
theorem x_i_cTn (h1 : q ≠ T) (h2 : q ≠ P) : am_i (w_cT S T P P2 n C) q = am_i S q := by
  funext i
  unfold w_cT am_cpy
  rw [x_i_I, if_neg h1, x_rown h2]
theorem x_i_cTT (h : T ≠ P) : am_i (w_cT S T P P2 n C) T i = if i = 3 then nI n else am_i S T i := by
  unfold w_cT am_cpy
  rw [x_i_I, if_pos rfl, x_rown h]
theorem x_i_cTP (h : T ≠ P) : am_i (w_cT S T P P2 n C) P i = if i < n * C then am_i S P2 i else am_i S P i := by
  unfold w_cT am_cpy va_cpy
  rw [x_i_I, if_neg (Ne.symm h), x_rows]
  simp only [Nat.zero_le, true_and, Nat.zero_add, Nat.sub_zero]
theorem y_copyT (h : w_tb S T2 P2 C n L2) (h1 : am_k S T = 7) (h2 : am_r S T 2 = some P) (h3 : am_k S P = 20) (h4 : am_l S P = L2) (hTP : T ≠ P) (hTP2 : T2 ≠ P) : fX7_copyFrom w_N [.ref T, .ref T2] S = some (.inl none, w_cT S T P P2 n C) := by
  obtain ⟨⟨a1, a2, a3, a4⟩, ⟨b1, b2⟩, c1, c2, c3, c4⟩ := h
  have hm : n * C < 2 ^ 31 := by omega
  have e5 : am_i (am_cpy S P2 0 P 0 (n * C)) T2 3 = nI n := by
    unfold am_cpy
    rw [x_rown hTP2]
    exact a4
  have k5 : am_k (am_cpy S P2 0 P 0 (n * C)) = am_k S := rfl
  have hle : n * C ≤ L2 := c1
  unfold w_cT
  simp (disch := omega) only [fX7_copyFrom, kX7_copyFrom_0, kX7_copyFrom_54, x_cs0, x_csi, x_csr, x_csn, x_csl, x_ret_v, x_ret_t, x_ret_n, x_tl_s, x_tl_n, x_lk0, x_lk, x_rem0, x_rem_i, x_rem_r, x_rem_l, x_rem2_0, x_rem2_i, x_rem2_r, x_rem2_l, x_pick0, x_pick_c, x_st1, x_st2, x_live, x_i, x_l, x_a, x_ild, x_lld, x_rld, x_ist, x_lst, x_rst, x_inc, x_ii, x_ll, x_li, x_cmp, x_ui, x_il, x_lti, x_idiv, x_irem, x_dup_i, x_dup_r, x_pop_i, x_pop_r, x_dupx_ir, x_dup2_ir, x_ifeq, x_iceq, x_iflt, x_iclt, x_ifge, x_icge, x_ifgt, x_icgt, x_ifle, x_icle, x_ifne, x_icne, x_ifnull_r, x_ifnull_n, x_ifnonnull_r, x_ifnonnull_n, x_sw, x_vret, x_iret, x_lret, x_zret, x_zret0, x_zret1, x_rf_s, x_rf_n, x_geti, x_getr, x_puti, x_putz, x_putr, x_ial, x_ias, x_lal, x_las, x_aal, x_aas, x_aast, x_alen, x_new, x_newa, x_copy, x_min, x_abs, x_minl, x_oinit, x_throw, x_callS0, x_callS1, x_callS2, x_callS3, x_callS4, x_callV0, x_callV1, x_callV2, x_callV3, x_callV4, x_callV5, x_retI_v, x_callI0, x_callI1, x_callI2, x_retN_v, x_callSN1, x_callSN2, x_callT0, x_callT1, x_fn, x_sl0, x_sli, x_slr, x_sll, x_ar0, x_ari, x_arr, x_arl, ↓reduceIte, Nat.reduceAdd, Nat.reduceSub, Nat.reduceMul, Nat.reduceEqDiff, Nat.reduceLeDiff, Nat.reduceLT, if_true, if_false, Nat.le_refl, and_true, true_and, and_self, reduceCtorEq, or_false, false_or, or_true, true_or, Nat.zero_le, fa_lit, nI_add, w_mul, nI_ltI, nI_leI, nI_eq, nI_clamp, nI_toInt, if_pos, if_neg, w_div, w_rem2, a1, a2, a3, a4, b1, b2, h1, h2, h3, h4, va_rf, k5, e5, Int.natCast_add]
theorem w_J.row {g : Nat → Int32} (h : a ≤ c ∧ c < a + 12) (hP : ∀ q, 1 ≤ q → q ≤ 5 → c ≠ a + 2 * q) : w_J a S (am_row S c g) := ⟨w_I.row h, fun q j h1 h2 _ => by rw [x_rown (Ne.symm (hP q h1 h2))]⟩
theorem w_J.cT (h : a ≤ c ∧ c < a + 12) (hP : ∀ q, 1 ≤ q → q ≤ 5 → c ≠ a + 2 * q) (h2 : a ≤ T ∧ T < a + 12) : w_J a S (w_cT S T c P2 n C) := by
  unfold w_cT am_cpy
  exact (w_J.row h hP).tr (w_J.put h2 (fun _ _ _ _ => Nat.le_refl _))
def w_cS1 (S : am_S) (a b : Nat) : am_S := am_putI (am_putI (am_putI (am_putI (am_putI (am_putI (am_putI S b 0 (am_i S a 0)) b 1 (am_i S a 1)) b 2 (am_i S a 2)) b 3 (am_i S a 3)) b 4 (am_i S a 4)) b 5 (am_i S a 5)) b 6 (am_i S a 6)
def w_cS2 (S : am_S) (a b : Nat) : am_S := am_cpy (w_cS1 S a b) (a + 1) 0 (b + 1) 0 144
def w_cS3 (S : am_S) (a b : Nat) (R : Nat → Int32) : am_S := w_cT (w_cS2 S a b) (b + 2) (b + 3) (a + 3) (s_n (R 2)) 4
def w_cS4 (S : am_S) (a b : Nat) (R : Nat → Int32) : am_S := w_cT (w_cS3 S a b R) (b + 4) (b + 5) (a + 5) (s_n (R 3)) 8
def w_cS5 (S : am_S) (a b : Nat) (R : Nat → Int32) : am_S := w_cT (w_cS4 S a b R) (b + 6) (b + 7) (a + 7) (s_n (R 8)) 4
def w_cS6 (S : am_S) (a b : Nat) (R : Nat → Int32) : am_S := w_cT (w_cS5 S a b R) (b + 8) (b + 9) (a + 9) (s_n (R 4)) 10
def w_cS7 (S : am_S) (a b : Nat) (R : Nat → Int32) : am_S := w_cT (w_cS6 S a b R) (b + 10) (b + 11) (a + 11) (s_n (R 7)) 3
theorem w_cS1_i (h : q ≠ b) : am_i (w_cS1 S a b) q = am_i S q := by
  funext i
  unfold w_cS1
  simp only [x_i_I, if_neg h]
theorem w_cS1_b (h : f < 7) : am_i (w_cS1 S a b) b f = am_i S a f := by
  unfold w_cS1
  rcases (show f = 0 ∨ f = 1 ∨ f = 2 ∨ f = 3 ∨ f = 4 ∨ f = 5 ∨ f = 6 by omega) with rfl | rfl | rfl | rfl | rfl | rfl | rfl <;> simp (disch := omega) only [x_i_I, if_pos, if_neg, ↓reduceIte, Nat.reduceEqDiff, reduceCtorEq]
theorem w_cS2_i (h : q ≠ b) (h2 : q ≠ b + 1) : am_i (w_cS2 S a b) q = am_i S q := by
  unfold w_cS2 am_cpy
  rw [x_rown h2, w_cS1_i h]
theorem w_cS2_b (h : f < 7) : am_i (w_cS2 S a b) b f = am_i S a f := by
  unfold w_cS2 am_cpy
  rw [x_rown (by omega), w_cS1_b h]
theorem w_cS2_w (hd : a + 12 ≤ b ∨ b + 12 ≤ a) (h : c < 144) : am_i (w_cS2 S a b) (b + 1) c = am_i S (a + 1) c := by
  unfold w_cS2 am_cpy va_cpy
  rw [x_rows]
  rw [if_pos (by omega), Nat.sub_zero, Nat.zero_add, w_cS1_i (by omega)]
theorem w_cS1_J (hA : w_A S b) : w_J b S (w_cS1 S a b) := by
  unfold w_cS1
  exact (w_J.puta (by omega)).tr ((w_J.puta (by omega)).tr ((w_J.puta (by omega)).tr ((w_J.puta (by omega)).tr ((w_J.puta (by omega)).tr ((w_J.puta (by omega)).tr (w_J.puta (by omega)))))))
theorem w_cS2_J (hA : w_A S b) : w_J b S (w_cS2 S a b) := by
  unfold w_cS2 am_cpy
  exact (w_cS1_J hA).tr (w_J.row (by omega) (fun q _ _ => by omega))
theorem w_cS3_J (hA : w_A S b) : w_J b S (w_cS3 S a b R) := by
  unfold w_cS3
  exact (w_cS2_J hA).tr (w_J.cT (by omega) (fun q _ _ => by omega) (by omega))
theorem w_cS4_J (hA : w_A S b) : w_J b S (w_cS4 S a b R) := by
  unfold w_cS4
  exact (w_cS3_J hA).tr (w_J.cT (by omega) (fun q _ _ => by omega) (by omega))
theorem w_cS5_J (hA : w_A S b) : w_J b S (w_cS5 S a b R) := by
  unfold w_cS5
  exact (w_cS4_J hA).tr (w_J.cT (by omega) (fun q _ _ => by omega) (by omega))
theorem w_cS6_J (hA : w_A S b) : w_J b S (w_cS6 S a b R) := by
  unfold w_cS6
  exact (w_cS5_J hA).tr (w_J.cT (by omega) (fun q _ _ => by omega) (by omega))
theorem w_cS7_J (hA : w_A S b) : w_J b S (w_cS7 S a b R) := by
  unfold w_cS7
  exact (w_cS6_J hA).tr (w_J.cT (by omega) (fun q _ _ => by omega) (by omega))
theorem y_copyS (hA : w_A S a) (hb : w_A S b) (h : w_R S a R) (hB : s_VB R) (hd : a + 12 ≤ b ∨ b + 12 ≤ a) : fX6_copyFrom w_N [.ref b, .ref a] S = some (.inl none, w_cS7 S a b R) ∧ w_R (w_cS7 S a b R) b R ∧ w_J b S (w_cS7 S a b R) := by
  have J7 := w_cS7_J (a := a) (R := R) hb
  have dis : ∀ q, a ≤ q → q < a + 12 → ¬ (b ≤ q ∧ q < b + 12) := fun q h1 h2 h3 => by omega
  have K0 := w_cS2_J (a := a) hb
  have A0 := K0.A hb
  have c0 : fX7_copyFrom w_N [.ref (b + 2), .ref (a + 2)] (w_cS2 S a b) = some (.inl none, w_cS3 S a b R) := y_copyT (S := (w_cS2 S a b)) (T := b + 2) (P := b + 3) ((K0.1.Ra h dis).tU (K0.1.Aa hA dis) hB) (xk2 A0) (xr2_2 A0) (xk3 A0) (xl3 A0) (by omega) (by omega)
  have K1 := w_cS3_J (a := a) (R := R) hb
  have A1 := K1.A hb
  have c1 : fX7_copyFrom w_N [.ref (b + 4), .ref (a + 4)] (w_cS3 S a b R) = some (.inl none, w_cS4 S a b R) := y_copyT (S := (w_cS3 S a b R)) (T := b + 4) (P := b + 5) ((K1.1.Ra h dis).tP (K1.1.Aa hA dis) hB) (xk4 A1) (xr4_2 A1) (xk5 A1) (xl5 A1) (by omega) (by omega)
  have K2 := w_cS4_J (a := a) (R := R) hb
  have A2 := K2.A hb
  have c2 : fX7_copyFrom w_N [.ref (b + 6), .ref (a + 6)] (w_cS4 S a b R) = some (.inl none, w_cS5 S a b R) := y_copyT (S := (w_cS4 S a b R)) (T := b + 6) (P := b + 7) ((K2.1.Ra h dis).tL (K2.1.Aa hA dis) hB) (xk6 A2) (xr6_2 A2) (xk7 A2) (xl7 A2) (by omega) (by omega)
  have K3 := w_cS5_J (a := a) (R := R) hb
  have A3 := K3.A hb
  have c3 : fX7_copyFrom w_N [.ref (b + 8), .ref (a + 8)] (w_cS5 S a b R) = some (.inl none, w_cS6 S a b R) := y_copyT (S := (w_cS5 S a b R)) (T := b + 8) (P := b + 9) ((K3.1.Ra h dis).tO (K3.1.Aa hA dis) hB) (xk8 A3) (xr8_2 A3) (xk9 A3) (xl9 A3) (by omega) (by omega)
  have K4 := w_cS6_J (a := a) (R := R) hb
  have A4 := K4.A hb
  have c4 : fX7_copyFrom w_N [.ref (b + 10), .ref (a + 10)] (w_cS6 S a b R) = some (.inl none, w_cS7 S a b R) := y_copyT (S := (w_cS6 S a b R)) (T := b + 10) (P := b + 11) ((K4.1.Ra h dis).tE (K4.1.Aa hA dis) hB) (xk10 A4) (xr10_2 A4) (xk11 A4) (xl11 A4) (by omega) (by omega)
  refine ⟨?_, ?_, J7⟩
  · have ik0 : am_k (w_cS2 S a b) = am_k S := K0.1.2.2.1
    have ir0 : am_r (w_cS2 S a b) = am_r S := K0.1.2.2.2.2.2.1
    have ik1 : am_k (w_cS3 S a b R) = am_k S := K1.1.2.2.1
    have ir1 : am_r (w_cS3 S a b R) = am_r S := K1.1.2.2.2.2.2.1
    have ik2 : am_k (w_cS4 S a b R) = am_k S := K2.1.2.2.1
    have ir2 : am_r (w_cS4 S a b R) = am_r S := K2.1.2.2.2.2.2.1
    have ik3 : am_k (w_cS5 S a b R) = am_k S := K3.1.2.2.1
    have ir3 : am_r (w_cS5 S a b R) = am_r S := K3.1.2.2.2.2.2.1
    have ik4 : am_k (w_cS6 S a b R) = am_k S := K4.1.2.2.1
    have ir4 : am_r (w_cS6 S a b R) = am_r S := K4.1.2.2.2.2.2.1
    have hai : ∀ (T : am_S) (j : Nat) (v : Int32), am_i (am_putI T b j v) a = am_i T a := fun T j v => by
      funext i
      rw [x_i_I, if_neg (by omega)]
    have hS : am_cpy (am_putI (am_putI (am_putI (am_putI (am_putI (am_putI (am_putI S b 0 (am_i S a 0)) b 1 (am_i S a 1)) b 2 (am_i S a 2)) b 3 (am_i S a 3)) b 4 (am_i S a 4)) b 5 (am_i S a 5)) b 6 (am_i S a 6)) (a + 1) 0 (b + 1) 0 144 = w_cS2 S a b := rfl
    simp (disch := omega) only [fX6_copyFrom, kX6_copyFrom_0, x_cs0, x_csi, x_csr, x_csn, x_csl, x_ret_v, x_ret_t, x_ret_n, x_tl_s, x_tl_n, x_lk0, x_lk, x_rem0, x_rem_i, x_rem_r, x_rem_l, x_rem2_0, x_rem2_i, x_rem2_r, x_rem2_l, x_pick0, x_pick_c, x_st1, x_st2, x_live, x_i, x_l, x_a, x_ild, x_lld, x_rld, x_ist, x_lst, x_rst, x_inc, x_ii, x_ll, x_li, x_cmp, x_ui, x_il, x_lti, x_idiv, x_irem, x_dup_i, x_dup_r, x_pop_i, x_pop_r, x_dupx_ir, x_dup2_ir, x_ifeq, x_iceq, x_iflt, x_iclt, x_ifge, x_icge, x_ifgt, x_icgt, x_ifle, x_icle, x_ifne, x_icne, x_ifnull_r, x_ifnull_n, x_ifnonnull_r, x_ifnonnull_n, x_sw, x_vret, x_iret, x_lret, x_zret, x_zret0, x_zret1, x_rf_s, x_rf_n, x_geti, x_getr, x_puti, x_putz, x_putr, x_ial, x_ias, x_lal, x_las, x_aal, x_aas, x_aast, x_alen, x_new, x_newa, x_copy, x_min, x_abs, x_minl, x_oinit, x_throw, x_callS0, x_callS1, x_callS2, x_callS3, x_callS4, x_callV0, x_callV1, x_callV2, x_callV3, x_callV4, x_callV5, x_retI_v, x_callI0, x_callI1, x_callI2, x_retN_v, x_callSN1, x_callSN2, x_callT0, x_callT1, x_fn, x_sl0, x_sli, x_slr, x_sll, x_ar0, x_ari, x_arr, x_arl, ↓reduceIte, Nat.reduceAdd, Nat.reduceSub, Nat.reduceMul, Nat.reduceEqDiff, Nat.reduceLeDiff, Nat.reduceLT, if_true, if_false, Nat.le_refl, and_true, true_and, and_self, reduceCtorEq, or_false, false_or, or_true, true_or, Nat.zero_le, fa_lit, nI_add, w_mul, nI_ltI, nI_leI, nI_eq, nI_clamp, nI_toInt, if_pos, if_neg, w_div, w_rem2, xk0 hA, xk1 hA, xl1 hA, xk2 hA, xk3 hA, xl3 hA, xr2_2 hA, xi2_0 hA, xi2_1 hA, xk4 hA, xk5 hA, xl5 hA, xr4_2 hA, xi4_0 hA, xi4_1 hA, xk6 hA, xk7 hA, xl7 hA, xr6_2 hA, xi6_0 hA, xi6_1 hA, xk8 hA, xk9 hA, xl9 hA, xr8_2 hA, xi8_0 hA, xi8_1 hA, xk10 hA, xk11 hA, xl11 hA, xr10_2 hA, xi10_0 hA, xi10_1 hA, xr0_7 hA, xr0_8 hA, xr0_9 hA, xr0_10 hA, xr0_11 hA, xr0_12 hA, xk0 hb, xk1 hb, xl1 hb, xk2 hb, xk3 hb, xl3 hb, xr2_2 hb, xi2_0 hb, xi2_1 hb, xk4 hb, xk5 hb, xl5 hb, xr4_2 hb, xi4_0 hb, xi4_1 hb, xk6 hb, xk7 hb, xl7 hb, xr6_2 hb, xi6_0 hb, xi6_1 hb, xk8 hb, xk9 hb, xl9 hb, xr8_2 hb, xi8_0 hb, xi8_1 hb, xk10 hb, xk11 hb, xl11 hb, xr10_2 hb, xi10_0 hb, xi10_1 hb, xr0_7 hb, xr0_8 hb, xr0_9 hb, xr0_10 hb, xr0_11 hb, xr0_12 hb, x_k_I, x_l_I, x_r_I, x_j_I, x_n_I, x_z_I, x_i_Is, x_k_W, x_l_W, x_r_W, x_j_W, x_n_W, x_z_W, x_k_J, x_l_J, x_r_J, x_i_J, x_n_J, x_z_J, x_k_R, x_l_R, x_j_R, x_i_R, x_n_R, x_z_R, x_n_N, x_z_N, x_k_N, x_l_N, x_i_N, x_j_N, x_r_N, hai, hS, ik0, ir0, c0, ik1, ir1, c1, ik2, ir2, c2, ik3, ir3, c3, ik4, ir4, c4]
  · obtain ⟨⟨a0, a1, a2, a3, a4, a5, a6⟩, ⟨b0, b1, b2, b3, b4⟩, c1, c2, c3, c4, c5, c6, c7⟩ := h
    have m2 := hB.2.1
    have m3 := hB.2.2.1
    have m4 := hB.2.2.2.1
    have m7 := hB.2.2.2.2.1
    have m8 := hB.2.2.2.2.2.1
    have e : ∀ q, q ≠ b + 2 → q ≠ b + 3 → q ≠ b + 4 → q ≠ b + 5 → q ≠ b + 6 → q ≠ b + 7 → q ≠ b + 8 → q ≠ b + 9 → q ≠ b + 10 → q ≠ b + 11 → am_i (w_cS7 S a b R) q = am_i (w_cS2 S a b) q := fun q h2 h3 h4 h5 h6 h7 h8 h9 h10 h11 => by
      unfold w_cS7 w_cS6 w_cS5 w_cS4 w_cS3
      rw [x_i_cTn h10 h11, x_i_cTn h8 h9, x_i_cTn h6 h7, x_i_cTn h4 h5, x_i_cTn h2 h3]
    have d3 : ∀ i, i < s_n (R 2) * 4 → am_i (w_cS7 S a b R) (b + 3) i = am_i S (a + 3) i := fun i hi => by
      unfold w_cS7 w_cS6 w_cS5 w_cS4 w_cS3
      rw [x_i_cTn (by omega) (by omega), x_i_cTn (by omega) (by omega), x_i_cTn (by omega) (by omega), x_i_cTn (by omega) (by omega), x_i_cTP (by omega), if_pos hi, w_cS2_i (by omega) (by omega)]
    have d5 : ∀ i, i < s_n (R 3) * 8 → am_i (w_cS7 S a b R) (b + 5) i = am_i S (a + 5) i := fun i hi => by
      unfold w_cS7 w_cS6 w_cS5 w_cS4 w_cS3
      rw [x_i_cTn (by omega) (by omega), x_i_cTn (by omega) (by omega), x_i_cTn (by omega) (by omega), x_i_cTP (by omega), if_pos hi, x_i_cTn (by omega) (by omega), w_cS2_i (by omega) (by omega)]
    have d7 : ∀ i, i < s_n (R 8) * 4 → am_i (w_cS7 S a b R) (b + 7) i = am_i S (a + 7) i := fun i hi => by
      unfold w_cS7 w_cS6 w_cS5 w_cS4 w_cS3
      rw [x_i_cTn (by omega) (by omega), x_i_cTn (by omega) (by omega), x_i_cTP (by omega), if_pos hi, x_i_cTn (by omega) (by omega), x_i_cTn (by omega) (by omega), w_cS2_i (by omega) (by omega)]
    have d9 : ∀ i, i < s_n (R 4) * 10 → am_i (w_cS7 S a b R) (b + 9) i = am_i S (a + 9) i := fun i hi => by
      unfold w_cS7 w_cS6 w_cS5 w_cS4 w_cS3
      rw [x_i_cTn (by omega) (by omega), x_i_cTP (by omega), if_pos hi, x_i_cTn (by omega) (by omega), x_i_cTn (by omega) (by omega), x_i_cTn (by omega) (by omega), w_cS2_i (by omega) (by omega)]
    have d11 : ∀ i, i < s_n (R 7) * 3 → am_i (w_cS7 S a b R) (b + 11) i = am_i S (a + 11) i := fun i hi => by
      unfold w_cS7 w_cS6 w_cS5 w_cS4 w_cS3
      rw [x_i_cTP (by omega), if_pos hi, x_i_cTn (by omega) (by omega), x_i_cTn (by omega) (by omega), x_i_cTn (by omega) (by omega), x_i_cTn (by omega) (by omega), w_cS2_i (by omega) (by omega)]
    refine ⟨⟨?_, ?_, ?_, ?_, ?_, ?_, ?_⟩, ⟨?_, ?_, ?_, ?_, ?_⟩, fun c hc => ?_, fun u f hu hf => ?_, fun u f hu hf => ?_, fun u hu => ?_, fun u f hu hf => ?_, fun u f hu hf => ?_, fun u f hu hf => ?_⟩
    · rw [e b (by omega) (by omega) (by omega) (by omega) (by omega) (by omega) (by omega) (by omega) (by omega) (by omega), w_cS2_b (by omega), a0]
    · rw [e b (by omega) (by omega) (by omega) (by omega) (by omega) (by omega) (by omega) (by omega) (by omega) (by omega), w_cS2_b (by omega), a1]
    · rw [e b (by omega) (by omega) (by omega) (by omega) (by omega) (by omega) (by omega) (by omega) (by omega) (by omega), w_cS2_b (by omega), a2]
    · rw [e b (by omega) (by omega) (by omega) (by omega) (by omega) (by omega) (by omega) (by omega) (by omega) (by omega), w_cS2_b (by omega), a3]
    · rw [e b (by omega) (by omega) (by omega) (by omega) (by omega) (by omega) (by omega) (by omega) (by omega) (by omega), w_cS2_b (by omega), a4]
    · rw [e b (by omega) (by omega) (by omega) (by omega) (by omega) (by omega) (by omega) (by omega) (by omega) (by omega), w_cS2_b (by omega), a5]
    · rw [e b (by omega) (by omega) (by omega) (by omega) (by omega) (by omega) (by omega) (by omega) (by omega) (by omega), w_cS2_b (by omega), a6]
    · unfold w_cS7 w_cS6 w_cS5 w_cS4 w_cS3
      rw [x_i_cTn (by omega) (by omega), x_i_cTn (by omega) (by omega), x_i_cTn (by omega) (by omega), x_i_cTn (by omega) (by omega), x_i_cTT (by omega), if_pos rfl]
      exact m2.1.symm
    · unfold w_cS7 w_cS6 w_cS5 w_cS4
      rw [x_i_cTn (by omega) (by omega), x_i_cTn (by omega) (by omega), x_i_cTn (by omega) (by omega), x_i_cTT (by omega), if_pos rfl]
      exact m3.1.symm
    · unfold w_cS7 w_cS6 w_cS5
      rw [x_i_cTn (by omega) (by omega), x_i_cTn (by omega) (by omega), x_i_cTT (by omega), if_pos rfl]
      exact m8.1.symm
    · unfold w_cS7 w_cS6
      rw [x_i_cTn (by omega) (by omega), x_i_cTT (by omega), if_pos rfl]
      exact m4.1.symm
    · unfold w_cS7
      rw [x_i_cTT (by omega), if_pos rfl]
      exact m7.1.symm
    · rw [e (b + 1) (by omega) (by omega) (by omega) (by omega) (by omega) (by omega) (by omega) (by omega) (by omega) (by omega), w_cS2_w hd hc, c1 c hc]
    · rw [d3 _ (w_rc hu hf), c2 u f hu hf]
    · rw [d5 _ (w_rc hu (by omega)), c3 u f hu hf]
    · rw [d5 _ (w_rc hu (by omega)), c4 u hu]
    · rw [d7 _ (w_rc hu hf), c5 u f hu hf]
    · rw [d9 _ (w_rc hu hf), c6 u f hu hf]
    · rw [d11 _ (w_rc hu hf), c7 u f hu hf]
end F2
