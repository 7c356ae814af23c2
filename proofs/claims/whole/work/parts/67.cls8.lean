/-! THE CLASS: toward -/
section Y8
variable {S S' S2 : am_S} {x y z v : Int32} {i j o u n w hh c d b m t p np ne no a T P Q C L f k D E hd j0 m0 : Nat} {R R' F : Nat → Int32} {q : s_Q} {r r4 : am_K}
theorem y_to2 (hC : w_C S) (hA : w_A S 101) (hR : w_R S 101 R) (hB : s_VB R) (hT : w_T S R) (ht : s_ok R t) (h : am_r S 130 t = some D) :
    ∃ S', kX4_toward_37 w_N [(0, .ref 129), (1, .int (nI t))] [] S = some (.inl (some (.ref D)), S') ∧ (∀ c, c < 144 → am_i S' (D + 1) c = s_cv (s_far R t c)) ∧ w_T S' R ∧ w_H S S' ∧ am_r S' 130 t = some D := by
  have ht3 : t < 144 := s_ok_lt (s_BWH hB.WH) ht
  obtain ⟨⟨h1, h2⟩, h3, h4⟩ := hT.1 t D ht3 h
  rcases h4 with h4 | ⟨h4, h5⟩
  · obtain ⟨S', f1, f2, f3, f4⟩ := y_to37b hC hA hR hB ht h h3 (by omega) h1 (by omega) h4
    have er : am_r S' = am_r S := f4.2.2.2.2.2.1
    have ek : am_k S' = am_k S := f4.2.2.1
    have el : am_l S' = am_l S := f4.2.2.2.1
    refine ⟨S', f1, f2, ⟨fun t' D' ht' hD' => ?_, fun t1 t2 D' k1 k2 k3 k4 => ?_⟩, ⟨⟨by rw [f4.1]; exact Nat.le_refl _, fun _ _ => by rw [f4.2.2.2.2.1]⟩, fun b hb => by rw [ek, el]; exact ⟨rfl, rfl⟩, fun b hb _ => by rw [er], fun b hb k1 k2 => ?_, fun t' D' _ hD' => by rw [er]; exact hD', fun t' D' _ hD' => by rw [er] at hD'; exact Or.inl hD', ?_, ?_⟩, by rw [er]; exact h⟩
    · rw [er] at hD'
      obtain ⟨⟨g1, g2⟩, g3, g4⟩ := hT.1 t' D' ht' hD'
      refine ⟨⟨g1, by rw [f4.1]; exact g2⟩, f4.D g3, ?_⟩
      by_cases e : t' = t
      · subst e
        rw [h] at hD'
        cases hD'
        exact Or.inr ⟨f3, fun _ => f2⟩
      · have n1 : D' ≠ D := fun q => e (hT.2 t' t D ht' ht3 (by rw [← q]; exact hD') h)
        have n2 : D' ≠ D + 1 := fun q => by
          have a1 := g3.1
          have a2 := h3.2.2.1
          rw [q, a2] at a1
          omega
        have n3 : D' + 1 ≠ D := fun q => by
          have a1 := g3.2.2.1
          have a2 := h3.1
          rw [q, a2] at a1
          omega
        rw [f4.i (b := D') (fun q => by rcases q with q | q | q <;> omega), f4.i (b := D' + 1) (fun q => by rcases q with q | q | q <;> omega)]
        exact g4
    · rw [er] at k3 k4
      exact hT.2 t1 t2 D' k1 k2 k3 k4
    · refine f4.i (fun q => ?_)
      rcases q with q | q | q
      · exact k2 ⟨t, D, ht3, h, Or.inl q⟩
      · exact k2 ⟨t, D, ht3, h, Or.inr q⟩
      · exact k1 q
    · unfold w_un
      rw [er, f4.1]
    · unfold w_un
      rw [er, f4.2.1]
  · exact ⟨S, y_to37a hC ht3 h h3 h4, h5 ht, hT, w_H.rf, h⟩
theorem w_mk_H (hn : 151 < am_n S) (ht : t < 144) (h : am_r S 130 t = none) : w_H S (w_mk S t) := by
  have hu : w_un (w_mk S t) + 1 = w_un S := by
    have u := fb_sm_upd (fun t => if am_r S 130 t = none then 1 else 0) 0 ht
    have e : w_un (w_mk S t) = fb_sm (fun k => if k = t then 0 else (fun t => if am_r S 130 t = none then 1 else 0) k) 144 := by
      unfold w_un
      refine fb_sm_cong (fun k hk => ?_)
      rw [w_mk_r0 hn]
      by_cases e : k = t
      · simp [e]
      · simp [e]
    rw [← e] at u
    rw [if_pos h] at u
    have e2 : w_un S = fb_sm (fun t => if am_r S 130 t = none then 1 else 0) 144 := by unfold w_un; exact Eq.refl _
    rw [e2]
    omega
  have en : am_n (w_mk S t) = am_n S + 2 := rfl
  have ez : am_z (w_mk S t) = am_z S + 2 + 144 := rfl
  refine ⟨⟨by omega, fun b hb => w_mk_j hb⟩, fun b hb => ?_, fun b hb h1 => ?_, fun b hb _ _ => w_mk_io hb, fun t' D ht' hD => ?_, fun t' D ht' hD => ?_, by omega, by omega⟩
  · rw [w_mk_k, w_mk_l, if_neg (by omega), if_neg (by omega), if_neg (by omega), if_neg (by omega)]
    exact ⟨rfl, rfl⟩
  · funext i
    rw [w_mk_r hn, if_neg (fun q => h1 q.1), if_neg (by omega), if_neg (by omega)]
  · rw [w_mk_r0 hn, if_neg (fun q => by rw [q, h] at hD; cases hD)]
    exact hD
  · rw [w_mk_r0 hn] at hD
    by_cases e : t' = t
    · rw [if_pos e] at hD
      cases hD
      exact Or.inr (Nat.le_refl _)
    · rw [if_neg e] at hD
      exact Or.inl hD
theorem w_mk_T (hn : 151 < am_n S) (ht : t < 144) (h : am_r S 130 t = none) (hT : w_T S R) : w_T (w_mk S t) R := by
  have en : am_n (w_mk S t) = am_n S + 2 := rfl
  refine ⟨fun t' D ht' hD => ?_, fun t1 t2 D k1 k2 k3 k4 => ?_⟩
  · rw [w_mk_r0 hn] at hD
    by_cases e : t' = t
    · rw [if_pos e] at hD
      cases hD
      refine ⟨⟨hn, by omega⟩, ⟨?_, ?_, ?_, ?_⟩, Or.inl ?_⟩
      · rw [w_mk_k, if_neg (by omega), if_pos rfl]
      · rw [w_mk_r hn, if_neg (by omega), if_pos rfl, if_pos rfl]
      · rw [w_mk_k, if_pos rfl]
      · rw [w_mk_l, if_pos rfl]
      · rw [w_mk_i, if_neg (by omega), if_pos rfl]
    · rw [if_neg e] at hD
      obtain ⟨⟨g1, g2⟩, ⟨g3, g5, g6, g7⟩, g4⟩ := hT.1 t' D ht' hD
      refine ⟨⟨g1, by omega⟩, ⟨?_, ?_, ?_, ?_⟩, ?_⟩
      · rw [w_mk_k, if_neg (by omega), if_neg (by omega)]
        exact g3
      · rw [w_mk_r hn, if_neg (by omega), if_neg (by omega), if_neg (by omega)]
        exact g5
      · rw [w_mk_k, if_neg (by omega), if_neg (by omega)]
        exact g6
      · rw [w_mk_l, if_neg (by omega), if_neg (by omega)]
        exact g7
      · rw [w_mk_io (by omega), w_mk_io (by omega)]
        exact g4
  · rw [w_mk_r0 hn] at k3 k4
    by_cases e1 : t1 = t
    · by_cases e2 : t2 = t
      · rw [e1, e2]
      · rw [if_pos e1] at k3
        rw [if_neg e2] at k4
        cases k3
        have := (hT.1 t2 _ k2 k4).1.2
        omega
    · by_cases e2 : t2 = t
      · rw [if_neg e1] at k3
        rw [if_pos e2] at k4
        cases k4
        have := (hT.1 t1 _ k1 k3).1.2
        omega
      · rw [if_neg e1] at k3
        rw [if_neg e2] at k4
        exact hT.2 t1 t2 D k1 k2 k3 k4
/-- the old cells below 152 that finding ways leaves: the class stands, a situation stands -/
theorem w_H.ki (h : w_H S S') (hT : w_T S R) (hn : 151 < am_n S) (hb : b ≤ 151) (h1 : b ≠ 131) : am_i S' b = am_i S b := h.2.2.2.1 b (by omega) h1 (fun q => by
  obtain ⟨t, D, k1, k2, k3⟩ := q
  have := (hT.1 t D k1 k2).1.1
  omega)
theorem w_H.cC (h : w_H S S') (hn : 151 < am_n S) (hC : w_C S) : w_C S' := by
  have k : ∀ b, b < 152 → am_k S' b = am_k S b := fun b hb => (h.2.1 b (by omega)).1
  have l : ∀ b, b < 152 → am_l S' b = am_l S b := fun b hb => (h.2.1 b (by omega)).2
  have r : ∀ b, b < 152 → b ≠ 130 → am_r S' b = am_r S b := fun b hb h1 => h.2.2.1 b (by omega) h1
  unfold w_C
  simp (disch := omega) only [k, l, r]
  exact hC
theorem w_H.cZ (h : w_H S S') (hn : 151 < am_n S) (hZ : w_Z S) : w_Z S' := by
  have k : ∀ b, b < 152 → am_k S' b = am_k S b := fun b hb => (h.2.1 b (by omega)).1
  have l : ∀ b, b < 152 → am_l S' b = am_l S b := fun b hb => (h.2.1 b (by omega)).2
  have r : ∀ b, b < 152 → b ≠ 130 → am_r S' b = am_r S b := fun b hb h1 => h.2.2.1 b (by omega) h1
  unfold w_Z
  simp (disch := omega) only [k, l, r]
  exact hZ
theorem w_H.cA (h : w_H S S') (hT : w_T S R') (hn : 151 < am_n S) (ha : a = 101 ∨ a = 113) (hA : w_A S a) : w_A S' a := by
  have k : ∀ b, b < 152 → am_k S' b = am_k S b := fun b hb => (h.2.1 b (by omega)).1
  have l : ∀ b, b < 152 → am_l S' b = am_l S b := fun b hb => (h.2.1 b (by omega)).2
  have r : ∀ b, b < 152 → b ≠ 130 → am_r S' b = am_r S b := fun b hb h1 => h.2.2.1 b (by omega) h1
  have i : ∀ b, b ≤ 151 → b ≠ 131 → am_i S' b = am_i S b := fun b hb h1 => h.ki hT hn hb h1
  unfold w_A
  simp (disch := omega) only [k, l, r, i]
  exact hA
theorem w_H.cR (h : w_H S S') (hT : w_T S R') (hn : 151 < am_n S) (ha : a = 101 ∨ a = 113) (hR : w_R S a R) : w_R S' a R := by
  have i : ∀ b, b ≤ 151 → b ≠ 131 → am_i S' b = am_i S b := fun b hb h1 => h.ki hT hn hb h1
  unfold w_R
  simp (disch := omega) only [i]
  exact hR
/-- the distances to a target -/
theorem y_toward (hC : w_C S) (hA : w_A S 101) (hR : w_R S 101 R) (hB : s_VB R) (hn : 151 < am_n S) (hT : w_T S R) (ht : s_ok R t) :
    ∃ S' D, fX4_toward w_N [.ref 129, .int (nI t)] S = some (.inl (some (.ref D)), S') ∧ w_D S' D (D + 1) ∧ (∀ c, c < 144 → am_i S' (D + 1) c = s_cv (s_far R t c)) ∧ w_T S' R ∧ w_H S S' := by
  have ht3 : t < 144 := s_ok_lt (s_BWH hB.WH) ht
  cases h : am_r S 130 t with
  | none =>
    have H1 := w_mk_H hn ht3 h
    have hT1 := w_mk_T hn ht3 h hT
    have hr : am_r (w_mk S t) 130 t = some (am_n S) := by rw [w_mk_r0 hn, if_pos rfl]
    obtain ⟨S', f1, f2, f3, f4, f5⟩ := y_to2 (H1.cC hn hC) (H1.cA hT hn (Or.inl rfl) hA) (H1.cR hT hn (Or.inl rfl) hR) hB hT1 ht hr
    exact ⟨S', am_n S, (y_to0a hC hn ht3 h).trans f1, (f3.1 t _ ht3 f5).2.1, f2, f3, H1.tr f4⟩
  | some D =>
    obtain ⟨S', f1, f2, f3, f4, f5⟩ := y_to2 hC hA hR hB hT ht h
    exact ⟨S', D, (y_to0b hC ht3 h).trans f1, (f3.1 t _ ht3 f5).2.1, f2, f3, f4⟩
end Y8
