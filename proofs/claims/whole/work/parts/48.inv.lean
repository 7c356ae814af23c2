/-! WHAT HOLDS STAYS SO -/
theorem s_nnI {n b : Nat} (h : n < b) (h2 : n < 2 ^ 31) : s_nn (nI n) b := ⟨by rw [w_snI h2], by rw [w_snI h2]; exact h⟩
section V1
variable {R R' : Nat → Int32} {o u p b k ne : Nat} {x y : Int32}
theorem s_VB.congs (h : s_VB R) (h7 : s_nn (R' 7) 81) (hc : ∀ j, j ≠ 7 → (j < 12 ∨ 784 ≤ j ∧ j < 928) → R' j = R j) : s_VB R' := by
  have a0 := h.1.1.2
  have a1 := h.1.2.2.1.2
  have m1 : s_n (R 10) < s_n (R 0) := h.2.2.2.2.2.2.2.2.1.1.1.2
  have m2 : s_n (R 11) < s_n (R 1) := h.2.2.2.2.2.2.2.2.1.1.2.2
  have e := h.2.2.2.2.2.2.2.2.2
  unfold s_VB at h ⊢
  simp (disch := omega) only [s_in, s_w, s_h, s_ce, hc]
  exact ⟨h.1, h.2.1, h.2.2.1, h.2.2.2.1, h7, h.2.2.2.2.2.1, h.2.2.2.2.2.2.1, h.2.2.2.2.2.2.2.1, h.2.2.2.2.2.2.2.2.1, fun c hc2 => by rw [hc (784 + c) (by omega) (by omega)]; exact e c hc2⟩
theorem s_Vu.cong (hB : s_VB R) (h : s_Vu R u) (hu : u < 6) (hc : ∀ j, (j < 5 ∨ 12 + 4 * u ≤ j ∧ j < 12 + 4 * u + 4 ∨ 64 ≤ j ∧ j < 464 ∧ (j - 64) % 10 = 0 ∨ 784 ≤ j ∧ j < 928) → R' j = R j) : s_Vu R' u := by
  have a0 := hB.1.1.2
  have a1 := hB.1.2.2.1.2
  have a4 := hB.2.2.2.1.2
  have m1 : s_n (R (12 + 4 * u + 0)) < s_n (R 0) := h.1.1.1.2
  have m2 : s_n (R (12 + 4 * u + 1)) < s_n (R 1) := h.1.1.2.2
  unfold s_Vu at h ⊢
  simp (disch := omega) only [s_in, s_w, s_h, s_ce, hc]
  refine ⟨h.1, h.2.1, ?_⟩
  rcases h.2.2 with q | q
  · exact Or.inl q
  · have := q.1.2
    refine Or.inr ⟨q.1, ?_⟩
    simp (disch := omega) only [s_in, s_w, s_h, s_ce, hc]
    exact q.2
theorem s_Vp.cong (h : s_Vp R p) (hp : p < 4) (hc : ∀ j, (j < 2 ∨ 36 + 7 * p ≤ j ∧ j < 36 + 7 * p + 4) → R' j = R j) : s_Vp R' p := by
  unfold s_Vp at h ⊢
  simp (disch := omega) only [s_in, s_w, s_h, s_ce, hc]
  exact h
theorem s_Vl.cong (h : s_Vl R p) (hp : p < 20) (hc : ∀ j, (j < 3 ∨ 464 + 4 * p ≤ j ∧ j < 464 + 4 * p + 4) → R' j = R j) : s_Vl R' p := by
  unfold s_Vl at h ⊢
  simp (disch := omega) only [s_in, s_w, s_h, s_ce, hc]
  exact h
theorem s_Vo.cong (hB : s_VB R) (h : s_Vo R o) (ho : o < 40) (hc : ∀ j, (j < 7 ∨ 64 + 10 * o ≤ j ∧ j < 64 + 10 * o + 9 ∨ 784 ≤ j ∧ j < 928) → R' j = R j) (hu : ∀ u, u < 6 → R (64 + 10 * o + 0) = nI u → R (64 + 10 * o + 3) = nI 1 → R' (12 + 4 * u + 3) = R (12 + 4 * u + 3)) : s_Vo R' o := by
  have a0 := hB.1.1.2
  have a1 := hB.1.2.2.1.2
  have a2 := hB.2.1.2
  have m0 : s_n (R (64 + 10 * o + 0)) < s_n (R 2) := h.1.1.2
  have m1 : s_n (R (64 + 10 * o + 7)) < s_n (R 0) := h.1.2.2.2.2.2.1.2
  have m2 : s_n (R (64 + 10 * o + 8)) < s_n (R 1) := h.1.2.2.2.2.2.2.2
  unfold s_Vo at h ⊢
  simp (disch := omega) only [s_in, s_w, s_h, s_ce, hc]
  exact ⟨h.1, h.2.1, fun q => by rw [hu _ (by omega) h.1.1.1 q]; exact h.2.2.1 q, h.2.2.2⟩
/-- places that are of no account -/
theorem s_V.cong (h : s_V R) (hc : ∀ j, (j < 36 ∨ 36 ≤ j ∧ j < 64 ∧ (j - 36) % 7 ≠ 6 ∨ 64 ≤ j ∧ j < 464 ∧ (j - 64) % 10 ≠ 9 ∨ 464 ≤ j ∧ j < 544 ∨ 784 ≤ j ∧ j < 928) → R' j = R j) : s_V R' := by
  have a2 := h.B.2.1.2
  have a3 := h.B.2.2.1.2
  have a4 := h.B.2.2.2.1.2
  have a8 := h.B.2.2.2.2.2.1.2
  have e2 : R' 2 = R 2 := hc 2 (by omega)
  have e3 : R' 3 = R 3 := hc 3 (by omega)
  have e4 : R' 4 = R 4 := hc 4 (by omega)
  have e7 : R' 7 = R 7 := hc 7 (by omega)
  have e8 : R' 8 = R 8 := hc 8 (by omega)
  refine ⟨h.B.congs (by rw [e7]; exact h.B.2.2.2.2.1) (fun j _ hj => hc j (by omega)), ?_, ?_, ?_, ?_, ?_⟩
  · rw [e2]
    exact fun u hu => (h.U u hu).cong h.B (by omega) (fun j hj => hc j (by omega))
  · rw [e3]
    exact fun p hp => (h.P p hp).cong (by omega) (fun j hj => hc j (by omega))
  · rw [e8]
    exact fun p hp => (h.L p hp).cong (by omega) (fun j hj => hc j (by omega))
  · rw [e4]
    exact fun o ho => (h.O o ho).cong h.B (by omega) (fun j hj => hc j (by omega)) (fun u hu _ _ => hc _ (by omega))
  · unfold s_VE
    rw [e4, e7, fb_sm_cong (g := fun o => s_wg (R (64 + 10 * o + 3))) (fun o ho => by rw [hc (64 + 10 * o + 3) (by omega)])]
    exact h.E
theorem s_wg_0 : s_wg (nI 0) = 0 := rfl
theorem s_wg_1 : s_wg (nI 1) = 1 := rfl
theorem s_wg_2 (h : 2 ≤ k) (h2 : k < 7) : s_wg (nI k) = 2 := by
  unfold s_wg
  rw [if_neg (by rw [nI_eq (by omega) (by omega)]; omega), if_neg (by rw [nI_eq (by omega) (by omega)]; omega)]
theorem s_wg_le : s_wg x ≤ 2 := by
  unfold s_wg
  split
  · omega
  · split <;> omega
/-- there is room for another event -/
theorem s_V.room (h : s_V R) (ho : o < s_n (R 4)) (hs : s_wg (R (64 + 10 * o + 3)) < 2) : s_n (R 7) < 80 := by
  have a4 := h.B.2.2.2.1.2
  have e := h.E
  unfold s_VE at e
  have u := fb_sm_upd (fun o => s_wg (R (64 + 10 * o + 3))) 2 ho
  have b := fb_sm_bound (f := fun k => if k = o then 2 else (fun o => s_wg (R (64 + 10 * o + 3))) k) (c := 2) (n := s_n (R 4)) (fun k _ => by
    dsimp only
    split
    · exact Nat.le_refl _
    · exact s_wg_le)
  dsimp only at u b
  omega
theorem s_bec_n {j : Nat} {s : Int32} (h7 : j ≠ 7) (h3 : j ≠ 64 + 10 * o + 3) (h6 : j ≠ 64 + 10 * o + 6) (he : j < 544 + 3 * ne ∨ 544 + 3 * ne + 3 ≤ j) : s_bec R ne o s j = R j := by
  unfold s_bec
  simp (disch := omega) only [s_up_n]
theorem s_bec_7 {s : Int32} : s_bec R ne o s 7 = nI (ne + 1) := by
  unfold s_bec
  simp (disch := omega) only [s_up_n, s_up_s]
theorem s_bec_3 {s : Int32} : s_bec R ne o s (64 + 10 * o + 3) = s := by
  unfold s_bec
  simp (disch := omega) only [s_up_n, s_up_s]
theorem s_bec_6 {s : Int32} : s_bec R ne o s (64 + 10 * o + 6) = if s = nI 1 then -nI 1 else R 5 := by
  unfold s_bec
  simp (disch := omega) only [s_up_n, s_up_s]
theorem s_VE.upd {s : Int32} (h : s_VE R) (ho : o < s_n (R 4)) (e4 : R' 4 = R 4) (e7 : R' 7 = nI (s_n (R 7) + 1)) (h7 : s_n (R 7) < 80) (e3 : R' (64 + 10 * o + 3) = s) (hw : s_wg (R (64 + 10 * o + 3)) < s_wg s) (hc : ∀ p, p < s_n (R 4) → p ≠ o → R' (64 + 10 * p + 3) = R (64 + 10 * p + 3)) : s_VE R' := by
  unfold s_VE at h ⊢
  rw [e4, e7, w_snI (by omega), fb_sm_cong (g := fun k => if k = o then s_wg s else (fun o => s_wg (R (64 + 10 * o + 3))) k) (fun p hp => by
    dsimp only
    by_cases e : p = o
    · rw [if_pos e, e, e3]
    · rw [if_neg e, hc p hp e])]
  have u := fb_sm_upd (fun o => s_wg (R (64 + 10 * o + 3))) (s_wg s) ho
  dsimp only at u ⊢
  omega
/-- an order ends -/
theorem s_V.fin (h : s_V R) (ho : o < s_n (R 4)) (hs : s_wg (R (64 + 10 * o + 3)) < 2) (h2 : 2 ≤ k) (hk : k < 7) : s_V (s_bec R (s_n (R 7)) o (nI k)) := by
  have a2 := h.B.2.1.2
  have a3 := h.B.2.2.1.2
  have a4 := h.B.2.2.2.1.2
  have a8 := h.B.2.2.2.2.2.1.2
  have h7 := h.room ho hs
  have hc : ∀ j, j ≠ 7 → j ≠ 64 + 10 * o + 3 → j ≠ 64 + 10 * o + 6 → (j < 544 ∨ 784 ≤ j) → s_bec R (s_n (R 7)) o (nI k) j = R j := fun j j1 j2 j3 j4 => s_bec_n j1 j2 j3 (by omega)
  refine ⟨?_, ?_, ?_, ?_, ?_, ?_⟩
  · exact h.B.congs (by rw [s_bec_7]; exact s_nnI (by omega) (by omega)) (fun j hj hj2 => hc j hj (by omega) (by omega) (by omega))
  · rw [hc 2 (by omega) (by omega) (by omega) (by omega)]
    exact fun u hu => (h.U u hu).cong h.B (by omega) (fun j hj => hc j (by omega) (by omega) (by omega) (by omega))
  · rw [hc 3 (by omega) (by omega) (by omega) (by omega)]
    exact fun p hp => (h.P p hp).cong (by omega) (fun j hj => hc j (by omega) (by omega) (by omega) (by omega))
  · rw [hc 8 (by omega) (by omega) (by omega) (by omega)]
    exact fun p hp => (h.L p hp).cong (by omega) (fun j hj => hc j (by omega) (by omega) (by omega) (by omega))
  · rw [hc 4 (by omega) (by omega) (by omega) (by omega)]
    intro p hp
    by_cases e : p = o
    · subst e
      have q := h.O p hp
      have m0 : s_n (R (64 + 10 * p + 0)) < s_n (R 2) := q.1.1.2
      have m1 : s_n (R (64 + 10 * p + 7)) < s_n (R 0) := q.1.2.2.2.2.2.1.2
      have m2 : s_n (R (64 + 10 * p + 8)) < s_n (R 1) := q.1.2.2.2.2.2.2.2
      have b0 := h.B.1.1.2
      have b1 := h.B.1.2.2.1.2
      unfold s_Vo at q ⊢
      simp (disch := omega) only [s_in, s_w, s_h, s_ce, hc, s_bec_3, s_bec_6]
      refine ⟨⟨q.1.1, q.1.2.1, s_nnI (by omega) (by omega), q.1.2.2.2⟩, fun w => ?_, fun w => ?_, fun w => ?_⟩
      · rw [nI_eq (by omega) (by omega)] at w
        omega
      · rw [nI_eq (by omega) (by omega)] at w
        omega
      · rw [nI_eq (by omega) (by omega), nI_eq (by omega) (by omega)] at w
        omega
    · exact (h.O p hp).cong h.B (by omega) (fun j hj => hc j (by omega) (by omega) (by omega) (by omega)) (fun u hu _ _ => hc _ (by omega) (by omega) (by omega) (by omega))
  · exact h.E.upd ho (hc 4 (by omega) (by omega) (by omega) (by omega)) s_bec_7 h7 s_bec_3 (by rw [s_wg_2 h2 hk]; exact hs) (fun p hp e => hc _ (by omega) (by omega) (by omega) (by omega))
/-- an order is obeyed -/
theorem s_V.obey (h : s_V R) (ho : o < s_n (R 4)) (hs : R (64 + 10 * o + 3) = nI 0) (hu : s_n (R (64 + 10 * o + 0)) = u) (hno : ∀ p, p < s_n (R 4) → R (64 + 10 * p + 0) = nI u → R (64 + 10 * p + 3) ≠ nI 1) : s_V (va_up (s_bec R (s_n (R 7)) o (nI 1)) (12 + 4 * u + 3) (nI o)) := by
  have a2 := h.B.2.1.2
  have a3 := h.B.2.2.1.2
  have a4 := h.B.2.2.2.1.2
  have a8 := h.B.2.2.2.2.2.1.2
  have b0 := h.B.1.1.2
  have b1 := h.B.1.2.2.1.2
  have hu2 : u < s_n (R 2) := by rw [← hu]; exact (h.O o ho).1.1.2
  have h7 := h.room ho (by rw [hs, s_wg_0]; omega)
  have hc : ∀ j, j ≠ 7 → j ≠ 64 + 10 * o + 3 → j ≠ 64 + 10 * o + 6 → (j < 544 ∨ 784 ≤ j) → j ≠ 12 + 4 * u + 3 → va_up (s_bec R (s_n (R 7)) o (nI 1)) (12 + 4 * u + 3) (nI o) j = R j := fun j j1 j2 j3 j4 j5 => by rw [s_up_n j5, s_bec_n j1 j2 j3 (by omega)]
  have c7 : va_up (s_bec R (s_n (R 7)) o (nI 1)) (12 + 4 * u + 3) (nI o) 7 = nI (s_n (R 7) + 1) := by rw [s_up_n (by omega), s_bec_7]
  have c3 : va_up (s_bec R (s_n (R 7)) o (nI 1)) (12 + 4 * u + 3) (nI o) (64 + 10 * o + 3) = nI 1 := by rw [s_up_n (by omega), s_bec_3]
  have c6 : va_up (s_bec R (s_n (R 7)) o (nI 1)) (12 + 4 * u + 3) (nI o) (64 + 10 * o + 6) = -nI 1 := by rw [s_up_n (by omega), s_bec_6, if_pos rfl]
  have cu : va_up (s_bec R (s_n (R 7)) o (nI 1)) (12 + 4 * u + 3) (nI o) (12 + 4 * u + 3) = nI o := s_up_s
  revert hc c7 c3 c6 cu
  generalize va_up (s_bec R (s_n (R 7)) o (nI 1)) (12 + 4 * u + 3) (nI o) = R'
  intro hc c7 c3 c6 cu
  refine ⟨?_, ?_, ?_, ?_, ?_, ?_⟩
  · exact h.B.congs (by rw [c7]; exact s_nnI (by omega) (by omega)) (fun j hj hj2 => hc j hj (by omega) (by omega) (by omega) (by omega))
  · rw [hc 2 (by omega) (by omega) (by omega) (by omega) (by omega)]
    intro v hv
    by_cases e : v = u
    · subst e
      have q := h.U v hv
      have m1 : s_n (R (12 + 4 * v + 0)) < s_n (R 0) := q.1.1.1.2
      have m2 : s_n (R (12 + 4 * v + 1)) < s_n (R 1) := q.1.1.2.2
      unfold s_Vu at q ⊢
      simp (disch := omega) only [s_in, s_w, s_h, s_ce, hc, cu, w_snI]
      exact ⟨q.1, q.2.1, Or.inr ⟨s_nnI ho (by omega), by rw [← hu]; exact (h.O o ho).1.1.1⟩⟩
    · exact (h.U v hv).cong h.B (by omega) (fun j hj => hc j (by omega) (by omega) (by omega) (by omega) (by omega))
  · rw [hc 3 (by omega) (by omega) (by omega) (by omega) (by omega)]
    exact fun p hp => (h.P p hp).cong (by omega) (fun j hj => hc j (by omega) (by omega) (by omega) (by omega) (by omega))
  · rw [hc 8 (by omega) (by omega) (by omega) (by omega) (by omega)]
    exact fun p hp => (h.L p hp).cong (by omega) (fun j hj => hc j (by omega) (by omega) (by omega) (by omega) (by omega))
  · rw [hc 4 (by omega) (by omega) (by omega) (by omega) (by omega)]
    intro p hp
    by_cases e : p = o
    · subst e
      have q := h.O p hp
      have m1 : s_n (R (64 + 10 * p + 7)) < s_n (R 0) := q.1.2.2.2.2.2.1.2
      have m2 : s_n (R (64 + 10 * p + 8)) < s_n (R 1) := q.1.2.2.2.2.2.2.2
      unfold s_Vo at q ⊢
      simp (disch := omega) only [s_in, s_w, s_h, s_ce, hc, c3]
      exact ⟨⟨q.1.1, q.1.2.1, s_nnI (by omega) (by omega), q.1.2.2.2⟩, fun w => by rw [nI_eq (by omega) (by omega)] at w; omega, fun _ => by rw [hu]; exact cu, fun _ => c6⟩
    · refine (h.O p hp).cong h.B (by omega) (fun j hj => hc j (by omega) (by omega) (by omega) (by omega) (by omega)) (fun v hv w1 w2 => ?_)
      by_cases e2 : v = u
      · subst e2
        exact absurd w2 (hno p hp w1)
      · exact hc _ (by omega) (by omega) (by omega) (by omega) (by omega)
  · exact h.E.upd ho (hc 4 (by omega) (by omega) (by omega) (by omega) (by omega)) c7 h7 c3 (by rw [hs, s_wg_0, s_wg_1]; omega) (fun p hp e => hc _ (by omega) (by omega) (by omega) (by omega) (by omega))
/-- one order's places change, nothing else -/
theorem s_V.ord (h : s_V R) (ho : o < s_n (R 4)) (hc : ∀ j, (j < 64 + 10 * o ∨ 64 + 10 * o + 10 ≤ j) → R' j = R j) (c0 : R' (64 + 10 * o + 0) = R (64 + 10 * o + 0)) (c3 : R' (64 + 10 * o + 3) = R (64 + 10 * o + 3)) (hO : s_Vo R' o) : s_V R' := by
  have a2 := h.B.2.1.2
  have a3 := h.B.2.2.1.2
  have a4 := h.B.2.2.2.1.2
  have a8 := h.B.2.2.2.2.2.1.2
  refine ⟨?_, ?_, ?_, ?_, ?_, ?_⟩
  · exact h.B.congs (by rw [hc 7 (by omega)]; exact h.B.2.2.2.2.1) (fun j _ _ => hc j (by omega))
  · rw [hc 2 (by omega)]
    refine fun u hu => (h.U u hu).cong h.B (by omega) (fun j hj => ?_)
    by_cases e : j = 64 + 10 * o + 0
    · rw [e, c0]
    · exact hc j (by omega)
  · rw [hc 3 (by omega)]
    exact fun p hp => (h.P p hp).cong (by omega) (fun j hj => hc j (by omega))
  · rw [hc 8 (by omega)]
    exact fun p hp => (h.L p hp).cong (by omega) (fun j hj => hc j (by omega))
  · rw [hc 4 (by omega)]
    intro p hp
    by_cases e : p = o
    · rw [e]
      exact hO
    · exact (h.O p hp).cong h.B (by omega) (fun j hj => hc j (by omega)) (fun u hu _ _ => hc _ (by omega))
  · have e := h.E
    unfold s_VE at e ⊢
    rw [hc 4 (by omega), hc 7 (by omega), fb_sm_cong (g := fun o => s_wg (R (64 + 10 * o + 3))) (fun p hp => by
      by_cases e : p = o
      · rw [e, c3]
      · rw [hc (64 + 10 * p + 3) (by omega)])]
    exact e
/-- a messenger steps into a free cell -/
theorem s_V.go (h : s_V R) (ho : o < s_n (R 4)) (hb : s_fr R b) : s_V (s_at R o b) := by
  have a4 := h.B.2.2.2.1.2
  have b0 := h.B.1.1.2
  have b1 := h.B.1.2.2.1.2
  have hb1 : b % 12 < s_n (R 0) := hb.1.1
  have hb2 : b / 12 < s_n (R 1) := hb.1.2
  have q := h.O o ho
  have m0 := q.1.1.2
  have a2 := h.B.2.1.2
  unfold s_at
  refine h.ord ho (fun j hj => ?_) ?_ ?_ ?_
  · simp (disch := omega) only [s_up_n]
  · simp (disch := omega) only [s_up_n]
  · simp (disch := omega) only [s_up_n]
  · unfold s_Vo at q ⊢
    simp (disch := omega) only [s_in, s_w, s_h, s_ce, s_up_n, s_up_s, w_snI]
    refine ⟨⟨q.1.1, q.1.2.1, q.1.2.2.1, q.1.2.2.2.1, q.1.2.2.2.2.1, s_nnI hb1 (by omega), s_nnI hb2 (by omega)⟩, fun _ => ?_, q.2.2⟩
    rw [show 12 * (b / 12) + b % 12 = b by omega]
    exact hb.2
theorem s_V.arr5 (h : s_V R) (ho : o < s_n (R 4)) : s_V (va_up R (64 + 10 * o + 5) (R 5)) := by
  have a4 := h.B.2.2.2.1.2
  have b0 := h.B.1.1.2
  have b1 := h.B.1.2.2.1.2
  have q := h.O o ho
  have m0 := q.1.1.2
  have a2 := h.B.2.1.2
  have m1 : s_n (R (64 + 10 * o + 7)) < s_n (R 0) := q.1.2.2.2.2.2.1.2
  have m2 : s_n (R (64 + 10 * o + 8)) < s_n (R 1) := q.1.2.2.2.2.2.2.2
  refine h.ord ho (fun j hj => ?_) ?_ ?_ ?_
  · simp (disch := omega) only [s_up_n]
  · simp (disch := omega) only [s_up_n]
  · simp (disch := omega) only [s_up_n]
  · unfold s_Vo at q ⊢
    simp (disch := omega) only [s_in, s_w, s_h, s_ce, s_up_n, s_up_s, w_snI]
    exact ⟨⟨q.1.1, q.1.2.1, q.1.2.2.1, q.1.2.2.2.1, Or.inr ⟨h.B.2.2.2.2.2.2.1.1, by omega⟩, q.1.2.2.2.2.2⟩, q.2⟩
/-- an order is sent -/
theorem s_disp_n {j no : Nat} (h4 : j ≠ 4) (ho : j < 64 + 10 * no ∨ 64 + 10 * no + 10 ≤ j) {w : Int32} : s_disp R no w x y j = R j := by
  unfold s_disp
  simp (disch := omega) only [s_up_n]
theorem s_V.send (h : s_V R) (hn : s_n (R 4) < 40) (hu : u < s_n (R 2)) (hx : s_in R x y) : s_V (s_disp R (s_n (R 4)) (nI u) x y) := by
  have a2 := h.B.2.1.2
  have a3 := h.B.2.2.1.2
  have a8 := h.B.2.2.2.2.2.1.2
  have b0 := h.B.1.1.2
  have b1 := h.B.1.2.2.1.2
  have m1 : s_n (R 10) < s_n (R 0) := h.B.2.2.2.2.2.2.2.2.1.1.1.2
  have m2 : s_n (R 11) < s_n (R 1) := h.B.2.2.2.2.2.2.2.2.1.1.2.2
  have m3 := h.B.2.2.2.2.2.2.2.2.1
  have a5 := h.B.2.2.2.2.2.2.1
  have hc : ∀ j, j ≠ 4 → (j < 64 + 10 * s_n (R 4) ∨ 64 + 10 * s_n (R 4) + 10 ≤ j) → s_disp R (s_n (R 4)) (nI u) x y j = R j := fun j j1 j2 => s_disp_n j1 j2
  have c4 : s_disp R (s_n (R 4)) (nI u) x y 4 = nI (s_n (R 4) + 1) := by
    unfold s_disp
    rw [s_up_s]
  refine ⟨?_, ?_, ?_, ?_, ?_, ?_⟩
  · have e := h.B.2.2.2.2.2.2.2.2.2
    have q := h.B
    unfold s_VB at q ⊢
    simp (disch := omega) only [s_in, s_w, s_h, s_ce, hc, c4]
    exact ⟨q.1, q.2.1, q.2.2.1, s_nnI (by omega) (by omega), q.2.2.2.2.1, q.2.2.2.2.2.1, q.2.2.2.2.2.2.1, q.2.2.2.2.2.2.2.1, q.2.2.2.2.2.2.2.2.1, e⟩
  · rw [hc 2 (by omega) (by omega)]
    intro v hv
    have q := h.U v hv
    have m1 : s_n (R (12 + 4 * v + 0)) < s_n (R 0) := q.1.1.1.2
    have m2 : s_n (R (12 + 4 * v + 1)) < s_n (R 1) := q.1.1.2.2
    unfold s_Vu at q ⊢
    simp (disch := omega) only [s_in, s_w, s_h, s_ce, hc, c4, w_snI]
    refine ⟨q.1, q.2.1, ?_⟩
    rcases q.2.2 with w | w
    · exact Or.inl w
    · have := w.1.2
      refine Or.inr ⟨⟨w.1.1, by omega⟩, ?_⟩
      simp (disch := omega) only [hc]
      exact w.2
  · rw [hc 3 (by omega) (by omega)]
    exact fun p hp => (h.P p hp).cong (by omega) (fun j hj => hc j (by omega) (by omega))
  · rw [hc 8 (by omega) (by omega)]
    exact fun p hp => (h.L p hp).cong (by omega) (fun j hj => hc j (by omega) (by omega))
  · rw [c4, w_snI (by omega)]
    intro p hp
    by_cases e : p = s_n (R 4)
    · subst e
      unfold s_Vo
      have e2 : s_disp R (s_n (R 4)) (nI u) x y 2 = R 2 := hc 2 (by omega) (by omega)
      have e5 : s_disp R (s_n (R 4)) (nI u) x y 5 = R 5 := hc 5 (by omega) (by omega)
      have e0 : s_disp R (s_n (R 4)) (nI u) x y 0 = R 0 := hc 0 (by omega) (by omega)
      have e1 : s_disp R (s_n (R 4)) (nI u) x y 1 = R 1 := hc 1 (by omega) (by omega)
      have ew : s_disp R (s_n (R 4)) (nI u) x y (784 + (12 * s_n (R 11) + s_n (R 10))) = R (784 + (12 * s_n (R 11) + s_n (R 10))) := hc _ (by omega) (by omega)
      simp only [s_in, s_w, s_h, s_ce, e2, e5, e0, e1]
      have d0 : s_disp R (s_n (R 4)) (nI u) x y (64 + 10 * s_n (R 4) + 0) = nI u := by unfold s_disp; simp (disch := omega) only [s_up_n, s_up_s]
      have d1 : s_disp R (s_n (R 4)) (nI u) x y (64 + 10 * s_n (R 4) + 1) = x := by unfold s_disp; simp (disch := omega) only [s_up_n, s_up_s]
      have d2 : s_disp R (s_n (R 4)) (nI u) x y (64 + 10 * s_n (R 4) + 2) = y := by unfold s_disp; simp (disch := omega) only [s_up_n, s_up_s]
      have d3 : s_disp R (s_n (R 4)) (nI u) x y (64 + 10 * s_n (R 4) + 3) = nI 0 := by unfold s_disp; simp (disch := omega) only [s_up_n, s_up_s]
      have d4 : s_disp R (s_n (R 4)) (nI u) x y (64 + 10 * s_n (R 4) + 4) = R 5 := by unfold s_disp; simp (disch := omega) only [s_up_n, s_up_s]
      have d5 : s_disp R (s_n (R 4)) (nI u) x y (64 + 10 * s_n (R 4) + 5) = -nI 1 := by unfold s_disp; simp (disch := omega) only [s_up_n, s_up_s]
      have d6 : s_disp R (s_n (R 4)) (nI u) x y (64 + 10 * s_n (R 4) + 6) = -nI 1 := by unfold s_disp; simp (disch := omega) only [s_up_n, s_up_s]
      have d7 : s_disp R (s_n (R 4)) (nI u) x y (64 + 10 * s_n (R 4) + 7) = R 10 := by unfold s_disp; simp (disch := omega) only [s_up_n, s_up_s]
      have d8 : s_disp R (s_n (R 4)) (nI u) x y (64 + 10 * s_n (R 4) + 8) = R 11 := by unfold s_disp; simp (disch := omega) only [s_up_n, s_up_s]
      rw [d0, d1, d2, d3, d4, d5, d6, d7, d8, ew]
      refine ⟨⟨s_nnI hu (by omega), hx, s_nnI (by omega) (by omega), ⟨a5.1, by omega⟩, Or.inl rfl, m3.1⟩, fun _ => m3.2, fun w => ?_, fun _ => rfl⟩
      rw [nI_eq (by omega) (by omega)] at w
      omega
    · have q := h.O p (by omega)
      have k0 := q.1.1.2
      have k1 : s_n (R (64 + 10 * p + 7)) < s_n (R 0) := q.1.2.2.2.2.2.1.2
      have k2 : s_n (R (64 + 10 * p + 8)) < s_n (R 1) := q.1.2.2.2.2.2.2.2
      unfold s_Vo at q ⊢
      simp (disch := omega) only [s_in, s_w, s_h, s_ce, hc]
      exact q
  · have e := h.E
    unfold s_VE at e ⊢
    rw [c4, w_snI (by omega), hc 7 (by omega) (by omega), fb_sm_succ, fb_sm_cong (g := fun o => s_wg (R (64 + 10 * o + 3))) (fun p hp => by rw [hc (64 + 10 * p + 3) (by omega) (by omega)])]
    omega
/-- a unit steps into a free cell -/
theorem s_V.walk (h : s_V R) (hu : u < s_n (R 2)) (hb : s_fr R b) : s_V (va_up (va_up R (12 + 4 * u + 0) (nI (b % 12))) (12 + 4 * u + 1) (nI (b / 12))) := by
  have a2 := h.B.2.1.2
  have a3 := h.B.2.2.1.2
  have a4 := h.B.2.2.2.1.2
  have a8 := h.B.2.2.2.2.2.1.2
  have b0 := h.B.1.1.2
  have b1 := h.B.1.2.2.1.2
  have hb1 : b % 12 < s_n (R 0) := hb.1.1
  have hb2 : b / 12 < s_n (R 1) := hb.1.2
  have hc : ∀ j, j ≠ 12 + 4 * u + 0 → j ≠ 12 + 4 * u + 1 → va_up (va_up R (12 + 4 * u + 0) (nI (b % 12))) (12 + 4 * u + 1) (nI (b / 12)) j = R j := fun j j1 j2 => by rw [s_up_n j2, s_up_n j1]
  have c0 : va_up (va_up R (12 + 4 * u + 0) (nI (b % 12))) (12 + 4 * u + 1) (nI (b / 12)) (12 + 4 * u + 0) = nI (b % 12) := by rw [s_up_n (by omega), s_up_s]
  have c1 : va_up (va_up R (12 + 4 * u + 0) (nI (b % 12))) (12 + 4 * u + 1) (nI (b / 12)) (12 + 4 * u + 1) = nI (b / 12) := s_up_s
  revert hc c0 c1
  generalize va_up (va_up R (12 + 4 * u + 0) (nI (b % 12))) (12 + 4 * u + 1) (nI (b / 12)) = R'
  intro hc c0 c1
  refine ⟨?_, ?_, ?_, ?_, ?_, ?_⟩
  · exact h.B.congs (by rw [hc 7 (by omega) (by omega)]; exact h.B.2.2.2.2.1) (fun j _ _ => hc j (by omega) (by omega))
  · rw [hc 2 (by omega) (by omega)]
    intro v hv
    by_cases e : v = u
    · subst e
      have q := h.U v hv
      unfold s_Vu at q ⊢
      simp (disch := omega) only [s_in, s_w, s_h, s_ce, hc, c0, c1, w_snI]
      refine ⟨⟨⟨s_nnI hb1 (by omega), s_nnI hb2 (by omega)⟩, ?_⟩, q.2.1, ?_⟩
      · rw [show 12 * (b / 12) + b % 12 = b by omega]
        exact hb.2
      · rcases q.2.2 with w | w
        · exact Or.inl w
        · exact Or.inr w
    · exact (h.U v hv).cong h.B (by omega) (fun j hj => hc j (by omega) (by omega))
  · rw [hc 3 (by omega) (by omega)]
    exact fun p hp => (h.P p hp).cong (by omega) (fun j hj => hc j (by omega) (by omega))
  · rw [hc 8 (by omega) (by omega)]
    exact fun p hp => (h.L p hp).cong (by omega) (fun j hj => hc j (by omega) (by omega))
  · rw [hc 4 (by omega) (by omega)]
    exact fun p hp => (h.O p hp).cong h.B (by omega) (fun j hj => hc j (by omega) (by omega)) (fun v _ _ _ => hc _ (by omega) (by omega))
  · have e := h.E
    unfold s_VE at e ⊢
    rw [hc 4 (by omega) (by omega), hc 7 (by omega) (by omega), fb_sm_cong (g := fun o => s_wg (R (64 + 10 * o + 3))) (fun p hp => by rw [hc (64 + 10 * p + 3) (by omega) (by omega)])]
    exact e
/-- the clock -/
theorem s_V.tick (h : s_V R) (ht : s_n (R 5) < 999) : s_V (va_up R 5 (nI (s_n (R 5) + 1))) := by
  have a2 := h.B.2.1.2
  have a3 := h.B.2.2.1.2
  have a4 := h.B.2.2.2.1.2
  have a8 := h.B.2.2.2.2.2.1.2
  have b0 := h.B.1.1.2
  have b1 := h.B.1.2.2.1.2
  have m1 : s_n (R 10) < s_n (R 0) := h.B.2.2.2.2.2.2.2.2.1.1.1.2
  have m2 : s_n (R 11) < s_n (R 1) := h.B.2.2.2.2.2.2.2.2.1.1.2.2
  have hc : ∀ j, j ≠ 5 → va_up R 5 (nI (s_n (R 5) + 1)) j = R j := fun j j1 => s_up_n j1
  have c5 : va_up R 5 (nI (s_n (R 5) + 1)) 5 = nI (s_n (R 5) + 1) := s_up_s
  refine ⟨?_, ?_, ?_, ?_, ?_, ?_⟩
  · have e := h.B.2.2.2.2.2.2.2.2.2
    have q := h.B
    unfold s_VB at q ⊢
    simp (disch := omega) only [s_in, s_w, s_h, s_ce, hc, c5]
    exact ⟨q.1, q.2.1, q.2.2.1, q.2.2.2.1, q.2.2.2.2.1, q.2.2.2.2.2.1, s_nnI (by omega) (by omega), q.2.2.2.2.2.2.2.1, q.2.2.2.2.2.2.2.2.1, e⟩
  · rw [hc 2 (by omega)]
    exact fun v hv => (h.U v hv).cong h.B (by omega) (fun j hj => hc j (by omega))
  · rw [hc 3 (by omega)]
    exact fun p hp => (h.P p hp).cong (by omega) (fun j hj => hc j (by omega))
  · rw [hc 8 (by omega)]
    exact fun p hp => (h.L p hp).cong (by omega) (fun j hj => hc j (by omega))
  · rw [hc 4 (by omega)]
    intro p hp
    have q := h.O p (by omega)
    have k0 := q.1.1.2
    have k1 : s_n (R (64 + 10 * p + 7)) < s_n (R 0) := q.1.2.2.2.2.2.1.2
    have k2 : s_n (R (64 + 10 * p + 8)) < s_n (R 1) := q.1.2.2.2.2.2.2.2
    unfold s_Vo at q ⊢
    simp (disch := omega) only [s_in, s_w, s_h, s_ce, hc, c5, w_snI]
    exact ⟨⟨q.1.1, q.1.2.1, q.1.2.2.1, ⟨q.1.2.2.2.1.1, by omega⟩, q.1.2.2.2.2.1.imp id (fun w => ⟨w.1, by omega⟩), q.1.2.2.2.2.2⟩, q.2⟩
  · have e := h.E
    unfold s_VE at e ⊢
    rw [hc 4 (by omega), hc 7 (by omega), fb_sm_cong (g := fun o => s_wg (R (64 + 10 * o + 3))) (fun p hp => by rw [hc (64 + 10 * p + 3) (by omega)])]
    exact e
end V1
