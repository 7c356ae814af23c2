/-! WHAT HOLDS OF THE ROW THAT IS READ -/
section L33
variable {a b c o p q i j k m n u t L e f κ v0 lo h ne : Nat} {B : Nat → Nat} {x y z v hi x' y' : Int32} {s s' : p_S} {R Q R' Q' : Nat → Int32}
theorem p_V.mk (hB : s_VB Q) (h4 : Q 4 = nI 0) (h5 : Q 5 = nI 0) (h7 : Q 7 = nI 0) (U : ∀ u, u < s_n (Q 2) → s_Vu Q u) (P : ∀ p, p < s_n (Q 3) → s_Vp Q p) (L : ∀ p, p < s_n (Q 8) → s_Vl Q p) : p_V Q := by
  refine ⟨⟨hB, U, P, L, fun o ho => ?_, ?_⟩, h4, h5, h7⟩
  · rw [h4, w_snI (by omega)] at ho
    omega
  · unfold s_VE
    rw [h7, w_snI (by omega)]
    exact Nat.zero_le _
theorem s_VB.con (h : s_VB R) (h2 : s_nn (Q 2) 7) (h3 : s_nn (Q 3) 5) (h8 : s_nn (Q 8) 21) (hc : ∀ j, j ≠ 2 → j ≠ 3 → j ≠ 8 → (j < 12 ∨ 784 ≤ j ∧ j < 928) → Q j = R j) : s_VB Q := by
  have a0 := h.1.1.2
  have a1 := h.1.2.2.1.2
  have m1 : s_n (R 10) < s_n (R 0) := h.2.2.2.2.2.2.2.2.1.1.1.2
  have m2 : s_n (R 11) < s_n (R 1) := h.2.2.2.2.2.2.2.2.1.1.2.2
  have e := h.2.2.2.2.2.2.2.2.2
  unfold s_VB at h ⊢
  simp (disch := omega) only [s_in, s_w, s_h, s_ce, hc]
  exact ⟨h.1, h2, h3, h.2.2.2.1, h.2.2.2.2.1, h8, h.2.2.2.2.2.2.1, h.2.2.2.2.2.2.2.1, h.2.2.2.2.2.2.2.2.1, fun c hc2 => by rw [hc (784 + c) (by omega) (by omega) (by omega) (by omega)]; exact e c hc2⟩
theorem s_Vu.con (hB : s_VB R) (h : s_Vu R u) (h4 : R 4 = nI 0) (hu : u < 6) (hc : ∀ j, (j < 2 ∨ j = 4 ∨ 12 + 4 * u ≤ j ∧ j < 12 + 4 * u + 4 ∨ 784 ≤ j ∧ j < 928) → Q j = R j) : s_Vu Q u := by
  have a0 := hB.1.1.2
  have a1 := hB.1.2.2.1.2
  have m1 : s_n (R (12 + 4 * u + 0)) < s_n (R 0) := h.1.1.1.2
  have m2 : s_n (R (12 + 4 * u + 1)) < s_n (R 1) := h.1.1.2.2
  unfold s_Vu at h ⊢
  simp (disch := omega) only [s_in, s_w, s_h, s_ce, hc]
  refine ⟨h.1, h.2.1, ?_⟩
  rcases h.2.2 with q | q
  · exact Or.inl q
  · have := q.1.2
    rw [h4, w_snI (by omega)] at this
    omega
theorem p_V.wall (h : p_V R) (hi : i < 12) (hj : j < 12) (hb : ¬ p_bad R i j) : p_V (s_wq R (12 * j + i)) := by
  obtain ⟨hV, h4, h5, h7⟩ := h
  have hq : ∀ k, k ≠ 6 → k ≠ 784 + (12 * j + i) → s_wq R (12 * j + i) k = R k := fun k j1 j2 => by
    unfold s_wq
    rw [s_up_n j1, s_up_n j2]
  refine ⟨s_unheld hV hi hj (fun q => ?_), by rw [hq 4 (by omega) (by omega)]; exact h4, by rw [hq 5 (by omega) (by omega)]; exact h5, by rw [hq 7 (by omega) (by omega)]; exact h7⟩
  rcases q with q | q | q
  · exact hb (Or.inr (Or.inl q))
  · exact hb (Or.inr (Or.inr q))
  · unfold s_hm at q
    rw [h4, w_snI (by omega), s_exi] at q
    exact absurd q (by decide)
theorem p_V.pat (h : p_V R) (h0 : 0 < k) (hk : k < 31) : p_V (va_up R 9 (nI k)) := by
  obtain ⟨hV, h4, h5, h7⟩ := h
  exact ⟨hV.pat h0 hk, by rw [s_up_n (by omega)]; exact h4, by rw [s_up_n (by omega)]; exact h5, by rw [s_up_n (by omega)]; exact h7⟩
theorem s_nn.I (h : s_nn x b) : x = nI (s_n x) := h.1
theorem p_V.hq (h : p_V R) (hx : s_in R x y) (hf : R (784 + s_ce x y) = 0) : p_V (va_up (va_up R 10 x) 11 y) := by
  obtain ⟨hV, h4, h5, h7⟩ := h
  have hB := hV.B
  have q0 := hB.1.1.2
  have q1 := hB.1.2.2.1.2
  have m1 : s_n x < s_n (R 0) := hx.1.2
  have m2 : s_n y < s_n (R 1) := hx.2.2
  have b2 := hB.2.1.2
  have b3 := hB.2.2.1.2
  have b8 := hB.2.2.2.2.2.1.2
  have hc : ∀ j, j ≠ 10 → j ≠ 11 → va_up (va_up R 10 x) 11 y j = R j := fun j h1 h2 => by rw [s_up_n h2, s_up_n h1]
  have c0 : va_up (va_up R 10 x) 11 y 10 = x := by rw [s_up_n (by omega), s_up_s]
  have c1 : va_up (va_up R 10 x) 11 y 11 = y := s_up_s
  generalize va_up (va_up R 10 x) 11 y = Q at *
  have c2 : Q 2 = R 2 := hc 2 (by omega) (by omega)
  have c3 : Q 3 = R 3 := hc 3 (by omega) (by omega)
  have c8 : Q 8 = R 8 := hc 8 (by omega) (by omega)
  refine p_V.mk ?_ (by rw [hc 4 (by omega) (by omega)]; exact h4) (by rw [hc 5 (by omega) (by omega)]; exact h5) (by rw [hc 7 (by omega) (by omega)]; exact h7) (fun u hu => ?_) (fun p hp => ?_) (fun p hp => ?_)
  · have q := hB
    unfold s_VB at q ⊢
    simp (disch := omega) only [s_in, s_w, s_h, s_ce, hc, c0, c1]
    refine ⟨q.1, q.2.1, q.2.2.1, q.2.2.2.1, q.2.2.2.2.1, q.2.2.2.2.2.1, q.2.2.2.2.2.2.1, q.2.2.2.2.2.2.2.1, ⟨⟨hx.1, hx.2⟩, ?_⟩, fun c hc2 => ?_⟩
    · have : 784 + (12 * s_n y + s_n x) < 928 := by omega
      first | exact hf | (rw [hc _ (by omega) (by omega)]; exact hf)
    · exact q.2.2.2.2.2.2.2.2.2 c hc2
  · rw [c2] at hu
    exact (hV.U u hu).con hB h4 (by omega) (fun j hj => hc j (by omega) (by omega))
  · rw [c3] at hp
    exact (hV.P p hp).cong (by omega) (fun j hj => hc j (by omega) (by omega))
  · rw [c8] at hp
    exact (hV.L p hp).cong (by omega) (fun j hj => hc j (by omega) (by omega))
theorem p_V.addU (h : p_V R) (hn : ne = s_n (R 2)) (hn6 : ne < 6) (hx : s_in R x y) (hf : R (784 + s_ce x y) = 0) (hz : s_nn z 4 ∧ 0 < s_n z) : p_V (s_addU R ne x y z) := by
  obtain ⟨hV, h4, h5, h7⟩ := h
  have hB := hV.B
  have q0 := hB.1.1.2
  have q1 := hB.1.2.2.1.2
  have m1 : s_n x < s_n (R 0) := hx.1.2
  have m2 : s_n y < s_n (R 1) := hx.2.2
  have b3 := hB.2.2.1
  have b8 := hB.2.2.2.2.2.1
  have b32 := b3.2
  have b82 := b8.2
  have hc : ∀ j, j ≠ 2 → (j < 12 + 4 * ne ∨ 12 + 4 * ne + 4 ≤ j) → s_addU R ne x y z j = R j := fun j h1 h2 => by
    unfold s_addU
    rw [s_up_n h1, s_up_n (by omega), s_up_n (by omega), s_up_n (by omega), s_up_n (by omega)]
  have d0 : s_addU R ne x y z (12 + 4 * ne + 0) = x := by
    unfold s_addU
    rw [s_up_n (by omega), s_up_n (by omega), s_up_n (by omega), s_up_n (by omega), s_up_s]
  have d1 : s_addU R ne x y z (12 + 4 * ne + 1) = y := by
    unfold s_addU
    rw [s_up_n (by omega), s_up_n (by omega), s_up_n (by omega), s_up_s]
  have d2 : s_addU R ne x y z (12 + 4 * ne + 2) = z := by
    unfold s_addU
    rw [s_up_n (by omega), s_up_n (by omega), s_up_s]
  have d3 : s_addU R ne x y z (12 + 4 * ne + 3) = -nI 1 := by
    unfold s_addU
    rw [s_up_n (by omega), s_up_s]
  have c2 : s_addU R ne x y z 2 = nI (ne + 1) := by
    unfold s_addU
    rw [s_up_s]
  generalize s_addU R ne x y z = Q at *
  have c3 : Q 3 = R 3 := hc 3 (by omega) (by omega)
  have c8 : Q 8 = R 8 := hc 8 (by omega) (by omega)
  refine p_V.mk (hB.con (by rw [c2]; exact s_nnI (by omega) (by omega)) (by rw [c3]; exact b3) (by rw [c8]; exact b8) (fun j j2 _ _ hj => hc j j2 (by omega))) (by rw [hc 4 (by omega) (by omega)]; exact h4) (by rw [hc 5 (by omega) (by omega)]; exact h5) (by rw [hc 7 (by omega) (by omega)]; exact h7) (fun u hu => ?_) (fun p hp => ?_) (fun p hp => ?_)
  · rw [c2, w_snI (by omega)] at hu
    by_cases e : u = ne
    · subst e
      unfold s_Vu
      rw [d0, d1, d2, d3]
      have e0 : Q 0 = R 0 := hc 0 (by omega) (by omega)
      have e1 : Q 1 = R 1 := hc 1 (by omega) (by omega)
      refine ⟨⟨?_, ?_⟩, hz, Or.inl rfl⟩
      · unfold s_in s_w s_h
        rw [e0, e1]
        exact hx
      · have : s_ce x y < 144 := by
          unfold s_ce
          omega
        rw [hc _ (by omega) (by omega)]
        exact hf
    · exact (hV.U u (by omega)).con hB h4 (by omega) (fun j hj => hc j (by omega) (by omega))
  · rw [c3] at hp
    exact (hV.P p hp).cong (by omega) (fun j hj => hc j (by omega) (by omega))
  · rw [c8] at hp
    have g := hV.L p hp
    unfold s_Vl at g ⊢
    have e0 : Q 0 = R 0 := hc 0 (by omega) (by omega)
    have e1 : Q 1 = R 1 := hc 1 (by omega) (by omega)
    unfold s_in s_w s_h at g ⊢
    rw [hc (464 + 4 * p + 0) (by omega) (by omega), hc (464 + 4 * p + 1) (by omega) (by omega), hc (464 + 4 * p + 2) (by omega) (by omega), hc (464 + 4 * p + 3) (by omega) (by omega), e0, e1, c2, w_snI (by omega)]
    have := g.1.2
    exact ⟨⟨g.1.1, by omega⟩, g.2⟩
theorem p_V.addP {g d f t : Int32} (h : p_V R) (hn : ne = s_n (R 3)) (hn6 : ne < 4) (hx : s_in R x y) (hg : s_nn g 4) (hd : s_nn d 21 ∧ 0 < s_n d) : p_V (s_addP R ne x y g d f t) := by
  obtain ⟨hV, h4, h5, h7⟩ := h
  have hB := hV.B
  have b2 := hB.2.1
  have b8 := hB.2.2.2.2.2.1
  have b22 := b2.2
  have b82 := b8.2
  have hc : ∀ j, j ≠ 3 → (j < 36 + 7 * ne ∨ 36 + 7 * ne + 7 ≤ j) → s_addP R ne x y g d f t j = R j := fun j h1 h2 => by
    unfold s_addP
    rw [s_up_n h1, s_up_n (by omega), s_up_n (by omega), s_up_n (by omega), s_up_n (by omega), s_up_n (by omega), s_up_n (by omega), s_up_n (by omega)]
  have d0 : s_addP R ne x y g d f t (36 + 7 * ne + 0) = x := by
    unfold s_addP
    rw [s_up_n (by omega), s_up_n (by omega), s_up_n (by omega), s_up_n (by omega), s_up_n (by omega), s_up_n (by omega), s_up_n (by omega), s_up_s]
  have d1 : s_addP R ne x y g d f t (36 + 7 * ne + 1) = y := by
    unfold s_addP
    rw [s_up_n (by omega), s_up_n (by omega), s_up_n (by omega), s_up_n (by omega), s_up_n (by omega), s_up_n (by omega), s_up_s]
  have d2 : s_addP R ne x y g d f t (36 + 7 * ne + 2) = g := by
    unfold s_addP
    rw [s_up_n (by omega), s_up_n (by omega), s_up_n (by omega), s_up_n (by omega), s_up_n (by omega), s_up_s]
  have d3 : s_addP R ne x y g d f t (36 + 7 * ne + 3) = d := by
    unfold s_addP
    rw [s_up_n (by omega), s_up_n (by omega), s_up_n (by omega), s_up_n (by omega), s_up_s]
  have c3 : s_addP R ne x y g d f t 3 = nI (ne + 1) := by
    unfold s_addP
    rw [s_up_s]
  generalize s_addP R ne x y g d f t = Q at *
  have c2 : Q 2 = R 2 := hc 2 (by omega) (by omega)
  have c8 : Q 8 = R 8 := hc 8 (by omega) (by omega)
  refine p_V.mk (hB.con (by rw [c2]; exact b2) (by rw [c3]; exact s_nnI (by omega) (by omega)) (by rw [c8]; exact b8) (fun j j2 j3 j4 hj => hc j j3 (by omega))) (by rw [hc 4 (by omega) (by omega)]; exact h4) (by rw [hc 5 (by omega) (by omega)]; exact h5) (by rw [hc 7 (by omega) (by omega)]; exact h7) (fun u hu => ?_) (fun p hp => ?_) (fun p hp => ?_)
  · rw [c2] at hu
    exact (hV.U u hu).con hB h4 (by omega) (fun j hj => hc j (by omega) (by omega))
  · rw [c3, w_snI (by omega)] at hp
    by_cases e : p = ne
    · subst e
      unfold s_Vp
      rw [d0, d1, d2, d3]
      have e0 : Q 0 = R 0 := hc 0 (by omega) (by omega)
      have e1 : Q 1 = R 1 := hc 1 (by omega) (by omega)
      refine ⟨?_, hg, hd⟩
      unfold s_in s_w s_h
      rw [e0, e1]
      exact hx
    · exact (hV.P p (by omega)).cong (by omega) (fun j hj => hc j (by omega) (by omega))
  · rw [c8] at hp
    exact (hV.L p hp).cong (by omega) (fun j hj => hc j (by omega) (by omega))
theorem p_V.addL {u : Int32} (h : p_V R) (hn : ne = s_n (R 8)) (hn6 : ne < 20) (hu : s_nn u (s_n (R 2))) (hx : s_in R x y) (hz : s_nn z 500) : p_V (s_addL R ne u x y z) := by
  obtain ⟨hV, h4, h5, h7⟩ := h
  have hB := hV.B
  have b2 := hB.2.1
  have b3 := hB.2.2.1
  have b22 := b2.2
  have b32 := b3.2
  have hc : ∀ j, j ≠ 8 → (j < 464 + 4 * ne ∨ 464 + 4 * ne + 4 ≤ j) → s_addL R ne u x y z j = R j := fun j h1 h2 => by
    unfold s_addL
    rw [s_up_n h1, s_up_n (by omega), s_up_n (by omega), s_up_n (by omega), s_up_n (by omega)]
  have d0 : s_addL R ne u x y z (464 + 4 * ne + 0) = u := by
    unfold s_addL
    rw [s_up_n (by omega), s_up_n (by omega), s_up_n (by omega), s_up_n (by omega), s_up_s]
  have d1 : s_addL R ne u x y z (464 + 4 * ne + 1) = x := by
    unfold s_addL
    rw [s_up_n (by omega), s_up_n (by omega), s_up_n (by omega), s_up_s]
  have d2 : s_addL R ne u x y z (464 + 4 * ne + 2) = y := by
    unfold s_addL
    rw [s_up_n (by omega), s_up_n (by omega), s_up_s]
  have d3 : s_addL R ne u x y z (464 + 4 * ne + 3) = z := by
    unfold s_addL
    rw [s_up_n (by omega), s_up_s]
  have c8 : s_addL R ne u x y z 8 = nI (ne + 1) := by
    unfold s_addL
    rw [s_up_s]
  generalize s_addL R ne u x y z = Q at *
  have c2 : Q 2 = R 2 := hc 2 (by omega) (by omega)
  have c3 : Q 3 = R 3 := hc 3 (by omega) (by omega)
  refine p_V.mk (hB.con (by rw [c2]; exact b2) (by rw [c3]; exact b3) (by rw [c8]; exact s_nnI (by omega) (by omega)) (fun j j2 j3 j4 hj => hc j j4 (by omega))) (by rw [hc 4 (by omega) (by omega)]; exact h4) (by rw [hc 5 (by omega) (by omega)]; exact h5) (by rw [hc 7 (by omega) (by omega)]; exact h7) (fun u hu => ?_) (fun p hp => ?_) (fun p hp => ?_)
  · rw [c2] at hu
    exact (hV.U u hu).con hB h4 (by omega) (fun j hj => hc j (by omega) (by omega))
  · rw [c3] at hp
    exact (hV.P p hp).cong (by omega) (fun j hj => hc j (by omega) (by omega))
  · rw [c8, w_snI (by omega)] at hp
    by_cases e : p = ne
    · subst e
      unfold s_Vl
      rw [d0, d1, d2, d3]
      have e0 : Q 0 = R 0 := hc 0 (by omega) (by omega)
      have e1 : Q 1 = R 1 := hc 1 (by omega) (by omega)
      refine ⟨by rw [c2]; exact hu, ?_, hz⟩
      unfold s_in s_w s_h
      rw [e0, e1]
      exact hx
    · exact (hV.L p (by omega)).cong (by omega) (fun j hj => hc j (by omega) (by omega))
theorem w_lk.up (h : w_lk Q R) (h2 : s_n (R 2) < 7) (hj : j ≠ 2) (hj2 : j < 12 ∨ 36 ≤ j) (hj3 : j < 928) : w_lk (va_up Q j v) (va_up R j v) := by
  refine ⟨fun i hi => ?_, fun u hu => ?_⟩
  · by_cases e : i = j
    · rw [e, s_up_s, s_up_s]
    · rw [s_up_n e, s_up_n e]
      exact h.1 i hi
  · rw [s_up_n (by omega)] at hu
    have b := h.2 u hu
    rw [s_up_n (by omega), s_up_n (by omega), s_up_n (by omega)]
    exact b
theorem w_lk.unit (h : w_lk Q R) (hn : ne = s_n (R 2)) (hn6 : ne < 6) (hv : v = nI 100 * y + x) : w_lk (va_up (va_up (va_up (va_up (va_up (va_up Q (12 + 4 * ne + 0) x) (12 + 4 * ne + 1) y) (12 + 4 * ne + 2) z) (12 + 4 * ne + 3) (-nI 1)) (928 + 501 * ne + 0) v) 2 (nI (ne + 1))) (s_addU R ne x y z) := by
  unfold s_addU
  refine ⟨fun i hi => ?_, fun u hu => ?_⟩
  · by_cases e2 : i = 2
    · rw [e2, s_up_s, s_up_s]
    rw [s_up_n e2, s_up_n e2, s_up_n (by omega)]
    by_cases e3 : i = 12 + 4 * ne + 3
    · rw [e3, s_up_s, s_up_s]
    rw [s_up_n e3, s_up_n e3]
    by_cases e4 : i = 12 + 4 * ne + 2
    · rw [e4, s_up_s, s_up_s]
    rw [s_up_n e4, s_up_n e4]
    by_cases e5 : i = 12 + 4 * ne + 1
    · rw [e5, s_up_s, s_up_s]
    rw [s_up_n e5, s_up_n e5]
    by_cases e6 : i = 12 + 4 * ne + 0
    · rw [e6, s_up_s, s_up_s]
    rw [s_up_n e6, s_up_n e6]
    exact h.1 i hi
  · rw [s_up_s, w_snI (by omega)] at hu
    by_cases e : u = ne
    · subst e
      have e0 : 928 + 501 * u + 0 = 928 + 501 * u := rfl
      rw [s_up_n (by omega), e0, s_up_s, s_up_n (by omega), s_up_n (by omega), s_up_n (by omega), s_up_s, s_up_n (by omega), s_up_n (by omega), s_up_n (by omega), s_up_n (by omega), s_up_s]
      exact hv
    · have b := h.2 u (by omega)
      rw [s_up_n (by omega), s_up_n (by omega), s_up_n (by omega), s_up_n (by omega), s_up_n (by omega), s_up_n (by omega), s_up_n (by omega), s_up_n (by omega), s_up_n (by omega), s_up_n (by omega), s_up_n (by omega), s_up_n (by omega), s_up_n (by omega), s_up_n (by omega), s_up_n (by omega), s_up_n (by omega)]
      exact b
end L33
