/-! EVENTS COME BEHIND THE SENDING; THE PAST -/
section V2
variable {R R' Q F : Nat → Int32} {o u p b k ne n : Nat} {x y z : Int32}
theorem s_Ev.cong (h : s_Ev R) (b7 : s_n (R 7) < 81) (h7 : Q 7 = R 7) (h4 : Q 4 = R 4) (he : ∀ j, 544 ≤ j → j < 784 → Q j = R j) (ho : ∀ o, o < s_n (R 4) → Q (64 + 10 * o + 4) = R (64 + 10 * o + 4)) : s_Ev Q := by
  intro e he2
  rw [h7] at he2
  obtain ⟨o, o1, o2, o3⟩ := h e he2
  refine ⟨o, by rw [h4]; exact o1, ?_, ?_⟩
  · rw [he _ (by omega) (by omega)]
    exact o2
  · rw [ho o o1, he (544 + 3 * e) (by omega) (by omega)]
    exact o3
theorem s_Ev.up (h : s_Ev R) (hB : s_VB R) {j : Nat} (h1 : j ≠ 4) (h2 : j ≠ 7) (h3 : j < 544) (h4 : j < 64 ∨ 464 ≤ j ∨ (j - 64) % 10 ≠ 4) : s_Ev (va_up R j x) := by
  have b4 := hB.2.2.2.1.2
  refine h.cong hB.2.2.2.2.1.2 (s_up_n (by omega)) (s_up_n (by omega)) (fun i h1 h2 => s_up_n (by omega)) (fun o ho => s_up_n (by omega))
theorem s_bec_e0 {j : Nat} {s : Int32} (ho : o < 40) (hn : ne < 80) : s_bec R ne o s (544 + 3 * ne) = R 5 := by
  unfold s_bec
  rw [s_up_n (by omega), s_up_n (by omega), s_up_n (by omega), s_up_n (by omega), s_up_n (by omega), s_up_s]
theorem s_bec_e1 {j : Nat} {s : Int32} (ho : o < 40) (hn : ne < 80) : s_bec R ne o s (544 + 3 * ne + 1) = nI o := by
  unfold s_bec
  rw [s_up_n (by omega), s_up_n (by omega), s_up_n (by omega), s_up_n (by omega), s_up_s]
theorem s_Ev.bec (h : s_Ev R) (hV : s_V R) (ho : o < s_n (R 4)) (h7 : s_n (R 7) < 80) : s_Ev (s_bec R (s_n (R 7)) o x) := by
  have b4 := hV.B.2.2.2.1.2
  have w5 := hV.B.2.2.2.2.2.2.1
  have b5 := w5.2
  have hs := (hV.O o ho).1.2.2.2.1
  have e4 : ∀ p, p < 40 → s_bec R (s_n (R 7)) o x (64 + 10 * p + 4) = R (64 + 10 * p + 4) := fun p hp => s_bec_n (by omega) (by omega) (by omega) (by omega)
  have e44 : s_bec R (s_n (R 7)) o x 4 = R 4 := s_bec_n (by omega) (by omega) (by omega) (by omega)
  intro e he
  rw [s_bec_7, w_snI (by omega)] at he
  rw [e44]
  by_cases c : e = s_n (R 7)
  · subst c
    refine ⟨o, ho, s_bec_e1 (j := 0) (by omega) h7, ?_⟩
    rw [e4 o (by omega), s_bec_e0 (j := 0) (by omega) h7, hs.1, w5.1, nI_leI (by have := hs.2; omega) (by omega)]
    have := hs.2
    omega
  · obtain ⟨p, p1, p2, p3⟩ := h e (by omega)
    refine ⟨p, p1, ?_, ?_⟩
    · rw [s_bec_n (by omega) (by omega) (by omega) (by omega)]
      exact p2
    · rw [e4 p (by omega), s_bec_n (by omega) (by omega) (by omega) (by omega)]
      exact p3
theorem s_Ev.send (h : s_Ev R) (hB : s_VB R) (hn : s_n (R 4) < 40) : s_Ev (s_disp R (s_n (R 4)) x y z) := by
  have b7 := hB.2.2.2.2.1.2
  intro e he
  rw [s_disp_n (by omega) (by omega)] at he
  obtain ⟨p, p1, p2, p3⟩ := h e he
  refine ⟨p, ?_, ?_, ?_⟩
  · rw [s_disp_4, w_snI (by omega)]
    omega
  · rw [s_disp_n (by omega) (by omega)]
    exact p2
  · rw [s_disp_n (by omega) (by omega), s_disp_n (by omega) (by omega)]
    exact p3
theorem s_Ev.arrive (h : s_Ev R) (hV : s_V R) (ho : o < s_n (R 4)) (hs : R (64 + 10 * o + 3) = nI 0) : s_Ev (s_arrive R o) := by
  have a4 := hV.B.2.2.2.1.2
  have h1 := hV.arr5 ho
  have g1 : s_Ev (va_up R (64 + 10 * o + 5) (R 5)) := h.up hV.B (by omega) (by omega) (by omega) (by omega)
  have e3 : va_up R (64 + 10 * o + 5) (R 5) (64 + 10 * o + 3) = nI 0 := by rw [s_up_n (by omega), hs]
  have e4 : va_up R (64 + 10 * o + 5) (R 5) 4 = R 4 := s_up_n (by omega)
  have eP : ∀ p, va_up R (64 + 10 * o + 5) (R 5) (64 + 10 * p + 0) = R (64 + 10 * p + 0) ∧ va_up R (64 + 10 * o + 5) (R 5) (64 + 10 * p + 3) = R (64 + 10 * p + 3) := fun p => ⟨s_up_n (by omega), s_up_n (by omega)⟩
  have hr := h1.room (o := o) (by rw [e4]; exact ho) (by rw [e3, s_wg_0]; omega)
  have hu := (hV.O o ho).1.1.2
  have a2 := hV.B.2.1.2
  unfold s_arrive
  dsimp only
  generalize hR1 : va_up R (64 + 10 * o + 5) (R 5) = R1 at *
  have ho1 : o < s_n (R1 4) := by rw [e4]; exact ho
  by_cases c1 : nI o < R (12 + 4 * s_n (R (64 + 10 * o + 0)) + 3)
  · rw [if_pos c1]
    exact g1.bec h1 ho1 hr
  · rw [if_neg c1]
    rcases s_ob_sp (R := R) (x := nI (s_n (R (64 + 10 * o + 0)))) with ⟨k1, k2⟩ | ⟨p, k1, k2, k3, k4⟩
    · rw [if_pos k1]
      have g2 := g1.bec (x := nI 1) h1 ho1 hr
      have a41 : s_n (R1 4) < 41 := by rw [e4]; exact a4
      exact g2.cong (by rw [s_bec_7, w_snI (by omega)]; omega) (s_up_n (by omega)) (s_up_n (by omega)) (fun i h1 h2 => s_up_n (by omega)) (fun o' ho' => s_up_n (by omega))
    · have m1 : ¬ (nI p : Int32) = -nI 1 := nI_nm1 (by omega)
      rw [k4, if_neg m1, w_snI (by omega)]
      have h7 := h1.room (o := p) (by rw [e4]; exact k1) (by rw [(eP p).2, k3, s_wg_1]; omega)
      have h2 := h1.fin (o := p) (k := 6) (by rw [e4]; exact k1) (by rw [(eP p).2, k3, s_wg_1]; omega) (by omega) (by omega)
      have hb : ∀ j, j ≠ 7 → j ≠ 64 + 10 * p + 3 → j ≠ 64 + 10 * p + 6 → j < 544 → s_bec R1 (s_n (R1 7)) p (nI 6) j = R1 j := fun j j1 j2 j3 j4 => s_bec_n j1 j2 j3 (by omega)
      have po : p ≠ o := fun q => by
        rw [q, hs] at k3
        exact nI_ne01 k3
      have ho2 : o < s_n (s_bec R1 (s_n (R1 7)) p (nI 6) 4) := by rw [hb 4 (by omega) (by omega) (by omega) (by omega)]; exact ho1
      have hr2 := h2.room (o := o) ho2 (by rw [hb _ (by omega) (by omega) (by omega) (by omega), e3, s_wg_0]; omega)
      have g2 := g1.bec (x := nI 6) h1 (o := p) (by rw [e4]; exact k1) h7
      have g3 := g2.bec (x := nI 1) h2 ho2 hr2
      exact g3.cong (by rw [s_bec_7, w_snI (by omega)]; omega) (s_up_n (by omega)) (s_up_n (by omega)) (fun i h1 h2 => s_up_n (by omega)) (fun o' ho' => s_up_n (by omega))
theorem s_Ev.at (h : s_Ev R) (hB : s_VB R) (ho : o < s_n (R 4)) : s_Ev (s_at R o b) := by
  have b4 := hB.2.2.2.1.2
  exact h.cong hB.2.2.2.2.1.2 (s_at_n (by omega)) (s_at_n (by omega)) (fun i h1 h2 => s_at_n (by omega)) (fun p hp => by unfold s_at; rw [s_up_n (by omega), s_up_n (by omega), s_up_n (by omega)])
theorem s_Ev.ride1 (h : s_Ev R) (hV : s_V R) (ho : o < s_n (R 4)) (hs : R (64 + 10 * o + 3) = nI 0) (hb : s_fr R b) : s_Ev (s_ride1 R o b) := by
  have a4 := hV.B.2.2.2.1.2
  have h1 := hV.go ho hb
  have g1 := h.at (b := b) hV.B ho
  have e4 : s_at R o b 4 = R 4 := s_at_n (by omega)
  have e3 : s_at R o b (64 + 10 * o + 3) = nI 0 := by rw [s_at_3, hs]
  unfold s_ride1
  dsimp only
  generalize s_at R o b = R1 at *
  have a3 := h1.B.2.2.1.2
  have ho1 : o < s_n (R1 4) := by rw [e4]; exact ho
  rcases s_watcher_sp (R := R1) (np := s_n (R1 3)) (x := nI (b % 12)) (y := nI (b / 12)) (t := s_n (R1 5)) with ⟨k1, k2⟩ | ⟨p, k1, k2, k3⟩
  · rw [if_pos k1]
    split
    · exact g1.arrive h1 ho1 e3
    · exact g1
  · rw [k3, if_neg (nI_nm1 (by omega)), w_snI (by omega)]
    have q1 : o < s_n (va_up R1 (36 + 7 * p + 6) (R1 (36 + 7 * p + 6) + nI 1) 4) := by
      rw [s_up_n (by omega)]
      exact ho1
    have q2 : s_wg (va_up R1 (36 + 7 * p + 6) (R1 (36 + 7 * p + 6) + nI 1) (64 + 10 * o + 3)) < 2 := by
      rw [s_up_n (by omega), e3, s_wg_0]
      omega
    exact (g1.up h1.B (by omega) (by omega) (by omega) (by omega)).bec (h1.catch (by omega)) q1 ((h1.catch (by omega)).room q1 q2)
theorem s_Ev.ride (h : s_Ev R) (hV : s_V R) (ho : o < s_n (R 4)) (hs : R (64 + 10 * o + 3) = nI 0) : s_Ev (s_ride R F o).1 := by
  unfold s_ride
  split
  · exact h
  · next q => exact h.ride1 hV ho hs (s_st_fr q)
theorem s_Ev.carry (h : s_Ev R) (hV : s_V R) (ho : o < s_n (R 4)) (hs : R (64 + 10 * o + 3) = nI 0) : s_Ev (s_carry R o) := by
  unfold s_carry
  split
  · exact h.arrive hV ho hs
  · dsimp only
    have h1 := hV.ride (F := s_far R (s_ce (R (12 + 4 * s_n (R (64 + 10 * o + 0)) + 0)) (R (12 + 4 * s_n (R (64 + 10 * o + 0)) + 1)))) ho hs
    have g1 := h.ride (F := s_far R (s_ce (R (12 + 4 * s_n (R (64 + 10 * o + 0)) + 0)) (R (12 + 4 * s_n (R (64 + 10 * o + 0)) + 1)))) hV ho hs
    split
    · exact g1
    · next q => exact g1.ride h1.1 (by rw [h1.2 4 (by omega)]; exact ho) (s_ride_st q)
theorem s_walk_7 (hu : u < 6) : s_walk R u o 7 = R 7 := by
  have e : s_walk R u o = R ∨ ∃ b, s_walk R u o = va_up (va_up R (12 + 4 * u + 0) (nI (b % 12))) (12 + 4 * u + 1) (nI (b / 12)) := by
    unfold s_walk
    split
    · exact Or.inl rfl
    · next q => exact Or.inr ⟨_, rfl⟩
  rcases e with e | ⟨b, e⟩
  · rw [e]
  · rw [e, s_up_n (by omega), s_up_n (by omega)]
theorem s_Ev.moveG (h : s_Ev R) (hV : s_V R) (hu : u < s_n (R 2)) : s_Ev (s_moveG u R) := by
  have a4 := hV.B.2.2.2.1.2
  have a2 := hV.B.2.1.2
  unfold s_moveG
  rcases s_ob_sp (R := R) (x := nI u) with ⟨k1, k2⟩ | ⟨p, k1, k2, k3, k4⟩
  · rw [if_pos k1]
    exact h
  · rw [k4, if_neg (nI_nm1 (by omega)), w_snI (by omega)]
    dsimp only
    have g : ∀ c : Prop, [Decidable c] → s_V (if c then s_walk R u p else R) ∧ s_K R (if c then s_walk R u p else R) ∧ (if c then s_walk R u p else R) (64 + 10 * p + 3) = nI 1 ∧ s_Ev (if c then s_walk R u p else R) := fun c _ => by
      have w := hV.walkW (u := u) (o := p) hu
      split
      · exact ⟨w.1, w.2.1, by rw [w.2.2.1 _ (by omega)]; exact k3, h.cong hV.B.2.2.2.2.1.2 (s_walk_7 (by omega)) (w.2.1 4 (by omega)) (fun j j1 j2 => w.2.2.1 j (by omega)) (fun o _ => w.2.2.1 _ (by omega))⟩
      · exact ⟨hV, s_K.rf, k3, h⟩
    obtain ⟨g1, g2, g3, g4⟩ := g (¬ s_inG R u p ∧ s_n (R 5) % s_n (R (12 + 4 * u + 2)) = 0)
    generalize (if ¬ s_inG R u p ∧ s_n (R 5) % s_n (R (12 + 4 * u + 2)) = 0 then s_walk R u p else R) = R1 at *
    have e4 : R1 4 = R 4 := g2 4 (by omega)
    split
    · have r := g1.room (o := p) (by rw [e4]; exact k1) (s_wg_c (Or.inr g3))
      exact g4.bec g1 (by rw [e4]; exact k1) r
    · exact g4
theorem s_Ev.p1 (h : s_Ev R) (hV : s_V R) : s_Ev (s_p1 R) := by
  unfold s_p1
  refine (s_itI (n := s_n (R 8)) (inv := fun Q => s_V Q ∧ s_KS R Q ∧ s_Ev Q) (fun i Q hi q => ?_) _ _ _ (by omega) ⟨hV, s_KS.rf, h⟩).2.2
  have := q.1.sendG (p := i) (by rw [q.2.1 8 (by omega)]; exact hi)
  refine ⟨this.1, q.2.1.tr this.2, ?_⟩
  unfold s_sendG
  split
  · next c => exact q.2.2.send q.1.B c.2
  · exact q.2.2
theorem s_Ev.p2 (h : s_Ev R) (hV : s_V R) : s_Ev (s_p2 R) := by
  unfold s_p2
  refine (s_itI (n := s_n (R 4)) (inv := fun Q => s_V Q ∧ s_K R Q ∧ s_Ev Q) (fun i Q hi q => ?_) _ _ _ (by omega) ⟨hV, s_K.rf, h⟩).2.2
  have hi2 : i < s_n (Q 4) := by rw [q.2.1 4 (by omega)]; exact hi
  have := q.1.carryG (o := i) hi2
  refine ⟨this.1, q.2.1.tr this.2, ?_⟩
  unfold s_carryG
  split
  · next c => exact q.2.2.carry q.1 hi2 c
  · exact q.2.2
theorem s_Ev.p3 (h : s_Ev R) (hV : s_V R) : s_Ev (s_p3 R) := by
  unfold s_p3
  refine (s_itI (n := s_n (R 4)) (inv := fun Q => s_V Q ∧ s_K R Q ∧ s_Ev Q) (fun i Q hi q => ?_) _ _ _ (by omega) ⟨hV, s_K.rf, h⟩).2.2
  have hi2 : i < s_n (Q 4) := by rw [q.2.1 4 (by omega)]; exact hi
  have := q.1.lostG (o := i) hi2
  refine ⟨this.1, q.2.1.tr this.2, ?_⟩
  unfold s_lostG
  split
  · next c => exact q.2.2.bec q.1 hi2 (q.1.room hi2 (s_wg_c (Or.inl c.1)))
  · exact q.2.2
theorem s_Ev.p4 (h : s_Ev R) (hV : s_V R) : s_Ev (s_p4 R) := by
  unfold s_p4
  refine (s_itI (n := s_n (R 2)) (inv := fun Q => s_V Q ∧ s_K R Q ∧ s_Ev Q) (fun i Q hi q => ?_) _ _ _ (by omega) ⟨hV, s_K.rf, h⟩).2.2
  have hi2 : i < s_n (Q 2) := by rw [q.2.1 2 (by omega)]; exact hi
  have := q.1.moveG (u := i) hi2
  exact ⟨this.1, q.2.1.tr this.2, q.2.2.moveG q.1 hi2⟩
theorem s_Ev.turn (h : s_Ev R) (hV : s_V R) (ht : s_n (R 5) < 999) : s_Ev (s_pass R) := by
  have g1 := hV.p1
  have g2 := g1.1.p2
  have g3 := g2.1.p3
  have g4 := g3.1.p4
  have e4 := (((h.p1 hV).p2 g1.1).p3 g2.1).p4 g3.1
  have V := hV.turn ht
  have e5 : s_p4 (s_p3 (s_p2 (s_p1 R))) 5 = R 5 := by rw [g4.2 5 (by omega), g3.2 5 (by omega), g2.2 5 (by omega), g1.2 5 (by omega)]
  have g5 : s_V (s_p5 (s_p4 (s_p3 (s_p2 (s_p1 R))))) := g4.1.tick (by rw [e5]; exact ht)
  have g6 := g5.rem
  have b4 := g5.B.2.2.2.1.2
  have e6 : s_Ev (s_p5 (s_p4 (s_p3 (s_p2 (s_p1 R))))) := e4.up g4.1.B (by omega) (by omega) (by omega) (by omega)
  exact e6.cong g5.B.2.2.2.2.1.2 (g6.2 7 (by omega)) (g6.2 4 (by omega)) (fun j h1 h2 => g6.2 j (by omega)) (fun o ho => g6.2 _ (by omega))
/-! the past, written down -/
theorem s_it_rem : ∀ k i (Q : Nat → Int32), (∀ j, (∀ u, i ≤ u → u < i + k → j ≠ 928 + 501 * u + s_n (Q 5)) → s_it s_remG k i Q j = Q j) ∧ (s_n (Q 5) < 501 → ∀ u, i ≤ u → u < i + k → u < 6 → s_it s_remG k i Q (928 + 501 * u + s_n (Q 5)) = nI 100 * Q (12 + 4 * u + 1) + Q (12 + 4 * u + 0))
  | 0, i, Q => ⟨fun j _ => rfl, fun _ u h1 h2 => by omega⟩
  | k + 1, i, Q => by
    have ih := s_it_rem k (i + 1) (s_remG i Q)
    have e5 : s_remG i Q 5 = Q 5 := s_up_n (by omega)
    rw [e5] at ih
    have en : ∀ j, j ≠ 928 + 501 * i + s_n (Q 5) → s_remG i Q j = Q j := fun j hj => s_up_n hj
    refine ⟨fun j hj => ?_, fun h5 u h1 h2 h3 => ?_⟩
    · rw [s_it, ih.1 j (fun u h1 h2 => hj u (by omega) (by omega))]
      exact en j (hj i (Nat.le_refl _) (by omega))
    · rw [s_it]
      by_cases c : u = i
      · subst c
        rw [ih.1 _ (fun v h1 h2 => by omega)]
        exact s_up_s
      · rw [ih.2 h5 u (by omega) (by omega) h3, en _ (by omega), en _ (by omega)]
theorem s_rem_pr (hV : s_V R) (h5 : s_n (R 5) ≤ 500) : s_pr (s_rem R) ∧ ∀ u t, u < 6 → t < s_n (R 5) → s_rem R (928 + 501 * u + t) = R (928 + 501 * u + t) := by
  have V := hV.rem
  have b2 := hV.B.2.1.2
  have hr : s_rem R = s_it s_remG (s_n (R 2)) 0 R := if_pos h5
  have hi := s_it_rem (s_n (R 2)) 0 R
  rw [← hr] at hi
  refine ⟨⟨by rw [V.2 5 (by omega)]; exact h5, fun u hu => ?_⟩, fun u t hu ht => hi.1 _ (fun v h1 h2 => by omega)⟩
  rw [V.2 2 (by omega)] at hu
  rw [V.2 5 (by omega), V.2 (12 + 4 * u + 1) (by omega), V.2 (12 + 4 * u + 0) (by omega)]
  exact hi.2 (by omega) u (Nat.zero_le _) (by omega) (by omega)
/-- the past of a turn more -/
theorem s_pass_pr (hV : s_V R) (h5 : s_n (R 5) < 500) : s_pr (s_pass R) ∧ (∀ u t, u < 6 → t ≤ s_n (R 5) → s_pass R (928 + 501 * u + t) = R (928 + 501 * u + t)) ∧ s_pass R 2 = R 2 := by
  have g1 := hV.p1
  have g2 := g1.1.p2
  have g3 := g2.1.p3
  have g4 := g3.1.p4
  have e : ∀ j, 928 ≤ j ∨ j = 5 → s_p4 (s_p3 (s_p2 (s_p1 R))) j = R j := fun j hj => by rw [g4.2 j (by omega), g3.2 j (by omega), g2.2 j (by omega), g1.2 j (by omega)]
  have g5 : s_V (s_p5 (s_p4 (s_p3 (s_p2 (s_p1 R))))) := g4.1.tick (by rw [e 5 (by omega)]; omega)
  have e5 : s_n (s_p5 (s_p4 (s_p3 (s_p2 (s_p1 R)))) 5) = s_n (R 5) + 1 := by
    unfold s_p5
    rw [s_up_s, e 5 (by omega), w_snI (by omega)]
  have h := s_rem_pr g5 (by omega)
  refine ⟨h.1, fun u t hu ht => ?_, (hV.turn (by omega)).2.1 2 (by omega)⟩
  show s_rem _ _ = _
  rw [h.2 u t hu (by omega)]
  unfold s_p5
  rw [s_up_n (by omega), e _ (by omega)]
/-! an order is lost in time -/
theorem s_wg0 {x : Int32} (h : s_wg x = 0) : x = nI 0 := by
  unfold s_wg at h
  split at h
  · next q => exact q
  · split at h <;> omega
end V2
