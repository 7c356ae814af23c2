/-! AN ORDER IS ON ITS WAY AT MOST AS LONG AS THE PATIENCE -/
abbrev s_cj (j : Nat) : Prop := j = 3 ∨ 64 ≤ j ∧ j < 464 ∧ (j % 10 = 4 ∨ j % 10 = 8)
section V3
variable {R R' Q F : Nat → Int32} {o u p b k ne n i j : Nat} {x y z : Int32}
theorem s_itJ {g : Nat → (Nat → Int32) → Nat → Int32} {inv : Nat → (Nat → Int32) → Prop} (hs : ∀ i Q, i < n → inv i Q → inv (i + 1) (g i Q)) : ∀ k i Q, i + k ≤ n → inv i Q → inv (i + k) (s_it g k i Q)
  | 0, _, _, _, h => h
  | k + 1, i, Q, h1, h => by
    rw [show i + (k + 1) = i + 1 + k by omega]
    exact s_itJ hs k (i + 1) (g i Q) (by omega) (hs i Q (by omega) h)
theorem s_bec_cj {s : Int32} (hj : s_cj j) : s_become R o s j = R j := by
  unfold s_become
  exact s_bec_n (by omega) (by omega) (by omega) (by omega)
theorem s_arrive_cj (hu : s_n (R (64 + 10 * o + 0)) < 7) (hj : s_cj j) : s_arrive R o j = R j := by
  unfold s_arrive
  split
  · rw [s_bec_cj hj, s_up_n (by omega)]
  · rw [s_up_n (by omega), s_bec_cj hj]
    split
    · rw [s_up_n (by omega)]
    · rw [s_bec_cj hj, s_up_n (by omega)]
theorem s_at_cj (hj : s_cj j) : s_at R o b j = R j := by
  unfold s_at
  rw [s_up_n (by omega), s_up_n (by omega), s_up_n (by omega)]
theorem s_ride1_cj (h3 : s_n (R 3) < 5) (hu : s_n (R (64 + 10 * o + 0)) < 7) (ho : o < 40) (hj : s_cj j) : s_ride1 R o b j = R j := by
  have e3 : s_at R o b 3 = R 3 := s_at_cj (Or.inl rfl)
  have e0 : s_at R o b (64 + 10 * o + 0) = R (64 + 10 * o + 0) := s_at_cj (Or.inr (by omega))
  unfold s_ride1
  rcases s_watcher_sp (R := s_at R o b) (np := s_n (s_at R o b 3)) (x := nI (b % 12)) (y := nI (b / 12)) (t := s_n (s_at R o b 5)) with ⟨k1, k2⟩ | ⟨p, k1, k2, k3⟩
  · rw [if_pos k1]
    split
    · rw [s_arrive_cj (by rw [e0]; exact hu) hj, s_at_cj hj]
    · exact s_at_cj hj
  · rw [e3] at k1
    rw [k3, if_neg (nI_nm1 (by omega)), w_snI (by omega), s_bec_cj hj, s_up_n (by omega), s_at_cj hj]
theorem s_ride_cj (h3 : s_n (R 3) < 5) (hu : s_n (R (64 + 10 * o + 0)) < 7) (ho : o < 40) (hj : s_cj j) : (s_ride R F o).1 j = R j := by
  unfold s_ride
  split
  · rfl
  · exact s_ride1_cj h3 hu ho hj
theorem s_carry_cj (h3 : s_n (R 3) < 5) (hu : s_n (R (64 + 10 * o + 0)) < 7) (ho : o < 40) (hj : s_cj j) : s_carry R o j = R j := by
  unfold s_carry
  dsimp only
  split
  · exact s_arrive_cj hu hj
  · split
    · exact s_ride_cj h3 hu ho hj
    · rw [s_ride_cj (by rw [s_ride_cj h3 hu ho (Or.inl rfl)]; exact h3) (by rw [s_ride_cj h3 hu ho (Or.inr (by omega))]; exact hu) ho hj]
      exact s_ride_cj h3 hu ho hj
theorem s_V.bo (h : s_V R) : s_n (R 2) < 7 ∧ s_n (R 3) < 5 ∧ s_n (R 4) < 41 := ⟨h.B.2.1.2, h.B.2.2.1.2, h.B.2.2.2.1.2⟩
theorem s_V.p1c (h : s_V R) : s_n (R 4) ≤ s_n (s_p1 R 4) ∧ ∀ j, j = 3 ∨ 64 ≤ j ∧ j < 64 + 10 * s_n (R 4) → s_p1 R j = R j := by
  have b := h.bo
  unfold s_p1
  have g := s_itI (n := s_n (R 8)) (g := s_sendG) (inv := fun Q => s_V Q ∧ s_KS R Q ∧ s_n (R 4) ≤ s_n (Q 4) ∧ ∀ j, j = 3 ∨ 64 ≤ j ∧ j < 64 + 10 * s_n (R 4) → Q j = R j) (fun i Q hi q => ?_) (s_n (R 8)) 0 R (by omega) ⟨h, s_KS.rf, Nat.le_refl _, fun _ _ => rfl⟩
  · exact g.2.2
  · obtain ⟨q1, q2, q3, q4⟩ := q
    have s := q1.sendG (p := i) (by rw [q2 8 (by omega)]; exact hi)
    refine ⟨s.1, q2.tr s.2, ?_, fun j hj => ?_⟩
    · unfold s_sendG
      split
      · rw [s_disp_4, w_snI (by omega)]
        omega
      · exact q3
    · unfold s_sendG
      split
      · rw [s_disp_n (by omega) (by omega)]
        exact q4 j hj
      · exact q4 j hj
theorem s_V.p2c (h : s_V R) : ∀ j, s_cj j → s_p2 R j = R j := by
  have b := h.bo
  unfold s_p2
  have g := s_itI (n := s_n (R 4)) (g := s_carryG) (inv := fun Q => s_V Q ∧ s_K R Q ∧ ∀ j, s_cj j → Q j = R j) (fun i Q hi q => ?_) (s_n (R 4)) 0 R (by omega) ⟨h, s_K.rf, fun _ _ => rfl⟩
  · exact g.2.2
  · obtain ⟨q1, q2, q3⟩ := q
    have hi4 : i < s_n (Q 4) := by rw [q2 4 (by omega)]; exact hi
    have s := q1.carryG hi4
    have bq := q1.bo
    have hu := (q1.O i hi4).1.1.2
    refine ⟨s.1, q2.tr s.2, fun j hj => ?_⟩
    unfold s_carryG
    split
    · rw [s_carry_cj bq.2.1 (by omega) (by omega) hj]
      exact q3 j hj
    · exact q3 j hj
theorem s_V.p3c (h : s_V R) (ho : o < s_n (R 4)) : (∀ j, s_cj j → s_p3 R j = R j) ∧ (s_p3 R (64 + 10 * o + 3) = nI 0 → ¬ R 9 ≤ R 5 - R (64 + 10 * o + 4)) := by
  have b := h.bo
  unfold s_p3
  have g := s_itJ (n := s_n (R 4)) (g := s_lostG) (inv := fun i Q => s_V Q ∧ s_K R Q ∧ (∀ j, s_cj j → Q j = R j) ∧ (o < i → Q (64 + 10 * o + 3) = nI 0 → ¬ R 9 ≤ R 5 - R (64 + 10 * o + 4))) (fun i Q hi q => ?_) (s_n (R 4)) 0 R (by omega) ⟨h, s_K.rf, fun _ _ => rfl, fun q => absurd q (by omega)⟩
  · rw [Nat.zero_add] at g
    exact ⟨g.2.2.1, g.2.2.2 ho⟩
  · obtain ⟨q1, q2, q3, q4⟩ := q
    have s := q1.lostG (o := i) (by rw [q2 4 (by omega)]; exact hi)
    refine ⟨s.1, q2.tr s.2, fun j hj => ?_, fun hoi h0 => ?_⟩
    · unfold s_lostG
      split
      · rw [s_bec_cj hj]
        exact q3 j hj
      · exact q3 j hj
    · unfold s_lostG at h0
      by_cases e : o = i
      · subst e
        split at h0
        · unfold s_become at h0
          rw [s_bec_3] at h0
          exact absurd h0 (by decide)
        · next hc =>
          intro hc2
          refine hc ⟨h0, ?_⟩
          rw [q2 9 (by omega), q2 5 (by omega), q3 _ (Or.inr (by omega))]
          exact hc2
      · split at h0
        · unfold s_become at h0
          rw [s_bec_n (by omega) (by omega) (by omega) (by omega)] at h0
          exact q4 (by omega) h0
        · exact q4 (by omega) h0
theorem s_walk_n (hj : j < 12 ∨ 64 ≤ j) (hi : u < 7) : s_walk R u o j = R j := by
  unfold s_walk
  generalize s_st R _ _ 4 0 = w
  cases w with
  | none => rfl
  | some w =>
    dsimp only
    rw [s_up_n (by omega), s_up_n (by omega)]
theorem s_moveG_c (hi : u < 7) : ∃ R1, (∀ j, j < 12 ∨ 64 ≤ j → R1 j = R j) ∧ (s_moveG u R = R1 ∨ ∃ o, s_moveG u R = s_become R1 o (nI 2)) := by
  unfold s_moveG
  by_cases c : s_ob R (nI u) = -nI 1
  · rw [if_pos c]
    exact ⟨R, fun _ _ => rfl, Or.inl rfl⟩
  · rw [if_neg c]
    dsimp only
    generalize hR1 : (if ¬ s_inG R u (s_n (s_ob R (nI u))) ∧ s_n (R 5) % s_n (R (12 + 4 * u + 2)) = 0 then s_walk R u (s_n (s_ob R (nI u))) else R) = R1
    refine ⟨R1, fun j hj => ?_, ?_⟩
    · rw [← hR1]
      split
      · exact s_walk_n hj hi
      · rfl
    · split
      · exact Or.inr ⟨_, rfl⟩
      · exact Or.inl rfl
theorem s_V.p4c (h : s_V R) (ho : o < s_n (R 4)) : (∀ j, s_cj j → s_p4 R j = R j) ∧ (s_p4 R (64 + 10 * o + 3) = nI 0 → R (64 + 10 * o + 3) = nI 0) := by
  have b := h.bo
  unfold s_p4
  have g := s_itI (n := s_n (R 2)) (g := s_moveG) (inv := fun Q => s_V Q ∧ s_K R Q ∧ (∀ j, s_cj j → Q j = R j) ∧ (Q (64 + 10 * o + 3) = nI 0 → R (64 + 10 * o + 3) = nI 0)) (fun i Q hi q => ?_) (s_n (R 2)) 0 R (by omega) ⟨h, s_K.rf, fun _ _ => rfl, fun q => q⟩
  · exact g.2.2
  · obtain ⟨q1, q2, q3, q4⟩ := q
    have s := q1.moveG (u := i) (by rw [q2 2 (by omega)]; exact hi)
    rcases s_moveG_c (R := Q) (u := i) (by omega) with ⟨R1, w1, e | ⟨o', e⟩⟩
    · refine ⟨s.1, q2.tr s.2, fun j hj => ?_, fun h0 => q4 ?_⟩
      · rw [e, w1 j (by omega)]
        exact q3 j hj
      · rw [e, w1 _ (by omega)] at h0
        exact h0
    · refine ⟨s.1, q2.tr s.2, fun j hj => ?_, fun h0 => q4 ?_⟩
      · rw [e, s_bec_cj hj, w1 j (by omega)]
        exact q3 j hj
      · rw [e] at h0
        unfold s_become at h0
        by_cases e : o = o'
        · rw [← e, s_bec_3] at h0
          exact absurd h0 (by decide)
        · rw [s_bec_n (by omega) (by omega) (by omega) (by omega), w1 _ (by omega)] at h0
          exact h0
/-- what a turn does to an order that is there -/
theorem s_pass_o (h : s_V R) (ht : s_n (R 5) < 999) : s_n (R 4) ≤ s_n (s_pass R 4) ∧ ∀ o, o < s_n (R 4) → s_pass R (64 + 10 * o + 4) = R (64 + 10 * o + 4) ∧ (s_pass R (64 + 10 * o + 3) = nI 0 → ¬ R 9 ≤ R 5 - R (64 + 10 * o + 4)) := by
  have b := h.bo
  have g1 := h.p1
  have g2 := g1.1.p2
  have g3 := g2.1.p3
  have g4 := g3.1.p4
  have e5 : s_p4 (s_p3 (s_p2 (s_p1 R))) 5 = R 5 := by rw [g4.2 5 (by omega), g3.2 5 (by omega), g2.2 5 (by omega), g1.2 5 (by omega)]
  have g5 : s_V (s_p5 (s_p4 (s_p3 (s_p2 (s_p1 R))))) := g4.1.tick (by rw [e5]; exact ht)
  have g6 := g5.rem
  have c1 := h.p1c
  have c2 := g1.1.p2c
  have n2 : s_p2 (s_p1 R) 4 = s_p1 R 4 := g2.2 4 (by omega)
  have n3 : s_p3 (s_p2 (s_p1 R)) 4 = s_p1 R 4 := by rw [g3.2 4 (by omega), n2]
  have n4 : s_p4 (s_p3 (s_p2 (s_p1 R))) 4 = s_p1 R 4 := by rw [g4.2 4 (by omega), n3]
  have b1 := g1.1.bo
  unfold s_pass
  refine ⟨?_, fun o ho => ?_⟩
  · rw [g6.2 4 (by omega)]
    unfold s_p5
    rw [s_up_n (by omega), n4]
    exact c1.1
  · have c3 := g2.1.p3c (o := o) (by rw [n2]; omega)
    have c4 := g3.1.p4c (o := o) (by rw [n3]; omega)
    rw [g6.2 (64 + 10 * o + 4) (by omega), g6.2 (64 + 10 * o + 3) (by omega)]
    unfold s_p5
    rw [s_up_n (by omega), s_up_n (by omega), c4.1 _ (Or.inr (by omega)), c3.1 _ (Or.inr (by omega)), c2 _ (Or.inr (by omega)), c1.2 _ (Or.inr (by omega))]
    refine ⟨rfl, fun h0 => ?_⟩
    have := c3.2 (c4.2 h0)
    rw [c2 (64 + 10 * o + 4) (Or.inr (by omega)), c1.2 (64 + 10 * o + 4) (Or.inr (by omega)), g2.2 9 (by omega), g1.2 9 (by omega), g2.2 5 (by omega), g1.2 5 (by omega)] at this
    exact this
end V3
