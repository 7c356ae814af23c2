/-! A SITUATION IS REMEMBERED -/
def s_rec3 (M : Nat → Nat → Int32) : Nat → Int32 := fun q => if s_n (M 138 5) = 10 then (if q < 35406 then M 143 (q + 3934) else if q < 39340 then M 139 (q - 35406) else M 143 q) else if 3934 * s_n (M 138 5) ≤ q ∧ q < 3934 * s_n (M 138 5) + 3934 then M 139 (q - 3934 * s_n (M 138 5)) else M 143 q
def s_rec (M : Nat → Nat → Int32) : Nat → Nat → Int32 := va_up (va_up M 143 (s_rec3 M)) 138 (va_up (M 138) 5 (nI (s_hc (s_n (M 138 5)) + 1)))
def s_tc (R : Nat → Int32) : Nat → Int32 := fun j => if j < 3934 then R j else 0
/-- the room: what is taken, less what the ways may still take -/
def w_le (c z : Nat) (S S' : am_S) : Prop := am_n S' + 2 * w_un S' ≤ am_n S + 2 * w_un S + c ∧ am_z S' + 146 * w_un S' ≤ am_z S + 146 * w_un S + z
/-- the reference's things stay as they are -/
def w_kp (S S' : am_S) : Prop := ∀ b, 138 ≤ b → b ≤ 151 → am_k S' b = am_k S b ∧ am_l S' b = am_l S b ∧ am_i S' b = am_i S b ∧ am_j S' b = am_j S b ∧ am_r S' b = am_r S b
section I2
variable {S S' T U : am_S} {a b c d o p q i j k m n u t D z y : Nat} {P : Nat → Prop} {R Q : Nat → Int32} {M M' : Nat → Nat → Int32}
theorem w_kp.rf : w_kp S S := fun _ _ _ => ⟨rfl, rfl, rfl, rfl, rfl⟩
theorem w_kp.tr (h : w_kp S T) (k : w_kp T U) : w_kp S U := fun b h1 h2 => ⟨(k b h1 h2).1.trans (h b h1 h2).1, (k b h1 h2).2.1.trans (h b h1 h2).2.1, (k b h1 h2).2.2.1.trans (h b h1 h2).2.2.1, (k b h1 h2).2.2.2.1.trans (h b h1 h2).2.2.2.1, (k b h1 h2).2.2.2.2.trans (h b h1 h2).2.2.2.2⟩
theorem w_kp.of (h : w_F P S T) (hn : 151 < am_n S) (hP : ∀ b, 138 ≤ b → b ≤ 151 → ¬ P b) : w_kp S T := fun b h1 h2 => ⟨h.k (by omega), h.l (by omega), (h.2.2.2 b (by omega) (hP b h1 h2)).1, (h.2.2.2 b (by omega) (hP b h1 h2)).2.1, (h.2.2.2 b (by omega) (hP b h1 h2)).2.2⟩
theorem w_kp.J (h : w_J a S T) (ha : a = 101 ∨ a = 113) : w_kp S T := fun b h1 h2 => ⟨by rw [h.1.2.2.1], by rw [h.1.2.2.2.1], h.1.i (by omega), by rw [h.1.2.2.2.2.1], by rw [h.1.2.2.2.2.2.1]⟩
theorem w_kp.I (h : w_I P S T) (hP : ∀ b, 138 ≤ b → b ≤ 151 → ¬ P b) : w_kp S T := fun b h1 h2 => ⟨by rw [h.2.2.1], by rw [h.2.2.2.1], h.i (hP b h1 h2), by rw [h.2.2.2.2.1], by rw [h.2.2.2.2.2.1]⟩
theorem w_kp.O (h : w_O a S T) (ha : a = 101 ∨ a = 113) (hn : 151 < am_n S) (hT : w_T S R) : w_kp S T := by
  have nI : ∀ b, b ≤ 151 → ¬ w_inT S b := fun b hb q => by
    obtain ⟨t, D, ht, hD, e⟩ := q
    have := (hT.1 t D ht hD).1.1
    omega
  exact fun b h1 h2 => ⟨(h.2.1 b (by omega)).1, (h.2.1 b (by omega)).2, h.2.2.2.1 b (by omega) (by omega) (by omega) (nI b h2), h.1.2 b (by omega), h.2.2.1 b (by omega) (by omega)⟩
theorem w_kp.new {kd l sl : Nat} (hn : 151 < am_n S) : w_kp S (am_new S kd l sl) := w_kp.of (P := fun _ => False) w_F.new hn (fun _ _ _ q => q)
theorem w_le.rf : w_le 0 0 S S := ⟨Nat.le_refl _, Nat.le_refl _⟩
theorem w_le.tr (h : w_le c z S T) (k : w_le d y T U) : w_le (c + d) (z + y) S U := by
  obtain ⟨h1, h2⟩ := h
  obtain ⟨k1, k2⟩ := k
  exact ⟨by omega, by omega⟩
theorem w_le.mono (h : w_le c z S T) (h1 : c ≤ d) (h2 : z ≤ y) : w_le d y S T := ⟨Nat.le_trans h.1 (by omega), Nat.le_trans h.2 (by omega)⟩
theorem w_le.of (h : am_r T 130 = am_r S 130) (hn : am_n T ≤ am_n S + c) (hz : am_z T ≤ am_z S + z) : w_le c z S T := by
  unfold w_le w_un
  rw [h]
  exact ⟨by omega, by omega⟩
theorem w_le.I (h : w_I P S T) : w_le 0 0 S T := w_le.of (by rw [h.2.2.2.2.2.1]) (Nat.le_of_eq h.1) (Nat.le_of_eq h.2.1)
theorem w_le.O (h : w_O a S T) : w_le 0 0 S T := ⟨Nat.le_of_eq h.2.2.2.2.2.2.1, Nat.le_of_eq h.2.2.2.2.2.2.2⟩
theorem w_le.H (h : w_H S T) : w_le 0 0 S T := ⟨Nat.le_of_eq h.2.2.2.2.2.2.1, Nat.le_of_eq h.2.2.2.2.2.2.2⟩
theorem w_le.new {kd l sl : Nat} (hn : 151 < am_n S) : w_le 1 sl S (am_new S kd l sl) := w_le.of (by funext i; rw [x_r_N, if_neg (by omega)]) (by rw [x_n_N]; omega) (by rw [x_z_N]; omega)
theorem s_tc.eq : s_eq R (s_tc R) := fun j hj => if_pos hj
theorem s_rec_139 : s_rec M 139 = M 139 := by
  unfold s_rec
  rw [s_up_n (by omega), s_up_n (by omega)]
theorem s_rec_n (h1 : i ≠ 138) (h2 : i ≠ 143) : s_rec M i = M i := by
  unfold s_rec
  rw [s_up_n h1, s_up_n h2]
theorem s_rec_8 (h1 : i ≠ 5) : s_rec M 138 i = M 138 i := by
  unfold s_rec
  rw [s_up_s, s_up_n h1]
theorem s_rec_5 : s_rec M 138 5 = nI (s_hc (s_n (M 138 5)) + 1) := by
  unfold s_rec
  rw [s_up_s, s_up_s]
theorem s_rec_h : s_rec M 143 = s_rec3 M := by
  unfold s_rec
  rw [s_up_n (by omega), s_up_s]
theorem s_rec_new (hc : s_n (M 138 5) ≤ 10) : w_hr (s_rec M) (s_hc (s_n (M 138 5))) = s_tc (M 139) := by
  funext j
  unfold w_hr s_tc
  rw [s_rec_h]
  by_cases hj : j < 3934
  · rw [if_pos hj, if_pos hj]
    unfold s_rec3 s_hc
    by_cases e : s_n (M 138 5) = 10
    · rw [if_pos e, if_pos e, if_neg (by omega), if_pos (by omega), show 3934 * 9 + j - 35406 = j by omega]
    · rw [if_neg e, if_neg e, if_pos (by omega), show 3934 * s_n (M 138 5) + j - 3934 * s_n (M 138 5) = j by omega]
  · rw [if_neg hj, if_neg hj]
theorem s_rec_old (hc : s_n (M 138 5) < 10) (hk : k < s_n (M 138 5)) : w_hr (s_rec M) k = w_hr M k := by
  funext j
  unfold w_hr
  rw [s_rec_h]
  by_cases hj : j < 3934
  · rw [if_pos hj, if_pos hj]
    unfold s_rec3
    rw [if_neg (by omega), if_neg (by omega)]
  · rw [if_neg hj, if_neg hj]
theorem s_rec_ten (hc : s_n (M 138 5) = 10) (hk : k < 9) : w_hr (s_rec M) k = w_hr M (k + 1) := by
  funext j
  unfold w_hr
  rw [s_rec_h]
  by_cases hj : j < 3934
  · rw [if_pos hj, if_pos hj]
    unfold s_rec3
    rw [if_pos hc, if_pos (by omega), show 3934 * k + j + 3934 = 3934 * (k + 1) + j by omega]
  · rw [if_neg hj, if_neg hj]
theorem y_rec (h : w_Ic S M) : ∃ S', fX3_remember w_N [.ref 127, .ref 101] S = some (.inl none, S') ∧ w_Ic S' (s_rec M) ∧ w_le 12 953 S S' ∧ w_kp S S' := by
  obtain ⟨⟨hC, hn, hs⟩, ⟨n1, n2, n3, n4⟩, ⟨c, o, ⟨c1, c2, c3, c4, c5⟩, hk, hm⟩, hsn, ⟨n, b1, b2, b3, b4⟩, ⟨⟨l, l1, l2, l3, l4⟩, x2⟩⟩ := h
  obtain ⟨S', b, f1, f2, f3, f4, f5, f6, f7, f8, f9, f10, f11, f12, f13, f14, f15⟩ := y_remember hC hs hn n1 n2.1.B c2 c4 c3 c5
  have hp : s_hp c o < 10 := Nat.mod_lt _ (by omega)
  have ec : s_n (M 138 5) = c := by rw [c1, w_snI (by omega)]
  have low : ∀ q, q < 152 → q ≠ 127 → q ≠ 128 → ¬ w_PH b q := fun q h1 h2 h3 h4 => by
    rcases h4 with h4 | h4 | h4 <;> omega
  have hi : ∀ q, q < 152 → q ≠ 127 → q ≠ 128 → am_i S' q = am_i S q := fun q h1 h2 h3 => f6.i (by omega) (low q h1 h2 h3)
  have hr : ∀ q, q < 152 → q ≠ 128 → am_r S' q = am_r S q := fun q h1 h3 => by
    by_cases e : q = 127
    · rw [e, f7]
    · exact f6.r (by omega) (low q h1 e h3)
  have r100 := hr 100 (by omega) (by omega)
  have hn2 := f6.1
  have Sp : w_Si S' (3 + s_hp c o) = some b := by rw [w_sh.ring hp, f8]
  have Sn : ∀ i, i ≠ 3 + s_hp c o → w_Si S' i = w_Si S i := fun i hi => by
    unfold w_Si
    rw [r100]
    by_cases h0 : i = 0
    · rw [if_pos h0, if_pos h0]
    · rw [if_neg h0, if_neg h0]
      by_cases h1 : i = 1
      · rw [if_pos h1, if_pos h1]
      · rw [if_neg h1, if_neg h1]
        by_cases h2 : i = 2
        · rw [if_pos h2, if_pos h2]
        · rw [if_neg h2, if_neg h2]
          by_cases h3 : i < 13
          · rw [if_pos h3, if_pos h3, f9 _ (by omega)]
          · rw [if_neg h3, if_neg h3]
  have bne : ∀ i b', i ≠ 3 + s_hp c o → w_Si S i = some b' → b' + 12 ≤ b ∨ b + 12 ≤ b' := fun i b' hi hb' => by
    rcases f12 with e | e
    · have hb := hs.1 (3 + s_hp c o) b (by rw [w_sh.ring hp]; exact e)
      refine w_sep (hs.1 i b' hb').1 hb.1 (fun e2 => hi ?_)
      exact hs.2.1 i _ b' hb' (by rw [w_sh.ring hp, e, e2])
    · have := (hs.1 i b' hb').2.1
      omega
  have nPH : ∀ i b', i ≠ 3 + s_hp c o → w_Si S i = some b' → ∀ q, b' ≤ q → q < b' + 12 → ¬ w_PH b q := fun i b' hi hb' q q1 q2 q3 => by
    have := bne i b' hi hb'
    have := hs.sit hb'
    rcases q3 with q3 | q3 | q3 <;> omega
  have sA : ∀ i b', w_Si S' i = some b' → w_A S' b' := fun i b' hib => by
    by_cases e : i = 3 + s_hp c o
    · rw [e, Sp] at hib
      cases hib
      exact f3
    · rw [Sn i e] at hib
      exact f6.A (hs.1 i b' hib).1 (hs.1 i b' hib).2.1 (nPH i b' e hib)
  have sR : ∀ i b' Q, i ≠ 3 + s_hp c o → w_Si S i = some b' → w_R S b' Q → w_R S' b' Q := fun i b' Q e hib hQ => f6.Rw hQ (hs.1 i b' hib).2.1 (nPH i b' e hib)
  have tP : ∀ t, am_r S 100 12 = some t → ¬ w_PH b t ∧ ¬ w_PH b (t + 1) := fun t ht => by
    obtain ⟨g1, g2, g3, g4, g5, g6⟩ := hs.2.2 t ht
    rcases f12 with e | e
    · have hb := hs.1 (3 + s_hp c o) b (by rw [w_sh.ring hp]; exact e)
      have k1 := w_sepK (q := t) hb.1 (by rw [g1]; omega) g2 (Or.inl rfl)
      have k2 := w_sepK (q := t + 1) hb.1 (by rw [g1]; omega) g2 (Or.inr rfl)
      constructor
      · rintro (h | h | h)
        · omega
        · omega
        · exact k1 h
      · rintro (h | h | h)
        · omega
        · omega
        · exact k2 h
    · constructor
      · rintro (h | h | h) <;> omega
      · rintro (h | h | h) <;> omega
  have tr : ∀ Q, w_tr S 126 Q → w_tr S' 126 Q := fun Q hQ u t hu ht => by
    rw [hi 126 (by omega) (by omega) (by omega)]
    exact hQ u t hu ht
  refine ⟨S', f1, ⟨⟨hC.fr (fun b hb => ⟨f6.k (by omega), f6.l (by omega)⟩) (fun b j hb h1 h2 h3 h4 h5 => by rw [hr b (by omega) h2]), by omega, ⟨fun i b' hib => ⟨sA i b' hib, ?_⟩, fun i j b' h1 h2 => ?_, fun t ht => ?_⟩⟩, ?_, ?_, ?_, ?_, ?_⟩, w_le.of (hr 130 (by omega) (by omega)) f14 f15, w_kp.of f6 hn (fun b h1 h2 => low b (by omega) (by omega) (by omega))⟩
  · by_cases e : i = 3 + s_hp c o
    · rw [e, Sp] at hib
      cases hib
      exact ⟨f11, Or.inr f10⟩
    · rw [Sn i e] at hib
      exact ⟨by have := (hs.1 i b' hib).2.1; omega, (hs.1 i b' hib).2.2⟩
  · by_cases e : i = 3 + s_hp c o
    · by_cases e2 : j = 3 + s_hp c o
      · omega
      · rw [e, Sp] at h1
        cases h1
        rw [Sn j e2] at h2
        have := bne j b e2 h2
        omega
    · by_cases e2 : j = 3 + s_hp c o
      · rw [e2, Sp] at h2
        cases h2
        rw [Sn i e] at h1
        have := bne i b e h1
        omega
      · rw [Sn i e] at h1
        rw [Sn j e2] at h2
        exact hs.2.1 i j b' h1 h2
  · rw [r100] at ht
    obtain ⟨g1, g2, g3, g4, g5, g6⟩ := hs.2.2 t ht
    exact ⟨by rw [f6.k (by omega)]; exact g1, by rw [f6.k (by omega)]; exact g2, by rw [f6.l (by omega)]; exact g3, by rw [f6.r (by omega) (tP t ht).1]; exact g4, g5, by omega⟩
  · rw [show w_In S' (s_rec M) = (w_R S' 101 (s_rec M 139) ∧ s_W (s_rec M 139) ∧ w_T S' (s_rec M 139) ∧ w_tr S' 126 (s_rec M 139)) from rfl, s_rec_139]
    refine ⟨sR 0 101 _ (by omega) rfl n1, n2, n3.fr hn f6 (hr 130 (by omega) (by omega)) (fun q hq hq2 => ?_), tr _ n4⟩
    have hq' := hq
    obtain ⟨t, D, ht, hD, e⟩ := hq
    have hd := (n3.1 t D ht hD).1
    rcases hq2 with h | h | h
    · omega
    · omega
    · rcases f12 with e2 | e2
      · exact w_sepT (hs.1 (3 + s_hp c o) b (by rw [w_sh.ring hp]; exact e2)).1 n3 hq' h
      · omega
  · have hkc : s_hc c < 10 := by
      unfold s_hc
      split <;> omega
    have hold : ∀ k b', k ≠ s_hp c o → k < 10 → am_r S 128 k = some b' → ∀ Q, w_R S b' Q → am_r S' 128 k = some b' ∧ w_R S' b' Q := fun k b' h1 h2 h3 Q hQ => ⟨by rw [f9 k h1]; exact h3, sR (3 + k) b' Q (by omega) (by rw [w_sh.ring h2]; exact h3) hQ⟩
    have hnew := s_rec_new (M := M) (by rw [ec]; exact c4)
    rw [ec] at hnew
    have hoo : s_ho c o < 10 := by
      unfold s_ho
      split
      · exact Nat.mod_lt _ (by omega)
      · exact c5
    refine ⟨s_hc c + 1, s_ho c o, ⟨by rw [s_rec_5, ec], f4, f5, by omega, hoo⟩, fun k hk2 => ?_, fun k hk2 => ?_⟩
    · rw [s_rec_139]
      by_cases e : k = s_hc c
      · subst e
        refine ⟨b, f8, ?_⟩
        rw [hnew]
        exact ⟨f2.eq n2 s_tc.eq, n2.eq s_tc.eq, (tr _ n4).eq n2 s_tc.eq, s_tc.eq 2 (by omega), by rw [s_tc.eq 5 (by omega)]; exact Nat.le_refl _⟩
      · by_cases e10 : c = 10
        · have e9 : s_hc c = 9 := if_pos e10
          have eo : s_ho c o = (o + 1) % 10 := if_pos e10
          have es : (s_ho c o + k) % 10 = (o + (k + 1)) % 10 := by omega
          obtain ⟨b', g1, g2, g3, g4, g5, g6⟩ := hk (k + 1) (by omega)
          have hne : (o + (k + 1)) % 10 ≠ s_hp c o := by
            show (o + (k + 1)) % 10 ≠ (s_ho c o + s_hc c) % 10
            rw [e9, eo]
            omega
          have := hold _ b' hne (Nat.mod_lt _ (by omega)) g1 _ g2
          rw [s_rec_ten (by rw [ec]; exact e10) (by omega), es]
          exact ⟨b', this.1, this.2, g3, tr _ g4, g5, g6⟩
        · have e9 : s_hc c = c := if_neg e10
          have eo : s_ho c o = o := if_neg e10
          obtain ⟨b', g1, g2, g3, g4, g5, g6⟩ := hk k (by omega)
          have hne : (o + k) % 10 ≠ s_hp c o := by
            show (o + k) % 10 ≠ (s_ho c o + s_hc c) % 10
            rw [e9, eo]
            omega
          have := hold _ b' hne (Nat.mod_lt _ (by omega)) g1 _ g2
          rw [s_rec_old (by omega) (by omega), eo]
          exact ⟨b', this.1, this.2, g3, tr _ g4, g5, g6⟩
    · by_cases e10 : c = 10
      · have e9 : s_hc c = 9 := if_pos e10
        rw [e9] at hk2 hnew
        rw [s_rec_ten (by rw [ec]; exact e10) (by omega)]
        by_cases e : k + 1 = 9
        · rw [e, hnew, s_tc.eq 5 (by omega)]
          obtain ⟨b', g1, g2, g3, g4, g5, g6⟩ := hk 9 (by omega)
          exact g6
        · rw [s_rec_ten (by rw [ec]; exact e10) (by omega)]
          exact hm (k + 1) (by omega)
      · have e9 : s_hc c = c := if_neg e10
        rw [e9] at hk2 hnew
        rw [s_rec_old (by omega) (by omega)]
        by_cases e : k + 1 = c
        · rw [e, hnew, s_tc.eq 5 (by omega)]
          obtain ⟨b', g1, g2, g3, g4, g5, g6⟩ := hk k (by omega)
          exact g6
        · rw [s_rec_old (by omega) (by omega)]
          exact hm k (by omega)
  · rcases hsn with q | ⟨q, bs, t, g1, g2, g3, g4, g5⟩
    · exact Or.inl ⟨by rw [s_rec_8 (by omega)]; exact q.1, by rw [hi 100 (by omega) (by omega) (by omega)]; exact q.2⟩
    · refine Or.inr ⟨⟨by rw [s_rec_8 (by omega)]; exact q.1, by rw [hi 100 (by omega) (by omega) (by omega)]; exact q.2⟩, bs, t, by rw [r100]; exact g1, by rw [r100]; exact g2, ?_⟩
      rw [s_rec_n (by omega) (by omega)]
      have := (hs.2.2 t g2).2.2.2.2.2
      exact ⟨sR 2 bs _ (by omega) g1 g3, g4, fun u t' hu ht => by rw [f6.i (by omega) (tP t g2).2]; exact g5 u t' hu ht⟩
  · refine ⟨n, b1, by rw [s_rec_8 (by omega)]; exact b2, by rw [hi 100 (by omega) (by omega) (by omega)]; exact b3, fun i hin => ?_⟩
    rw [hi 133 (by omega) (by omega) (by omega), s_rec_n (by omega) (by omega)]
    exact b4 i hin
  · refine ⟨⟨l, l1, by rw [s_rec_8 (by omega)]; exact l2, by rw [hi 100 (by omega) (by omega) (by omega)]; exact l3, fun i hin => ?_⟩, ?_⟩
    · rw [hi 137 (by omega) (by omega) (by omega), s_rec_n (by omega) (by omega)]
      exact l4 i hin
    · rw [hi 100 (by omega) (by omega) (by omega), s_rec_8 (by omega)]
      exact x2
end I2
