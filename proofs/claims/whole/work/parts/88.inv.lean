/-! WHAT HOLDS BETWEEN CALLS: the class's state against the reference's numbers M (M a: the row at the place a) -/
/-- all that holds of a row that is a situation -/
def s_W (R : Nat → Int32) : Prop := s_V R ∧ s_pr R ∧ s_Ev R
def s_eq (R Q : Nat → Int32) : Prop := ∀ j, j < 3934 → Q j = R j
def w_hr (M : Nat → Nat → Int32) (k : Nat) : Nat → Int32 := fun j => if j < 3934 then M 143 (3934 * k + j) else 0
def w_Ih (S : am_S) (M : Nat → Nat → Int32) : Prop := ∃ c o, (M 138 5 = nI c ∧ am_i S 127 2 = nI c ∧ am_i S 127 1 = nI o ∧ c ≤ 10 ∧ o < 10) ∧ (∀ k, k < c → ∃ b, am_r S 128 ((o + k) % 10) = some b ∧ w_R S b (w_hr M k) ∧ s_W (w_hr M k) ∧ w_tr S 126 (w_hr M k) ∧ w_hr M k 2 = M 139 2 ∧ s_n (w_hr M k 5) ≤ s_n (M 139 5)) ∧ ∀ k, k + 1 < c → s_n (w_hr M k 5) ≤ s_n (w_hr M (k + 1) 5)
def w_Is (S : am_S) (M : Nat → Nat → Int32) : Prop := (M 138 7 = nI 0 ∧ am_i S 100 13 = nI 0) ∨ (M 138 7 = nI 1 ∧ am_i S 100 13 = nI 1) ∧ ∃ b t, am_r S 100 11 = some b ∧ am_r S 100 12 = some t ∧ w_R S b (M 142) ∧ s_W (M 142) ∧ w_tr S (t + 1) (M 142)
def w_Ib (S : am_S) (M : Nat → Nat → Int32) : Prop := ∃ n, n ≤ 600 ∧ M 138 13 = nI n ∧ am_i S 100 14 = nI n ∧ ∀ i, i < n → am_i S 133 i = M 147 i ∧ ∃ v, v < 256 ∧ M 147 i = nI v
def w_Ix (S : am_S) (M : Nat → Nat → Int32) : Prop := (∃ l, l ≤ 12 ∧ M 138 11 = nI l ∧ am_i S 100 16 = nI l ∧ ∀ i, i < l → am_i S 137 i = M 146 i) ∧ am_i S 100 15 = M 138 20
def w_In (S : am_S) (M : Nat → Nat → Int32) : Prop := w_R S 101 (M 139) ∧ s_W (M 139) ∧ w_T S (M 139) ∧ w_tr S 126 (M 139)
def w_Ic (S : am_S) (M : Nat → Nat → Int32) : Prop := (w_C S ∧ 151 < am_n S ∧ w_sh S) ∧ w_In S M ∧ w_Ih S M ∧ w_Is S M ∧ w_Ib S M ∧ w_Ix S M
section I1
variable {S S' T : am_S} {a b c o p q i j k m n u t D : Nat} {P : Nat → Prop} {R Q : Nat → Int32} {M M' : Nat → Nat → Int32}
theorem s_eq.rf : s_eq R R := fun _ _ => rfl
theorem s_eq.sy (h : s_eq R Q) : s_eq Q R := fun j hj => (h j hj).symm
theorem s_W.eq (h : s_W R) (e : s_eq R Q) : s_W Q := by
  obtain ⟨hV, hp, hE⟩ := h
  have b2 := hV.B.2.1.2
  have b4 := hV.B.2.2.2.1.2
  have b7 := hV.B.2.2.2.2.1.2
  refine ⟨hV.cong (fun j hj => e j (by omega)), ⟨by rw [e 5 (by omega)]; exact hp.1, fun u hu => ?_⟩, hE.cong b7 (e 7 (by omega)) (e 4 (by omega)) (fun j h1 h2 => e j (by omega)) (fun o ho => e _ (by omega))⟩
  have h1 := hp.1
  rw [e 2 (by omega)] at hu
  rw [e 5 (by omega), e _ (by omega), e (12 + 4 * u + 1) (by omega), e (12 + 4 * u + 0) (by omega)]
  exact hp.2 u hu
theorem w_R.eq (h : w_R S a R) (hW : s_W R) (e : s_eq R Q) : w_R S a Q := by
  have V := (hW.eq e).1
  exact h.congR ⟨V.B.2.1.2, V.B.2.2.1.2, V.B.2.2.2.1.2, V.B.2.2.2.2.1.2, V.B.2.2.2.2.2.1.2⟩ (fun j hj => e j (by omega))
theorem w_tr.eq (h : w_tr S p R) (hW : s_W R) (e : s_eq R Q) : w_tr S p Q := by
  intro u t hu ht
  have b2 := hW.1.B.2.1.2
  have b5 := hW.2.1.1
  rw [e 2 (by omega)] at hu
  rw [e 5 (by omega)] at ht
  rw [e _ (by omega)]
  exact h u t hu ht
theorem w_T.eq (h : w_T S R) (hW : s_W R) (e : s_eq R Q) : w_T S Q := s_wl.T (fun j hj => e j (by omega)) (s_BWH hW.1.B.WH) h
/-- the reference's numbers that matter -/
def w_Me (M M' : Nat → Nat → Int32) : Prop := s_eq (M 139) (M' 139) ∧ s_eq (M 142) (M' 142) ∧ (∀ j, j < 39340 → M' 143 j = M 143 j) ∧ (∀ j, j < 600 → M' 147 j = M 147 j) ∧ (∀ j, j < 12 → M' 146 j = M 146 j) ∧ M' 138 5 = M 138 5 ∧ M' 138 7 = M 138 7 ∧ M' 138 13 = M 138 13 ∧ M' 138 11 = M 138 11 ∧ M' 138 20 = M 138 20
theorem w_Me.rf : w_Me M M := ⟨s_eq.rf, s_eq.rf, fun _ _ => rfl, fun _ _ => rfl, fun _ _ => rfl, rfl, rfl, rfl, rfl, rfl⟩
theorem w_Me.hr (h : w_Me M M') (hk : k < 10) : w_hr M' k = w_hr M k := by
  funext j
  unfold w_hr
  by_cases hj : j < 3934
  · rw [if_pos hj, if_pos hj, h.2.2.1 _ (by omega)]
  · rw [if_neg hj, if_neg hj]
theorem w_Ic.me (h : w_Ic S M) (e : w_Me M M') : w_Ic S M' := by
  obtain ⟨h0, ⟨n1, n2, n3, n4⟩, ⟨c, o, ⟨c1, c2, c3, c4, c5⟩, hk, hm⟩, hs, ⟨n, b1, b2, b3, b4⟩, ⟨⟨l, l1, l2, l3, l4⟩, x2⟩⟩ := h
  have e' := e
  obtain ⟨e1, e2, e3, e4, e5, e6, e7, e8, e9, e10⟩ := e
  refine ⟨h0, ⟨n1.eq n2 e1, n2.eq e1, n3.eq n2 e1, n4.eq n2 e1⟩, ⟨c, o, ⟨by rw [e6]; exact c1, c2, c3, c4, c5⟩, fun k hk2 => ?_, fun k hk2 => ?_⟩, ?_, ⟨n, b1, by rw [e8]; exact b2, b3, fun i hi => ?_⟩, ⟨⟨l, l1, by rw [e9]; exact l2, l3, fun i hi => ?_⟩, by rw [e10]; exact x2⟩⟩
  · rw [e'.hr (by omega), e1 2 (by omega), e1 5 (by omega)]
    exact hk k hk2
  · rw [e'.hr (by omega), e'.hr (by omega)]
    exact hm k hk2
  · rcases hs with h | ⟨h, b, t, g1, g2, g3, g4, g5⟩
    · exact Or.inl ⟨by rw [e7]; exact h.1, h.2⟩
    · exact Or.inr ⟨⟨by rw [e7]; exact h.1, h.2⟩, b, t, g1, g2, g3.eq g4 e2, g4.eq e2, g5.eq g4 e2⟩
  · rw [e4 i (by omega)]
    exact b4 i hi
  · rw [e5 i (by omega)]
    exact l4 i hi
theorem w_O.F {S2 : am_S} (h : w_O a S S2) : w_F (fun b => a ≤ b ∧ b < a + 12 ∨ b = 130 ∨ b = 131 ∨ w_inT S b) S S2 := by
  rcases w_F.O h with q | q
  · exact q
  · obtain ⟨⟨a1, -⟩, -, -, -, -, -, a7, a8⟩ := h
    omega
/-- nothing that the class knows is touched, but the ways and the trial -/
abbrev w_PI (S : am_S) (b : Nat) : Prop := 138 ≤ b ∧ b ≤ 151 ∨ 113 ≤ b ∧ b < 125 ∨ b = 130 ∨ b = 131 ∨ w_inT S b
theorem w_sh.sit (h : w_sh S) (hi : w_Si S i = some b) : b = 101 ∨ b = 113 ∨ 151 < b := by
  rcases (h.1 i b hi).2.2 with q | q
  · unfold w_Si at hi
    rcases (show i = 0 ∨ i = 1 by omega) with rfl | rfl
    · exact Or.inl (by cases hi; rfl)
    · exact Or.inr (Or.inl (by cases hi; rfl))
  · exact Or.inr (Or.inr q)
theorem w_sh.ring (h : k < 10) : w_Si S (3 + k) = am_r S 128 k := by
  unfold w_Si
  rw [if_neg (by omega), if_neg (by omega), if_neg (by omega), if_pos (by omega), Nat.add_sub_cancel_left]
theorem w_PI_sit (hs : w_sh S) (hT : w_T S R) (hi : w_Si S i = some b) (h1 : i ≠ 1) : ∀ q, b ≤ q → q < b + 12 → ¬ w_PI S q := by
  intro q q1 q2 c
  have hA := (hs.1 i b hi).1
  have h113 := hs.2.1 i 1 113
  have ne : b ≠ 113 := fun e => h1 (hs.2.1 i 1 113 (by rw [← e]; exact hi) rfl)
  rcases hs.sit hi with e | e | e
  · rcases c with c | c | c | c | c
    · omega
    · omega
    · omega
    · omega
    · exact w_sepT hA hT c ⟨q1, q2⟩
  · exact ne e
  · rcases c with c | c | c | c | c
    · omega
    · omega
    · omega
    · omega
    · exact w_sepT hA hT c ⟨q1, q2⟩
theorem w_PI_low (hT : w_T S R) (h : w_PI S q) (hq : q < 152) : 138 ≤ q ∧ q ≤ 151 ∨ 113 ≤ q ∧ q < 125 ∨ q = 130 ∨ q = 131 := by
  rcases h with c | c | c | c | c
  · exact Or.inl c
  · exact Or.inr (Or.inl c)
  · exact Or.inr (Or.inr (Or.inl c))
  · exact Or.inr (Or.inr (Or.inr c))
  · obtain ⟨t, D, ht, hD, e⟩ := c
    have := (hT.1 t D ht hD).1.1
    omega
theorem w_PI_trail (hs : w_sh S) (hT : w_T S R) (ht : am_r S 100 12 = some t) (h : w_PI S q) : q ≠ t ∧ q ≠ t + 1 := by
  obtain ⟨g1, g2, g3, g4, g5, g6⟩ := hs.2.2 t ht
  rcases h with c | c | c | c | ⟨t', D, ht', hD, e⟩
  · omega
  · omega
  · omega
  · omega
  · have hd := (hT.1 t' D ht' hD).2.1
    constructor
    · intro e2
      subst e2
      rcases e with e | e
      · rw [← e] at hd
        have := hd.1
        omega
      · have := hd.2.2.1
        rw [← e] at this
        omega
    · intro e2
      rcases e with e | e
      · have := hd.1
        rw [← e, e2] at this
        omega
      · have e3 : t = D := by omega
        have := hd.1
        rw [← e3] at this
        omega
theorem w_Ic.fr (h : w_Ic S M) (hF : w_F (w_PI S) S S') (hA : w_A S' 113) (hT : w_T S' (M 139)) : w_Ic S' M := by
  obtain ⟨⟨hC, hn, hs⟩, ⟨n1, n2, n3, n4⟩, ⟨c, o, ⟨c1, c2, c3, c4, c5⟩, hk, hm⟩, hsn, ⟨n, b1, b2, b3, b4⟩, ⟨⟨l, l1, l2, l3, l4⟩, x2⟩⟩ := h
  have low : ∀ b, b < 152 → ¬ (138 ≤ b ∧ b ≤ 151 ∨ 113 ≤ b ∧ b < 125 ∨ b = 130 ∨ b = 131) → ¬ w_PI S b := fun b hb h1 h2 => h1 (w_PI_low n3 h2 hb)
  have hi : ∀ b, b < 152 → ¬ (138 ≤ b ∧ b ≤ 151 ∨ 113 ≤ b ∧ b < 125 ∨ b = 130 ∨ b = 131) → am_i S' b = am_i S b := fun b hb h1 => hF.i (by omega) (low b hb h1)
  have hr : ∀ b, b < 152 → ¬ (138 ≤ b ∧ b ≤ 151 ∨ 113 ≤ b ∧ b < 125 ∨ b = 130 ∨ b = 131) → am_r S' b = am_r S b := fun b hb h1 => hF.r (by omega) (low b hb h1)
  have r100 := hr 100 (by omega) (by omega)
  have r128 := hr 128 (by omega) (by omega)
  have eS : ∀ i, w_Si S' i = w_Si S i := fun i => by
    unfold w_Si
    rw [r100, r128]
  have hn2 := hF.1
  have sA : ∀ i b, w_Si S i = some b → w_A S' b := fun i b hib => by
    by_cases e : i = 1
    · subst e
      have : b = 113 := by cases hib; rfl
      rw [this]
      exact hA
    · exact hF.A (hs.1 i b hib).1 (hs.1 i b hib).2.1 (w_PI_sit hs n3 hib e)
  have sR : ∀ i b Q, w_Si S i = some b → i ≠ 1 → w_R S b Q → w_R S' b Q := fun i b Q hib e hQ => hF.Rw hQ (hs.1 i b hib).2.1 (w_PI_sit hs n3 hib e)
  have tr : ∀ Q, w_tr S 126 Q → w_tr S' 126 Q := fun Q hQ u t hu ht => by
    rw [hi 126 (by omega) (by omega)]
    exact hQ u t hu ht
  refine ⟨⟨hC.fr (fun b hb => ⟨hF.k (by omega), hF.l (by omega)⟩) (fun b j hb h1 h2 h3 h4 h5 => by rw [hr b (by omega) (by omega)]), by omega, ⟨fun i b hib => ?_, fun i j b h1 h2 => ?_, fun t ht => ?_⟩⟩, ⟨sR 0 101 _ rfl (by omega) n1, n2, hT, tr _ n4⟩, ⟨c, o, ⟨c1, by rw [hi 127 (by omega) (by omega)]; exact c2, by rw [hi 127 (by omega) (by omega)]; exact c3, c4, c5⟩, fun k hkc => ?_, hm⟩, ?_, ⟨n, b1, b2, by rw [hi 100 (by omega) (by omega)]; exact b3, fun i hin => by rw [hi 133 (by omega) (by omega)]; exact b4 i hin⟩, ⟨⟨l, l1, l2, by rw [hi 100 (by omega) (by omega)]; exact l3, fun i hin => by rw [hi 137 (by omega) (by omega)]; exact l4 i hin⟩, by rw [hi 100 (by omega) (by omega)]; exact x2⟩⟩
  · rw [eS] at hib
    obtain ⟨g1, g2, g3⟩ := hs.1 i b hib
    exact ⟨sA i b hib, by omega, g3⟩
  · rw [eS] at h1 h2
    exact hs.2.1 i j b h1 h2
  · rw [r100] at ht
    obtain ⟨g1, g2, g3, g4, g5, g6⟩ := hs.2.2 t ht
    have p1 : ¬ w_PI S t := fun q => (w_PI_trail hs n3 ht q).1 rfl
    exact ⟨by rw [hF.k (by omega)]; exact g1, by rw [hF.k (by omega)]; exact g2, by rw [hF.l (by omega)]; exact g3, by rw [hF.r (by omega) p1]; exact g4, g5, by omega⟩
  · obtain ⟨b, g1, g2, g3, g4, g5, g6⟩ := hk k hkc
    have hk10 : (o + k) % 10 < 10 := Nat.mod_lt _ (by omega)
    exact ⟨b, by rw [r128]; exact g1, sR _ b _ (by rw [w_sh.ring hk10]; exact g1) (by omega) g2, g3, tr _ g4, g5, g6⟩
  · rcases hsn with q | ⟨q, b, t, g1, g2, g3, g4, g5⟩
    · exact Or.inl ⟨q.1, by rw [hi 100 (by omega) (by omega)]; exact q.2⟩
    · have p1 : ¬ w_PI S (t + 1) := fun q => (w_PI_trail hs n3 g2 q).2 rfl
      have := (hs.2.2 t g2).2.2.2.2.2
      exact Or.inr ⟨⟨q.1, by rw [hi 100 (by omega) (by omega)]; exact q.2⟩, b, t, by rw [r100]; exact g1, by rw [r100]; exact g2, sR 2 b _ g1 (by omega) g3, g4, fun u t' hu ht => by rw [hF.i (by omega) p1]; exact g5 u t' hu ht⟩
end I1
