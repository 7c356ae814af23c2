/-! WAYS: the board as a row of numbers R (the reference's order of places), cells as 12 y + x -/
abbrev s_n (x : Int32) : Nat := x.toNatClampNeg
abbrev s_w (R : Nat → Int32) : Nat := s_n (R 0)
abbrev s_h (R : Nat → Int32) : Nat := s_n (R 1)
abbrev s_ok (R : Nat → Int32) (c : Nat) : Prop := c % 12 < s_w R ∧ c / 12 < s_h R
abbrev s_fr (R : Nat → Int32) (c : Nat) : Prop := s_ok R c ∧ R (784 + c) = 0
def s_nb (R : Nat → Int32) (c d : Nat) : Option Nat :=
  if d = 0 then (if 0 < c / 12 ∧ s_fr R (c - 12) then some (c - 12) else none)
  else if d = 1 then (if c % 12 + 1 < s_w R ∧ s_fr R (c + 1) then some (c + 1) else none)
  else if d = 2 then (if s_fr R (c + 12) then some (c + 12) else none)
  else (if 0 < c % 12 ∧ s_fr R (c - 1) then some (c - 1) else none)
abbrev s_Q : Type := (Nat → Int32) × (Nat → Int32) × Nat
def s_sp1 (R : Nat → Int32) (c d : Nat) (q : s_Q) : s_Q := match s_nb R c d with
  | some b => if q.1 b = 1000 then (va_up q.1 b (q.1 c + 1), va_up q.2.1 q.2.2 (nI b), q.2.2 + 1) else q
  | none => q
def s_sp (R : Nat → Int32) (c : Nat) : Nat → s_Q → s_Q
  | 0, q => q
  | d + 1, q => s_sp1 R c d (s_sp R c d q)
def s_bfs (R : Nat → Int32) : Nat → Nat → s_Q → s_Q
  | 0, _, q => q
  | f + 1, k, q => if k < q.2.2 then s_bfs R f (k + 1) (s_sp R (s_n (q.2.1 k)) 4 q) else q
def s_lay0 (R : Nat → Int32) (t : Nat) : s_Q := if s_fr R t then (va_up (fun _ => 1000) t 0, va_up (fun _ => 0) 0 (nI t), 1) else (fun _ => 1000, fun _ => 0, 0)
def s_lay (R : Nat → Int32) (t : Nat) : s_Q := s_bfs R 145 0 (s_lay0 R t)
def s_far (R : Nat → Int32) (t : Nat) : Nat → Int32 := (s_lay R t).1
theorem s_up_s {α : Type} {f : Nat → α} {j : Nat} {v : α} : va_up f j v j = v := va_up_self _ _ _
theorem s_up_n {α : Type} {f : Nat → α} {j i : Nat} {v : α} (h : i ≠ j) : va_up f j v i = f i := va_up_ne _ _ h
theorem s_up {α : Type} {f : Nat → α} {j i : Nat} {v : α} : va_up f j v i = if i = j then v else f i := by
  by_cases h : i = j
  · subst h; rw [s_up_s, if_pos rfl]
  · rw [s_up_n h, if_neg h]
/-- the board's size -/
abbrev s_B (R : Nat → Int32) : Prop := s_w R ≤ 12 ∧ s_h R ≤ 12
theorem s_ok_lt {R : Nat → Int32} (hB : s_B R) {c : Nat} (h : s_ok R c) : c < 144 := by
  obtain ⟨h1, h2⟩ := h
  obtain ⟨b1, b2⟩ := hB
  omega
theorem s_nb_fr {R : Nat → Int32} {c d b : Nat} (h : s_nb R c d = some b) : s_fr R b := by
  unfold s_nb at h
  split at h
  · split at h
    · next hc => cases h; exact hc.2
    · cases h
  · split at h
    · split at h
      · next hc => cases h; exact hc.2
      · cases h
    · split at h
      · split at h
        · next hc => cases h; exact hc
        · cases h
      · split at h
        · next hc => cases h; exact hc.2
        · cases h
/-- ways lead back -/
theorem s_nb_sym {R : Nat → Int32} (hB : s_B R) {c d b : Nat} (hc : s_fr R c) (hd : d < 4) (h : s_nb R c d = some b) : ∃ d', d' < 4 ∧ s_nb R b d' = some c := by
  have hb := s_nb_fr h
  obtain ⟨b1, b2⟩ := hB
  obtain ⟨⟨c1, c2⟩, c3⟩ := hc
  obtain ⟨⟨e1, e2⟩, e3⟩ := hb
  unfold s_nb at h
  rcases (show d = 0 ∨ d = 1 ∨ d = 2 ∨ d = 3 by omega) with rfl | rfl | rfl | rfl
  · rw [if_pos rfl] at h
    split at h
    next hc =>
      cases h
      refine ⟨2, by omega, ?_⟩
      unfold s_nb
      rw [if_neg (by omega), if_neg (by omega), if_pos rfl, show c - 12 + 12 = c by omega, if_pos ⟨⟨c1, c2⟩, c3⟩]
    next => cases h
  · rw [if_neg (by omega), if_pos rfl] at h
    split at h
    next hc =>
      cases h
      refine ⟨3, by omega, ?_⟩
      unfold s_nb
      rw [if_neg (by omega), if_neg (by omega), if_neg (by omega), show c + 1 - 1 = c by omega, if_pos ⟨by omega, ⟨c1, c2⟩, c3⟩]
    next => cases h
  · rw [if_neg (by omega), if_neg (by omega), if_pos rfl] at h
    split at h
    next hc =>
      cases h
      refine ⟨0, by omega, ?_⟩
      unfold s_nb
      rw [if_pos rfl, show c + 12 - 12 = c by omega, if_pos ⟨by omega, ⟨c1, c2⟩, c3⟩]
    next => cases h
  · rw [if_neg (by omega), if_neg (by omega), if_neg (by omega)] at h
    split at h
    next hc =>
      cases h
      refine ⟨1, by omega, ?_⟩
      unfold s_nb
      rw [if_neg (by omega), if_pos rfl, show c - 1 + 1 = c by omega, if_pos ⟨by omega, ⟨c1, c2⟩, c3⟩]
    next => cases h
/-- what a search keeps: the queue holds just the cells that are reached, each once, free, in ascending distance at most its place -/
def s_J (R : Nat → Int32) (q : s_Q) : Prop :=
  (∀ j, j < q.2.2 → ∃ c, q.2.1 j = nI c ∧ c < 144 ∧ s_fr R c ∧ ∃ m, q.1 c = nI m ∧ m ≤ j) ∧
  (∀ i j c, i < j → j < q.2.2 → q.2.1 i = nI c → q.2.1 j ≠ nI c) ∧
  (∀ c, c < 144 → q.1 c ≠ 1000 → ∃ j, j < q.2.2 ∧ q.2.1 j = nI c)
theorem s_J.many {R : Nat → Int32} {q : s_Q} (h : s_J R q) : q.2.2 ≤ 144 := by
  refine fb_holes 144 q.2.2 (fun j => s_n (q.2.1 j)) (fun i hi => ?_) (fun i j hij hj e => ?_)
  · obtain ⟨c, h1, h2, -⟩ := h.1 i hi
    show s_n (q.2.1 i) < 144
    rw [h1]
    show (nI c).toNatClampNeg < 144
    rw [nI_clamp (by omega)]
    exact h2
  · obtain ⟨c, h1, h2, -⟩ := h.1 i (by omega)
    obtain ⟨c', h1', h2', -⟩ := h.1 j hj
    have e' : s_n (q.2.1 i) = s_n (q.2.1 j) := e
    rw [h1, h1'] at e'
    have e2 : (nI c).toNatClampNeg = (nI c').toNatClampNeg := e'
    rw [nI_clamp (by omega), nI_clamp (by omega)] at e2
    subst e2
    exact h.2.1 i j c hij hj h1 h1'
theorem s_thou {m : Nat} (h : m < 1000) : nI m ≠ 1000 := by
  intro e
  have := (nI_eq (a := m) (b := 1000) (by omega) (by omega)).mp e
  omega
/-- one direction -/
theorem s_J.sp1 {R : Nat → Int32} (hB : s_B R) {q : s_Q} {c d j0 m0 : Nat} (h : s_J R q) (hj : j0 < q.2.2) (hq : q.2.1 j0 = nI c) (hc : q.1 c = nI m0) (hm : m0 ≤ j0) :
    s_J R (s_sp1 R c d q) ∧ q.2.2 ≤ (s_sp1 R c d q).2.2 ∧ (∀ i, i < q.2.2 → (s_sp1 R c d q).2.1 i = q.2.1 i) ∧ (∀ b, q.1 b ≠ 1000 → (s_sp1 R c d q).1 b = q.1 b) ∧ (∀ b, s_nb R c d = some b → (s_sp1 R c d q).1 b ≠ 1000) := by
  have hmany := h.many
  unfold s_sp1
  cases hn : s_nb R c d with
  | none => exact ⟨h, Nat.le_refl _, fun _ _ => rfl, fun _ _ => rfl, fun b hb => by cases hb⟩
  | some b =>
    have hb := s_nb_fr hn
    have hb2 := s_ok_lt hB hb.1
    dsimp only
    split
    next hb0 =>
      have hnew : ∀ i, i < q.2.2 → q.2.1 i ≠ nI b := by
        intro i hi e
        obtain ⟨c', e1, e2, -, m, e3, e4⟩ := h.1 i hi
        rw [e1] at e
        have := (nI_eq (by omega) (by omega)).mp e
        subst this
        rw [e3] at hb0
        exact s_thou (by omega) hb0
      have hcb : c ≠ b := by
        intro e
        subst e
        exact hnew j0 hj hq
      have e9 : nI m0 + 1 = nI (m0 + 1) := nI_1 m0
      refine ⟨⟨?_, ?_, ?_⟩, Nat.le_succ _, ?_, ?_, ?_⟩
      · intro j hj9
        dsimp only at hj9 ⊢
        by_cases e : j = q.2.2
        · subst e
          refine ⟨b, s_up_s, hb2, hb, m0 + 1, ?_, by omega⟩
          rw [s_up_s, hc, e9]
        · obtain ⟨c', e1, e2, e3, m, e4, e5⟩ := h.1 j (by omega)
          refine ⟨c', by rw [s_up_n e]; exact e1, e2, e3, m, ?_, e5⟩
          rw [s_up_n]
          · exact e4
          · intro e6
            subst e6
            exact hnew j (by omega) e1
      · intro i j c' hij hj9
        dsimp only at hj9 ⊢
        rw [s_up_n (show i ≠ q.2.2 by omega)]
        intro e1
        by_cases e : j = q.2.2
        · subst e
          rw [s_up_s]
          intro e2
          rw [← e2] at e1
          exact hnew i (by omega) e1
        · rw [s_up_n e]
          exact h.2.1 i j c' hij (by omega) e1
      · intro c' hc'
        dsimp only
        intro e1
        by_cases e : c' = b
        · subst e
          exact ⟨q.2.2, Nat.lt_succ_self _, s_up_s⟩
        · rw [s_up_n e] at e1
          obtain ⟨j, g1, g2⟩ := h.2.2 c' hc' e1
          exact ⟨j, by omega, by rw [s_up_n (by omega)]; exact g2⟩
      · intro i hi
        exact s_up_n (by omega)
      · intro b' hb'
        refine s_up_n ?_
        intro e
        subst e
        exact hb' hb0
      · intro b' hb'
        cases hb'
        dsimp only
        rw [s_up_s, hc, e9]
        exact s_thou (by omega)
    next hb0 => exact ⟨h, Nat.le_refl _, fun _ _ => rfl, fun _ _ => rfl, fun b' hb' => by cases hb'; exact hb0⟩
theorem s_J.sp {R : Nat → Int32} (hB : s_B R) {q : s_Q} {c j0 m0 : Nat} (h : s_J R q) (hj : j0 < q.2.2) (hq : q.2.1 j0 = nI c) (hc : q.1 c = nI m0) (hm : m0 ≤ j0) : ∀ d,
    s_J R (s_sp R c d q) ∧ q.2.2 ≤ (s_sp R c d q).2.2 ∧ (∀ i, i < q.2.2 → (s_sp R c d q).2.1 i = q.2.1 i) ∧ (∀ b, q.1 b ≠ 1000 → (s_sp R c d q).1 b = q.1 b) ∧ (∀ d', d' < d → ∀ b, s_nb R c d' = some b → (s_sp R c d q).1 b ≠ 1000)
  | 0 => ⟨h, Nat.le_refl _, fun _ _ => rfl, fun _ _ => rfl, fun d' h' => absurd h' (Nat.not_lt_zero _)⟩
  | d + 1 => by
    have hmany := h.many
    obtain ⟨g1, g2, g3, g4, g5⟩ := s_J.sp hB h hj hq hc hm d
    obtain ⟨k1, k2, k3, k4, k5⟩ := s_J.sp1 (d := d) hB g1 (j0 := j0) (m0 := m0) (c := c) (by omega) (by rw [g3 _ hj]; exact hq) (by rw [g4 c (by rw [hc]; exact s_thou (by omega))]; exact hc) hm
    refine ⟨k1, Nat.le_trans g2 k2, fun i hi => ?_, fun b hb => ?_, fun d' hd' b hb => ?_⟩
    · show (s_sp1 R c d (s_sp R c d q)).2.1 i = _
      rw [k3 i (by omega), g3 i hi]
    · show (s_sp1 R c d (s_sp R c d q)).1 b = _
      rw [k4 b (by rw [g4 b hb]; exact hb), g4 b hb]
    · show (s_sp1 R c d (s_sp R c d q)).1 b ≠ _
      by_cases e : d' = d
      · subst e
        exact k5 b hb
      · have := g5 d' (by omega) b hb
        rw [k4 b this]
        exact this
/-- those whose ways have been looked at -/
def s_cl (R : Nat → Int32) (k : Nat) (q : s_Q) : Prop := ∀ i c, i < k → i < q.2.2 → q.2.1 i = nI c → c < 144 → ∀ d b, d < 4 → s_nb R c d = some b → q.1 b ≠ 1000
theorem s_bfs_ok {R : Nat → Int32} (hB : s_B R) : ∀ (f k : Nat) (q : s_Q), s_J R q → k ≤ q.2.2 → 144 < f + k → s_cl R k q → s_J R (s_bfs R f k q) ∧ s_cl R (s_bfs R f k q).2.2 (s_bfs R f k q) ∧ (∀ b, q.1 b ≠ 1000 → (s_bfs R f k q).1 b = q.1 b)
  | 0, k, q, h, hk, hf, hc => by
    have := h.many
    omega
  | f + 1, k, q, h, hk, hf, hc => by
    unfold s_bfs
    split
    next hlt =>
      obtain ⟨c, e1, e2, e3, m, e4, e5⟩ := h.1 k hlt
      have e6 : s_n (q.2.1 k) = c := by
        rw [e1]
        exact nI_clamp (by omega)
      rw [e6]
      obtain ⟨g1, g2, g3, g4, g5⟩ := s_J.sp hB h hlt e1 e4 e5 4
      have ih := s_bfs_ok hB f (k + 1) (s_sp R c 4 q) g1 (by omega) (by omega) (fun i c' hi hi2 hq hc' d b hd hb => by
        by_cases e : i = k
        · subst e
          rw [g3 _ hlt, e1] at hq
          have := (nI_eq (by omega) (by omega)).mp hq
          subst this
          exact g5 d hd b hb
        · have hi3 : i < k := by omega
          rw [g3 i (by omega)] at hq
          have := hc i c' hi3 (by omega) hq hc' d b hd hb
          rw [g4 b this]
          exact this)
      refine ⟨ih.1, ih.2.1, fun b hb => ?_⟩
      rw [ih.2.2 b (by rw [g4 b hb]; exact hb), g4 b hb]
    next hge =>
      have e : k = q.2.2 := by omega
      subst e
      exact ⟨h, hc, fun _ _ => rfl⟩
theorem s_lay0_J {R : Nat → Int32} (hB : s_B R) (t : Nat) : s_J R (s_lay0 R t) := by
  unfold s_lay0
  split
  next ht =>
    refine ⟨fun j hj => ?_, fun i j c hij hj => ?_, fun c hc h => ?_⟩
    · have e : j = 0 := by
        have : j < 1 := hj
        omega
      rw [e]
      refine ⟨t, (show va_up (fun _ => (0 : Int32)) 0 (nI t) 0 = nI t from va_up_self _ _ _), s_ok_lt hB ht.1, ht, 0, ?_, Nat.le_refl _⟩
      exact (show va_up (fun _ => (1000 : Int32)) t 0 t = 0 from va_up_self _ _ _).trans nI_0.symm
    · have : j < 1 := hj
      omega
    · by_cases e : c = t
      · subst e
        exact ⟨0, Nat.zero_lt_one, (show va_up (fun _ => (0 : Int32)) 0 (nI c) 0 = nI c from va_up_self _ _ _)⟩
      · exact absurd (show va_up (fun _ => (1000 : Int32)) t 0 c = 1000 from s_up_n e) h
  next =>
    refine ⟨fun j hj => absurd hj (Nat.not_lt_zero _), fun i j c hij hj => absurd hj (Nat.not_lt_zero _), fun c hc h => absurd rfl h⟩
/-- the distances: below a thousand where there is a way; neighbours of reached cells are reached -/
theorem s_far_ok {R : Nat → Int32} (hB : s_B R) (t : Nat) : (∀ c, c < 144 → s_far R t c = 1000 ∨ ∃ m, s_far R t c = nI m ∧ m < 144) ∧ (∀ c d b, c < 144 → d < 4 → s_fr R c → s_nb R c d = some b → s_far R t c = 1000 → s_far R t b = 1000) ∧ (∀ c, c < 144 → s_far R t c ≠ 1000 → s_fr R c) := by
  obtain ⟨h1, h2, -⟩ := s_bfs_ok hB 145 0 (s_lay0 R t) (s_lay0_J hB t) (Nat.zero_le _) (by omega) (fun i c hi => absurd hi (Nat.not_lt_zero _))
  have hm := h1.many
  refine ⟨fun c hc => ?_, fun c d b hc hd hfr hb h0 => ?_, fun c hc h => ?_⟩
  · by_cases e : s_far R t c = 1000
    · exact Or.inl e
    · obtain ⟨j, g1, g2⟩ := h1.2.2 c hc e
      obtain ⟨c', f1, f2, f3, m, f4, f5⟩ := h1.1 j g1
      rw [g2] at f1
      have := (nI_eq (by omega) (by omega)).mp f1
      subst this
      exact Or.inr ⟨m, f4, by have := hm; exact Nat.lt_of_le_of_lt f5 (Nat.lt_of_lt_of_le g1 hm)⟩
  · by_cases e : s_far R t b = 1000
    · exact e
    · have hbf := s_nb_fr hb
      have hb2 := s_ok_lt hB hbf.1
      obtain ⟨j, g1, g2⟩ := h1.2.2 b hb2 e
      obtain ⟨d', k1, k2⟩ := s_nb_sym hB hfr hd hb
      exact absurd h0 (h2 j b g1 g1 g2 hb2 d' c k1 k2)
  · obtain ⟨j, g1, g2⟩ := h1.2.2 c hc h
    obtain ⟨c', f1, f2, f3, -⟩ := h1.1 j g1
    rw [g2] at f1
    have := (nI_eq (by omega) (by omega)).mp f1
    subst this
    exact f3
