/-! TURNS: the reference's, as functions of its row -/
/-- the first neighbour that is nearer: direction and cell -/
def s_st (R F : Nat → Int32) (c : Nat) : Nat → Nat → Option (Nat × Nat)
  | 0, _ => none
  | k + 1, d => match s_nb R c d with
    | some b => if F b < F c then some (d, b) else s_st R F c k (d + 1)
    | none => s_st R F c k (d + 1)
abbrev s_ce (x y : Int32) : Nat := 12 * s_n y + s_n x
def s_become (R : Nat → Int32) (o : Nat) (s : Int32) : Nat → Int32 := s_bec R (s_n (R 7)) o s
def s_ob (R : Nat → Int32) (u : Int32) : Int32 := s_fst (fun o => R (64 + 10 * o + 0) = u ∧ R (64 + 10 * o + 3) = nI 1) (s_n (R 4)) 0
def s_arrive (R : Nat → Int32) (o : Nat) : Nat → Int32 :=
  let u := s_n (R (64 + 10 * o + 0))
  let R1 := va_up R (64 + 10 * o + 5) (R 5)
  if nI o < R (12 + 4 * u + 3) then s_become R1 o (nI 3)
  else va_up (s_become (if s_ob R (nI u) = -nI 1 then R1 else s_become R1 (s_n (s_ob R (nI u))) (nI 6)) o (nI 1)) (12 + 4 * u + 3) (nI o)
abbrev s_there (R : Nat → Int32) (o : Nat) : Prop := R (64 + 10 * o + 7) = R (12 + 4 * s_n (R (64 + 10 * o + 0)) + 0) ∧ R (64 + 10 * o + 8) = R (12 + 4 * s_n (R (64 + 10 * o + 0)) + 1)
/-- a messenger in the cell b, one step on -/
def s_at (R : Nat → Int32) (o b : Nat) : Nat → Int32 := va_up (va_up (va_up R (64 + 10 * o + 7) (nI (b % 12))) (64 + 10 * o + 8) (nI (b / 12))) (64 + 10 * o + 9) (R (64 + 10 * o + 9) + nI 1)
def s_ride1 (R : Nat → Int32) (o b : Nat) : Nat → Int32 :=
  let R1 := s_at R o b
  let w := s_watcher R1 (s_n (R1 3)) (nI (b % 12)) (nI (b / 12)) (s_n (R1 5))
  if w = -nI 1 then (if s_there R1 o then s_arrive R1 o else R1)
  else s_become (va_up R1 (36 + 7 * s_n w + 6) (R1 (36 + 7 * s_n w + 6) + nI 1)) o (nI 5)
def s_ride (R F : Nat → Int32) (o : Nat) : (Nat → Int32) × Int32 := match s_st R F (s_ce (R (64 + 10 * o + 7)) (R (64 + 10 * o + 8))) 4 0 with
  | none => (R, nI 0)
  | some (_, b) => (s_ride1 R o b, w_b (s_ride1 R o b (64 + 10 * o + 3) = nI 0))
def s_carry (R : Nat → Int32) (o : Nat) : Nat → Int32 :=
  if s_there R o then s_arrive R o
  else
    let F := s_far R (s_ce (R (12 + 4 * s_n (R (64 + 10 * o + 0)) + 0)) (R (12 + 4 * s_n (R (64 + 10 * o + 0)) + 1)))
    if (s_ride R F o).2 = nI 0 then (s_ride R F o).1 else (s_ride (s_ride R F o).1 F o).1
def s_sendG (p : Nat) (R : Nat → Int32) : Nat → Int32 := if R (464 + 4 * p + 3) = R 5 ∧ s_n (R 4) < 40 then s_disp R (s_n (R 4)) (R (464 + 4 * p + 0)) (R (464 + 4 * p + 1)) (R (464 + 4 * p + 2)) else R
def s_carryG (o : Nat) (R : Nat → Int32) : Nat → Int32 := if R (64 + 10 * o + 3) = nI 0 then s_carry R o else R
def s_lostG (o : Nat) (R : Nat → Int32) : Nat → Int32 := if R (64 + 10 * o + 3) = nI 0 ∧ R 9 ≤ R 5 - R (64 + 10 * o + 4) then s_become R o (nI 4) else R
abbrev s_inG (R : Nat → Int32) (u o : Nat) : Prop := R (12 + 4 * u + 0) = R (64 + 10 * o + 1) ∧ R (12 + 4 * u + 1) = R (64 + 10 * o + 2)
def s_walk (R : Nat → Int32) (u o : Nat) : Nat → Int32 := match s_st R (s_far R (s_ce (R (64 + 10 * o + 1)) (R (64 + 10 * o + 2)))) (s_ce (R (12 + 4 * u + 0)) (R (12 + 4 * u + 1))) 4 0 with
  | none => R
  | some (_, b) => va_up (va_up R (12 + 4 * u + 0) (nI (b % 12))) (12 + 4 * u + 1) (nI (b / 12))
def s_moveG (u : Nat) (R : Nat → Int32) : Nat → Int32 :=
  if s_ob R (nI u) = -nI 1 then R
  else
    let o := s_n (s_ob R (nI u))
    let R1 := if ¬ s_inG R u o ∧ s_n (R 5) % s_n (R (12 + 4 * u + 2)) = 0 then s_walk R u o else R
    if s_inG R1 u o then s_become R1 o (nI 2) else R1
def s_remG (u : Nat) (R : Nat → Int32) : Nat → Int32 := va_up R (928 + 501 * u + s_n (R 5)) (nI 100 * R (12 + 4 * u + 1) + R (12 + 4 * u + 0))
def s_rem (R : Nat → Int32) : Nat → Int32 := if s_n (R 5) ≤ 500 then s_it s_remG (s_n (R 2)) 0 R else R
def s_p1 (R : Nat → Int32) : Nat → Int32 := s_it s_sendG (s_n (R 8)) 0 R
def s_p2 (R : Nat → Int32) : Nat → Int32 := s_it s_carryG (s_n (R 4)) 0 R
def s_p3 (R : Nat → Int32) : Nat → Int32 := s_it s_lostG (s_n (R 4)) 0 R
def s_p4 (R : Nat → Int32) : Nat → Int32 := s_it s_moveG (s_n (R 2)) 0 R
def s_p5 (R : Nat → Int32) : Nat → Int32 := va_up R 5 (nI (s_n (R 5) + 1))
/-- a turn passes -/
def s_pass (R : Nat → Int32) : Nat → Int32 := s_rem (s_p5 (s_p4 (s_p3 (s_p2 (s_p1 R)))))
/-! WHAT HOLDS OF A ROW -/
abbrev s_nn (x : Int32) (b : Nat) : Prop := x = nI (s_n x) ∧ s_n x < b
/-- a position on the board -/
abbrev s_in (R : Nat → Int32) (x y : Int32) : Prop := s_nn x (s_w R) ∧ s_nn y (s_h R)
def s_wg (x : Int32) : Nat := if x = nI 0 then 0 else if x = nI 1 then 1 else 2
def s_VB (R : Nat → Int32) : Prop := (s_nn (R 0) 13 ∧ 3 ≤ s_n (R 0) ∧ s_nn (R 1) 13 ∧ 3 ≤ s_n (R 1)) ∧ s_nn (R 2) 7 ∧ s_nn (R 3) 5 ∧ s_nn (R 4) 41 ∧ s_nn (R 7) 81 ∧ s_nn (R 8) 21 ∧ s_nn (R 5) 1000 ∧ (s_nn (R 9) 31 ∧ 0 < s_n (R 9)) ∧ (s_in R (R 10) (R 11) ∧ R (784 + s_ce (R 10) (R 11)) = 0) ∧ ∀ c, c < 144 → R (784 + c) = 0 ∨ R (784 + c) = 1
def s_Vu (R : Nat → Int32) (u : Nat) : Prop := (s_in R (R (12 + 4 * u + 0)) (R (12 + 4 * u + 1)) ∧ R (784 + s_ce (R (12 + 4 * u + 0)) (R (12 + 4 * u + 1))) = 0) ∧ (s_nn (R (12 + 4 * u + 2)) 4 ∧ 0 < s_n (R (12 + 4 * u + 2))) ∧ (R (12 + 4 * u + 3) = -nI 1 ∨ s_nn (R (12 + 4 * u + 3)) (s_n (R 4)) ∧ R (64 + 10 * s_n (R (12 + 4 * u + 3)) + 0) = nI u)
def s_Vp (R : Nat → Int32) (p : Nat) : Prop := s_in R (R (36 + 7 * p + 0)) (R (36 + 7 * p + 1)) ∧ s_nn (R (36 + 7 * p + 2)) 4 ∧ (s_nn (R (36 + 7 * p + 3)) 21 ∧ 0 < s_n (R (36 + 7 * p + 3)))
def s_Vl (R : Nat → Int32) (p : Nat) : Prop := s_nn (R (464 + 4 * p + 0)) (s_n (R 2)) ∧ s_in R (R (464 + 4 * p + 1)) (R (464 + 4 * p + 2)) ∧ s_nn (R (464 + 4 * p + 3)) 500
def s_Vo (R : Nat → Int32) (o : Nat) : Prop := (s_nn (R (64 + 10 * o + 0)) (s_n (R 2)) ∧ s_in R (R (64 + 10 * o + 1)) (R (64 + 10 * o + 2)) ∧ s_nn (R (64 + 10 * o + 3)) 7 ∧ s_nn (R (64 + 10 * o + 4)) (s_n (R 5) + 1) ∧ (R (64 + 10 * o + 5) = -nI 1 ∨ s_nn (R (64 + 10 * o + 5)) (s_n (R 5) + 1)) ∧ s_in R (R (64 + 10 * o + 7)) (R (64 + 10 * o + 8))) ∧
  (R (64 + 10 * o + 3) = nI 0 → R (784 + s_ce (R (64 + 10 * o + 7)) (R (64 + 10 * o + 8))) = 0) ∧ (R (64 + 10 * o + 3) = nI 1 → R (12 + 4 * s_n (R (64 + 10 * o + 0)) + 3) = nI o) ∧ (R (64 + 10 * o + 3) = nI 0 ∨ R (64 + 10 * o + 3) = nI 1 → R (64 + 10 * o + 6) = -nI 1)
def s_VE (R : Nat → Int32) : Prop := s_n (R 7) ≤ fb_sm (fun o => s_wg (R (64 + 10 * o + 3))) (s_n (R 4))
def s_V (R : Nat → Int32) : Prop := s_VB R ∧ (∀ u, u < s_n (R 2) → s_Vu R u) ∧ (∀ p, p < s_n (R 3) → s_Vp R p) ∧ (∀ p, p < s_n (R 8) → s_Vl R p) ∧ (∀ o, o < s_n (R 4) → s_Vo R o) ∧ s_VE R
theorem s_V.B {R : Nat → Int32} (h : s_V R) : s_VB R := h.1
theorem s_V.U {R : Nat → Int32} (h : s_V R) : ∀ u, u < s_n (R 2) → s_Vu R u := h.2.1
theorem s_V.P {R : Nat → Int32} (h : s_V R) : ∀ p, p < s_n (R 3) → s_Vp R p := h.2.2.1
theorem s_V.L {R : Nat → Int32} (h : s_V R) : ∀ p, p < s_n (R 8) → s_Vl R p := h.2.2.2.1
theorem s_V.O {R : Nat → Int32} (h : s_V R) : ∀ o, o < s_n (R 4) → s_Vo R o := h.2.2.2.2.1
theorem s_V.E {R : Nat → Int32} (h : s_V R) : s_VE R := h.2.2.2.2.2
theorem s_VB.WH {R : Nat → Int32} (h : s_VB R) : w_WH R (s_w R) (s_h R) := by
  have h1 : 3 ≤ s_w R := h.1.2.1
  have h2 : s_w R < 13 := h.1.1.2
  have h3 : 3 ≤ s_h R := h.1.2.2.2
  have h4 : s_h R < 13 := h.1.2.2.1.2
  exact ⟨h.1.1.1, h.1.2.2.1.1, ⟨by omega, by omega⟩, by omega, by omega⟩
theorem s_V.PP {R : Nat → Int32} (h : s_V R) : s_PP R (s_n (R 3)) := ⟨by have := h.B.2.2.1.2; omega, fun p hp => ⟨s_n (R (36 + 7 * p + 3)), (h.P p hp).2.2.2, by have := (h.P p hp).2.2.1.2; omega, (h.P p hp).2.2.1.1⟩⟩
/-- a position's cell is on the board -/
theorem s_in.ok {R : Nat → Int32} (hB : s_VB R) {x y : Int32} (h : s_in R x y) : s_ok R (s_ce x y) ∧ s_ce x y % 12 = s_n x ∧ s_ce x y / 12 = s_n y ∧ s_ce x y < 144 := by
  have h1 := h.1.2
  have h2 := h.2.2
  have h3 : s_w R < 13 := hB.1.1.2
  have h4 : s_h R < 13 := hB.1.2.2.1.2
  have e1 : s_ce x y % 12 = s_n x := by
    show (12 * s_n y + s_n x) % 12 = _
    omega
  have e2 : s_ce x y / 12 = s_n y := by
    show (12 * s_n y + s_n x) / 12 = _
    omega
  refine ⟨⟨by rw [e1]; exact h1, by rw [e2]; exact h2⟩, e1, e2, ?_⟩
  show 12 * s_n y + s_n x < 144
  omega
