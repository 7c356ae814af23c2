/-! THE CLASS: what a turn of the situation at a may change -/
def w_O (a : Nat) (S S' : am_S) : Prop := (am_n S ≤ am_n S' ∧ ∀ b, b < am_n S → am_j S' b = am_j S b) ∧ (∀ b, b < am_n S → am_k S' b = am_k S b ∧ am_l S' b = am_l S b) ∧ (∀ b, b < am_n S → b ≠ 130 → am_r S' b = am_r S b) ∧ (∀ b, b < am_n S → b ≠ 131 → ¬ (a ≤ b ∧ b < a + 12) → ¬ w_inT S b → am_i S' b = am_i S b) ∧
  (∀ t D, t < 144 → am_r S 130 t = some D → am_r S' 130 t = some D) ∧ (∀ t D, t < 144 → am_r S' 130 t = some D → am_r S 130 t = some D ∨ am_n S ≤ D) ∧ am_n S' + 2 * w_un S' = am_n S + 2 * w_un S ∧ am_z S' + 146 * w_un S' = am_z S + 146 * w_un S
section W3
variable {S S' S2 : am_S} {a : Nat}
theorem w_O.rf : w_O a S S := ⟨⟨Nat.le_refl _, fun _ _ => rfl⟩, fun _ _ => ⟨rfl, rfl⟩, fun _ _ _ => rfl, fun _ _ _ _ _ => rfl, fun _ _ _ h => h, fun _ _ _ h => Or.inl h, rfl, rfl⟩
theorem w_O.tr (h : w_O a S S') (k : w_O a S' S2) : w_O a S S2 := by
  obtain ⟨⟨a1, aj⟩, a2, a3, a4, a5, a6, a7, a8⟩ := h
  obtain ⟨⟨b1, bj⟩, b2, b3, b4, b5, b6, b7, b8⟩ := k
  refine ⟨⟨by omega, fun b hb => (bj b (by omega)).trans (aj b hb)⟩, fun b hb => ?_, fun b hb h1 => ?_, fun b hb h1 h0 h2 => ?_, fun t D ht hD => b5 t D ht (a5 t D ht hD), fun t D ht hD => ?_, by omega, by omega⟩
  · obtain ⟨c1, c2⟩ := a2 b hb
    obtain ⟨d1, d2⟩ := b2 b (by omega)
    exact ⟨d1.trans c1, d2.trans c2⟩
  · exact (b3 b (by omega) h1).trans (a3 b hb h1)
  · refine (b4 b (by omega) h1 h0 (fun q => ?_)).trans (a4 b hb h1 h0 h2)
    obtain ⟨t, D, ht, hD, e⟩ := q
    rcases a6 t D ht hD with g | g
    · exact h2 ⟨t, D, ht, g, e⟩
    · omega
  · rcases b6 t D ht hD with g | g
    · exact a6 t D ht g
    · exact Or.inr (by omega)
theorem w_H.O (h : w_H S S') : w_O a S S' := ⟨h.1, h.2.1, h.2.2.1, fun b hb h1 _ h2 => h.2.2.2.1 b hb h1 h2, h.2.2.2.2.1, h.2.2.2.2.2.1, h.2.2.2.2.2.2.1, h.2.2.2.2.2.2.2⟩
theorem w_J.O (h : w_J a S S') : w_O a S S' := by
  have ek : am_k S' = am_k S := h.1.2.2.1
  have el : am_l S' = am_l S := h.1.2.2.2.1
  have ej : am_j S' = am_j S := h.1.2.2.2.2.1
  have er : am_r S' = am_r S := h.1.2.2.2.2.2.1
  have en : am_n S' = am_n S := h.1.1
  have ez : am_z S' = am_z S := h.1.2.1
  refine ⟨⟨by rw [en]; exact Nat.le_refl _, fun b _ => by rw [ej]⟩, fun b _ => by rw [ek, el]; exact ⟨rfl, rfl⟩, fun b _ _ => by rw [er], fun b _ _ h0 _ => h.1.i h0, fun t D _ hD => by rw [er]; exact hD, fun t D _ hD => by rw [er] at hD; exact Or.inl hD, ?_, ?_⟩
  · unfold w_un
    rw [er, en]
  · unfold w_un
    rw [er, ez]
end W3
section Y12
variable {S S' S2 : am_S} {x y z v : Int32} {i j o u n w hh c d b m t p np ne no a L f k D E hd j0 m0 cl : Nat} {R R' F : Nat → Int32} {q : s_Q} {r r4 : am_K}
/-- a messenger is put into the cell b -/
theorem y_at (hA : w_A S a) (h : w_R S a R) (hV : s_V R) (ho : o < s_n (R 4)) : w_R (am_putI (am_putI (am_putI S (a + 9) (o * 10 + 7) (nI (b % 12))) (a + 9) (o * 10 + 8) (nI (b / 12))) (a + 9) (o * 10 + 9) (R (64 + 10 * o + 9) + nI 1)) a (s_at R o b) ∧ w_J a S (am_putI (am_putI (am_putI S (a + 9) (o * 10 + 7) (nI (b % 12))) (a + 9) (o * 10 + 8) (nI (b / 12))) (a + 9) (o * 10 + 9) (R (64 + 10 * o + 9) + nI 1)) := by
  have b4 := hV.B.2.2.2.1.2
  have cg : ∀ (Q : Nat → Int32) (j : Nat) (v : Int32), s_VB Q → 64 ≤ j → j < 464 → s_VB (va_up Q j v) := fun Q j v hB h1 h2 => hB.congs (by rw [s_up_n (by omega)]; exact hB.2.2.2.2.1) (fun i _ hi => s_up_n (by omega))
  have h1 := h.putO (v := nI (b % 12)) hV.B ho (f := 7) (by omega)
  have B1 := cg R (64 + 10 * o + 7) (nI (b % 12)) hV.B (by omega) (by omega)
  have h2 := h1.putO (v := nI (b / 12)) B1 (o := o) (f := 8) (by rw [s_up_n (by omega)]; exact ho) (by omega)
  have B2 := cg _ (64 + 10 * o + 8) (nI (b / 12)) B1 (by omega) (by omega)
  have h3 := h2.putO (v := R (64 + 10 * o + 9) + nI 1) B2 (o := o) (f := 9) (by rw [s_up_n (by omega), s_up_n (by omega)]; exact ho) (by omega)
  exact ⟨h3, (w_J.put (by omega) (by intro q _ _ _; omega)).tr ((w_J.put (by omega) (by intro q _ _ _; omega)).tr (w_J.put (by omega) (by intro q _ _ _; omega)))⟩
end Y12
