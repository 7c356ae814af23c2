/-! WAYS: only the target is at distance 0 -/
section W4
variable {R : Nat → Int32} {c b t j0 m0 : Nat} {q : s_Q}
theorem s_sp_0 (hB : s_B R) (hJ : s_J R q) (hj : j0 < q.2.2) (hq : q.2.1 j0 = nI c) (hc : q.1 c = nI m0) (hm : m0 ≤ j0) (h : ∀ b, b ≠ t → q.1 b ≠ 0) : ∀ d b, b ≠ t → (s_sp R c d q).1 b ≠ 0
  | 0, b, hb => h b hb
  | d + 1, b, hb => by
    have ih := s_sp_0 hB hJ hj hq hc hm h d
    have hmany := hJ.many
    obtain ⟨g1, g2, g3, g4, g5⟩ := s_J.sp hB hJ hj hq hc hm d
    have hcm : (s_sp R c d q).1 c = nI m0 := by
      rw [g4 c (by rw [hc]; exact s_thou (by omega))]
      exact hc
    rw [s_sp]
    unfold s_sp1
    cases hn : s_nb R c d with
    | none => exact ih b hb
    | some b' =>
      dsimp only
      by_cases e : (s_sp R c d q).1 b' = 1000
      · rw [if_pos e]
        dsimp only
        by_cases e2 : b = b'
        · rw [e2, s_up_s, hcm, nI_1]
          intro w
          rw [show (0 : Int32) = nI 0 from rfl, nI_eq (by omega) (by omega)] at w
          omega
        · rw [s_up_n e2]
          exact ih b hb
      · rw [if_neg e]
        exact ih b hb
theorem s_bfs_0 (hB : s_B R) : ∀ (f k : Nat) (q : s_Q), s_J R q → k ≤ q.2.2 → (∀ b, b ≠ t → q.1 b ≠ 0) → ∀ b, b ≠ t → (s_bfs R f k q).1 b ≠ 0
  | 0, k, q, _, _, h => h
  | f + 1, k, q, hJ, hk, h => by
    rw [s_bfs]
    split
    · next hlt =>
      obtain ⟨c, e1, e2, e3, m0, e4, e5⟩ := hJ.1 k hlt
      have e6 : s_n (q.2.1 k) = c := by
        rw [e1]
        exact nI_clamp (by omega)
      rw [e6]
      obtain ⟨g1, g2, -⟩ := s_J.sp hB hJ hlt e1 e4 e5 4
      exact s_bfs_0 hB f (k + 1) (s_sp R c 4 q) g1 (by omega) (s_sp_0 hB hJ hlt e1 e4 e5 h 4)
    · exact h
theorem s_far_0 (hB : s_B R) (t : Nat) (h : s_far R t c = 0) : c = t := by
  by_cases e : c = t
  · exact e
  · refine absurd h (s_bfs_0 (t := t) hB 145 0 (s_lay0 R t) (s_lay0_J hB t) (Nat.zero_le _) (fun b hb => ?_) c e)
    unfold s_lay0
    split
    · dsimp only
      rw [s_up_n hb]
      decide
    · dsimp only
      decide
theorem s_far_t (hB : s_B R) (ht : s_fr R t) : s_far R t t = 0 := by
  obtain ⟨-, -, k3⟩ := s_bfs_ok hB 145 0 (s_lay0 R t) (s_lay0_J hB t) (Nat.zero_le _) (by omega) (fun _ _ _ => by omega)
  unfold s_far s_lay
  have e0 : (s_lay0 R t).1 t = 0 := by
    unfold s_lay0
    rw [if_pos ht]
    show va_up (fun _ => (1000 : Int32)) t 0 t = 0
    exact s_up_s
  rw [k3 t (by rw [e0]; decide), e0]
end W4
