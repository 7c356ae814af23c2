/-! THE LAW: its loop -/
section L76
variable {S S1 S2 T : am_S} {L i c : Nat} {sc : Nat → Int32} {K : am_K}
theorem q_one (h : w_law S) (hi : i + 6 ≤ L) (hL : L ≤ 3072) (hc : c < 36) : ∃ S', (bLc L sc K).getD c (fun _ _ _ => none) (q_LV i) [] S = K (q_LV (i + 6)) [] S' ∧ w_law S' ∧ w_le 20 4100 S S' := by
  unfold bLc
  match c, hc with
  | 0, _ => exact lc_0 h hi hL
  | 1, _ => exact lc_1 h hi hL
  | 2, _ => exact lc_2 h hi hL
  | 3, _ => exact lc_3 h hi hL
  | 4, _ => exact lc_4 h hi hL
  | 5, _ => exact lc_5 h hi hL
  | 6, _ => exact lc_6 h hi hL
  | 7, _ => exact lc_7 h hi hL
  | 8, _ => exact lc_8 h hi hL
  | 9, _ => exact lc_9 h hi hL
  | 10, _ => exact lc_10 h hi hL
  | 11, _ => exact lc_11 h hi hL
  | 12, _ => exact lc_12 h hi hL
  | 13, _ => exact lc_13 h hi hL
  | 14, _ => exact lc_14 h hi hL
  | 15, _ => exact lc_15 h hi hL
  | 16, _ => exact lc_16 h hi hL
  | 17, _ => exact lc_17 h hi hL
  | 18, _ => exact lc_18 h hi hL
  | 19, _ => exact lc_19 h hi hL
  | 20, _ => exact lc_20 h hi hL
  | 21, _ => exact lc_21 h hi hL
  | 22, _ => exact lc_22 h hi hL
  | 23, _ => exact lc_23 h hi hL
  | 24, _ => exact lc_24 h hi hL
  | 25, _ => exact lc_25 h hi hL
  | 26, _ => exact lc_26 h hi hL
  | 27, _ => exact lc_27 h hi hL
  | 28, _ => exact lc_28 h hi hL
  | 29, _ => exact lc_29 h hi hL
  | 30, _ => exact lc_30 h hi hL
  | 31, _ => exact lc_31 h hi hL
  | 32, _ => exact lc_32 h hi hL
  | 33, _ => exact lc_33 h hi hL
  | 34, _ => exact lc_34 h hi hL
  | 35, _ => exact lc_35 h hi hL
  | n + 36, q => omega
theorem q_loop (hL : L ≤ 3072) : ∀ k j (S : am_S) m, L < 6 * (j + k) + 6 → 6 * j ≤ L → k < m → w_law S → ∃ S', am_loop (bL_law_23 w_N L sc) m (q_LV (6 * j)) [] S = some (.inl (some (.int (nI 1))), S') ∧ w_le (20 * k) (4100 * k) S S'
  | 0, j, S, m, h1, h2, h3, h => by
    obtain ⟨m, rfl⟩ : ∃ q, m = q + 1 := ⟨m - 1, by omega⟩
    rw [am_loop_s]
    exact ⟨S, q_end hL (by omega) (by omega), w_le.rf⟩
  | k + 1, j, S, m, h1, h2, h3, h => by
    obtain ⟨m, rfl⟩ : ∃ q, m = q + 1 := ⟨m - 1, by omega⟩
    rw [am_loop_s]
    by_cases hi : 6 * j + 6 ≤ L
    · have e6 : 6 * j + 6 = 6 * (j + 1) := by omega
      rcases q_case (S := S) (sc := sc) (K := am_loop (bL_law_23 w_N L sc) m) hL hi with ⟨c, c1, c2⟩ | c2
      · obtain ⟨S1, f1, f2, f3⟩ := q_one (sc := sc) (K := am_loop (bL_law_23 w_N L sc) m) h hi hL c1
        rw [e6] at f1
        obtain ⟨S2, g1, g2⟩ := q_loop hL k (j + 1) S1 m (by omega) (by omega) (by omega) f2
        exact ⟨S2, c2.trans (f1.trans g1), (f3.tr g2).mono (by omega) (by omega)⟩
      · have g := q_law2276 (S := S) (sc := sc) (L := L) (K := am_loop (bL_law_23 w_N L sc) m) (lv := q_LV (6 * j)) (i := 6 * j) rfl rfl rfl rfl rfl
        rw [e6] at g
        obtain ⟨S2, g1, g2⟩ := q_loop hL k (j + 1) S m (by omega) (by omega) (by omega) h
        exact ⟨S2, c2.trans (g.trans g1), g2.mono (by omega) (by omega)⟩
    · exact ⟨S, q_end hL (by omega) hi, w_le.rf.mono (by omega) (by omega)⟩
end L76
