/-! WHAT IS READ IS WHAT IS RECKONED -/
def q_gd (R : Nat → Int32) (x : q_T) : Prop := x.1.1.1 = 0 → 1 ≤ x.2.1.length ∧ ∀ o, o < 40 → q_run o R x.2.1 (q_b (x.2.2 o))
abbrev q_ok (L : Nat) (s : p_S) : Prop := s.2.1.1 ≤ s.2.1.2.1 ∧ s.2.1.2.1 ≤ L
section L62
variable {S S' T S0 S1 : am_S} {a b p q i j k m n u t L e f κ v0 lo h op d dd l r o : Nat} {P : Nat → Prop} {B : Nat → Nat} {c y z hi : Int32} {v v1 v2 w : Int64} {s s' s2 : p_S} {R : Nat → Int32} {C C1 C2 : List Int32} {G : Nat → p_S → q_T}
theorem q_opd (hs : p_ok B L s.2.1) (h0 : (q_op B s).1.1.1 = 0) : s.1.1 = 0 ∧ ∀ o, o < 40 → q_run o R [q_code B s.2.1] (q_val R (q_op B s).2 o).toInt64 := by
  unfold q_op at h0 ⊢
  unfold q_code
  by_cases g : s.2.1.2.2 = 2
  · rw [if_pos g] at h0 ⊢
    rw [if_pos g]
    have lv := l_v_n hs g
    dsimp only at h0 ⊢
    by_cases c : 10000 ≤ l_v B s.2.1
    · rw [if_pos c] at h0
      exact absurd h0 (p_fail_0 (by omega))
    · rw [if_neg c] at h0
      refine ⟨h0, fun o ho => ?_⟩
      rw [lv] at c ⊢
      rw [Nat.min_eq_left (by omega)]
      unfold q_val
      rw [if_pos (by omega)]
      exact q_run_num (by omega)
  · rw [if_neg g] at h0 ⊢
    rw [if_neg g]
    dsimp only at h0 ⊢
    by_cases c : q_nm B s.2.1 = 9
    · rw [if_pos c] at h0
      exact absurd h0 (p_fail_0 (by omega))
    · rw [if_neg c] at h0
      have := q_nm_9 (B := B) s.2.1
      exact ⟨h0, fun o ho => q_run_nam (by omega) ho⟩
theorem q_k_lt {T : Nat × Nat × Nat} : q_k B T = 0 ∨ q_k B T = 1 ∨ q_k B T = 2 := by
  unfold q_k
  repeat' split
  all_goals omega
theorem q_gcmp (hs : p_ok B L s.2.1) : q_gd R (q_cmp R B L s) := by
  unfold q_gd q_cmp
  dsimp only
  intro h0
  have n1 : q_ok L (p_next B L (q_op B s).1) := ((q_fw.opd (B := B) (L := L)).tr (q_fw.next (B := B)) ⟨hs.1, hs.2.1⟩).2
  generalize hm : p_next B L (q_op B s).1 = m at *
  have n2 : q_ok L (q_m B m) := ((q_fw.ite q_fw.fail q_fw.rf : q_fw L m (q_m B m)) n1).2
  have r1 := q_opd (R := R) (s := p_next B L (q_m B m)) (l_nx_ok (B := B) n2.2) h0
  have m0 : m.1.1 = 0 := by
    have q : (q_m B m).1.1 = 0 := r1.1
    unfold q_m at q
    split at q
    · exact absurd q (p_fail_0 (by omega))
    · exact q
  have l0 : (q_op B s).1.1.1 = 0 := by
    rw [← hm] at m0
    exact m0
  have r0 := q_opd (R := R) hs l0
  refine ⟨by show 1 ≤ 3; omega, fun o ho => ?_⟩
  have c1 := r0.2 o ho
  have c2 := r1.2 o ho
  have el : ∀ c : Int32, [q_code B s.2.1, q_code B (p_next B L (q_m B m)).2.1, c] = [q_code B s.2.1] ++ [q_code B (p_next B L (q_m B m)).2.1] ++ [c] := fun _ => rfl
  rw [el]
  rcases q_k_lt (B := B) (T := m.2.1) with hk | hk | hk
  · rw [hk]
    exact q_run_bin (by show 1 ≤ 1; omega) c1 c2 (fun S => z_op0 _ _) (by decide) (by decide)
  · rw [hk]
    exact q_run_bin (by show 1 ≤ 1; omega) c1 c2 (fun S => z_op1 _ _) (by decide) (by decide)
  · rw [hk]
    exact q_run_bin (by show 1 ≤ 1; omega) c1 c2 (fun S => z_op2 _ _) (by decide) (by decide)
theorem q_gfac (hG : q_gd R (G op s)) (hs : p_ok B L s.2.1) : q_gd R (q_fac R B L G op s) := by
  unfold q_fac
  split
  · split
    · exact hG
    · exact q_gcmp hs
  · rename_i e
    exact fun q => absurd q e
theorem q_gcl (hG : ∀ s, q_ok L s → q_gd R (G op s)) (hw : ∀ s, q_fw L s (G op s).1) : ∀ k (x : q_T), q_ok L x.1 → q_gd R x → q_gd R (q_cl R B L G op k x)
  | 0, x, h1, h2 => h2
  | k + 1, x, h1, h2 => by
    rw [q_cl]
    by_cases c : x.1.1.1 = 0 ∧ l_w B x.1.2.1 31
    · rw [if_pos c]
      have n1 := (q_fw.next (B := B) (s := x.1)) h1
      have g1 := q_gfac (R := R) (G := G) (op := op) (hG (p_next B L x.1) n1.2) (l_nx_ok (B := B) h1.2)
      have n2 := (q_fw.fac (R := R) (B := B) (op := op) (hw (p_next B L x.1))) n1.2
      refine q_gcl hG hw k ((q_fac R B L G op (p_next B L x.1)).1, x.2.1 ++ (q_fac R B L G op (p_next B L x.1)).2.1 ++ [-nI 24], fun o => x.2.2 o && (q_fac R B L G op (p_next B L x.1)).2.2 o) n2.2 (fun q => ?_)
      obtain ⟨a1, a2⟩ := h2 c.1
      obtain ⟨b1, b2⟩ := g1 q
      dsimp only
      refine ⟨by rw [q_len1]; omega, fun o ho => ?_⟩
      exact q_run_bin a1 (a2 o ho) (b2 o ho) (fun S => z_op4 _ _) (by decide) (by decide)
    · rw [if_neg c]
      exact h2
theorem q_gconj (hG : ∀ s, q_ok L s → q_gd R (G op s)) (hw : ∀ s, q_fw L s (G op s).1) (hs : p_ok B L s.2.1) : q_gd R (q_conj R B L G op s) := by
  have n2 := (q_fw.fac (R := R) (B := B) (op := op) (hw s)) ⟨hs.1, hs.2.1⟩
  exact q_gcl hG hw 200 _ n2.2 (q_gfac (hG s ⟨hs.1, hs.2.1⟩) hs)
theorem q_gtl (hG : ∀ s, q_ok L s → q_gd R (G op s)) (hw : ∀ s, q_fw L s (G op s).1) : ∀ k (x : q_T), q_ok L x.1 → q_gd R x → q_gd R (q_tl R B L G op k x)
  | 0, x, h1, h2 => h2
  | k + 1, x, h1, h2 => by
    rw [q_tl]
    by_cases c : x.1.1.1 = 0 ∧ l_w B x.1.2.1 32
    · rw [if_pos c]
      have n1 := (q_fw.next (B := B) (s := x.1)) h1
      have g1 := q_gconj (R := R) (B := B) hG hw (s := p_next B L x.1) (l_nx_ok (B := B) h1.2)
      have n2 := (q_fw.conj (R := R) (B := B) (op := op) hw (s := p_next B L x.1)) n1.2
      refine q_gtl hG hw k ((q_conj R B L G op (p_next B L x.1)).1, x.2.1 ++ (q_conj R B L G op (p_next B L x.1)).2.1 ++ [-nI 25], fun o => x.2.2 o || (q_conj R B L G op (p_next B L x.1)).2.2 o) n2.2 (fun q => ?_)
      obtain ⟨a1, a2⟩ := h2 c.1
      obtain ⟨b1, b2⟩ := g1 q
      dsimp only
      refine ⟨by rw [q_len1]; omega, fun o ho => ?_⟩
      exact q_run_bin a1 (a2 o ho) (b2 o ho) (fun S => z_op5 _ _) (by decide) (by decide)
    · rw [if_neg c]
      exact h2
theorem q_gtest (hG : ∀ s, q_ok L s → q_gd R (G op s)) (hw : ∀ s, q_fw L s (G op s).1) (hs : p_ok B L s.2.1) : q_gd R (q_test R B L G op s) := by
  have n2 := (q_fw.conj (R := R) (B := B) (op := op) hw (s := s)) ⟨hs.1, hs.2.1⟩
  exact q_gtl hG hw 200 _ n2.2 (q_gconj hG hw hs)
theorem q_gopen : ∀ d op (s : p_S), op ≤ 6 → op + d = 8 → q_ok L s → q_gd R (q_open R B L d op s)
  | 0, op, s, h1, h2, hs => by omega
  | d + 1, op, s, h1, h2, hs => by
    rw [q_open]
    by_cases c6 : op < 6
    · rw [if_pos c6]
      have ih := fun (s : p_S) => q_gopen d (op + 1) s (by omega) (by omega)
      have hw := fun (s : p_S) => q_fw.opn (R := R) (B := B) (L := L) d (op + 1) s
      have n1 := (q_fw.next (B := B) (s := s)) hs
      by_cases c22 : l_w B s.2.1 22
      · rw [if_pos c22]
        have g := q_gfac (R := R) (B := B) (ih (p_next B L s) n1.2) (l_nx_ok (B := B) hs.2)
        intro q
        obtain ⟨a1, a2⟩ := g q
        dsimp only
        refine ⟨by rw [q_len1]; omega, fun o ho => ?_⟩
        have e := q_run_not (a2 o ho)
        have e2 : (1 : Int64) - q_b ((q_fac R B L (q_open R B L d) (op + 1) (p_next B L s)).2.2 o) = q_b (!(q_fac R B L (q_open R B L d) (op + 1) (p_next B L s)).2.2 o) := by
          cases (q_fac R B L (q_open R B L d) (op + 1) (p_next B L s)).2.2 o <;> decide
        rw [e2] at e
        exact e
      · rw [if_neg c22]
        have g := q_gtest (R := R) (B := B) ih hw (s := p_next B L s) (l_nx_ok (B := B) hs.2)
        intro q
        have q0 : (q_test R B L (q_open R B L d) (op + 1) (p_next B L s)).1.1.1 = 0 := by
          have q : (if l_sg B (q_test R B L (q_open R B L d) (op + 1) (p_next B L s)).1.2.1 41 then (q_test R B L (q_open R B L d) (op + 1) (p_next B L s)).1 else p_fail (q_test R B L (q_open R B L d) (op + 1) (p_next B L s)).1 1).1.1 = 0 := q
          split at q
          · exact q
          · exact absurd q (p_fail_0 (by omega))
        exact g q0
    · rw [if_neg c6]
      exact fun q => absurd q (p_fail_0 (by omega))
theorem q_gall : (q_fin R B L).1.1 = 0 → 1 ≤ (q_all R B L).2.1.length ∧ ∀ o, o < 40 → q_run o R (q_all R B L).2.1 (q_b ((q_all R B L).2.2 o)) := by
  intro h0
  have hx : (q_all R B L).1.1.1 = 0 := by
    unfold q_fin at h0
    split at h0
    · exact h0
    · exact absurd h0 (p_fail_0 (by omega))
  have n1 : q_fw L p_s0 (q_head B L) := by
    unfold q_head
    exact q_fw.ite q_fw.next (q_fw.next.tr q_fw.fail)
  have n2 := n1 ⟨Nat.le_refl _, Nat.zero_le _⟩
  exact q_gtest (R := R) (B := B) (G := q_open R B L 8) (op := 0) (fun s => q_gopen 8 0 s (by omega) (by omega)) (fun s => q_fw.opn 8 0 s) (l_nx_ok (B := B) n2.2.2) hx
end L62
