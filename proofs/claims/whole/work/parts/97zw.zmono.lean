/-! THE READING GOES FORWARD -/
def p_m (L : Nat) (s s' : p_S) : Prop := s.2.1.2.1 ≤ L → s.2.1.2.1 ≤ s'.2.1.2.1 ∧ s'.2.1.2.1 ≤ L
section L40
variable {c i j k m n L lo h x : Nat} {B : Nat → Nat} {s s' t : p_S} {R Q F : Nat → Int32}
theorem p_m.rf : p_m L s s := fun h => ⟨Nat.le_refl _, h⟩
theorem p_m.tr (h : p_m L s s') (k : p_m L s' t) : p_m L s t := fun q => ⟨Nat.le_trans (h q).1 (k (h q).2).1, (k (h q).2).2⟩
theorem l_nx_ge (he : x ≤ L) : x ≤ (l_nx B L x).1 := by
  have g := l_go_sp (B := B) (κ := 0) he
  unfold l_nx
  split
  · exact g.1
  · exact he
theorem p_m.next : p_m L s (p_next B L s) := fun h => by
  have k := l_nx_ok (B := B) h
  have g := l_nx_ge (B := B) h
  exact ⟨Nat.le_trans g k.1, k.2.1⟩
theorem p_m.lt (h : s.2.1.2.1 ≤ L) (hk : (p_next B L s).2.1.2.2 ≠ 0) : s.2.1.2.1 < (p_next B L s).2.1.2.1 := by
  have k := l_nx_ok (B := B) h
  have g := l_nx_ge (B := B) h
  have := k.2.2.2.1 hk
  exact Nat.lt_of_le_of_lt g this
theorem p_m.fail : p_m L s (p_fail s c) := by
  have e : (p_fail s c).2.1 = s.2.1 := by rw [p_fail_2]
  intro q
  rw [e]
  exact p_m.rf q
theorem p_m.set : p_m L s (p_set s Q) := fun h => ⟨Nat.le_refl _, h⟩
theorem p_m.ite {p : Prop} [Decidable p] (h : p_m L s s') (k : p_m L s t) : p_m L s (if p then s' else t) := by
  split
  · exact h
  · exact k
theorem p_m.num : p_m L s (p_num B L s lo h).1 := by
  unfold p_num
  split
  · split
    · split
      · exact p_m.next
      · exact p_m.next.tr p_m.fail
    · exact p_m.next.tr p_m.fail
  · exact p_m.rf
theorem p_m.col : p_m L s (p_col B L s).1 := p_m.num
theorem p_m.row : p_m L s (p_row B L s).1 := p_m.num
theorem p_m.free : p_m L s (p_free B L s x).1 := by
  unfold p_free
  split
  · exact p_m.row
  · exact p_m.row.tr p_m.fail
theorem p_m.semi : p_m L s (p_semi B L s) := by
  unfold p_semi
  split
  · split
    · exact p_m.next
    · exact p_m.next.tr p_m.fail
  · exact p_m.rf
theorem p_m.wall : p_m L s (p_wall B L s) := by
  unfold p_wall
  dsimp only
  have g : p_m L s (if p_bad s.2.2 (p_col B L s).2 (p_row B L (p_col B L s).1).2 then p_fail (p_row B L (p_col B L s).1).1 4 else (p_row B L (p_col B L s).1).1) := p_m.ite ((p_m.col.tr p_m.row).tr p_m.fail) (p_m.col.tr p_m.row)
  exact p_m.ite (g.tr p_m.set) g
theorem p_m.hq : p_m L s (p_hq B L s) := (p_m.col.tr p_m.free).tr p_m.set
theorem p_m.pat : p_m L s (p_pat B L s) := p_m.num.tr p_m.set
theorem p_m.unit : p_m L s (p_unit B L s) := by
  unfold p_unit
  dsimp only
  have g : p_m L s (if s_n (s.2.2 2) < 6 then s else p_fail s 3) := p_m.ite p_m.rf p_m.fail
  exact (((g.tr p_m.col).tr p_m.free).tr p_m.num).tr p_m.set
theorem p_m.plan : p_m L s (p_plan B L s) := by
  unfold p_plan
  dsimp only
  have g : p_m L s (if s_n (s.2.2 8) < 20 then s else p_fail s 3) := p_m.ite p_m.rf p_m.fail
  exact ((((g.tr p_m.num).tr p_m.col).tr p_m.free).tr p_m.num).tr p_m.set
theorem p_m.picket : p_m L s (p_picket B L s) := by
  unfold p_picket
  dsimp only
  have g : p_m L s (if s_n (s.2.2 3) < 4 then s else p_fail s 3) := p_m.ite p_m.rf p_m.fail
  have g2 := ((((((g.tr (p_m.col (B := B))).tr (p_m.row (B := B))).tr (p_m.num (B := B) (lo := 0) (h := 4))).tr (p_m.num (B := B) (lo := 1) (h := 21)))))
  exact (p_m.ite ((g2.tr p_m.num).tr p_m.num) (((g2.tr p_m.num).tr p_m.num).tr p_m.fail)).tr p_m.set
theorem p_m.clause : p_m L s (p_clause B L s) := by
  unfold p_clause
  exact p_m.ite p_m.wall (p_m.ite p_m.hq (p_m.ite p_m.unit (p_m.ite p_m.picket (p_m.ite p_m.pat (p_m.ite p_m.plan p_m.fail)))))
end L40
