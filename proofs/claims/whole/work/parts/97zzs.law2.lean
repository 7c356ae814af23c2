/-! THE LAW: each method of both answers alike -/
section L71
variable {S S1 : am_S} {x y z t a b c d e : Int32}
theorem u_c1 {p : Prop} [Decidable p] {v : Int32} : (u_c p v).1 ≤ 1 := by
  unfold u_c
  split
  · exact Nat.zero_le _
  · exact Nat.le_refl _
theorem u_g2 {R : Nat → Int32} : u_goal R x y z ≤ 2 := by
  unfold u_goal
  repeat' split
  all_goals decide
theorem pr_size (h : w_law S) : q_pair (fX10_size w_N) (fX11_size w_N) [.ref 100, .int x] [.ref 138, .int x] o_r 1 S := by
  have hb : (u_size (am_i S 139) x).1 ≤ 1 := by
    unfold u_size
    repeat' split
    all_goals first | exact Nat.le_refl _ | exact Nat.zero_le _ | exact u_c1 | exact Nat.le_trans u_c1 (by decide) | exact u_g2 | exact (show (1 : Nat) ≤ 2 by decide) | decide
  refine pr_Q h (y_size h.1.L) hb (fun T q1 q2 q3 => w_th.zn q2 q1 ?_)
  exact z_size q2 q1.1
theorem pr_order (h : w_law S) : q_pair (fX10_order w_N) (fX11_order w_N) [.ref 100, .int x, .int y] [.ref 138, .int x, .int y] o_r 1 S := by
  have hb : (u_order (am_i S 139) x y).1 ≤ 1 := by
    unfold u_order
    repeat' split
    all_goals first | exact Nat.le_refl _ | exact Nat.zero_le _ | exact u_c1 | exact Nat.le_trans u_c1 (by decide) | exact u_g2 | exact (show (1 : Nat) ≤ 2 by decide) | decide
  refine pr_Q h (y_orderQ h.1.L) hb (fun T q1 q2 q3 => w_th.zn q2 q1 ?_)
  exact z_orderQ q2 q1.1 h.1.2.1.2.1.1
theorem pr_plan (h : w_law S) : q_pair (fX10_plan w_N) (fX11_plan w_N) [.ref 100, .int x, .int y] [.ref 138, .int x, .int y] o_r 1 S := by
  have hb : (u_plan (am_i S 139) x y).1 ≤ 1 := by
    unfold u_plan
    repeat' split
    all_goals first | exact Nat.le_refl _ | exact Nat.zero_le _ | exact u_c1 | exact Nat.le_trans u_c1 (by decide) | exact u_g2 | exact (show (1 : Nat) ≤ 2 by decide) | decide
  refine pr_Q h (y_planQ h.1.L) hb (fun T q1 q2 q3 => w_th.zn q2 q1 ?_)
  exact z_planQ q2 q1.1 h.1.2.1.2.1.1
theorem pr_event (h : w_law S) : q_pair (fX10_event w_N) (fX11_event w_N) [.ref 100, .int x, .int y] [.ref 138, .int x, .int y] o_r 1 S := by
  have hb : (u_event (am_i S 139) x y).1 ≤ 1 := by
    unfold u_event
    repeat' split
    all_goals first | exact Nat.le_refl _ | exact Nat.zero_le _ | exact u_c1 | exact Nat.le_trans u_c1 (by decide) | exact u_g2 | exact (show (1 : Nat) ≤ 2 by decide) | decide
  refine pr_Q h (y_eventQ h.1.L) hb (fun T q1 q2 q3 => w_th.zn q2 q1 ?_)
  exact z_eventQ q2 q1.1 h.1.2.1.2.1.1
theorem pr_picket (h : w_law S) : q_pair (fX10_picket w_N) (fX11_picket w_N) [.ref 100, .int x, .int y] [.ref 138, .int x, .int y] o_r 1 S := by
  have hb : (u_picket (am_i S 139) x y).1 ≤ 1 := by
    unfold u_picket
    repeat' split
    all_goals first | exact Nat.le_refl _ | exact Nat.zero_le _ | exact u_c1 | exact Nat.le_trans u_c1 (by decide) | exact u_g2 | exact (show (1 : Nat) ≤ 2 by decide) | decide
  refine pr_Q h (y_picketQ h.1.L) hb (fun T q1 q2 q3 => w_th.zn q2 q1 ?_)
  exact z_picketQ q2 q1.1 h.1.2.1.2.1.1
theorem pr_unit (h : w_law S) : q_pair (fX10_unit w_N) (fX11_unit w_N) [.ref 100, .int x, .int y] [.ref 138, .int x, .int y] o_r 1 S := by
  have hb : (u_unit (am_i S 139) x y).1 ≤ 1 := by
    unfold u_unit
    repeat' split
    all_goals first | exact Nat.le_refl _ | exact Nat.zero_le _ | exact u_c1 | exact Nat.le_trans u_c1 (by decide) | exact u_g2 | exact (show (1 : Nat) ≤ 2 by decide) | decide
  refine pr_Q h (y_unitQ h.1.L) hb (fun T q1 q2 q3 => w_th.zn q2 q1 ?_)
  exact z_unitQ q2 q1.1 h.1.2.1.2.1.1
theorem pr_isWall (h : w_law S) : q_pair (fX10_isWall w_N) (fX11_isWall w_N) [.ref 100, .int x, .int y] [.ref 138, .int x, .int y] o_r 1 S := by
  have hb : (u_isWall (am_i S 139) x y).1 ≤ 1 := by
    unfold u_isWall
    repeat' split
    all_goals first | exact Nat.le_refl _ | exact Nat.zero_le _ | exact u_c1 | exact Nat.le_trans u_c1 (by decide) | exact u_g2 | exact (show (1 : Nat) ≤ 2 by decide) | decide
  refine pr_Q h (y_isWall h.1.L) hb (fun T q1 q2 q3 => w_th.zn q2 q1 ?_)
  exact z_isWall q2 q1.1 h.1.2.1.2.1.1
theorem pr_isWatched (h : w_law S) : q_pair (fX10_isWatched w_N) (fX11_isWatched w_N) [.ref 100, .int x, .int y, .int z] [.ref 138, .int x, .int y, .int z] o_r 2 S := by
  have hb : (u_isWatched (am_i S 139) x y z).1 ≤ 2 := by
    unfold u_isWatched
    repeat' split
    all_goals first | exact Nat.le_refl _ | exact Nat.zero_le _ | exact u_c1 | exact Nat.le_trans u_c1 (by decide) | exact u_g2 | exact (show (1 : Nat) ≤ 2 by decide) | decide
  refine pr_Q h (y_isWatched h.1.L) hb (fun T q1 q2 q3 => w_th.zn q2 q1 ?_)
  exact z_isWatched q2 q1.1 h.1.2.1.2.1.1
theorem pr_wasAt (h : w_law S) : q_pair (fX10_wasAt w_N) (fX11_wasAt w_N) [.ref 100, .int x, .int y] [.ref 138, .int x, .int y] o_r 2 S := by
  have hb : (u_wasAt (am_i S 139) x y).1 ≤ 2 := by
    unfold u_wasAt
    repeat' split
    all_goals first | exact Nat.le_refl _ | exact Nat.zero_le _ | exact u_c1 | exact Nat.le_trans u_c1 (by decide) | exact u_g2 | exact (show (1 : Nat) ≤ 2 by decide) | decide
  refine pr_Q h (y_wasAt h.1.L h.1.2.1.2.2.2 h.1.2.1.2.1.2.1) hb (fun T q1 q2 q3 => w_th.zn q2 q1 ?_)
  exact z_wasAt q2 q1.1 h.1.2.1.2.1.1 h.1.2.1.2.1.2.1
theorem pr_stateAt (h : w_law S) : q_pair (fX10_stateAt w_N) (fX11_stateAt w_N) [.ref 100, .int x, .int y] [.ref 138, .int x, .int y] o_r 2 S := by
  have hb : (u_stateAt (am_i S 139) x y).1 ≤ 2 := by
    unfold u_stateAt
    repeat' split
    all_goals first | exact Nat.le_refl _ | exact Nat.zero_le _ | exact u_c1 | exact Nat.le_trans u_c1 (by decide) | exact u_g2 | exact (show (1 : Nat) ≤ 2 by decide) | decide
  refine pr_Q h (y_stateAt h.1.L) hb (fun T q1 q2 q3 => w_th.zn q2 q1 ?_)
  exact z_stateAt q2 q1.1 h.1.2.1.2.1.1 h.1.2.1.2.1.2.2
theorem pr_setPatience (h : w_law S) : q_pair (fX10_setPatience w_N) (fX11_setPatience w_N) [.ref 100, .int x] [.ref 138, .int x] o_q 1 S := by
  have hb : (u_setPatience (am_i S) x).1.1 ≤ 1 := by
    unfold u_setPatience
    repeat' split
    all_goals first | exact Nat.le_refl _ | exact Nat.zero_le _ | exact u_c1 | exact Nat.le_trans u_c1 (by decide) | exact u_g2 | exact (show (1 : Nat) ≤ 2 by decide) | decide
  obtain ⟨S1, f1, f2, f3, f4⟩ := y_setPatience h.1
  obtain ⟨cc, o, ⟨c1, -, -, c4, -⟩, -⟩ := h.1.2.2.1
  exact pr_O f1 hb h.2 f2 f3 f4 (fun T q1 q2 q3 => (z_setPatience q2 q1 c1 c4).zn q2) (by omega) (by omega)
theorem pr_movePlan (h : w_law S) : q_pair (fX10_movePlan w_N) (fX11_movePlan w_N) [.ref 100, .int x, .int y] [.ref 138, .int x, .int y] o_r 2 S := by
  have hb : (u_movePlan (am_i S) x y).1.1 ≤ 2 := by
    unfold u_movePlan
    repeat' split
    all_goals first | exact Nat.le_refl _ | exact Nat.zero_le _ | exact u_c1 | exact Nat.le_trans u_c1 (by decide) | exact u_g2 | exact (show (1 : Nat) ≤ 2 by decide) | decide
  obtain ⟨S1, f1, f2, f3, f4⟩ := y_movePlan h.1
  obtain ⟨cc, o, ⟨c1, -, -, c4, -⟩, -⟩ := h.1.2.2.1
  exact pr_O f1 hb h.2 f2 f3 f4 (fun T q1 q2 q3 => (z_movePlan q2 q1 h.1.2.1.2.1.1 c1 c4).zn q2) (by omega) (by omega)
theorem pr_movePicket (h : w_law S) : q_pair (fX10_movePicket w_N) (fX11_movePicket w_N) [.ref 100, .int x, .int y, .int z] [.ref 138, .int x, .int y, .int z] o_r 1 S := by
  have hb : (u_movePicket (am_i S) x y z).1.1 ≤ 1 := by
    unfold u_movePicket
    repeat' split
    all_goals first | exact Nat.le_refl _ | exact Nat.zero_le _ | exact u_c1 | exact Nat.le_trans u_c1 (by decide) | exact u_g2 | exact (show (1 : Nat) ≤ 2 by decide) | decide
  obtain ⟨S1, f1, f2, f3, f4⟩ := y_movePicket (z := x) (x := y) (y := z) h.1
  obtain ⟨cc, o, ⟨c1, -, -, c4, -⟩, -⟩ := h.1.2.2.1
  exact pr_O f1 hb h.2 f2 f3 f4 (fun T q1 q2 q3 => (z_movePicket q2 q1 h.1.2.1.2.1.1 c1 c4).zn q2) (by omega) (by omega)
theorem pr_wall (h : w_law S) : q_pair (fX10_wall w_N) (fX11_wall w_N) [.ref 100, .int x, .int y] [.ref 138, .int x, .int y] o_r 1 S := by
  have hb : (u_wall (am_i S) x y).1.1 ≤ 1 := by
    unfold u_wall
    repeat' split
    all_goals first | exact Nat.le_refl _ | exact Nat.zero_le _ | exact u_c1 | exact Nat.le_trans u_c1 (by decide) | exact u_g2 | exact (show (1 : Nat) ≤ 2 by decide) | decide
  obtain ⟨S1, f1, f2, f3, f4⟩ := y_wall h.1
  obtain ⟨cc, o, ⟨c1, -, -, c4, -⟩, -⟩ := h.1.2.2.1
  exact pr_O f1 hb h.2 f2 f3 f4 (fun T q1 q2 q3 => (z_wall q2 q1 h.1.2.1.2.1.1 c1 c4).zn q2) (by omega) (by omega)
theorem pr_send (h : w_law S) : q_pair (fX10_send w_N) (fX11_send w_N) [.ref 100, .int x, .int y, .int z] [.ref 138, .int x, .int y, .int z] o_r 2 S := by
  have hb : (u_send (am_i S) x y z).1.1 ≤ 2 := by
    unfold u_send
    repeat' split
    all_goals first | exact Nat.le_refl _ | exact Nat.zero_le _ | exact u_c1 | exact Nat.le_trans u_c1 (by decide) | exact u_g2 | exact (show (1 : Nat) ≤ 2 by decide) | decide
  obtain ⟨S1, f1, f2, f3, f4⟩ := y_send (z := x) (x := y) (y := z) h.1
  obtain ⟨cc, o, ⟨c1, -, -, c4, -⟩, -⟩ := h.1.2.2.1
  exact pr_O f1 hb h.2 f2 f3 f4 (fun T q1 q2 q3 => (z_send q2 q1 h.1.2.1.2.1.1 c1 c4).zn q2) (by omega) (by omega)
theorem pr_pass (h : w_law S) : q_pair (fX10_pass w_N) (fX11_pass w_N) [.ref 100, .int x] [.ref 138, .int x] o_q 1 S := by
  have hb : (u_pass (am_i S) x).1.1 ≤ 1 := by
    unfold u_pass
    repeat' split
    all_goals first | exact Nat.le_refl _ | exact Nat.zero_le _ | exact u_c1 | exact Nat.le_trans u_c1 (by decide) | exact u_g2 | exact (show (1 : Nat) ≤ 2 by decide) | decide
  obtain ⟨S1, f1, f2, f3, f4⟩ := y_pass h.1
  obtain ⟨cc, o, ⟨c1, -, -, c4, -⟩, -⟩ := h.1.2.2.1
  exact pr_O f1 hb h.2 f2 f3 f4 (fun T q1 q2 q3 => (z_pass q2 q1 h.1.2.1.2.1.1 h.1.2.1.2.1.2.1.1 c1 c4).zn q2) (by omega) (by omega)
theorem pr_format (h : w_law S) : q_pair (fX10_format w_N) (fX11_format w_N) [.ref 100, .int x] [.ref 138, .int x] o_r 1 S := by
  have hb : (u_format (am_i S) x).1.1 ≤ 1 := by
    unfold u_format
    repeat' split
    all_goals first | exact Nat.le_refl _ | exact Nat.zero_le _ | exact u_c1 | exact Nat.le_trans u_c1 (by decide) | exact u_g2 | exact (show (1 : Nat) ≤ 2 by decide) | decide
  obtain ⟨S1, f1, f2, f3, f4⟩ := y_format (y := x) h.1
  exact pr_O f1 hb h.2 f2 f3 f4 (fun T q1 q2 q3 => (z_format q2 q1 h.1.2.1.2.1.1).zn q2) (by omega) (by omega)
theorem pr_wouldBe (h : w_law S) : q_pair (fX10_wouldBe w_N) (fX11_wouldBe w_N) [.ref 100, .int x, .int y, .int z, .int t] [.ref 138, .int x, .int y, .int z, .int t] o_r 2 S := by
  have hb : (u_wouldBe (am_i S 139) x y z t).1 ≤ 2 := by
    unfold u_wouldBe
    repeat' split
    all_goals first | exact Nat.le_refl _ | exact Nat.zero_le _ | exact u_c1 | exact Nat.le_trans u_c1 (by decide) | exact u_g2 | exact (show (1 : Nat) ≤ 2 by decide) | decide
  obtain ⟨S1, f1, f2, f3, f4⟩ := y_wouldBe (z := x) (x := y) (y := z) (t := t) h.1
  exact pr_O (u := (u_wouldBe (am_i S 139) x y z t, am_i S)) f1 hb h.2 f2 f3 f4 (fun T q1 q2 q3 => (z_wouldBe q2 q1 h.1.2.1.2.1.1 h.1.2.1.2.1.2.1.1).zn q2) (by omega) (by omega)
theorem pr_wouldArrive (h : w_law S) : q_pair (fX10_wouldArrive w_N) (fX11_wouldArrive w_N) [.ref 100, .int x, .int y, .int z] [.ref 138, .int x, .int y, .int z] o_r 2 S := by
  have hb : (u_wouldArrive (am_i S 139) x y z).1 ≤ 2 := by
    unfold u_wouldArrive
    repeat' split
    all_goals first | exact Nat.le_refl _ | exact Nat.zero_le _ | exact u_c1 | exact Nat.le_trans u_c1 (by decide) | exact u_g2 | exact (show (1 : Nat) ≤ 2 by decide) | decide
  obtain ⟨S1, f1, f2, f3, f4⟩ := y_wouldArrive (z := x) (x := y) (y := z) h.1
  exact pr_O (u := (u_wouldArrive (am_i S 139) x y z, am_i S)) f1 hb h.2 f2 f3 f4 (fun T q1 q2 q3 => (z_wouldArrive q2 q1 h.1.2.1.2.1.1 h.1.2.1.2.1.2.1.1).zn q2) (by omega) (by omega)
theorem pr_bestDelay (h : w_law S) : q_pair (fX10_bestDelay w_N) (fX11_bestDelay w_N) [.ref 100, .int x, .int y, .int z] [.ref 138, .int x, .int y, .int z] o_r 2 S := by
  have hb : (u_bestDelay (am_i S 139) x y z).1 ≤ 2 := by
    unfold u_bestDelay
    repeat' split
    all_goals first | exact Nat.le_refl _ | exact Nat.zero_le _ | exact u_c1 | exact Nat.le_trans u_c1 (by decide) | exact u_g2 | exact (show (1 : Nat) ≤ 2 by decide) | decide
  obtain ⟨S1, f1, f2, f3, f4⟩ := y_bestDelay (z := x) (x := y) (y := z) h.1
  exact pr_O (u := (u_bestDelay (am_i S 139) x y z, am_i S)) f1 hb h.2 f2 f3 f4 (fun T q1 q2 q3 => (z_bestDelay q2 q1 h.1.2.1.2.1.1 h.1.2.1.2.1.2.1.1).zn q2) (by omega) (by omega)
theorem pr_failing (h : w_law S) : q_pair (fX10_failing w_N) (fX11_failing w_N) [.ref 100, .int x] [.ref 138, .int x] o_q 1 S := by
  have hb : (u_failing (am_i S 139) x).1 ≤ 1 := by
    unfold u_failing
    repeat' split
    all_goals first | exact Nat.le_refl _ | exact Nat.zero_le _ | exact u_c1 | exact Nat.le_trans u_c1 (by decide) | exact u_g2 | exact (show (1 : Nat) ≤ 2 by decide) | decide
  obtain ⟨S1, f1, f2, f3, f4⟩ := y_failing (t := x) h.1
  exact pr_O (u := (u_failing (am_i S 139) x, am_i S)) f1 hb h.2 f2 f3 f4 (fun T q1 q2 q3 => (z_failing q2 q1 h.1.2.1.2.1.1 h.1.2.1.2.1.2.1.1).zn q2) (by omega) (by omega)
theorem pr_orders (h : w_law S) : q_pair (fX10_orders w_N) (fX11_orders w_N) [.ref 100, .int x] [.ref 138, .int x] o_q 1 S := by
  have hb : (u_orders (am_i S 139) x).1 ≤ 1 := by
    unfold u_orders
    repeat' split
    all_goals first | exact Nat.le_refl _ | exact Nat.zero_le _ | exact u_c1 | exact Nat.le_trans u_c1 (by decide) | exact u_g2 | exact (show (1 : Nat) ≤ 2 by decide) | decide
  have ht := h.1.thr (c := (u_orders (am_i S 139) x).1)
  exact pr_O (u := (u_orders (am_i S 139) x, am_i S)) (y_orders h.1.L) hb h.2 ht.1 ht.2.1 ht.2.2 (fun T q1 q2 q3 => w_th.zn q2 q1 (z_orders q2 q1.1 h.1.2.1.2.1.1)) (by omega) (by omega)
theorem pr_query (h : w_law S) : q_pair (fX10_query w_N) (fX11_query w_N) [.ref 100, .int x] [.ref 138, .int x] o_q 1 S := by
  have hb : (u_query (am_i S) (u_B (am_i S)) x).1.1 ≤ 1 := by
    unfold u_query
    split
    · exact Nat.zero_le _
    · exact Nat.le_refl _
  obtain ⟨S1, f1, f2, f3, f4⟩ := y_query (x := x) h.1
  obtain ⟨n, n1, n2, n3, n4⟩ := h.1.2.2.2.2.1.byt
  exact pr_O f1 hb h.2 f2 f3 f4 (fun T q1 q2 q3 => z_query q2 q1 h.1.2.1.2.1.1 n2 n1 (fun i hi => (n4 i hi).2)) (by omega) (by omega)
theorem pr_ways {q : Nat × Int32} {S0 : am_S} (h : w_law S) (hT : w_T S0 (am_i S 139)) (hH : w_H S S0) : w_Ic (o_t q.1 S0) (am_i S) ∧ w_le 1 6 S (o_t q.1 S0) ∧ w_kp S (o_t q.1 S0) := by
  have hn := h.1.1.2.1
  have h13 := (h.1.1.2.2.1 1 113 rfl).1
  have hO : w_O 113 S S0 := hH.O
  have g : w_Ic S0 (am_i S) := h.1.fr (hO.F.mono (fun b hb => by
    rcases hb with hb | hb | hb | hb
    · exact Or.inr (Or.inl ⟨hb.1, by omega⟩)
    · exact Or.inr (Or.inr (Or.inl hb))
    · exact Or.inr (Or.inr (Or.inr (Or.inl hb)))
    · exact Or.inr (Or.inr (Or.inr (Or.inr hb))))) (hH.cA h.1.2.1.2.2.1 hn (Or.inr rfl) h13) hT
  have ht := g.thr (c := q.1)
  exact ⟨ht.1, ((w_le.O hO).tr ht.2.1).mono (by omega) (by omega), (w_kp.O hO (Or.inr rfl) hn h.1.2.1.2.2.1).tr ht.2.2⟩
theorem pr_distance (h : w_law S) : q_pair (fX10_distance w_N) (fX11_distance w_N) [.ref 100, .int x, .int y, .int z, .int t] [.ref 138, .int x, .int y, .int z, .int t] o_r 1 S := by
  have hb : (u_distance (am_i S 139) x y z t).1 ≤ 1 := by
    unfold u_distance
    repeat' split
    all_goals first | exact Nat.le_refl _ | exact Nat.zero_le _ | exact u_c1 | exact Nat.le_trans u_c1 (by decide) | exact u_g2 | exact (show (1 : Nat) ≤ 2 by decide) | decide
  obtain ⟨S0, f1, f2, f3⟩ := y_distance (x := x) (y := y) (z := z) (v := t) h.1.L h.1.1.2.1 h.1.2.1.2.2.1
  have g := pr_ways (q := u_distance (am_i S 139) x y z t) h f2 f3
  exact pr_O (u := (u_distance (am_i S 139) x y z t, am_i S)) f1 hb h.2 g.1 g.2.1 g.2.2 (fun T q1 q2 q3 => w_th.zn q2 q1 (z_distance q2 q1.1 h.1.2.1.2.1.1)) (by omega) (by omega)
theorem pr_step (h : w_law S) : q_pair (fX10_step w_N) (fX11_step w_N) [.ref 100, .int x, .int y, .int z, .int t] [.ref 138, .int x, .int y, .int z, .int t] o_r 1 S := by
  have hb : (u_step (am_i S 139) x y z t).1 ≤ 1 := by
    unfold u_step
    repeat' split
    all_goals first | exact Nat.le_refl _ | exact Nat.zero_le _ | exact u_c1 | exact Nat.le_trans u_c1 (by decide) | exact u_g2 | exact (show (1 : Nat) ≤ 2 by decide) | decide
  obtain ⟨S0, f1, f2, f3⟩ := y_step (x := x) (y := y) (z := z) (v := t) h.1.L h.1.1.2.1 h.1.2.1.2.2.1
  have g := pr_ways (q := u_step (am_i S 139) x y z t) h f2 f3
  exact pr_O (u := (u_step (am_i S 139) x y z t, am_i S)) f1 hb h.2 g.1 g.2.1 g.2.2 (fun T q1 q2 q3 => w_th.zn q2 q1 (z_step q2 q1.1 h.1.2.1.2.1.1)) (by omega) (by omega)
end L71
