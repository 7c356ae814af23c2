/-! THE START: what the plain machine stands on at the law's entry; the claim out of the law's run as a function -/
def am_tms : List (String × Nat) := [("MessengerBoard", 96), ("MessengerBoard$BoardReader", 33), ("MessengerBoard$BoardReader", 70), ("MessengerBoard$BoardReader", 75), ("MessengerBoard$BoardReader", 80), ("MessengerBoard$BoardReader", 85), ("MessengerBoard$BoardReader", 90), ("MessengerBoard$BoardReader", 94), ("MessengerBoard", 166), ("MessengerBoard", 310), ("MessengerBoard", 312), ("MessengerBoard", 191), ("MessengerBoard", 317), ("MessengerBoard", 202), ("MessengerBoard", 319), ("MessengerBoard", 321), ("MessengerBoard", 276), ("MessengerBoard", 278), ("MessengerBoard", 280), ("MessengerBoard$QueryReader", 28), ("MessengerBoard$QueryReader", 34), ("MessengerBoard$QueryReader", 83), ("MessengerBoard$QueryReader", 112), ("MessengerBoard$QueryReader", 116), ("MessengerBoard$QueryReader", 118), ("MessengerBoard$QueryReader", 120), ("MessengerBoard$QueryReader", 122), ("MessengerBoard$QueryReader", 124), ("MessengerBoard$QueryReader", 126), ("MessengerBoard$QueryReader", 128), ("MessengerBoard$QueryReader", 81), ("MessengerBoard$QueryReader", 76)]
def am_tm (i : Nat) : Term := .string (am_tms.getD i ("", 0)).1 (am_tms.getD i ("", 0)).2
def am_gv : List Cond := flatC (Jvm.Cond.and given_1 narrow_1)
def am_blk (i : Nat) : List Cond := Cond.exactly (am_tm i) "java/lang/String" :: Cond.eq (.field (am_tm i) "java/lang/String" "coder" "B") (.int 0) :: Cond.arrayOf (.field (am_tm i) "java/lang/String" "value" "[B") .byte :: Cond.eq (.length (.field (am_tm i) "java/lang/String" "value" "[B")) (.int (Int32.ofNat (am_len.getD i 0))) :: (List.range (am_len.getD i 0)).map (fun j => Cond.eq (.elem (.field (am_tm i) "java/lang/String" "value" "[B") (.int (Int32.ofNat j))) (.int ((am_byt.getD i []).getD j 0)))
theorem am_g0 : ((List.range 32).flatMap am_blk).isSublist am_gv = true := by decide +kernel
theorem am_g00 {i : Nat} (hi : i < 32) {w : Cond} (hw : w ∈ am_blk i) : w ∈ am_gv := (List.isSublist_iff_sublist.mp am_g0).subset (List.mem_flatMap.mpr ⟨i, List.mem_range.mpr hi, hw⟩)
theorem am_glen : ∀ i : Nat, i < 32 → am_len.getD i 0 < 2 ^ 31 := by decide +kernel
theorem am_g1 (i : Nat) (hi : i < 32) : Cond.exactly (am_tm i) "java/lang/String" ∈ am_gv ∧ Cond.eq (.field (am_tm i) "java/lang/String" "coder" "B") (.int 0) ∈ am_gv ∧ Cond.arrayOf (.field (am_tm i) "java/lang/String" "value" "[B") .byte ∈ am_gv ∧ Cond.eq (.length (.field (am_tm i) "java/lang/String" "value" "[B")) (.int (Int32.ofNat (am_len.getD i 0))) ∈ am_gv ∧ am_len.getD i 0 < 2 ^ 31 :=
  ⟨am_g00 hi List.mem_cons_self, am_g00 hi (List.mem_cons_of_mem _ List.mem_cons_self), am_g00 hi (List.mem_cons_of_mem _ (List.mem_cons_of_mem _ List.mem_cons_self)), am_g00 hi (List.mem_cons_of_mem _ (List.mem_cons_of_mem _ (List.mem_cons_of_mem _ List.mem_cons_self))), am_glen i hi⟩
theorem am_g2 (i : Nat) (hi : i < 32) (j : Nat) (hj : j < am_len.getD i 0) : Cond.eq (.elem (.field (am_tm i) "java/lang/String" "value" "[B") (.int (Int32.ofNat j))) (.int ((am_byt.getD i []).getD j 0)) ∈ am_gv :=
  am_g00 hi (List.mem_cons_of_mem _ (List.mem_cons_of_mem _ (List.mem_cons_of_mem _ (List.mem_cons_of_mem _ (List.mem_map.mpr ⟨j, List.mem_range.mpr hj, rfl⟩)))))
theorem am_g3 : ∀ q ∈ am_strs, 1 ≤ q.2.2.2 ∧ q.2.2.2 < 33 ∧ (Term.string q.1 q.2.1 = am_tm (q.2.2.2 - 1) ∨ Cond.eq (am_tm (q.2.2.2 - 1)) (.string q.1 q.2.1) ∈ am_gv) ∧ Cond.stringRef q.1 q.2.1 q.2.2.1 ∈ lw_tbl := by decide +kernel
theorem am_g4 : Cond.eq (.static "java/lang/String" "COMPACT_STRINGS" "Z") (.int 1) ∈ am_gv ∧ Cond.laysStatic "java/lang/String" "COMPACT_STRINGS" "Z" ∈ lw_tbl ∧ Cond.initialized "java/lang/String" ∈ lw_tbl ∧ Cond.isRef (.static "jdk/internal/util/Preconditions" "SIOOBE_FORMATTER" am_sioD) ∈ am_gv ∧ Cond.laysStatic "jdk/internal/util/Preconditions" "SIOOBE_FORMATTER" am_sioD ∈ lw_tbl ∧ Cond.initialized "jdk/internal/util/Preconditions" ∈ lw_tbl := by decide +kernel
theorem am_g5 : Cond.isRef (.static Bundle.tN "UNASSIGNED_STACK" Bundle.steD) ∈ am_gv ∧ Cond.laysStatic Bundle.tN "UNASSIGNED_STACK" Bundle.steD ∈ lw_tbl ∧ Cond.isRef (.static Bundle.tN "SUPPRESSED_SENTINEL" Bundle.listD) ∈ am_gv ∧ Cond.laysStatic Bundle.tN "SUPPRESSED_SENTINEL" Bundle.listD ∈ lw_tbl ∧ Cond.initialized Bundle.tN ∈ lw_tbl ∧ Cond.not (.castable "java/lang/IllegalArgumentException" "java/util/NoSuchElementException") ∈ am_gv := by decide +kernel
theorem am_g6 : (∀ q ∈ am_nst, Cond.methodLinkNest q.1 q.2.1 q.2.2.1 q.2.2.2 ∈ lw_tbl) ∧ (∀ n ∈ am_aos, Cond.arrayOver (.object n) ∈ lw_tbl) ∧ Cond.arrayClass .int ∈ lw_tbl ∧ Cond.arrayClass .long ∈ lw_tbl := by decide +kernel
theorem am_g7_0 : Cond.instantiable RX0 2 ∈ lw_tbl := by decide +kernel
theorem am_g7_1 : Cond.instantiable RX1 1 ∈ lw_tbl := by decide +kernel
theorem am_g7_2 : Cond.instantiable RX2 2 ∈ lw_tbl := by decide +kernel
theorem am_g7_3 : Cond.instantiable RX3 3 ∈ lw_tbl := by decide +kernel
theorem am_g7_4 : Cond.instantiable RX4 3 ∈ lw_tbl := by decide +kernel
theorem am_g7_5 : Cond.instantiable RX5 2 ∈ lw_tbl := by decide +kernel
theorem am_g7_6 : Cond.instantiable RX6 13 ∈ lw_tbl := by decide +kernel
theorem am_g7_7 : Cond.instantiable RX7 4 ∈ lw_tbl := by decide +kernel
theorem am_g7_8 : Cond.instantiable RX8 8 ∈ lw_tbl := by decide +kernel
theorem am_g7_9 : Cond.instantiable RX9 1 ∈ lw_tbl := by decide +kernel
theorem am_g7_10 : Cond.instantiable RX10 17 ∈ lw_tbl := by decide +kernel
theorem am_g7_11 : Cond.instantiable RX11 28 ∈ lw_tbl := by decide +kernel
/-- the classes -/
theorem am_kn {s : State} {args : Array Value} (ht : ∀ w ∈ am_tb, w.before args s = true) : ∃ (dC : Nat → ClassId) (dI : Nat → Nat → Nat), ∀ (k : Nat) (q : vw_C), vwCl[k]? = some q → u_Kn s q.1 q.2.1 q.2.2 (dC k) (dI k) := by
  have h0 : ∀ (k : Nat) (q : vw_C), vwCl[k]? = some q → ∃ z : ClassId × (Nat → Nat), ∀ q, vwCl[k]? = some q → u_Kn s q.1 q.2.1 q.2.2 z.1 z.2 := fun k q hq => match k, q, hq with
    | 0, q, hq => by
      cases hq
      obtain ⟨cC, iS, h⟩ := u_known (n := 2) ht am_ci0.2.2.1 (ht _ (List.mem_filter.mpr ⟨am_g7_0, rfl⟩))
      exact ⟨(cC, iS), fun q hq => by cases hq; exact h⟩
    | 1, q, hq => by
      cases hq
      obtain ⟨cC, iS, h⟩ := u_known (n := 1) ht am_ci1.2.2.1 (ht _ (List.mem_filter.mpr ⟨am_g7_1, rfl⟩))
      exact ⟨(cC, iS), fun q hq => by cases hq; exact h⟩
    | 2, q, hq => by
      cases hq
      obtain ⟨cC, iS, h⟩ := u_known (n := 2) ht am_ci2.2.2.1 (ht _ (List.mem_filter.mpr ⟨am_g7_2, rfl⟩))
      exact ⟨(cC, iS), fun q hq => by cases hq; exact h⟩
    | 3, q, hq => by
      cases hq
      obtain ⟨cC, iS, h⟩ := u_known (n := 3) ht am_ci3.2.2.1 (ht _ (List.mem_filter.mpr ⟨am_g7_3, rfl⟩))
      exact ⟨(cC, iS), fun q hq => by cases hq; exact h⟩
    | 4, q, hq => by
      cases hq
      obtain ⟨cC, iS, h⟩ := u_known (n := 3) ht am_ci4.2.2.1 (ht _ (List.mem_filter.mpr ⟨am_g7_4, rfl⟩))
      exact ⟨(cC, iS), fun q hq => by cases hq; exact h⟩
    | 5, q, hq => by
      cases hq
      obtain ⟨cC, iS, h⟩ := u_known (n := 2) ht am_ci5.2.2.1 (ht _ (List.mem_filter.mpr ⟨am_g7_5, rfl⟩))
      exact ⟨(cC, iS), fun q hq => by cases hq; exact h⟩
    | 6, q, hq => by
      cases hq
      obtain ⟨cC, iS, h⟩ := u_known (n := 13) ht am_ci6.2.2.1 (ht _ (List.mem_filter.mpr ⟨am_g7_6, rfl⟩))
      exact ⟨(cC, iS), fun q hq => by cases hq; exact h⟩
    | 7, q, hq => by
      cases hq
      obtain ⟨cC, iS, h⟩ := u_known (n := 4) ht am_ci7.2.2.1 (ht _ (List.mem_filter.mpr ⟨am_g7_7, rfl⟩))
      exact ⟨(cC, iS), fun q hq => by cases hq; exact h⟩
    | 8, q, hq => by
      cases hq
      obtain ⟨cC, iS, h⟩ := u_known (n := 8) ht am_ci8.2.2.1 (ht _ (List.mem_filter.mpr ⟨am_g7_8, rfl⟩))
      exact ⟨(cC, iS), fun q hq => by cases hq; exact h⟩
    | 9, q, hq => by
      cases hq
      obtain ⟨cC, iS, h⟩ := u_known (n := 1) ht am_ci9.2.2.1 (ht _ (List.mem_filter.mpr ⟨am_g7_9, rfl⟩))
      exact ⟨(cC, iS), fun q hq => by cases hq; exact h⟩
    | 10, q, hq => by
      cases hq
      obtain ⟨cC, iS, h⟩ := u_known (n := 17) ht am_ci10.2.2.1 (ht _ (List.mem_filter.mpr ⟨am_g7_10, rfl⟩))
      exact ⟨(cC, iS), fun q hq => by cases hq; exact h⟩
    | 11, q, hq => by
      cases hq
      obtain ⟨cC, iS, h⟩ := u_known (n := 28) ht am_ci11.2.2.1 (ht _ (List.mem_filter.mpr ⟨am_g7_11, rfl⟩))
      exact ⟨(cC, iS), fun q hq => by cases hq; exact h⟩
    | k + 12, q, hq => by simp [vwCl] at hq
  have h1 : ∀ k : Nat, ∃ z : ClassId × (Nat → Nat), ∀ q, vwCl[k]? = some q → u_Kn s q.1 q.2.1 q.2.2 z.1 z.2 := by
    intro k
    cases hq : vwCl[k]? with
    | none => exact ⟨((0 : Nat), fun _ => 0), fun q h => by cases h⟩
    | some q =>
      obtain ⟨z, hz⟩ := h0 k q hq
      exact ⟨z, fun q' h' => hz q' (by rw [hq]; exact h')⟩
  obtain ⟨z, hz⟩ := Classical.axiomOfChoice h1
  exact ⟨fun k => (z k).1, fun k => (z k).2, fun k q hq => hz k q hq⟩
theorem am_strE {s : State} {args : Array Value} (hg : ∀ w ∈ am_gv, w.before args s = true) : ∃ adK adV : Nat → Nat, ∀ i : Nat, i < 32 → (am_tm i).eval args s none [] s = some (.ref (adK i)) ∧ va_O "java/lang/String" (adK i) (fun q => s.heap.size ≤ q) s s.heap ∧ va_OF "java/lang/String" "coder" "B" (.int 0) (adK i) (fun q => s.heap.size ≤ q) s s.heap ∧ va_OF "java/lang/String" "value" "[B" (.ref (adV i)) (adK i) (fun q => s.heap.size ≤ q) s s.heap ∧ va_T .byte (adV i) (am_len.getD i 0) (fun j => .int ((am_byt.getD i []).getD j 0)) (fun q => s.heap.size ≤ q) s s.heap := by
  have hA : ∀ a : Nat, a < s.heap.size → ¬ s.heap.size ≤ a := fun a h => Nat.not_le.mpr h
  have h0 : ∀ i : Nat, ∃ q : Nat × Nat, i < 32 → (am_tm i).eval args s none [] s = some (.ref q.1) ∧ va_O "java/lang/String" q.1 (fun q => s.heap.size ≤ q) s s.heap ∧ va_OF "java/lang/String" "coder" "B" (.int 0) q.1 (fun q => s.heap.size ≤ q) s s.heap ∧ va_OF "java/lang/String" "value" "[B" (.ref q.2) q.1 (fun q => s.heap.size ≤ q) s s.heap ∧ va_T .byte q.2 (am_len.getD i 0) (fun j => .int ((am_byt.getD i []).getD j 0)) (fun q => s.heap.size ≤ q) s s.heap := by
    intro i
    by_cases hi : i < 32
    · obtain ⟨m1, m2, m3, m4, m5⟩ := am_g1 i hi
      obtain ⟨a, c, cA, kA, q1, q2, q3, q4, q5, q6, -⟩ := Cond.exactly_spec (args := args) (first := s) (o := none) (s := s) (idx := []) (t := am_tm i) (cls := "java/lang/String") (hg _ m1)
      obtain ⟨t, ht, hT⟩ := va_Tof (f := fun j => .int ((am_byt.getD i []).getD j 0)) (A := fun q => s.heap.size ≤ q) m5 (hg _ m3) (va_eqt (hg _ m4)) (fun j hj => va_eqt (hg _ (am_g2 i hi j hj))) hA
      exact ⟨(a, t), fun _ => ⟨q1, ⟨cA, q3, q5, by rw [q6]; exact q2, hA a (Array.getElem?_eq_some_iff.mp q3).1⟩, vk_OFof q1 (va_eqt (hg _ m2)) hA, vk_OFof q1 ht hA, hT⟩⟩
    · exact ⟨(0, 0), fun h => absurd h hi⟩
  obtain ⟨ad, had⟩ := Classical.axiomOfChoice h0
  exact ⟨fun i => (ad i).1, fun i => (ad i).2, fun i hi => had i hi⟩
theorem am_arr {s : State} {args : Array Value} {ty : FieldType} (h : (Cond.arrayClass ty).before args s = true) (hty : ∀ C, ty ≠ .object C) : ∃ cA : ClassId, ArrOfT s cA ty ∧ va_RA s cA ty := by
  obtain ⟨c, k, comp, f1, f2, f3⟩ := Cond.arrayClass_spec h
  refine ⟨c, fun N z => ⟨(fun k h => by cases h), k, f2, comp, f3⟩, ?_⟩
  cases ty with
  | object C => exact absurd rfl (hty C)
  | _ => exact f1
theorem am_arrO {s : State} {args : Array Value} {C : String} (h : (Cond.arrayOver (.object C)).before args s = true) : ∃ cA : ClassId, ArrOfT s cA (.object C) ∧ va_RA s cA (.object C) := by
  obtain ⟨comp, c, k, h1, h2, h3, h4, h5⟩ := Cond.arrayOver_spec h
  exact ⟨c, fun N z => ⟨(fun k h => by cases h), k, h3, comp, h4⟩, ⟨k, comp, h3, h4, h1, h5⟩⟩
/-- all that the pieces stand on, at the law's entry -/
theorem am_ready {s : State} {b : Nat} (hts : ∀ w ∈ lw_tbl, w.before #[Value.ref b] s = true) (hgv : (Jvm.Cond.and given_1 narrow_1).before #[Value.ref b] s = true) : ∃ G : am_G, am_B G = s.heap.size ∧ am_H G = s.heap ∧ am_A G 70 = b ∧ am_KK G s := by
  have ht : ∀ w ∈ am_tb, w.before #[Value.ref b] s = true := fun w hw => hts w (List.mem_filter.mp hw).1
  have hg : ∀ w ∈ am_gv, w.before #[Value.ref b] s = true := flat_of_before _ hgv
  have hA : ∀ a : Nat, a < s.heap.size → ¬ s.heap.size ≤ a := fun a h => Nat.not_le.mpr h
  obtain ⟨dC, dI, hKn⟩ := am_kn ht
  obtain ⟨adK, adV, hstr⟩ := am_strE hg
  obtain ⟨c20, a20⟩ := am_arr (ty := .int) (hts _ am_g6.2.2.1) (fun C h => by cases h)
  obtain ⟨c21, a21⟩ := am_arr (ty := .long) (hts _ am_g6.2.2.2) (fun C h => by cases h)
  have hao := fun n hn => am_arrO (hts _ (am_g6.2.1 n hn))
  obtain ⟨c22, a22⟩ := hao RX6 (by decide)
  obtain ⟨c23, a23⟩ := hao RX2 (by decide)
  obtain ⟨c24, a24⟩ := hao "java/lang/String" (by decide)
  have hcs := va_Zof (hts _ am_g4.2.1) (hts _ am_g4.2.2.1) (va_eqt (hg _ am_g4.1)) hA
  have hsio := va_Zqof (hts _ am_g4.2.2.2.2.1) (hts _ am_g4.2.2.2.2.2) (hg _ am_g4.2.2.2.1) hA
  have hun := vx_Zqof (hts _ am_g5.2.1) (hts _ am_g5.2.2.2.2.1) (hg _ am_g5.1) hA
  have hsu := vx_Zqof (hts _ am_g5.2.2.2.1) (hts _ am_g5.2.2.2.2.1) (hg _ am_g5.2.2.1) hA
  obtain ⟨sio, hsio⟩ : ∃ sio : Nat, va_Z "jdk/internal/util/Preconditions" "SIOOBE_FORMATTER" am_sioD .null (fun q => s.heap.size ≤ q) s s.heap ∨ va_Z "jdk/internal/util/Preconditions" "SIOOBE_FORMATTER" am_sioD (.ref sio) (fun q => s.heap.size ≤ q) s s.heap := by
    rcases hsio with h | ⟨t, h⟩
    · exact ⟨0, Or.inl h⟩
    · exact ⟨t, Or.inr h⟩
  refine ⟨(s.heap.size, fun a => if a = 0 then sio else if a < 33 then adK (a - 1) else if a < 65 then adV (a - 33) else b, (dC, dI), fun k => if k = 20 then c20 else if k = 21 then c21 else if k = 22 then c22 else if k = 23 then c23 else c24, s.heap), rfl, rfl, rfl, ?_⟩
  refine ⟨⟨hKn, ?_⟩, ?_, hun, hsu, ?_, hcs, hsio, ?_, va_Nc.of (hg _ am_g5.2.2.2.2.2), ?_⟩
  · intro k q hq
    match k, hq with
    | 0, hq => cases hq; exact a20
    | 1, hq => cases hq; exact a21
    | 2, hq => cases hq; exact a22
    | 3, hq => cases hq; exact a23
    | 4, hq => cases hq; exact a24
    | k + 5, hq => simp [am_ty] at hq
  · intro q hq
    obtain ⟨h1, h2, h3, h4⟩ := am_g3 q hq
    refine vk_R.of (hts _ h4) ?_
    have e : am_A ((s.heap.size, fun a => if a = 0 then sio else if a < 33 then adK (a - 1) else if a < 65 then adV (a - 33) else b, (dC, dI), fun k => if k = 20 then c20 else if k = 21 then c21 else if k = 22 then c22 else if k = 23 then c23 else c24, s.heap) : am_G) q.2.2.2 = adK (q.2.2.2 - 1) := by
      show (if q.2.2.2 = 0 then sio else if q.2.2.2 < 33 then adK (q.2.2.2 - 1) else if q.2.2.2 < 65 then adV (q.2.2.2 - 33) else b) = _
      rw [if_neg (by omega), if_pos h2]
    rw [e]
    have h5 := (hstr (q.2.2.2 - 1) (by omega)).1
    rcases h3 with h3 | h3
    · rw [h3]; exact h5
    · exact va_eqR (hg _ h3) h5
  · intro i hi
    have e1 : am_A ((s.heap.size, fun a => if a = 0 then sio else if a < 33 then adK (a - 1) else if a < 65 then adV (a - 33) else b, (dC, dI), fun k => if k = 20 then c20 else if k = 21 then c21 else if k = 22 then c22 else if k = 23 then c23 else c24, s.heap) : am_G) (i + 1) = adK i := by
      show (if i + 1 = 0 then sio else if i + 1 < 33 then adK (i + 1 - 1) else if i + 1 < 65 then adV (i + 1 - 33) else b) = _
      rw [if_neg (by omega), if_pos (by omega), Nat.add_sub_cancel]
    have e2 : am_A ((s.heap.size, fun a => if a = 0 then sio else if a < 33 then adK (a - 1) else if a < 65 then adV (a - 33) else b, (dC, dI), fun k => if k = 20 then c20 else if k = 21 then c21 else if k = 22 then c22 else if k = 23 then c23 else c24, s.heap) : am_G) (i + 33) = adV i := by
      show (if i + 33 = 0 then sio else if i + 33 < 33 then adK (i + 33 - 1) else if i + 33 < 65 then adV (i + 33 - 33) else b) = _
      rw [if_neg (by omega), if_neg (by omega), if_pos (by omega), Nat.add_sub_cancel]
    rw [e1, e2]
    exact (hstr i hi).2
  · intro q hq
    exact va_Nw.of rfl (hts _ (am_g6.1 q hq))
  · intro n hn
    exact Cond.arrayOver_alike (Vm.Alike.refl s.vm) (hts _ (am_g6.2.1 n hn))
/-- the plain machine's start: nothing but the old places -/
def w_S0 : am_S := (100, 0, fun _ => 99, fun _ => 0, fun _ _ => 0, fun _ _ => 0, fun _ _ => none)
/-- how often a loop may go round -/
def w_N : Nat := 5000
set_option maxHeartbeats 2000000 in
/-- the claim's walk, out of the law's run as a function -/
theorem am_whole {p : Program} {e : Env} {s : State} {m : MethodId} {below : List Frame} {meth : Method} {c : Code} (l : Launch) (hflags : l.flags = flags0) {b L : Nat} {xs : Nat → Int32} (C0 : lw_At p s m meth c b L xs)
    (run : ∃ fin : am_O × am_S, kL_law_0 w_N L xs [(0, .ref 70)] [] w_S0 = some fin ∧ fin.1 = .inl (some (.int 1)) ∧ am_n fin.2 - am_n w_S0 ≤ 601024 ∧ am_z fin.2 - am_z w_S0 ≤ 7293034) : W p l e room_1 s m #[Value.ref b] below meth c s.heap [] 0 0 (lw_Z below #[Value.ref b] s) (entryFrame m ([Value.ref b] : List Value).toArray 9) := by
  obtain ⟨hx, hb, hr, hml, hown, hts, hX, hbl, hlocks, hgv⟩ := id C0
  obtain ⟨G, gB, gH, gA, hKK⟩ := am_ready hts hgv
  obtain ⟨fin, hk, hf, hn, hz⟩ := run
  have hfl : l.stackTraces = false := by
    unfold Launch.stackTraces
    rw [hflags]
    decide +kernel
  have hR : am_R G w_S0 s.heap := ⟨Nat.le_refl _, by rw [gB]; rfl, fun q hq => by rw [gH], fun a h => absurd h (show ¬ (99 : Nat) < 50 by decide)⟩
  have hl := lv_entry ([.ref b]) (n := 9) (Nat.le_of_ble_eq_true rfl)
  rw [lg_entry_eq]
  generalize (lg_sl ([.ref b]) ++ List.replicate (9 - (lg_sl ([.ref b])).length) Slot.unset).toArray = ls at hl ⊢
  have hl : lv_has ls 9 (([(0, .ref 70)] : List (Nat × Value)).map (am_vp G)) := by
    have e9 : ([(0, .ref 70)] : List (Nat × Value)).map (am_vp G) = [(0, .ref b)] := by
      show [(0, Value.ref (am_L G 70))] = _
      rw [am_LA G (by omega), gA]
    rw [e9]
    exact hl
  have V := (vL_law_0 l hfl w_N L xs).2 (p, l, e, room_1, s, m, #[Value.ref b], below, meth, c, lw_Z below #[Value.ref b] s) G w_S0 fin rfl
    ⟨hx, hb, hml, hown, fun w hw => hts w (List.mem_filter.mp hw).1, hKK, hR, hn, hz, hlocks, hfl, (by decide : 59 ≤ 2048), (by decide : 2893 ≤ 84000)⟩
    ⟨hf, ⟨b, gA, hX, hbl, gB⟩, fun H ls locs pc hlo hdg => by
      show W p l e room_1 s m #[Value.ref b] below meth c H locs (am_n fin.2 - am_n w_S0) (am_z fin.2 - am_z w_S0) (lw_Z below #[Value.ref b] s) (F0 m pc ls [.int 1])
      refine va_forget (fun q hq => by rw [← gB]; exact hlo q hq) ?_
      refine W.widen hn hz ?_
      have hdg' : decode code pc = .ok (.ireturn, 1) := by rw [← hb]; exact hdg
      exact lw_ret (d0 := s.drawn) (Drawn.sameBut.refl s.drawn lw_cs) hx hb hr hlocks hdg'⟩
  obtain ⟨-, h2⟩ := V _ _ _ hk
  have h3 := h2 am_le.rf s.heap ls [] hR hl (fun _ hq => nomatch hq)
  rw [Nat.sub_self, Nat.sub_self] at h3
  exact h3
