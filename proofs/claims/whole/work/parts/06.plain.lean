/-! THE PLAIN MACHINE: a state of numbers, and pieces of code as functions of it; below, each piece is held against the machine. -/
-- number of cells, of slots; kind, length of a cell; its ints, longs, references
abbrev am_S : Type := Nat × Nat × (Nat → Nat) × (Nat → Nat) × (Nat → Nat → Int32) × (Nat → Nat → Int64) × (Nat → Nat → Option Nat)
abbrev am_O : Type := Option Value ⊕ String
abbrev am_K : Type := List (Nat × Value) → List Value → am_S → Option (am_O × am_S)
abbrev am_F : Type := List Value → am_S → Option (am_O × am_S)
def am_n (S : am_S) : Nat := S.1
def am_z (S : am_S) : Nat := S.2.1
def am_k (S : am_S) : Nat → Nat := S.2.2.1
def am_l (S : am_S) : Nat → Nat := S.2.2.2.1
def am_i (S : am_S) : Nat → Nat → Int32 := S.2.2.2.2.1
def am_j (S : am_S) : Nat → Nat → Int64 := S.2.2.2.2.2.1
def am_r (S : am_S) : Nat → Nat → Option Nat := S.2.2.2.2.2.2
def am_u {α : Type} (f : Nat → Nat → α) (a j : Nat) (v : α) : Nat → Nat → α := va_up f a (va_up (f a) j v)
def am_row (S : am_S) (a : Nat) (f : Nat → Int32) : am_S := (S.1, S.2.1, S.2.2.1, S.2.2.2.1, va_up S.2.2.2.2.1 a f, S.2.2.2.2.2)
def am_putI (S : am_S) (a j : Nat) (v : Int32) : am_S := am_row S a (va_up (am_i S a) j v)
def am_putJ (S : am_S) (a j : Nat) (v : Int64) : am_S := (S.1, S.2.1, S.2.2.1, S.2.2.2.1, S.2.2.2.2.1, am_u S.2.2.2.2.2.1 a j v, S.2.2.2.2.2.2)
def am_putR (S : am_S) (a j : Nat) (v : Option Nat) : am_S := (S.1, S.2.1, S.2.2.1, S.2.2.2.1, S.2.2.2.2.1, S.2.2.2.2.2.1, am_u S.2.2.2.2.2.2 a j v)
def am_new (S : am_S) (k len sl : Nat) : am_S := (S.1 + 1, S.2.1 + sl, va_up S.2.2.1 S.1 k, va_up S.2.2.2.1 S.1 len, va_up S.2.2.2.2.1 S.1 (fun _ => 0), va_up S.2.2.2.2.2.1 S.1 (fun _ => 0), va_up S.2.2.2.2.2.2 S.1 (fun _ => none))
def am_le (S T : am_S) : Prop := am_n S ≤ am_n T ∧ am_z S ≤ am_z T
theorem am_le.rf {S : am_S} : am_le S S := ⟨Nat.le_refl _, Nat.le_refl _⟩
theorem am_le.tr {S T U : am_S} (h : am_le S T) (k : am_le T U) : am_le S U := ⟨Nat.le_trans h.1 k.1, Nat.le_trans h.2 k.2⟩
def am_lk : List (Nat × Value) → Nat → Option Value
  | [], _ => none
  | q :: r, i => if q.1 = i then some q.2 else am_lk r i
def am_st1 (lv : List (Nat × Value)) (i : Nat) (v : Value) : List (Nat × Value) := (i, v) :: lv.filter (fun q => !(q.1 == i) && !(q.1 + 1 == i && q.2.category == 2))
def am_st2 (lv : List (Nat × Value)) (i : Nat) (v : Value) : List (Nat × Value) := (i, v) :: lv.filter (fun q => !(q.1 == i) && (!(q.1 == i + 1) && !(q.1 + 1 == i && q.2.category == 2)))
-- the machine's side: where the new cells begin, the places of the old ones that are known, classes, the heap as it was
abbrev am_G : Type := Nat × (Nat → Nat) × va_G × (Nat → ClassId) × Heap
def am_B (G : am_G) : Nat := G.1
def am_A (G : am_G) : Nat → Nat := G.2.1
def am_D (G : am_G) : va_G := G.2.2.1
def am_cl (G : am_G) : Nat → ClassId := G.2.2.2.1
def am_H (G : am_G) : Heap := G.2.2.2.2
def am_L (G : am_G) (a : Nat) : Nat := if a < 100 then am_A G a else am_B G + (a - 100)
def am_v (G : am_G) (v : Value) : Value := match v with
  | .ref a => .ref (am_L G a)
  | w => w
theorem am_v_cat (G : am_G) (v : Value) : (am_v G v).category = v.category := by cases v <;> rfl
theorem am_v_rf (G : am_G) (o : Option Nat) : am_v G (va_rf o) = va_rf (o.map (am_L G)) := by cases o <;> rfl
theorem am_L_ge {G : am_G} {a : Nat} (h : 100 ≤ a) : am_L G a = am_B G + (a - 100) := by unfold am_L; rw [if_neg (by omega)]
theorem am_L_inj {G : am_G} {a b : Nat} (ha : 100 ≤ a) (hb : 100 ≤ b) (h : am_L G a = am_L G b) : a = b := by
  rw [am_L_ge ha, am_L_ge hb] at h
  omega
-- kinds: 0 to 11 the objects of vwCl; 20 int[], 21 long[], 22 Situation[], 23 Distances[], 24 String[]
def am_nf (k : Nat) : Nat := ((vwCl)[k]?.map (fun r => r.2.2)).getD 0
def am_ft (k j : Nat) : Nat := ((vwCl)[k]?.map (fun r => if (r.2.1 j).2.2.1 = "I" then 0 else if (r.2.1 j).2.2.1 = "Z" then 1 else 2)).getD 0
def am_at (k : Nat) : FieldType := if k = 20 then .int else if k = 21 then .long else if k = 22 then .object RX6 else if k = 23 then .object RX2 else .object "java/lang/String"
def am_fv (G : am_G) (S : am_S) (a j : Nat) : Value := if am_ft (am_k S a) j = 2 then va_rf ((am_r S a j).map (am_L G)) else .int (am_i S a j)
def am_ob (G : am_G) (S : am_S) (a : Nat) : List Value := (List.range (am_nf (am_k S a))).map (am_fv G S a)
def am_e (G : am_G) (S : am_S) (a : Nat) : va_E :=
  if am_k S a < 12 then .inr (am_k S a, am_ob G S a)
  else if am_k S a = 20 then .inl (am_cl G 20, am_l S a, .inl (am_i S a))
  else if am_k S a = 21 then .inl (am_cl G 21, am_l S a, .inr (.inl (am_j S a)))
  else .inl (am_cl G (am_k S a), am_l S a, .inr (.inr (.inr (.inr (fun j => (am_r S a j).map (am_L G))))))
def am_ty (G : am_G) : List (ClassId × FieldType) := [(am_cl G 20, .int), (am_cl G 21, .long), (am_cl G 22, .object RX6), (am_cl G 23, .object RX2), (am_cl G 24, .object "java/lang/String")]
def am_R (G : am_G) (S : am_S) (H : Heap) : Prop :=
  100 ≤ am_n S ∧ H.size = am_B G + (am_n S - 100) ∧ (∀ q, q < am_B G → H[q]? = (am_H G)[q]?) ∧
  ∀ a, am_k S a < 50 → (100 ≤ a ∧ a < am_n S) ∧ va_at (am_D G) vwCl (am_L G a, am_e G S a) H
def am_tb : List Cond := lw_tbl.filter goodWord
theorem am_mem {w : Cond} (i : Nat) (h : lw_tbl[i]? = some w) (g : goodWord w = true) : w ∈ am_tb := List.mem_filter.mpr ⟨List.mem_of_getElem? h, g⟩
theorem am_good {w : Cond} (h : w ∈ am_tb) : w ∈ am_tb ∧ ((w.onTables && w.keeps) = true ∨ ∃ ty, w = .arrayClass ty) := ⟨h, good_of_word (List.mem_filter.mp h).2⟩
-- a write to one cell: the others stay
theorem am_R.write {G : am_G} {S S' : am_S} {H H' : Heap} {a : Nat} (h : am_R G S H) (ha : 100 ≤ a ∧ a < am_n S) (hn : am_n S' = am_n S) (hk : am_k S' = am_k S) (he : ∀ b, b ≠ a → am_k S b < 50 → am_e G S' b = am_e G S b)
    (hz : H'.size = H.size) (ho : ∀ q : Nat, q ≠ am_L G a → H'[q]? = H[q]?) (hw : va_at (am_D G) vwCl (am_L G a, am_e G S' a) H') : am_R G S' H' := by
  obtain ⟨h1, h2, h3, h4⟩ := h
  have hL := am_L_ge (G := G) ha.1
  refine ⟨by rw [hn]; exact h1, by rw [hz, hn]; exact h2, fun q hq => by rw [ho q (by omega)]; exact h3 q hq, fun b hb => ?_⟩
  rw [hk] at hb
  obtain ⟨hb1, hb2⟩ := h4 b hb
  refine ⟨by rw [hn]; exact hb1, ?_⟩
  by_cases e : b = a
  · rw [e]; exact hw
  · rw [he b e hb]
    exact hb2.kept (ho _ (fun q => e (am_L_inj hb1.1 ha.1 q)))
-- a new cell
theorem am_R.push {G : am_G} {S S' : am_S} {H H' : Heap} (h : am_R G S H) (hn : am_n S' = am_n S + 1) (hk : ∀ b, b ≠ am_n S → am_k S' b = am_k S b) (he : ∀ b, b ≠ am_n S → am_k S b < 50 → am_e G S' b = am_e G S b)
    (hz : H'.size = H.size + 1) (ho : ∀ q : Nat, q < H.size → H'[q]? = H[q]?) (hw : am_k S' (am_n S) < 50 → va_at (am_D G) vwCl (am_L G (am_n S), am_e G S' (am_n S)) H') : am_R G S' H' := by
  obtain ⟨h1, h2, h3, h4⟩ := h
  refine ⟨by omega, by omega, fun q hq => by rw [ho q (by omega)]; exact h3 q hq, fun b hb => ?_⟩
  by_cases e : b = am_n S
  · rw [e] at hb ⊢
    exact ⟨⟨h1, by omega⟩, hw hb⟩
  · rw [hk b e] at hb
    obtain ⟨hb1, hb2⟩ := h4 b hb
    refine ⟨⟨hb1.1, by omega⟩, ?_⟩
    rw [he b e hb]
    refine hb2.kept (ho _ ?_)
    show am_L G b < H.size
    rw [am_L_ge hb1.1]
    omega
theorem am_R.addr {G : am_G} {S : am_S} {H : Heap} (h : am_R G S H) : am_L G (am_n S) = H.size := by
  rw [am_L_ge h.1, h.2.1]
-- entries that a change of another cell leaves
theorem am_e_row {G : am_G} {S : am_S} {a b : Nat} {f : Nat → Int32} (h : b ≠ a) : am_e G (am_row S a f) b = am_e G S b := by
  have e1 : am_i (am_row S a f) b = am_i S b := va_up_ne _ _ h
  unfold am_e am_ob
  have e2 : am_fv G (am_row S a f) b = am_fv G S b := by
    funext j
    unfold am_fv
    rw [e1]
    rfl
  rw [e1, e2]
  rfl
theorem am_e_putJ {G : am_G} {S : am_S} {a b j : Nat} {v : Int64} (h : b ≠ a) : am_e G (am_putJ S a j v) b = am_e G S b := by
  have e1 : am_j (am_putJ S a j v) b = am_j S b := va_up_ne _ _ h
  unfold am_e
  rw [e1]
  rfl
theorem am_e_putR {G : am_G} {S : am_S} {a b j : Nat} {v : Option Nat} (h : b ≠ a) : am_e G (am_putR S a j v) b = am_e G S b := by
  have e1 : am_r (am_putR S a j v) b = am_r S b := va_up_ne _ _ h
  unfold am_e am_ob
  have e2 : am_fv G (am_putR S a j v) b = am_fv G S b := by
    funext j
    unfold am_fv
    rw [e1]
    rfl
  rw [e1, e2]
  rfl
theorem am_e_new {G : am_G} {S : am_S} {b k len sl : Nat} (h : b ≠ am_n S) : am_e G (am_new S k len sl) b = am_e G S b := by
  have e0 : am_k (am_new S k len sl) b = am_k S b := va_up_ne _ _ h
  have e1 : am_i (am_new S k len sl) b = am_i S b := va_up_ne _ _ h
  have e2 : am_j (am_new S k len sl) b = am_j S b := va_up_ne _ _ h
  have e3 : am_r (am_new S k len sl) b = am_r S b := va_up_ne _ _ h
  have e4 : am_l (am_new S k len sl) b = am_l S b := va_up_ne _ _ h
  unfold am_e am_ob
  have e5 : am_fv G (am_new S k len sl) b = am_fv G S b := by
    funext j
    unfold am_fv
    rw [e0, e1, e3]
  rw [e0, e1, e2, e3, e4, e5]
theorem am_ob_get {G : am_G} {S : am_S} {a j : Nat} (h : j < am_nf (am_k S a)) : (am_ob G S a)[j]? = some (am_fv G S a j) := by
  unfold am_ob
  rw [List.getElem?_map, List.getElem?_range h]
  rfl
theorem am_ob_V {G : am_G} {S : am_S} {a j : Nat} (h : j < am_nf (am_k S a)) : vp_V (am_ob G S a) j = am_fv G S a j := by
  unfold vp_V
  rw [List.getD_eq_getElem?_getD, am_ob_get h]
  rfl
