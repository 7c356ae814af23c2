section AM6
variable {X : am_X} {cc : ByteArray} {nL : Nat} {own : String} {G : am_G} {S0 : am_S} {fin : am_O × am_S} {fr lo pc : Nat} {k k1 k2 : am_K} {ret : Option FieldType} {nm : String}
theorem am_clamp {n : Int32} (h : 0 ≤ n.toInt) : ¬ n < 0 := by
  rw [Int32.lt_iff_toInt_lt, Int32.toInt_zero]
  omega
theorem am_clt {i : Int32} {n : Nat} (h : 0 ≤ i.toInt ∧ i.toInt < n) : i.toNatClampNeg < n := by
  show i.toInt.toNat < n
  omega
theorem am_isTx {b : Nat} (h : am_isT b) : ∃ j : Nat, b = j + 1 ∧ j < 32 := ⟨b - 1, by have := h.1; omega, by have := h.2; have := h.1; omega⟩
theorem am_asg (vm : Vm) (c : ClassId) : vm.assignable c c = true := by
  show Vm.assignableAux vm (255 + 1) c c = true
  rw [Vm.assignableAux, beq_self_eq_true, Bool.true_or]
theorem am_clampN (n : Int32) : n.toNatClampNeg = n.toInt.toNat := rfl
/-- a new array: the cell is pushed -/
theorem am_pusha {S : am_S} {H : Heap} {kd N : Nat} {cell : Cell} (hR : am_R G S H) (hw : kd < 50 → va_at (am_D G) vwCl (H.size, am_e G (am_new S kd N N) (am_n S)) (H.push cell)) : am_R G (am_new S kd N N) (H.push cell) := by
  have hk0 : am_k (am_new S kd N N) (am_n S) = kd := va_up_self _ _ _
  refine hR.push rfl (fun b hb => va_up_ne _ _ hb) (fun b hb _ => am_e_new hb) (by simp) (fun q hq => by rw [Array.getElem?_push, if_neg (Nat.ne_of_lt hq)]) (fun h => ?_)
  rw [hk0] at h
  rw [hR.addr]
  exact hw h
theorem am_newarr_int (C : am_C X cc nL own G S0 fin.2 fr lo) (h1 : Cond.arrayClass .int ∈ am_tb) (hdg : decode cc pc = .ok (.newarray .int, 2)) (h : am_W X G S0 fin nL (pc + 2) k) : am_W X G S0 fin nL pc (c_newa 20 k) := by
  intro lv st S hk
  dsimp only [c_newa] at hk
  split at hk
  next n rr =>
    split at hk
    next hc =>
      obtain ⟨g1, g2⟩ := h _ _ _ hk
      obtain ⟨l1, l2, l3⟩ := am_new_le g1
      refine ⟨l1, fun hle H ls locs hR hl hb => ?_⟩
      obtain ⟨r1, r2⟩ := am_new_ok hle l2 l3 C.2.2.2.2.2.2.2.1 C.2.2.2.2.2.2.2.2.1
      have hz : n.toNatClampNeg ≤ 60000 := by rw [am_clampN]; omega
      refine W.newa (atype := .int) C.1 C.2.1 (C.2.2.2.2.1 _ h1) rfl hdg rfl (am_clamp hc.1) (by show n.toNatClampNeg * 4 ≤ _; omega) r1 r2 fun cA kA comp f1 f2 f3 => ?_
      have hcA : cA = am_cl G 20 := Option.some.inj (f1.symm.trans (C.2.2.2.2.2.1.1.2 0 _ rfl).2)
      have hR' : am_R G (am_new S 20 n.toNatClampNeg n.toNatClampNeg) (H.push { cls := cA, slots := Array.replicate n.toNatClampNeg (defaultValue (newarray.typeOf .int)), vm := .none }) := by
        refine am_pusha hR (fun _ => ?_)
        have e : am_e G (am_new S 20 n.toNatClampNeg n.toNatClampNeg) (am_n S) = .inl (am_cl G 20, n.toNatClampNeg, .inl (fun _ => 0)) := by
          unfold am_e
          rw [show am_k (am_new S 20 n.toNatClampNeg n.toNatClampNeg) (am_n S) = 20 from va_up_self _ _ _, show am_l (am_new S 20 n.toNatClampNeg n.toNatClampNeg) (am_n S) = n.toNatClampNeg from va_up_self _ _ _, show am_i (am_new S 20 n.toNatClampNeg n.toNatClampNeg) (am_n S) = fun _ => 0 from va_up_self _ _ _]
          rfl
        rw [e]
        show (H.push _)[H.size]? = some (vp_cell _ _)
        rw [vp_cell_i, ← arrV_new, ← hcA]
        simp
        exact Or.inr rfl
      have h9 := g2 (hle.tr ⟨Nat.le_succ _, Nat.le_add_right _ _⟩) _ ls locs hR' hl hb
      rw [(am_new_eq (kd := 20) (len := n.toNatClampNeg) (sl := n.toNatClampNeg) hle).1, (am_new_eq (kd := 20) (len := n.toNatClampNeg) (sl := n.toNatClampNeg) hle).2]
      have ea : am_v G (.ref (am_n S)) = .ref H.size := by
        show Value.ref (am_L G (am_n S)) = _
        rw [hR.addr]
      rw [List.map_cons, ea] at h9
      exact h9
    next => cases hk
  next => cases hk
theorem am_newarr_long (C : am_C X cc nL own G S0 fin.2 fr lo) (h1 : Cond.arrayClass .long ∈ am_tb) (hdg : decode cc pc = .ok (.newarray .long, 2)) (h : am_W X G S0 fin nL (pc + 2) k) : am_W X G S0 fin nL pc (c_newa 21 k) := by
  intro lv st S hk
  dsimp only [c_newa] at hk
  split at hk
  next n rr =>
    split at hk
    next hc =>
      obtain ⟨g1, g2⟩ := h _ _ _ hk
      obtain ⟨l1, l2, l3⟩ := am_new_le g1
      refine ⟨l1, fun hle H ls locs hR hl hb => ?_⟩
      obtain ⟨r1, r2⟩ := am_new_ok hle l2 l3 C.2.2.2.2.2.2.2.1 C.2.2.2.2.2.2.2.2.1
      have hz : n.toNatClampNeg ≤ 60000 := by rw [am_clampN]; omega
      refine W.newa (atype := .long) C.1 C.2.1 (C.2.2.2.2.1 _ h1) rfl hdg rfl (am_clamp hc.1) (by show n.toNatClampNeg * 8 ≤ _; omega) r1 r2 fun cA kA comp f1 f2 f3 => ?_
      have hcA : cA = am_cl G 21 := Option.some.inj (f1.symm.trans (C.2.2.2.2.2.1.1.2 1 _ rfl).2)
      have hR' : am_R G (am_new S 21 n.toNatClampNeg n.toNatClampNeg) (H.push { cls := cA, slots := Array.replicate n.toNatClampNeg (defaultValue (newarray.typeOf .long)), vm := .none }) := by
        refine am_pusha hR (fun _ => ?_)
        have e : am_e G (am_new S 21 n.toNatClampNeg n.toNatClampNeg) (am_n S) = .inl (am_cl G 21, n.toNatClampNeg, .inr (.inl (fun _ => 0))) := by
          unfold am_e
          rw [show am_k (am_new S 21 n.toNatClampNeg n.toNatClampNeg) (am_n S) = 21 from va_up_self _ _ _, show am_l (am_new S 21 n.toNatClampNeg n.toNatClampNeg) (am_n S) = n.toNatClampNeg from va_up_self _ _ _, show am_j (am_new S 21 n.toNatClampNeg n.toNatClampNeg) (am_n S) = fun _ => 0 from va_up_self _ _ _]
          rfl
        rw [e]
        show (H.push _)[H.size]? = some (vp_cell _ _)
        rw [vp_cell_l, ← arrV_new, ← hcA]
        simp
        exact Or.inr rfl
      have h9 := g2 (hle.tr ⟨Nat.le_succ _, Nat.le_add_right _ _⟩) _ ls locs hR' hl hb
      rw [(am_new_eq (kd := 21) (len := n.toNatClampNeg) (sl := n.toNatClampNeg) hle).1, (am_new_eq (kd := 21) (len := n.toNatClampNeg) (sl := n.toNatClampNeg) hle).2]
      have ea : am_v G (.ref (am_n S)) = .ref H.size := by
        show Value.ref (am_L G (am_n S)) = _
        rw [hR.addr]
      rw [List.map_cons, ea] at h9
      exact h9
    next => cases hk
  next => cases hk
theorem am_newarr_ref (C : am_C X cc nL own G S0 fin.2 fr lo) {kd t0 idx : Nat} {Cn : String} (hk1 : 22 ≤ kd) (hk2 : kd < 25) (ht : (am_ty G)[t0]? = some (am_cl G kd, .object Cn)) (h1 : Cond.classLink own idx Cn ∈ am_tb) (h2 : Cn ∈ am_aos)
    (hdg : decode cc pc = .ok (.anewarray idx, 3)) (h : am_W X G S0 fin nL (pc + 3) k) : am_W X G S0 fin nL pc (c_newa kd k) := by
  intro lv st S hk
  dsimp only [c_newa] at hk
  split at hk
  next n rr =>
    split at hk
    next hc =>
      obtain ⟨g1, g2⟩ := h _ _ _ hk
      obtain ⟨l1, l2, l3⟩ := am_new_le g1
      refine ⟨l1, fun hle H ls locs hR hl hb => ?_⟩
      obtain ⟨r1, r2⟩ := am_new_ok hle l2 l3 C.2.2.2.2.2.2.2.1 C.2.2.2.2.2.2.2.2.1
      have hz : n.toNatClampNeg ≤ 60000 := by rw [am_clampN]; omega
      refine W.anew (C := Cn) C.1 C.2.1 C.2.2.2.1 (C.2.2.2.2.1 _ h1) (Cond.arrayOver_alike (Vm.Alike.refl (xs X).vm) (C.2.2.2.2.2.1.2.2.2.2.2.2.2.2.2 _ h2)) rfl hdg rfl (am_clamp hc.1) (by omega) r1 r2 fun cA kA comp f1 f2 f3 f4 => ?_
      obtain ⟨-, -, -, -, -, -, f9⟩ : ArrOfT (xs X) (am_cl G kd) (.object Cn) ∧ ∃ (kA : Class) (comp : ClassId), (xs X).vm.classes[am_cl G kd]? = some kA ∧ kA.kind = .array comp (.object Cn) ∧ (xs X).vm.findClass Cn = some comp ∧ (xs X).vm.findClass ("[" ++ (FieldType.object Cn).toString) = some (am_cl G kd) := C.2.2.2.2.2.1.1.2 t0 _ ht
      have hcA : cA = am_cl G kd := Option.some.inj (f1.symm.trans f9)
      have hR' : am_R G (am_new S kd n.toNatClampNeg n.toNatClampNeg) (H.push { cls := cA, slots := Array.replicate n.toNatClampNeg .null, vm := .none }) := by
        refine am_pusha hR (fun _ => ?_)
        have e : am_e G (am_new S kd n.toNatClampNeg n.toNatClampNeg) (am_n S) = .inl (am_cl G kd, n.toNatClampNeg, .inr (.inr (.inr (.inr (fun _ => none))))) := by
          unfold am_e
          rw [show am_k (am_new S kd n.toNatClampNeg n.toNatClampNeg) (am_n S) = kd from va_up_self _ _ _, show am_l (am_new S kd n.toNatClampNeg n.toNatClampNeg) (am_n S) = n.toNatClampNeg from va_up_self _ _ _, show am_r (am_new S kd n.toNatClampNeg n.toNatClampNeg) (am_n S) = fun _ => none from va_up_self _ _ _]
          rw [if_neg (by omega), if_neg (by omega), if_neg (by omega)]
          rfl
        rw [e]
        show (H.push _)[H.size]? = some (vp_cell _ _)
        rw [vp_cell_q]
        show _ = some (arrV _ _ (fun _ => Value.null))
        rw [← arrV_new, ← hcA]
        simp
      have h9 := g2 (hle.tr ⟨Nat.le_succ _, Nat.le_add_right _ _⟩) _ ls locs hR' hl hb
      rw [(am_new_eq (kd := kd) (len := n.toNatClampNeg) (sl := n.toNatClampNeg) hle).1, (am_new_eq (kd := kd) (len := n.toNatClampNeg) (sl := n.toNatClampNeg) hle).2]
      have ea : am_v G (.ref (am_n S)) = .ref H.size := by
        show Value.ref (am_L G (am_n S)) = _
        rw [hR.addr]
      rw [List.map_cons, ea] at h9
      exact h9
    next => cases hk
  next => cases hk
/-- a store of a reference: the entry behind it -/
theorem am_e_aas {S : am_S} {a b j kd : Nat} (h1 : 22 ≤ kd) (h2 : kd < 25) (ha : am_k S a = kd) : am_e G (am_putR S a j (some b)) a = .inl (am_cl G kd, am_l S a, .inr (.inr (.inr (.inr (va_up (fun q => (am_r S a q).map (am_L G)) j (some (am_L G b))))))) := by
  unfold am_e
  show (if am_k S a < 12 then _ else if am_k S a = 20 then _ else if am_k S a = 21 then _ else _) = _
  rw [if_neg (by omega), if_neg (by omega), if_neg (by omega)]
  rw [show am_r (am_putR S a j (some b)) a = va_up (am_r S a) j (some b) from va_up_self _ _ _]
  have e9 : (fun q => (va_up (am_r S a) j (some b) q).map (am_L G)) = va_up (fun q => (am_r S a q).map (am_L G)) j (some (am_L G b)) := by
    funext q
    by_cases hq : q = j
    · subst hq
      rw [va_up_self, va_up_self]
      rfl
    · rw [va_up_ne _ _ hq, va_up_ne _ _ hq]
  show (Sum.inl (am_cl G (am_k S a), am_l S a, _) : va_E) = _
  rw [ha]
  rw [e9]
theorem am_cell_aas {cI : ClassId} {N j b : Nat} {f : Nat → Option Nat} : (vp_cell cI (N, .inr (.inr (.inr (.inr f))))).setSlot j (.ref b) = vp_cell cI (N, .inr (.inr (.inr (.inr (va_up f j (some b)))))) := by
  rw [vp_cell_q, vp_cell_q, arrV_store]
  congr 1
  funext q
  by_cases hq : q = j
  · subst hq
    simp [updV, va_up, va_rf]
  · simp [updV, va_up, hq]
theorem am_aastore (C : am_C X cc nL own G S0 fin.2 fr lo) {kd t0 ci : Nat} {r : vw_C} (hk1 : 22 ≤ kd) (hk2 : kd < 25) (hr : am_CI ci r) (ht : (am_ty G)[t0]? = some (am_cl G kd, .object r.1)) (hdg : decode cc pc = .ok (.aastore, 1)) (h : am_W X G S0 fin nL (pc + 1) k) : am_W X G S0 fin nL pc (c_aas kd ci k) := by
  intro lv st S hk
  dsimp only [c_aas] at hk
  split at hk
  next b i a rr =>
    split at hk
    next hc =>
      obtain ⟨h1, h2⟩ := h _ _ _ hk
      refine ⟨h1, fun hle H ls locs hR hl1 hb => ?_⟩
      obtain ⟨ha, hP⟩ := am_at_ref hR hk1 hk2 hc.1
      obtain ⟨hba, hPb⟩ := am_at_obj hR hr.2.1 hc.2.1
      have hin : vp_in i (am_l S a) := am_in hc.2.2
      obtain ⟨r', hr', cellV, g1, g2, g3, -⟩ := hPb 0 _ rfl
      have hcls := (C.2.2.2.2.2.1.1.1 ci r hr.1).2
      obtain ⟨-, kA, comp, k1, k2, k3, -⟩ : ArrOfT (xs X) (am_cl G kd) (.object r.1) ∧ ∃ (kA : Class) (comp : ClassId), (xs X).vm.classes[am_cl G kd]? = some kA ∧ kA.kind = .array comp (.object r.1) ∧ (xs X).vm.findClass r.1 = some comp ∧ (xs X).vm.findClass ("[" ++ (FieldType.object r.1).toString) = some (am_cl G kd) := C.2.2.2.2.2.1.1.2 t0 _ ht
      have hcomp : comp = (am_D G).1 ci := Option.some.inj (k3.symm.trans hcls.1)
      subst hcomp
      obtain ⟨kC, hkC, -⟩ := hcls.2
      refine W.aast C.1 C.2.1 (hP 0 _ rfl) (fun q h => by cases h) (fun h => by cases h) k1 k2 rfl hkC ⟨am_clamp hc.2.2.1, by show i.toNatClampNeg < (arrV _ _ _).slots.size; rw [arrV_size]; exact am_clt hc.2.2⟩ g1 (fun q h => by rw [g3] at h; cases h) (by rw [g2]; exact hkC) (by rw [g2]; exact va_assign hcls) rfl rfl hdg fun H1 e z oq => ?_
      refine h2 hle H1 ls _ (hR.write (S' := am_putR S a i.toNatClampNeg (some b)) ha rfl rfl (fun b hne _ => am_e_putR hne) z oq ?_) hl1 (am_locs hb ha.1)
      rw [am_e_aas hk1 hk2 hc.1]
      show H1[am_L G a]? = some (vp_cell _ _)
      rw [e, am_cell_aas]
    next => cases hk
  next => cases hk
theorem am_aastore_t (C : am_C X cc nL own G S0 fin.2 fr lo) (hdg : decode cc pc = .ok (.aastore, 1)) (h : am_W X G S0 fin nL (pc + 1) k) : am_W X G S0 fin nL pc (c_aast k) := by
  intro lv st S hk
  dsimp only [c_aast] at hk
  split at hk
  next b i a rr =>
    split at hk
    next hc =>
      obtain ⟨h1, h2⟩ := h _ _ _ hk
      refine ⟨h1, fun hle H ls locs hR hl1 hb => ?_⟩
      obtain ⟨ha, hP⟩ := am_at_ref hR (by omega) (by omega) hc.1
      have hin : vp_in i (am_l S a) := am_in hc.2.2
      have hE := C.2.2.2.2.2.1.2.2.2.2.1
      obtain ⟨j, rfl, hj⟩ := am_isTx hc.2.1
      obtain ⟨cellV, g1, g2, g3, -⟩ := ((hE j hj).1).kept (H1 := H) (fun q hq hA => hR.2.2.1 q (by omega))
      have g1 : H[am_A G (j + 1)]? = some cellV := g1
      have hLb : am_L G (j + 1) = am_A G (j + 1) := by
        unfold am_L
        rw [if_pos (by omega)]
      rw [← hLb] at g1
      obtain ⟨-, kA, comp, k1, k2, k3, -⟩ : ArrOfT (xs X) (am_cl G 24) (.object "java/lang/String") ∧ ∃ (kA : Class) (comp : ClassId), (xs X).vm.classes[am_cl G 24]? = some kA ∧ kA.kind = .array comp (.object "java/lang/String") ∧ (xs X).vm.findClass "java/lang/String" = some comp ∧ (xs X).vm.findClass ("[" ++ (FieldType.object "java/lang/String").toString) = some (am_cl G 24) := C.2.2.2.2.2.1.1.2 4 _ rfl
      have hcomp : comp = cellV.cls := Option.some.inj (k3.symm.trans g3)
      subst hcomp
      obtain ⟨kE, hkE, -⟩ := Vm.findClass_spec k3
      refine W.aast C.1 C.2.1 (hP 0 _ rfl) (fun q h => by cases h) (fun h => by cases h) k1 k2 rfl hkE ⟨am_clamp hc.2.2.1, by show i.toNatClampNeg < (arrV _ _ _).slots.size; rw [arrV_size]; exact am_clt hc.2.2⟩ g1 (fun q h => by rw [h] at g2; cases g2) hkE (am_asg _ _) rfl rfl hdg fun H1 e z oq => ?_
      refine h2 hle H1 ls _ (hR.write (S' := am_putR S a i.toNatClampNeg (some (j + 1))) ha rfl rfl (fun b hne _ => am_e_putR hne) z oq ?_) hl1 (am_locs hb ha.1)
      rw [am_e_aas (by omega) (by omega) hc.1]
      show H1[am_L G a]? = some (vp_cell _ _)
      rw [e, am_cell_aas]
    next => cases hk
  next => cases hk
end AM6
