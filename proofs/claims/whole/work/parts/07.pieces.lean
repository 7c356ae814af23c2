/-! THE PIECES: each turns what follows it into what it does; am_W: a piece at a place of the bytecode does what the machine does -/
abbrev am_X : Type := Program × Launch × Env × Room × State × MethodId × Array Value × List Frame × Method × Code × (State → Prop)
abbrev xp (X : am_X) : Program := X.1
abbrev xl (X : am_X) : Launch := X.2.1
abbrev xe (X : am_X) : Env := X.2.2.1
abbrev xR (X : am_X) : Room := X.2.2.2.1
abbrev xs (X : am_X) : State := X.2.2.2.2.1
abbrev xm (X : am_X) : MethodId := X.2.2.2.2.2.1
abbrev xa (X : am_X) : Array Value := X.2.2.2.2.2.2.1
abbrev xb (X : am_X) : List Frame := X.2.2.2.2.2.2.2.1
abbrev xh (X : am_X) : Method := X.2.2.2.2.2.2.2.2.1
abbrev xc (X : am_X) : Code := X.2.2.2.2.2.2.2.2.2.1
abbrev xQ (X : am_X) : State → Prop := X.2.2.2.2.2.2.2.2.2.2
def am_w (X : am_X) (H : Heap) (locs : List Loc) (cells slots : Nat) (g : JFrame) : Prop := W (xp X) (xl X) (xe X) (xR X) (xs X) (xm X) (xa X) (xb X) (xh X) (xc X) H locs cells slots (xQ X) g
def am_vp (G : am_G) (q : Nat × Value) : Nat × Value := (q.1, am_v G q.2)
def am_sioD : String := "Ljava/util/function/BiFunction;"
/-- the texts: each at the place i + 1, its value at i + 33 -/
def am_SS (G : am_G) (U : State) : Prop := ∀ i : Nat, i < 32 → va_O "java/lang/String" (am_A G (i + 1)) (fun q => am_B G ≤ q) U (am_H G) ∧ va_OF "java/lang/String" "coder" "B" (.int 0) (am_A G (i + 1)) (fun q => am_B G ≤ q) U (am_H G) ∧ va_OF "java/lang/String" "value" "[B" (.ref (am_A G (i + 33))) (am_A G (i + 1)) (fun q => am_B G ≤ q) U (am_H G) ∧ va_T .byte (am_A G (i + 33)) (am_len.getD i 0) (fun j => .int ((am_byt.getD i []).getD j 0)) (fun q => am_B G ≤ q) U (am_H G)
theorem am_SS.moved {G : am_G} {u U : State} (hv : u.vm.Alike U.vm) (h : am_SS G u) : am_SS G U := fun i hi => ⟨va_O.moved hv (h i hi).1, va_OF.moved hv (h i hi).2.1, va_OF.moved hv (h i hi).2.2.1, va_T.moved hv (h i hi).2.2.2⟩
/-- what SIOOBE_FORMATTER holds stands at 0 -/
def am_KS (G : am_G) (U : State) : Prop := am_SS G U ∧ va_Z "java/lang/String" "COMPACT_STRINGS" "Z" (.int 1) (fun q => am_B G ≤ q) U (am_H G) ∧
  (va_Z "jdk/internal/util/Preconditions" "SIOOBE_FORMATTER" am_sioD .null (fun q => am_B G ≤ q) U (am_H G) ∨ va_Z "jdk/internal/util/Preconditions" "SIOOBE_FORMATTER" am_sioD (.ref (am_A G 0)) (fun q => am_B G ≤ q) U (am_H G)) ∧
  (∀ q ∈ am_nst, va_Nw (.methodLinkNest q.1 q.2.1 q.2.2.1 q.2.2.2) U) ∧ va_Nc "java/lang/IllegalArgumentException" "java/util/NoSuchElementException" U ∧ ∀ n ∈ am_aos, (Cond.arrayOver (.object n)).before #[] U = true
theorem am_KS.warm {G : am_G} {s U : State} (hW : s.WarmedH U.vm) (h : am_KS G s) : am_KS G U := ⟨am_SS.moved hW.alike h.1, va_Z.moved hW.alike h.2.1, h.2.2.1.imp (va_Z.moved hW.alike) (va_Z.moved hW.alike), fun q hq => va_Nw.warmM hW (h.2.2.2.1 q hq), va_Nc.moved hW.alike h.2.2.2.2.1, fun n hn => Cond.arrayOver_alike hW.alike (h.2.2.2.2.2 n hn)⟩
theorem am_KS.same {G : am_G} {u U : State} (hv : u.vm = U.vm) (h : am_KS G u) : am_KS G U := by
  have hA : u.vm.Alike U.vm := hv ▸ Vm.Alike.refl u.vm
  exact ⟨am_SS.moved hA h.1, va_Z.moved hA h.2.1, h.2.2.1.imp (va_Z.moved hA) (va_Z.moved hA), fun q hq => va_Nw.same rfl hv (h.2.2.2.1 q hq), va_Nc.moved hA h.2.2.2.2.1, fun n hn => Cond.arrayOver_alike hA (h.2.2.2.2.2 n hn)⟩
def am_KK (G : am_G) (U : State) : Prop := va_K (am_D G) vwCl (am_ty G) U ∧ (∀ q ∈ am_strs, vk_R q.1 q.2.1 q.2.2.1 (am_A G q.2.2.2) U) ∧
  vx_Zq Bundle.tN "UNASSIGNED_STACK" Bundle.steD (fun q => am_B G ≤ q) U (am_H G) ∧ vx_Zq Bundle.tN "SUPPRESSED_SENTINEL" Bundle.listD (fun q => am_B G ≤ q) U (am_H G) ∧
  am_KS G U
theorem am_KK.warm {G : am_G} {s U : State} (hW : s.WarmedH U.vm) (h : am_KK G s) : am_KK G U := by
  obtain ⟨h1, h2, h3, h4, h5⟩ := h
  have hv := hW.alike
  exact ⟨va_K.moved hv h1, fun q hq => (h2 q hq).warm hW, vx_Zq.moved hv h3, vx_Zq.moved hv h4, am_KS.warm hW h5⟩
theorem am_KK.calling {G : am_G} {U : State} {g : JFrame} {mk : MethodId} {a : Array Value} (h : am_KK G U) : am_KK G (U.calling g mk a) := by
  obtain ⟨h1, h2, h3, h4, h5⟩ := h
  exact ⟨va_K.moved (u := U) (U := U.calling g mk a) (Vm.Alike.refl U.vm) h1, fun q hq => vk_R.same (u := U) (U := U.calling g mk a) rfl (h2 q hq), vx_Zq.moved (u := U) (U := U.calling g mk a) (Vm.Alike.refl U.vm) h3, vx_Zq.moved (u := U) (U := U.calling g mk a) (Vm.Alike.refl U.vm) h4, am_KS.same (u := U) (U := U.calling g mk a) rfl h5⟩
/-- what stands through a method's body -/
def am_C (X : am_X) (cc : ByteArray) (nL : Nat) (own : String) (G : am_G) (S0 SF : am_S) (fr lo : Nat) : Prop :=
  (xp X).tables.exec = Jvm.exec ∧ (xc X).code = cc ∧ (xc X).maxLocals = nL ∧ (xs X).vm.findClass own = some (xm X).cls ∧ (∀ w ∈ am_tb, w.before (xa X) (xs X) = true) ∧ am_KK G (xs X) ∧ am_R G S0 (xs X).heap ∧
  am_n SF - am_n S0 ≤ (xR X).cells ∧ am_z SF - am_z S0 ≤ (xR X).slots ∧ (xh X).locks = false ∧ (xl X).stackTraces = false ∧ fr ≤ (xR X).frames ∧ lo ≤ (xR X).locals
def am_W (X : am_X) (G : am_G) (S0 : am_S) (fin : am_O × am_S) (nL pc : Nat) (k : am_K) : Prop :=
  ∀ (lv : List (Nat × Value)) (st : List Value) (S : am_S), k lv st S = some fin → am_le S fin.2 ∧ (am_le S0 S → ∀ (H : Heap) (ls : Array Slot) (locs : List Loc), am_R G S H → lv_has ls nL (lv.map (am_vp G)) → (∀ q ∈ locs, am_B G ≤ q.base) →
    am_w X H locs (am_n S - am_n S0) (am_z S - am_z S0) (F0 (xm X) pc ls (st.map (am_v G))))
/-- the method's end by a return, by a throw -/
def am_Rt (X : am_X) (cc : ByteArray) (G : am_G) (S0 : am_S) (fin : am_O × am_S) (ins : Instr) (ok : Option Value → Prop) : Prop :=
  ∀ (v : Option Value) (H : Heap) (ls : Array Slot) (locs : List Loc) (pc : Nat), ok v → fin.1 = .inl v → am_R G fin.2 H → (∀ q ∈ locs, am_B G ≤ q.base) → decode cc pc = .ok (ins, 1) →
    am_w X H locs (am_n fin.2 - am_n S0) (am_z fin.2 - am_z S0) (F0 (xm X) pc ls ((v.map (am_v G)).toList))
def am_Th (X : am_X) (G : am_G) (S0 : am_S) (fin : am_O × am_S) : Prop :=
  ∀ (E : String) (H : Heap) (ls : Array Slot) (locs : List Loc) (pc : Nat) (rest : List Value) (q : Addr) (ce : Cell), fin.1 = .inr E → am_R G fin.2 H → H[q]? = some ce → ce.vm = .none → (xs X).vm.findClass E = some ce.cls → (∀ z ∈ locs, am_B G ≤ z.base) →
    vx_W (xp X) (xl X) (xe X) (xR X) (xs X) (xm X) (xa X) (xb X) (xh X) (xc X) H locs (am_n fin.2 - am_n S0) (am_z fin.2 - am_z S0) (xQ X) (F0 (xm X) pc ls rest) q
def p_v (v : Option Value) : Prop := v = none
def p_i (v : Option Value) : Prop := ∃ x, v = some (.int x)
def p_z (v : Option Value) : Prop := v = some (.int 0) ∨ v = some (.int 1)
def p_l (v : Option Value) : Prop := ∃ x, v = some (.long x)
def p_f (v : Option Value) : Prop := ∃ x, v = some (.float x)
def p_d (v : Option Value) : Prop := ∃ x, v = some (.double x)
def p_r (v : Option Value) : Prop := ∃ x, v = some (.ref x)
theorem am_lk_mem : ∀ (lv : List (Nat × Value)) (i : Nat) (v : Value), am_lk lv i = some v → (i, v) ∈ lv
  | [], _, _, h => by cases h
  | q :: r, i, v, h => by
    unfold am_lk at h
    split at h
    next hq =>
      cases h
      rw [← hq]
      exact List.mem_cons_self
    next hq => exact List.mem_cons_of_mem _ (am_lk_mem r i v h)
theorem am_lkS {G : am_G} {ls : Array Slot} {nL i : Nat} {lv : List (Nat × Value)} {v : Value} (hl : lv_has ls nL (lv.map (am_vp G))) (h : am_lk lv i = some v) : ls[i]? = some (.val (am_v G v)) :=
  hl.2.2 (i, am_v G v) (List.mem_map.mpr ⟨(i, v), am_lk_mem lv i v h, rfl⟩)
theorem am_st1S {G : am_G} {lv : List (Nat × Value)} {i : Nat} {v : Value} : (i, am_v G v) :: (lv.map (am_vp G)).filter (fun q => !(q.1 == i) && !(q.1 + 1 == i && q.2.category == 2)) = (am_st1 lv i v).map (am_vp G) := by
  unfold am_st1
  rw [List.map_cons, List.filter_map]
  congr 2
  congr 1
  funext q
  show _ = _
  simp only [Function.comp, am_vp, am_v_cat]
theorem am_st2S {G : am_G} {lv : List (Nat × Value)} {i : Nat} {v : Value} : (i, am_v G v) :: (lv.map (am_vp G)).filter (fun q => !(q.1 == i) && (!(q.1 == i + 1) && !(q.1 + 1 == i && q.2.category == 2))) = (am_st2 lv i v).map (am_vp G) := by
  unfold am_st2
  rw [List.map_cons, List.filter_map]
  congr 2
  congr 1
  funext q
  show _ = _
  simp only [Function.comp, am_vp, am_v_cat]
section AM1
variable {X : am_X} {cc : ByteArray} {nL : Nat} {own : String} {G : am_G} {S0 : am_S} {fin : am_O × am_S} {fr lo pc : Nat} {k k1 k2 : am_K}

def c_i (v : Int32) (k : am_K) : am_K := fun lv st S => k lv (.int v :: st) S
def c_l (v : Int64) (k : am_K) : am_K := fun lv st S => k lv (.long v :: st) S
def c_f (v : UInt32) (k : am_K) : am_K := fun lv st S => k lv (.float v :: st) S
def c_d (v : UInt64) (k : am_K) : am_K := fun lv st S => k lv (.double v :: st) S
def c_a (a : Nat) (k : am_K) : am_K := fun lv st S => k lv (.ref a :: st) S
theorem am_iconst (C : am_C X cc nL own G S0 fin.2 fr lo) {n : Int} {v : Int32} (hdg : decode cc pc = .ok (.iconst n, 1)) (hv : Int32.ofInt n = v) (h : am_W X G S0 fin nL (pc + 1) (k)) : am_W X G S0 fin nL (pc) (c_i v k) := by
  intro lv st S hk
  obtain ⟨h1, h2⟩ := h _ _ _ hk
  exact ⟨h1, fun hle H ls locs hR hl hb => lv_iconst C.1 C.2.1 hdg hv (h2 hle H ls locs hR hl hb)⟩

theorem am_bipush (C : am_C X cc nL own G S0 fin.2 fr lo) {n : Int} {v : Int32} (hdg : decode cc pc = .ok (.bipush n, 2)) (hv : (Int8.ofInt n).toInt32 = v) (h : am_W X G S0 fin nL (pc + 2) (k)) : am_W X G S0 fin nL (pc) (c_i v k) := by
  intro lv st S hk
  obtain ⟨h1, h2⟩ := h _ _ _ hk
  exact ⟨h1, fun hle H ls locs hR hl hb => lv_bipush C.1 C.2.1 hdg hv (h2 hle H ls locs hR hl hb)⟩

theorem am_sipush (C : am_C X cc nL own G S0 fin.2 fr lo) {n : Int} {v : Int32} (hdg : decode cc pc = .ok (.sipush n, 3)) (hv : (Int16.ofInt n).toInt32 = v) (h : am_W X G S0 fin nL (pc + 3) (k)) : am_W X G S0 fin nL (pc) (c_i v k) := by
  intro lv st S hk
  obtain ⟨h1, h2⟩ := h _ _ _ hk
  exact ⟨h1, fun hle H ls locs hR hl hb => lv_sipush C.1 C.2.1 hdg hv (h2 hle H ls locs hR hl hb)⟩

theorem am_lconst (C : am_C X cc nL own G S0 fin.2 fr lo) {n : Fin 2} {v : Int64} (hdg : decode cc pc = .ok (.lconst n, 1)) (hv : Int64.ofNat (n : Nat) = v) (h : am_W X G S0 fin nL (pc + 1) (k)) : am_W X G S0 fin nL (pc) (c_l v k) := by
  intro lv st S hk
  obtain ⟨h1, h2⟩ := h _ _ _ hk
  exact ⟨h1, fun hle H ls locs hR hl hb => lv_lconst C.1 C.2.1 hdg hv (h2 hle H ls locs hR hl hb)⟩

theorem am_ldc (C : am_C X cc nL own G S0 fin.2 fr lo) {n : Nat} {v : Int32} (hdg : decode cc pc = .ok (.ldc n, 2)) (hw : Jvm.Cond.constant own n v ∈ am_tb) (h : am_W X G S0 fin nL (pc + 2) (k)) : am_W X G S0 fin nL (pc) (c_i v k) := by
  intro lv st S hk
  obtain ⟨h1, h2⟩ := h _ _ _ hk
  exact ⟨h1, fun hle H ls locs hR hl hb => lv_ldc C.1 C.2.1 C.2.2.2.1 (C.2.2.2.2.1 _ hw) hdg (h2 hle H ls locs hR hl hb)⟩

theorem am_ldc2 (C : am_C X cc nL own G S0 fin.2 fr lo) {n : Nat} {v : Int64} (hdg : decode cc pc = .ok (.ldc2_w n, 3)) (hw : Jvm.Cond.constantLong own n v ∈ am_tb) (h : am_W X G S0 fin nL (pc + 3) (k)) : am_W X G S0 fin nL (pc) (c_l v k) := by
  intro lv st S hk
  obtain ⟨h1, h2⟩ := h _ _ _ hk
  exact ⟨h1, fun hle H ls locs hR hl hb => lv_ldc2 C.1 C.2.1 C.2.2.2.1 (C.2.2.2.2.1 _ hw) hdg (h2 hle H ls locs hR hl hb)⟩

theorem am_fconst0 (C : am_C X cc nL own G S0 fin.2 fr lo)  (hdg : decode cc pc = .ok (.fconst 0, 1)) (h : am_W X G S0 fin nL (pc + 1) (k)) : am_W X G S0 fin nL (pc) (c_f FP.fconst0 k) := by
  intro lv st S hk
  obtain ⟨h1, h2⟩ := h _ _ _ hk
  exact ⟨h1, fun hle H ls locs hR hl hb => lv_fconst0 C.1 C.2.1 hdg (h2 hle H ls locs hR hl hb)⟩

theorem am_dconst0 (C : am_C X cc nL own G S0 fin.2 fr lo)  (hdg : decode cc pc = .ok (.dconst 0, 1)) (h : am_W X G S0 fin nL (pc + 1) (k)) : am_W X G S0 fin nL (pc) (c_d FP.dconst0 k) := by
  intro lv st S hk
  obtain ⟨h1, h2⟩ := h _ _ _ hk
  exact ⟨h1, fun hle H ls locs hR hl hb => lv_dconst0 C.1 C.2.1 hdg (h2 hle H ls locs hR hl hb)⟩

def c_ild (i : Nat) (k : am_K) : am_K := fun lv st S => match am_lk lv i with
  | some (.int x) => k lv (.int x :: st) S
  | _ => none
theorem am_iload (C : am_C X cc nL own G S0 fin.2 fr lo) {i : Nat} (hdg : decode cc pc = .ok (.iload i, 2)) (h : am_W X G S0 fin nL (pc + 2) (k)) : am_W X G S0 fin nL (pc) (c_ild i k) := by
  intro lv st S hk
  dsimp only [c_ild] at hk
  split at hk
  next x hx =>
    obtain ⟨h1, h2⟩ := h _ _ _ hk
    exact ⟨h1, fun hle H ls locs hR hl hb => lv_iload C.1 C.2.1 hdg (am_lkS hl hx) (h2 hle H ls locs hR hl hb)⟩
  next => cases hk

theorem am_iload_n (C : am_C X cc nL own G S0 fin.2 fr lo) {n : Fin 4} {i : Nat} (hdg : decode cc pc = .ok (.iload_n n, 1)) (hi : (n : Nat) = i) (h : am_W X G S0 fin nL (pc + 1) (k)) : am_W X G S0 fin nL (pc) (c_ild i k) := by
  intro lv st S hk
  dsimp only [c_ild] at hk
  split at hk
  next x hx =>
    obtain ⟨h1, h2⟩ := h _ _ _ hk
    exact ⟨h1, fun hle H ls locs hR hl hb => lv_iload_n C.1 C.2.1 hdg hi (am_lkS hl hx) (h2 hle H ls locs hR hl hb)⟩
  next => cases hk

def c_lld (i : Nat) (k : am_K) : am_K := fun lv st S => match am_lk lv i with
  | some (.long x) => k lv (.long x :: st) S
  | _ => none
theorem am_lload (C : am_C X cc nL own G S0 fin.2 fr lo) {i : Nat} (hdg : decode cc pc = .ok (.lload i, 2)) (h : am_W X G S0 fin nL (pc + 2) (k)) : am_W X G S0 fin nL (pc) (c_lld i k) := by
  intro lv st S hk
  dsimp only [c_lld] at hk
  split at hk
  next x hx =>
    obtain ⟨h1, h2⟩ := h _ _ _ hk
    exact ⟨h1, fun hle H ls locs hR hl hb => lv_lload C.1 C.2.1 hdg (am_lkS hl hx) (h2 hle H ls locs hR hl hb)⟩
  next => cases hk

theorem am_lload_n (C : am_C X cc nL own G S0 fin.2 fr lo) {n : Fin 4} {i : Nat} (hdg : decode cc pc = .ok (.lload_n n, 1)) (hi : (n : Nat) = i) (h : am_W X G S0 fin nL (pc + 1) (k)) : am_W X G S0 fin nL (pc) (c_lld i k) := by
  intro lv st S hk
  dsimp only [c_lld] at hk
  split at hk
  next x hx =>
    obtain ⟨h1, h2⟩ := h _ _ _ hk
    exact ⟨h1, fun hle H ls locs hR hl hb => lv_lload_n C.1 C.2.1 hdg hi (am_lkS hl hx) (h2 hle H ls locs hR hl hb)⟩
  next => cases hk

def c_rld (i : Nat) (k : am_K) : am_K := fun lv st S => match am_lk lv i with
  | some (.ref x) => k lv (.ref x :: st) S
  | _ => none
theorem am_aload (C : am_C X cc nL own G S0 fin.2 fr lo) {i : Nat} (hdg : decode cc pc = .ok (.aload i, 2)) (h : am_W X G S0 fin nL (pc + 2) (k)) : am_W X G S0 fin nL (pc) (c_rld i k) := by
  intro lv st S hk
  dsimp only [c_rld] at hk
  split at hk
  next x hx =>
    obtain ⟨h1, h2⟩ := h _ _ _ hk
    exact ⟨h1, fun hle H ls locs hR hl hb => lv_aload C.1 C.2.1 hdg (am_lkS hl hx) (h2 hle H ls locs hR hl hb)⟩
  next => cases hk

theorem am_aload_n (C : am_C X cc nL own G S0 fin.2 fr lo) {n : Fin 4} {i : Nat} (hdg : decode cc pc = .ok (.aload_n n, 1)) (hi : (n : Nat) = i) (h : am_W X G S0 fin nL (pc + 1) (k)) : am_W X G S0 fin nL (pc) (c_rld i k) := by
  intro lv st S hk
  dsimp only [c_rld] at hk
  split at hk
  next x hx =>
    obtain ⟨h1, h2⟩ := h _ _ _ hk
    exact ⟨h1, fun hle H ls locs hR hl hb => lv_aload_n C.1 C.2.1 hdg hi (am_lkS hl hx) (h2 hle H ls locs hR hl hb)⟩
  next => cases hk

def c_dld (i : Nat) (k : am_K) : am_K := fun lv st S => match am_lk lv i with
  | some (.double x) => k lv (.double x :: st) S
  | _ => none
theorem am_dload (C : am_C X cc nL own G S0 fin.2 fr lo) {i : Nat} (hdg : decode cc pc = .ok (.dload i, 2)) (h : am_W X G S0 fin nL (pc + 2) (k)) : am_W X G S0 fin nL (pc) (c_dld i k) := by
  intro lv st S hk
  dsimp only [c_dld] at hk
  split at hk
  next x hx =>
    obtain ⟨h1, h2⟩ := h _ _ _ hk
    exact ⟨h1, fun hle H ls locs hR hl hb => lv_dload C.1 C.2.1 hdg (am_lkS hl hx) (h2 hle H ls locs hR hl hb)⟩
  next => cases hk

def c_ist (i : Nat) (k : am_K) : am_K := fun lv st S => match st with
  | .int x :: r => k (am_st1 lv i (.int x)) r S
  | _ => none
theorem am_istore (C : am_C X cc nL own G S0 fin.2 fr lo) {i : Nat} (hdg : decode cc pc = .ok (.istore i, 2)) (hn : i < nL) (h : am_W X G S0 fin nL (pc + 2) (k)) : am_W X G S0 fin nL (pc) (c_ist i k) := by
  intro lv st S hk
  dsimp only [c_ist] at hk
  split at hk
  next x r =>
    obtain ⟨h1, h2⟩ := h _ _ _ hk
    exact ⟨h1, fun hle H ls locs hR hl hb => lv_istore C.1 C.2.1 hdg hl hn (am_st1S (v := .int x)) (fun ls' hl' => h2 hle H ls' locs hR hl' hb)⟩
  next => cases hk

theorem am_istore_n (C : am_C X cc nL own G S0 fin.2 fr lo) {n : Fin 4} {i : Nat} (hdg : decode cc pc = .ok (.istore_n n, 1)) (hi : (n : Nat) = i) (hn : i < nL) (h : am_W X G S0 fin nL (pc + 1) (k)) : am_W X G S0 fin nL (pc) (c_ist i k) := by
  intro lv st S hk
  dsimp only [c_ist] at hk
  split at hk
  next x r =>
    obtain ⟨h1, h2⟩ := h _ _ _ hk
    exact ⟨h1, fun hle H ls locs hR hl hb => lv_istore_n C.1 C.2.1 hdg hi hl hn (am_st1S (v := .int x)) (fun ls' hl' => h2 hle H ls' locs hR hl' hb)⟩
  next => cases hk

def c_lst (i : Nat) (k : am_K) : am_K := fun lv st S => match st with
  | .long x :: r => k (am_st2 lv i (.long x)) r S
  | _ => none
theorem am_lstore (C : am_C X cc nL own G S0 fin.2 fr lo) {i : Nat} (hdg : decode cc pc = .ok (.lstore i, 2)) (hn : i + 1 < nL) (h : am_W X G S0 fin nL (pc + 2) (k)) : am_W X G S0 fin nL (pc) (c_lst i k) := by
  intro lv st S hk
  dsimp only [c_lst] at hk
  split at hk
  next x r =>
    obtain ⟨h1, h2⟩ := h _ _ _ hk
    exact ⟨h1, fun hle H ls locs hR hl hb => lv_lstore C.1 C.2.1 hdg hl hn (am_st2S (v := .long x)) (fun ls' hl' => h2 hle H ls' locs hR hl' hb)⟩
  next => cases hk

theorem am_lstore_n (C : am_C X cc nL own G S0 fin.2 fr lo) {n : Fin 4} {i : Nat} (hdg : decode cc pc = .ok (.lstore_n n, 1)) (hi : (n : Nat) = i) (hn : i + 1 < nL) (h : am_W X G S0 fin nL (pc + 1) (k)) : am_W X G S0 fin nL (pc) (c_lst i k) := by
  intro lv st S hk
  dsimp only [c_lst] at hk
  split at hk
  next x r =>
    obtain ⟨h1, h2⟩ := h _ _ _ hk
    exact ⟨h1, fun hle H ls locs hR hl hb => lv_lstore_n C.1 C.2.1 hdg hi hl hn (am_st2S (v := .long x)) (fun ls' hl' => h2 hle H ls' locs hR hl' hb)⟩
  next => cases hk

def c_rst (i : Nat) (k : am_K) : am_K := fun lv st S => match st with
  | .ref x :: r => k (am_st1 lv i (.ref x)) r S
  | _ => none
theorem am_astore (C : am_C X cc nL own G S0 fin.2 fr lo) {i : Nat} (hdg : decode cc pc = .ok (.astore i, 2)) (hn : i < nL) (h : am_W X G S0 fin nL (pc + 2) (k)) : am_W X G S0 fin nL (pc) (c_rst i k) := by
  intro lv st S hk
  dsimp only [c_rst] at hk
  split at hk
  next x r =>
    obtain ⟨h1, h2⟩ := h _ _ _ hk
    exact ⟨h1, fun hle H ls locs hR hl hb => lv_astore C.1 C.2.1 hdg hl hn (am_st1S (v := .ref x)) (fun ls' hl' => h2 hle H ls' locs hR hl' hb)⟩
  next => cases hk

theorem am_astore_n (C : am_C X cc nL own G S0 fin.2 fr lo) {n : Fin 4} {i : Nat} (hdg : decode cc pc = .ok (.astore_n n, 1)) (hi : (n : Nat) = i) (hn : i < nL) (h : am_W X G S0 fin nL (pc + 1) (k)) : am_W X G S0 fin nL (pc) (c_rst i k) := by
  intro lv st S hk
  dsimp only [c_rst] at hk
  split at hk
  next x r =>
    obtain ⟨h1, h2⟩ := h _ _ _ hk
    exact ⟨h1, fun hle H ls locs hR hl hb => lv_astore_n C.1 C.2.1 hdg hi hl hn (am_st1S (v := .ref x)) (fun ls' hl' => h2 hle H ls' locs hR hl' hb)⟩
  next => cases hk

def c_dst (i : Nat) (k : am_K) : am_K := fun lv st S => match st with
  | .double x :: r => k (am_st2 lv i (.double x)) r S
  | _ => none
theorem am_dstore (C : am_C X cc nL own G S0 fin.2 fr lo) {i : Nat} (hdg : decode cc pc = .ok (.dstore i, 2)) (hn : i + 1 < nL) (h : am_W X G S0 fin nL (pc + 2) (k)) : am_W X G S0 fin nL (pc) (c_dst i k) := by
  intro lv st S hk
  dsimp only [c_dst] at hk
  split at hk
  next x r =>
    obtain ⟨h1, h2⟩ := h _ _ _ hk
    exact ⟨h1, fun hle H ls locs hR hl hb => lv_dstore C.1 C.2.1 hdg hl hn (am_st2S (v := .double x)) (fun ls' hl' => h2 hle H ls' locs hR hl' hb)⟩
  next => cases hk

def c_inc (i : Nat) (n : Int32) (k : am_K) : am_K := fun lv st S => match am_lk lv i with
  | some (.int x) => k (am_st1 lv i (.int (x + n))) st S
  | _ => none
theorem am_iinc (C : am_C X cc nL own G S0 fin.2 fr lo) {i : Nat} {n : Int} {v : Int32} (hdg : decode cc pc = .ok (.iinc i n, 3)) (hv : Int32.ofInt n = v) (hn : i < nL) (h : am_W X G S0 fin nL (pc + 3) (k)) : am_W X G S0 fin nL (pc) (c_inc i v k) := by
  intro lv st S hk
  dsimp only [c_inc] at hk
  split at hk
  next x hx =>
    obtain ⟨h1, h2⟩ := h _ _ _ hk
    refine ⟨h1, fun hle H ls locs hR hl hb => ?_⟩
    obtain ⟨kk, hkk⟩ := List.getElem?_of_mem (List.mem_map.mpr ⟨(i, .int x), am_lk_mem lv i _ hx, rfl⟩ : (i, Value.int x) ∈ lv.map (am_vp G))
    exact lv_iinc C.1 C.2.1 hdg hl hkk rfl hn (by rw [hv]; exact am_st1S (v := .int (x + v))) (fun ls' hl' => h2 hle H ls' locs hR hl' hb)
  next => cases hk

def c_ii (f : Int32 → Int32 → Int32) (k : am_K) : am_K := fun lv st S => match st with
  | .int y :: .int x :: r => k lv (.int (f x y) :: r) S
  | _ => none
theorem am_iadd (C : am_C X cc nL own G S0 fin.2 fr lo)  (hdg : decode cc pc = .ok (.iadd, 1)) (h : am_W X G S0 fin nL (pc + 1) (k)) : am_W X G S0 fin nL (pc) (c_ii (fun x y => x + y) k) := by
  intro lv st S hk
  dsimp only [c_ii] at hk
  split at hk
  next y x r =>
    obtain ⟨h1, h2⟩ := h _ _ _ hk
    exact ⟨h1, fun hle H ls locs hR hl hb => lv_iadd C.1 C.2.1 hdg (h2 hle H ls locs hR hl hb)⟩
  next => cases hk

theorem am_isub (C : am_C X cc nL own G S0 fin.2 fr lo)  (hdg : decode cc pc = .ok (.isub, 1)) (h : am_W X G S0 fin nL (pc + 1) (k)) : am_W X G S0 fin nL (pc) (c_ii (fun x y => x - y) k) := by
  intro lv st S hk
  dsimp only [c_ii] at hk
  split at hk
  next y x r =>
    obtain ⟨h1, h2⟩ := h _ _ _ hk
    exact ⟨h1, fun hle H ls locs hR hl hb => lv_isub C.1 C.2.1 hdg (h2 hle H ls locs hR hl hb)⟩
  next => cases hk

theorem am_imul (C : am_C X cc nL own G S0 fin.2 fr lo)  (hdg : decode cc pc = .ok (.imul, 1)) (h : am_W X G S0 fin nL (pc + 1) (k)) : am_W X G S0 fin nL (pc) (c_ii (fun x y => x * y) k) := by
  intro lv st S hk
  dsimp only [c_ii] at hk
  split at hk
  next y x r =>
    obtain ⟨h1, h2⟩ := h _ _ _ hk
    exact ⟨h1, fun hle H ls locs hR hl hb => lv_imul C.1 C.2.1 hdg (h2 hle H ls locs hR hl hb)⟩
  next => cases hk

theorem am_iand (C : am_C X cc nL own G S0 fin.2 fr lo)  (hdg : decode cc pc = .ok (.iand, 1)) (h : am_W X G S0 fin nL (pc + 1) (k)) : am_W X G S0 fin nL (pc) (c_ii (fun x y => x &&& y) k) := by
  intro lv st S hk
  dsimp only [c_ii] at hk
  split at hk
  next y x r =>
    obtain ⟨h1, h2⟩ := h _ _ _ hk
    exact ⟨h1, fun hle H ls locs hR hl hb => lv_iand C.1 C.2.1 hdg (h2 hle H ls locs hR hl hb)⟩
  next => cases hk

theorem am_ior (C : am_C X cc nL own G S0 fin.2 fr lo)  (hdg : decode cc pc = .ok (.ior, 1)) (h : am_W X G S0 fin nL (pc + 1) (k)) : am_W X G S0 fin nL (pc) (c_ii (fun x y => x ||| y) k) := by
  intro lv st S hk
  dsimp only [c_ii] at hk
  split at hk
  next y x r =>
    obtain ⟨h1, h2⟩ := h _ _ _ hk
    exact ⟨h1, fun hle H ls locs hR hl hb => lv_ior C.1 C.2.1 hdg (h2 hle H ls locs hR hl hb)⟩
  next => cases hk

theorem am_ishl (C : am_C X cc nL own G S0 fin.2 fr lo)  (hdg : decode cc pc = .ok (.ishl, 1)) (h : am_W X G S0 fin nL (pc + 1) (k)) : am_W X G S0 fin nL (pc) (c_ii (fun x y => x <<< (y &&& 31)) k) := by
  intro lv st S hk
  dsimp only [c_ii] at hk
  split at hk
  next y x r =>
    obtain ⟨h1, h2⟩ := h _ _ _ hk
    exact ⟨h1, fun hle H ls locs hR hl hb => lv_ishl C.1 C.2.1 hdg (h2 hle H ls locs hR hl hb)⟩
  next => cases hk

theorem am_ishr (C : am_C X cc nL own G S0 fin.2 fr lo)  (hdg : decode cc pc = .ok (.ishr, 1)) (h : am_W X G S0 fin nL (pc + 1) (k)) : am_W X G S0 fin nL (pc) (c_ii (fun x y => x >>> (y &&& 31)) k) := by
  intro lv st S hk
  dsimp only [c_ii] at hk
  split at hk
  next y x r =>
    obtain ⟨h1, h2⟩ := h _ _ _ hk
    exact ⟨h1, fun hle H ls locs hR hl hb => lv_ishr C.1 C.2.1 hdg (h2 hle H ls locs hR hl hb)⟩
  next => cases hk

def c_ll (f : Int64 → Int64 → Int64) (k : am_K) : am_K := fun lv st S => match st with
  | .long y :: .long x :: r => k lv (.long (f x y) :: r) S
  | _ => none
theorem am_land (C : am_C X cc nL own G S0 fin.2 fr lo)  (hdg : decode cc pc = .ok (.land, 1)) (h : am_W X G S0 fin nL (pc + 1) (k)) : am_W X G S0 fin nL (pc) (c_ll (fun x y => x &&& y) k) := by
  intro lv st S hk
  dsimp only [c_ll] at hk
  split at hk
  next y x r =>
    obtain ⟨h1, h2⟩ := h _ _ _ hk
    exact ⟨h1, fun hle H ls locs hR hl hb => lv_land C.1 C.2.1 hdg (h2 hle H ls locs hR hl hb)⟩
  next => cases hk

theorem am_lor (C : am_C X cc nL own G S0 fin.2 fr lo)  (hdg : decode cc pc = .ok (.lor, 1)) (h : am_W X G S0 fin nL (pc + 1) (k)) : am_W X G S0 fin nL (pc) (c_ll (fun x y => x ||| y) k) := by
  intro lv st S hk
  dsimp only [c_ll] at hk
  split at hk
  next y x r =>
    obtain ⟨h1, h2⟩ := h _ _ _ hk
    exact ⟨h1, fun hle H ls locs hR hl hb => lv_lor C.1 C.2.1 hdg (h2 hle H ls locs hR hl hb)⟩
  next => cases hk

theorem am_lxor (C : am_C X cc nL own G S0 fin.2 fr lo)  (hdg : decode cc pc = .ok (.lxor, 1)) (h : am_W X G S0 fin nL (pc + 1) (k)) : am_W X G S0 fin nL (pc) (c_ll (fun x y => x ^^^ y) k) := by
  intro lv st S hk
  dsimp only [c_ll] at hk
  split at hk
  next y x r =>
    obtain ⟨h1, h2⟩ := h _ _ _ hk
    exact ⟨h1, fun hle H ls locs hR hl hb => lv_lxor C.1 C.2.1 hdg (h2 hle H ls locs hR hl hb)⟩
  next => cases hk

theorem am_lsub (C : am_C X cc nL own G S0 fin.2 fr lo)  (hdg : decode cc pc = .ok (.lsub, 1)) (h : am_W X G S0 fin nL (pc + 1) (k)) : am_W X G S0 fin nL (pc) (c_ll (fun x y => x - y) k) := by
  intro lv st S hk
  dsimp only [c_ll] at hk
  split at hk
  next y x r =>
    obtain ⟨h1, h2⟩ := h _ _ _ hk
    exact ⟨h1, fun hle H ls locs hR hl hb => lv_lsub C.1 C.2.1 hdg (h2 hle H ls locs hR hl hb)⟩
  next => cases hk

theorem am_ladd (C : am_C X cc nL own G S0 fin.2 fr lo)  (hdg : decode cc pc = .ok (.ladd, 1)) (h : am_W X G S0 fin nL (pc + 1) (k)) : am_W X G S0 fin nL (pc) (c_ll (fun x y => x + y) k) := by
  intro lv st S hk
  dsimp only [c_ll] at hk
  split at hk
  next y x r =>
    obtain ⟨h1, h2⟩ := h _ _ _ hk
    exact ⟨h1, fun hle H ls locs hR hl hb => lv_ladd C.1 C.2.1 hdg (h2 hle H ls locs hR hl hb)⟩
  next => cases hk

theorem am_lmul (C : am_C X cc nL own G S0 fin.2 fr lo)  (hdg : decode cc pc = .ok (.lmul, 1)) (h : am_W X G S0 fin nL (pc + 1) (k)) : am_W X G S0 fin nL (pc) (c_ll (fun x y => x * y) k) := by
  intro lv st S hk
  dsimp only [c_ll] at hk
  split at hk
  next y x r =>
    obtain ⟨h1, h2⟩ := h _ _ _ hk
    exact ⟨h1, fun hle H ls locs hR hl hb => lv_lmul C.1 C.2.1 hdg (h2 hle H ls locs hR hl hb)⟩
  next => cases hk

def c_li (f : Int64 → Int32 → Int64) (k : am_K) : am_K := fun lv st S => match st with
  | .int y :: .long x :: r => k lv (.long (f x y) :: r) S
  | _ => none
theorem am_lshl (C : am_C X cc nL own G S0 fin.2 fr lo)  (hdg : decode cc pc = .ok (.lshl, 1)) (h : am_W X G S0 fin nL (pc + 1) (k)) : am_W X G S0 fin nL (pc) (c_li (fun x y => x <<< (y.toInt64 &&& 63)) k) := by
  intro lv st S hk
  dsimp only [c_li] at hk
  split at hk
  next y x r =>
    obtain ⟨h1, h2⟩ := h _ _ _ hk
    exact ⟨h1, fun hle H ls locs hR hl hb => lv_lshl C.1 C.2.1 hdg rfl (h2 hle H ls locs hR hl hb)⟩
  next => cases hk

theorem am_lshr (C : am_C X cc nL own G S0 fin.2 fr lo)  (hdg : decode cc pc = .ok (.lshr, 1)) (h : am_W X G S0 fin nL (pc + 1) (k)) : am_W X G S0 fin nL (pc) (c_li (fun x y => x >>> (y.toInt64 &&& 63)) k) := by
  intro lv st S hk
  dsimp only [c_li] at hk
  split at hk
  next y x r =>
    obtain ⟨h1, h2⟩ := h _ _ _ hk
    exact ⟨h1, fun hle H ls locs hR hl hb => lv_lshr C.1 C.2.1 hdg rfl (h2 hle H ls locs hR hl hb)⟩
  next => cases hk

def c_cmp (f : Int64 → Int64 → Int32) (k : am_K) : am_K := fun lv st S => match st with
  | .long y :: .long x :: r => k lv (.int (f x y) :: r) S
  | _ => none
theorem am_lcmp (C : am_C X cc nL own G S0 fin.2 fr lo)  (hdg : decode cc pc = .ok (.lcmp, 1)) (h : am_W X G S0 fin nL (pc + 1) (k)) : am_W X G S0 fin nL (pc) (c_cmp (fun x y => lg_cmp x y) k) := by
  intro lv st S hk
  dsimp only [c_cmp] at hk
  split at hk
  next y x r =>
    obtain ⟨h1, h2⟩ := h _ _ _ hk
    exact ⟨h1, fun hle H ls locs hR hl hb => W.lcmp C.1 C.2.1 hdg (h2 hle H ls locs hR hl hb)⟩
  next => cases hk

def c_ui (f : Int32 → Int32) (k : am_K) : am_K := fun lv st S => match st with
  | .int x :: r => k lv (.int (f x) :: r) S
  | _ => none
theorem am_ineg (C : am_C X cc nL own G S0 fin.2 fr lo)  (hdg : decode cc pc = .ok (.ineg, 1)) (h : am_W X G S0 fin nL (pc + 1) (k)) : am_W X G S0 fin nL (pc) (c_ui (fun x => -x) k) := by
  intro lv st S hk
  dsimp only [c_ui] at hk
  split at hk
  next x r =>
    obtain ⟨h1, h2⟩ := h _ _ _ hk
    exact ⟨h1, fun hle H ls locs hR hl hb => lv_ineg C.1 C.2.1 hdg (h2 hle H ls locs hR hl hb)⟩
  next => cases hk

theorem am_i2c (C : am_C X cc nL own G S0 fin.2 fr lo)  (hdg : decode cc pc = .ok (.i2c, 1)) (h : am_W X G S0 fin nL (pc + 1) (k)) : am_W X G S0 fin nL (pc) (c_ui (fun x => (x.toUInt32 % 65536).toInt32) k) := by
  intro lv st S hk
  dsimp only [c_ui] at hk
  split at hk
  next x r =>
    obtain ⟨h1, h2⟩ := h _ _ _ hk
    exact ⟨h1, fun hle H ls locs hR hl hb => lv_i2c C.1 C.2.1 hdg rfl (h2 hle H ls locs hR hl hb)⟩
  next => cases hk

def c_il (f : Int32 → Int64) (k : am_K) : am_K := fun lv st S => match st with
  | .int x :: r => k lv (.long (f x) :: r) S
  | _ => none
theorem am_i2l (C : am_C X cc nL own G S0 fin.2 fr lo)  (hdg : decode cc pc = .ok (.i2l, 1)) (h : am_W X G S0 fin nL (pc + 1) (k)) : am_W X G S0 fin nL (pc) (c_il (fun x => x.toInt64) k) := by
  intro lv st S hk
  dsimp only [c_il] at hk
  split at hk
  next x r =>
    obtain ⟨h1, h2⟩ := h _ _ _ hk
    exact ⟨h1, fun hle H ls locs hR hl hb => lv_i2l C.1 C.2.1 hdg rfl (h2 hle H ls locs hR hl hb)⟩
  next => cases hk

def c_lti (f : Int64 → Int32) (k : am_K) : am_K := fun lv st S => match st with
  | .long x :: r => k lv (.int (f x) :: r) S
  | _ => none
theorem am_l2i (C : am_C X cc nL own G S0 fin.2 fr lo)  (hdg : decode cc pc = .ok (.l2i, 1)) (h : am_W X G S0 fin nL (pc + 1) (k)) : am_W X G S0 fin nL (pc) (c_lti (fun x => x.toInt32) k) := by
  intro lv st S hk
  dsimp only [c_lti] at hk
  split at hk
  next x r =>
    obtain ⟨h1, h2⟩ := h _ _ _ hk
    exact ⟨h1, fun hle H ls locs hR hl hb => lv_l2i C.1 C.2.1 hdg rfl (h2 hle H ls locs hR hl hb)⟩
  next => cases hk

def c_itf (f : Int32 → UInt32) (k : am_K) : am_K := fun lv st S => match st with
  | .int x :: r => k lv (.float (f x) :: r) S
  | _ => none
theorem am_i2f (C : am_C X cc nL own G S0 fin.2 fr lo)  (hdg : decode cc pc = .ok (.i2f, 1)) (h : am_W X G S0 fin nL (pc + 1) (k)) : am_W X G S0 fin nL (pc) (c_itf (fun x => FP.i2f x) k) := by
  intro lv st S hk
  dsimp only [c_itf] at hk
  split at hk
  next x r =>
    obtain ⟨h1, h2⟩ := h _ _ _ hk
    exact ⟨h1, fun hle H ls locs hR hl hb => lv_i2f C.1 C.2.1 hdg (h2 hle H ls locs hR hl hb)⟩
  next => cases hk

def c_itd (f : Int32 → UInt64) (k : am_K) : am_K := fun lv st S => match st with
  | .int x :: r => k lv (.double (f x) :: r) S
  | _ => none
theorem am_i2d (C : am_C X cc nL own G S0 fin.2 fr lo)  (hdg : decode cc pc = .ok (.i2d, 1)) (h : am_W X G S0 fin nL (pc + 1) (k)) : am_W X G S0 fin nL (pc) (c_itd (fun x => FP.i2d x) k) := by
  intro lv st S hk
  dsimp only [c_itd] at hk
  split at hk
  next x r =>
    obtain ⟨h1, h2⟩ := h _ _ _ hk
    exact ⟨h1, fun hle H ls locs hR hl hb => lv_i2d C.1 C.2.1 hdg (h2 hle H ls locs hR hl hb)⟩
  next => cases hk

def c_idiv (k : am_K) : am_K := fun lv st S => match st with
  | .int y :: .int x :: r => if y = 0 then none else k lv (.int (x / y) :: r) S
  | _ => none
theorem am_idiv (C : am_C X cc nL own G S0 fin.2 fr lo)  (hdg : decode cc pc = .ok (.idiv, 1)) (h : am_W X G S0 fin nL (pc + 1) (k)) : am_W X G S0 fin nL (pc) (c_idiv k) := by
  intro lv st S hk
  dsimp only [c_idiv] at hk
  split at hk
  next y x r =>
    split at hk
    next => cases hk
    next hy =>
      obtain ⟨h1, h2⟩ := h _ _ _ hk
      exact ⟨h1, fun hle H ls locs hR hl hb => lv_idiv C.1 C.2.1 hdg hy (h2 hle H ls locs hR hl hb)⟩
  next => cases hk

def c_irem (k : am_K) : am_K := fun lv st S => match st with
  | .int y :: .int x :: r => if y = 0 then none else k lv (.int (x - x / y * y) :: r) S
  | _ => none
theorem am_irem (C : am_C X cc nL own G S0 fin.2 fr lo)  (hdg : decode cc pc = .ok (.irem, 1)) (h : am_W X G S0 fin nL (pc + 1) (k)) : am_W X G S0 fin nL (pc) (c_irem k) := by
  intro lv st S hk
  dsimp only [c_irem] at hk
  split at hk
  next y x r =>
    split at hk
    next => cases hk
    next hy =>
      obtain ⟨h1, h2⟩ := h _ _ _ hk
      exact ⟨h1, fun hle H ls locs hR hl hb => lv_irem C.1 C.2.1 hdg hy (h2 hle H ls locs hR hl hb)⟩
  next => cases hk

def c_fdiv (k : am_K) : am_K := fun lv st S => match st with
  | .float y :: .float x :: r => if FP.fdiv x y &&& 0x7fffffff ≤ 0x7f800000 then k lv (.float (FP.fdiv x y) :: r) S else none
  | _ => none
theorem am_fdiv (C : am_C X cc nL own G S0 fin.2 fr lo)  (hdg : decode cc pc = .ok (.fdiv, 1)) (h : am_W X G S0 fin nL (pc + 1) (k)) : am_W X G S0 fin nL (pc) (c_fdiv k) := by
  intro lv st S hk
  dsimp only [c_fdiv] at hk
  split at hk
  next y x r =>
    split at hk
    next hy =>
      obtain ⟨h1, h2⟩ := h _ _ _ hk
      exact ⟨h1, fun hle H ls locs hR hl hb => lv_fdiv C.1 C.2.1 hdg hy (h2 hle H ls locs hR hl hb)⟩
    next => cases hk
  next => cases hk

def c_ddiv (k : am_K) : am_K := fun lv st S => match st with
  | .double y :: .double x :: r => if FP.ddiv x y &&& 0x7fffffffffffffff ≤ 0x7ff0000000000000 then k lv (.double (FP.ddiv x y) :: r) S else none
  | _ => none
theorem am_ddiv (C : am_C X cc nL own G S0 fin.2 fr lo)  (hdg : decode cc pc = .ok (.ddiv, 1)) (h : am_W X G S0 fin nL (pc + 1) (k)) : am_W X G S0 fin nL (pc) (c_ddiv k) := by
  intro lv st S hk
  dsimp only [c_ddiv] at hk
  split at hk
  next y x r =>
    split at hk
    next hy =>
      obtain ⟨h1, h2⟩ := h _ _ _ hk
      exact ⟨h1, fun hle H ls locs hR hl hb => lv_ddiv C.1 C.2.1 hdg hy (h2 hle H ls locs hR hl hb)⟩
    next => cases hk
  next => cases hk

def c_f2d (k : am_K) : am_K := fun lv st S => match st with
  | .float x :: r => if FP.f2d x &&& 0x7fffffffffffffff ≤ 0x7ff0000000000000 then k lv (.double (FP.f2d x) :: r) S else none
  | _ => none
theorem am_f2d (C : am_C X cc nL own G S0 fin.2 fr lo)  (hdg : decode cc pc = .ok (.f2d, 1)) (h : am_W X G S0 fin nL (pc + 1) (k)) : am_W X G S0 fin nL (pc) (c_f2d k) := by
  intro lv st S hk
  dsimp only [c_f2d] at hk
  split at hk
  next x r =>
    split at hk
    next hy =>
      obtain ⟨h1, h2⟩ := h _ _ _ hk
      exact ⟨h1, fun hle H ls locs hR hl hb => lv_f2d C.1 C.2.1 hdg hy (h2 hle H ls locs hR hl hb)⟩
    next => cases hk
  next => cases hk

def c_dcmp (op : CmpOp) (k : am_K) : am_K := fun lv st S => match st with
  | .double y :: .double x :: r => k lv (.int (Op.cmpValue (FP.dcmp x y) op) :: r) S
  | _ => none
theorem am_dcmp (C : am_C X cc nL own G S0 fin.2 fr lo) {op : CmpOp} (hdg : decode cc pc = .ok (.dcmp op, 1)) (h : am_W X G S0 fin nL (pc + 1) (k)) : am_W X G S0 fin nL (pc) (c_dcmp op k) := by
  intro lv st S hk
  dsimp only [c_dcmp] at hk
  split at hk
  next y x r =>
    obtain ⟨h1, h2⟩ := h _ _ _ hk
    exact ⟨h1, fun hle H ls locs hR hl hb => lv_dcmp C.1 C.2.1 hdg (h2 hle H ls locs hR hl hb)⟩
  next => cases hk

def c_dup (k : am_K) : am_K := fun lv st S => match st with
  | va :: r => if va.category = 1 then k lv (va :: va :: r) S else none
  | _ => none
theorem am_dup (C : am_C X cc nL own G S0 fin.2 fr lo)  (hdg : decode cc pc = .ok (.dup, 1)) (h : am_W X G S0 fin nL (pc + 1) (k)) : am_W X G S0 fin nL (pc) (c_dup k) := by
  intro lv st S hk
  dsimp only [c_dup] at hk
  split at hk
  next va r =>
    split at hk
    next hy =>
      obtain ⟨h1, h2⟩ := h _ _ _ hk
      exact ⟨h1, fun hle H ls locs hR hl hb => lv_dup C.1 C.2.1 hdg (by rw [am_v_cat]; exact hy) (h2 hle H ls locs hR hl hb)⟩
    next => cases hk
  next => cases hk

def c_pop (k : am_K) : am_K := fun lv st S => match st with
  | va :: r => if va.category = 1 then k lv (r) S else none
  | _ => none
theorem am_pop (C : am_C X cc nL own G S0 fin.2 fr lo)  (hdg : decode cc pc = .ok (.pop, 1)) (h : am_W X G S0 fin nL (pc + 1) (k)) : am_W X G S0 fin nL (pc) (c_pop k) := by
  intro lv st S hk
  dsimp only [c_pop] at hk
  split at hk
  next va r =>
    split at hk
    next hy =>
      obtain ⟨h1, h2⟩ := h _ _ _ hk
      exact ⟨h1, fun hle H ls locs hR hl hb => lv_pop C.1 C.2.1 hdg (by rw [am_v_cat]; exact hy) (h2 hle H ls locs hR hl hb)⟩
    next => cases hk
  next => cases hk

def c_dup_x1 (k : am_K) : am_K := fun lv st S => match st with
  | va :: vb :: r => if va.category = 1 ∧ vb.category = 1 then k lv (va :: vb :: va :: r) S else none
  | _ => none
theorem am_dup_x1 (C : am_C X cc nL own G S0 fin.2 fr lo)  (hdg : decode cc pc = .ok (.dup_x1, 1)) (h : am_W X G S0 fin nL (pc + 1) (k)) : am_W X G S0 fin nL (pc) (c_dup_x1 k) := by
  intro lv st S hk
  dsimp only [c_dup_x1] at hk
  split at hk
  next va vb r =>
    split at hk
    next hy =>
      obtain ⟨h1, h2⟩ := h _ _ _ hk
      exact ⟨h1, fun hle H ls locs hR hl hb => lv_dup_x1 C.1 C.2.1 hdg (by rw [am_v_cat]; exact hy.1) (by rw [am_v_cat]; exact hy.2) (h2 hle H ls locs hR hl hb)⟩
    next => cases hk
  next => cases hk

def c_dup2 (k : am_K) : am_K := fun lv st S => match st with
  | va :: vb :: r => if va.category = 1 ∧ vb.category = 1 then k lv (va :: vb :: va :: vb :: r) S else none
  | _ => none
theorem am_dup2 (C : am_C X cc nL own G S0 fin.2 fr lo)  (hdg : decode cc pc = .ok (.dup2, 1)) (h : am_W X G S0 fin nL (pc + 1) (k)) : am_W X G S0 fin nL (pc) (c_dup2 k) := by
  intro lv st S hk
  dsimp only [c_dup2] at hk
  split at hk
  next va vb r =>
    split at hk
    next hy =>
      obtain ⟨h1, h2⟩ := h _ _ _ hk
      exact ⟨h1, fun hle H ls locs hR hl hb => lv_dup2_11 C.1 C.2.1 hdg (by rw [am_v_cat]; exact hy.1) (by rw [am_v_cat]; exact hy.2) (h2 hle H ls locs hR hl hb)⟩
    next => cases hk
  next => cases hk

def c_ifeq (k1 k2 : am_K) : am_K := fun lv st S => match st with
  | .int x :: r => if x = 0 then k1 lv r S else k2 lv r S
  | _ => none
theorem am_ifeq (C : am_C X cc nL own G S0 fin.2 fr lo) {off : Int} {tgt : Nat} (hdg : decode cc pc = .ok (.ifCond .eq off, 3)) (ht : (pc : Int) + off = (tgt : Int)) (h : am_W X G S0 fin nL (tgt) (k1)) (hh : am_W X G S0 fin nL (pc + 3) (k2)) : am_W X G S0 fin nL (pc) (c_ifeq k1 k2) := by
  intro lv st S hk
  dsimp only [c_ifeq] at hk
  split at hk
  next x r =>
    split at hk
    next hc =>
      obtain ⟨h1, h2⟩ := h _ _ _ hk
      exact ⟨h1, fun hle H ls locs hR hl hb => lv_if_eq C.1 C.2.1 hdg ht (fun _ => h2 hle H ls locs hR hl hb) (fun hn => absurd hc hn)⟩
    next hc =>
      obtain ⟨h1, h2⟩ := hh _ _ _ hk
      exact ⟨h1, fun hle H ls locs hR hl hb => lv_if_eq C.1 C.2.1 hdg ht (fun hn => absurd hn hc) (fun _ => h2 hle H ls locs hR hl hb)⟩
  next => cases hk

def c_iceq (k1 k2 : am_K) : am_K := fun lv st S => match st with
  | .int y :: .int x :: r => if x = y then k1 lv r S else k2 lv r S
  | _ => none
theorem am_iceq (C : am_C X cc nL own G S0 fin.2 fr lo) {off : Int} {tgt : Nat} (hdg : decode cc pc = .ok (.if_icmp .eq off, 3)) (ht : (pc : Int) + off = (tgt : Int)) (h : am_W X G S0 fin nL (tgt) (k1)) (hh : am_W X G S0 fin nL (pc + 3) (k2)) : am_W X G S0 fin nL (pc) (c_iceq k1 k2) := by
  intro lv st S hk
  dsimp only [c_iceq] at hk
  split at hk
  next y x r =>
    split at hk
    next hc =>
      obtain ⟨h1, h2⟩ := h _ _ _ hk
      exact ⟨h1, fun hle H ls locs hR hl hb => lv_icmp_eq C.1 C.2.1 hdg ht (fun _ => h2 hle H ls locs hR hl hb) (fun hn => absurd hc hn)⟩
    next hc =>
      obtain ⟨h1, h2⟩ := hh _ _ _ hk
      exact ⟨h1, fun hle H ls locs hR hl hb => lv_icmp_eq C.1 C.2.1 hdg ht (fun hn => absurd hn hc) (fun _ => h2 hle H ls locs hR hl hb)⟩
  next => cases hk

def c_iflt (k1 k2 : am_K) : am_K := fun lv st S => match st with
  | .int x :: r => if x < 0 then k1 lv r S else k2 lv r S
  | _ => none
theorem am_iflt (C : am_C X cc nL own G S0 fin.2 fr lo) {off : Int} {tgt : Nat} (hdg : decode cc pc = .ok (.ifCond .lt off, 3)) (ht : (pc : Int) + off = (tgt : Int)) (h : am_W X G S0 fin nL (tgt) (k1)) (hh : am_W X G S0 fin nL (pc + 3) (k2)) : am_W X G S0 fin nL (pc) (c_iflt k1 k2) := by
  intro lv st S hk
  dsimp only [c_iflt] at hk
  split at hk
  next x r =>
    split at hk
    next hc =>
      obtain ⟨h1, h2⟩ := h _ _ _ hk
      exact ⟨h1, fun hle H ls locs hR hl hb => lv_if_lt C.1 C.2.1 hdg ht (fun _ => h2 hle H ls locs hR hl hb) (fun hn => absurd hc hn)⟩
    next hc =>
      obtain ⟨h1, h2⟩ := hh _ _ _ hk
      exact ⟨h1, fun hle H ls locs hR hl hb => lv_if_lt C.1 C.2.1 hdg ht (fun hn => absurd hn hc) (fun _ => h2 hle H ls locs hR hl hb)⟩
  next => cases hk

def c_iclt (k1 k2 : am_K) : am_K := fun lv st S => match st with
  | .int y :: .int x :: r => if x < y then k1 lv r S else k2 lv r S
  | _ => none
theorem am_iclt (C : am_C X cc nL own G S0 fin.2 fr lo) {off : Int} {tgt : Nat} (hdg : decode cc pc = .ok (.if_icmp .lt off, 3)) (ht : (pc : Int) + off = (tgt : Int)) (h : am_W X G S0 fin nL (tgt) (k1)) (hh : am_W X G S0 fin nL (pc + 3) (k2)) : am_W X G S0 fin nL (pc) (c_iclt k1 k2) := by
  intro lv st S hk
  dsimp only [c_iclt] at hk
  split at hk
  next y x r =>
    split at hk
    next hc =>
      obtain ⟨h1, h2⟩ := h _ _ _ hk
      exact ⟨h1, fun hle H ls locs hR hl hb => lv_icmp_lt C.1 C.2.1 hdg ht (fun _ => h2 hle H ls locs hR hl hb) (fun hn => absurd hc hn)⟩
    next hc =>
      obtain ⟨h1, h2⟩ := hh _ _ _ hk
      exact ⟨h1, fun hle H ls locs hR hl hb => lv_icmp_lt C.1 C.2.1 hdg ht (fun hn => absurd hn hc) (fun _ => h2 hle H ls locs hR hl hb)⟩
  next => cases hk

def c_ifge (k1 k2 : am_K) : am_K := fun lv st S => match st with
  | .int x :: r => if 0 ≤ x then k1 lv r S else k2 lv r S
  | _ => none
theorem am_ifge (C : am_C X cc nL own G S0 fin.2 fr lo) {off : Int} {tgt : Nat} (hdg : decode cc pc = .ok (.ifCond .ge off, 3)) (ht : (pc : Int) + off = (tgt : Int)) (h : am_W X G S0 fin nL (tgt) (k1)) (hh : am_W X G S0 fin nL (pc + 3) (k2)) : am_W X G S0 fin nL (pc) (c_ifge k1 k2) := by
  intro lv st S hk
  dsimp only [c_ifge] at hk
  split at hk
  next x r =>
    split at hk
    next hc =>
      obtain ⟨h1, h2⟩ := h _ _ _ hk
      exact ⟨h1, fun hle H ls locs hR hl hb => lv_if_ge C.1 C.2.1 hdg ht (fun _ => h2 hle H ls locs hR hl hb) (fun hn => absurd hc hn)⟩
    next hc =>
      obtain ⟨h1, h2⟩ := hh _ _ _ hk
      exact ⟨h1, fun hle H ls locs hR hl hb => lv_if_ge C.1 C.2.1 hdg ht (fun hn => absurd hn hc) (fun _ => h2 hle H ls locs hR hl hb)⟩
  next => cases hk

def c_icge (k1 k2 : am_K) : am_K := fun lv st S => match st with
  | .int y :: .int x :: r => if y ≤ x then k1 lv r S else k2 lv r S
  | _ => none
theorem am_icge (C : am_C X cc nL own G S0 fin.2 fr lo) {off : Int} {tgt : Nat} (hdg : decode cc pc = .ok (.if_icmp .ge off, 3)) (ht : (pc : Int) + off = (tgt : Int)) (h : am_W X G S0 fin nL (tgt) (k1)) (hh : am_W X G S0 fin nL (pc + 3) (k2)) : am_W X G S0 fin nL (pc) (c_icge k1 k2) := by
  intro lv st S hk
  dsimp only [c_icge] at hk
  split at hk
  next y x r =>
    split at hk
    next hc =>
      obtain ⟨h1, h2⟩ := h _ _ _ hk
      exact ⟨h1, fun hle H ls locs hR hl hb => lv_icmp_ge C.1 C.2.1 hdg ht (fun _ => h2 hle H ls locs hR hl hb) (fun hn => absurd hc hn)⟩
    next hc =>
      obtain ⟨h1, h2⟩ := hh _ _ _ hk
      exact ⟨h1, fun hle H ls locs hR hl hb => lv_icmp_ge C.1 C.2.1 hdg ht (fun hn => absurd hn hc) (fun _ => h2 hle H ls locs hR hl hb)⟩
  next => cases hk

def c_ifgt (k1 k2 : am_K) : am_K := fun lv st S => match st with
  | .int x :: r => if 0 < x then k1 lv r S else k2 lv r S
  | _ => none
theorem am_ifgt (C : am_C X cc nL own G S0 fin.2 fr lo) {off : Int} {tgt : Nat} (hdg : decode cc pc = .ok (.ifCond .gt off, 3)) (ht : (pc : Int) + off = (tgt : Int)) (h : am_W X G S0 fin nL (tgt) (k1)) (hh : am_W X G S0 fin nL (pc + 3) (k2)) : am_W X G S0 fin nL (pc) (c_ifgt k1 k2) := by
  intro lv st S hk
  dsimp only [c_ifgt] at hk
  split at hk
  next x r =>
    split at hk
    next hc =>
      obtain ⟨h1, h2⟩ := h _ _ _ hk
      exact ⟨h1, fun hle H ls locs hR hl hb => lv_if_gt C.1 C.2.1 hdg ht (fun _ => h2 hle H ls locs hR hl hb) (fun hn => absurd hc hn)⟩
    next hc =>
      obtain ⟨h1, h2⟩ := hh _ _ _ hk
      exact ⟨h1, fun hle H ls locs hR hl hb => lv_if_gt C.1 C.2.1 hdg ht (fun hn => absurd hn hc) (fun _ => h2 hle H ls locs hR hl hb)⟩
  next => cases hk

def c_icgt (k1 k2 : am_K) : am_K := fun lv st S => match st with
  | .int y :: .int x :: r => if y < x then k1 lv r S else k2 lv r S
  | _ => none
theorem am_icgt (C : am_C X cc nL own G S0 fin.2 fr lo) {off : Int} {tgt : Nat} (hdg : decode cc pc = .ok (.if_icmp .gt off, 3)) (ht : (pc : Int) + off = (tgt : Int)) (h : am_W X G S0 fin nL (tgt) (k1)) (hh : am_W X G S0 fin nL (pc + 3) (k2)) : am_W X G S0 fin nL (pc) (c_icgt k1 k2) := by
  intro lv st S hk
  dsimp only [c_icgt] at hk
  split at hk
  next y x r =>
    split at hk
    next hc =>
      obtain ⟨h1, h2⟩ := h _ _ _ hk
      exact ⟨h1, fun hle H ls locs hR hl hb => lv_icmp_gt C.1 C.2.1 hdg ht (fun _ => h2 hle H ls locs hR hl hb) (fun hn => absurd hc hn)⟩
    next hc =>
      obtain ⟨h1, h2⟩ := hh _ _ _ hk
      exact ⟨h1, fun hle H ls locs hR hl hb => lv_icmp_gt C.1 C.2.1 hdg ht (fun hn => absurd hn hc) (fun _ => h2 hle H ls locs hR hl hb)⟩
  next => cases hk

def c_ifle (k1 k2 : am_K) : am_K := fun lv st S => match st with
  | .int x :: r => if x ≤ 0 then k1 lv r S else k2 lv r S
  | _ => none
theorem am_ifle (C : am_C X cc nL own G S0 fin.2 fr lo) {off : Int} {tgt : Nat} (hdg : decode cc pc = .ok (.ifCond .le off, 3)) (ht : (pc : Int) + off = (tgt : Int)) (h : am_W X G S0 fin nL (tgt) (k1)) (hh : am_W X G S0 fin nL (pc + 3) (k2)) : am_W X G S0 fin nL (pc) (c_ifle k1 k2) := by
  intro lv st S hk
  dsimp only [c_ifle] at hk
  split at hk
  next x r =>
    split at hk
    next hc =>
      obtain ⟨h1, h2⟩ := h _ _ _ hk
      exact ⟨h1, fun hle H ls locs hR hl hb => lv_if_le C.1 C.2.1 hdg ht (fun _ => h2 hle H ls locs hR hl hb) (fun hn => absurd hc hn)⟩
    next hc =>
      obtain ⟨h1, h2⟩ := hh _ _ _ hk
      exact ⟨h1, fun hle H ls locs hR hl hb => lv_if_le C.1 C.2.1 hdg ht (fun hn => absurd hn hc) (fun _ => h2 hle H ls locs hR hl hb)⟩
  next => cases hk

def c_icle (k1 k2 : am_K) : am_K := fun lv st S => match st with
  | .int y :: .int x :: r => if x ≤ y then k1 lv r S else k2 lv r S
  | _ => none
theorem am_icle (C : am_C X cc nL own G S0 fin.2 fr lo) {off : Int} {tgt : Nat} (hdg : decode cc pc = .ok (.if_icmp .le off, 3)) (ht : (pc : Int) + off = (tgt : Int)) (h : am_W X G S0 fin nL (tgt) (k1)) (hh : am_W X G S0 fin nL (pc + 3) (k2)) : am_W X G S0 fin nL (pc) (c_icle k1 k2) := by
  intro lv st S hk
  dsimp only [c_icle] at hk
  split at hk
  next y x r =>
    split at hk
    next hc =>
      obtain ⟨h1, h2⟩ := h _ _ _ hk
      exact ⟨h1, fun hle H ls locs hR hl hb => lv_icmp_le C.1 C.2.1 hdg ht (fun _ => h2 hle H ls locs hR hl hb) (fun hn => absurd hc hn)⟩
    next hc =>
      obtain ⟨h1, h2⟩ := hh _ _ _ hk
      exact ⟨h1, fun hle H ls locs hR hl hb => lv_icmp_le C.1 C.2.1 hdg ht (fun hn => absurd hn hc) (fun _ => h2 hle H ls locs hR hl hb)⟩
  next => cases hk

def c_ifne (k1 k2 : am_K) : am_K := fun lv st S => match st with
  | .int x :: r => if x = 0 then k2 lv r S else k1 lv r S
  | _ => none
theorem am_ifne (C : am_C X cc nL own G S0 fin.2 fr lo) {off : Int} {tgt : Nat} (hdg : decode cc pc = .ok (.ifCond .ne off, 3)) (ht : (pc : Int) + off = (tgt : Int)) (h : am_W X G S0 fin nL (tgt) (k1)) (hh : am_W X G S0 fin nL (pc + 3) (k2)) : am_W X G S0 fin nL (pc) (c_ifne k1 k2) := by
  intro lv st S hk
  dsimp only [c_ifne] at hk
  split at hk
  next x r =>
    split at hk
    next hc =>
      obtain ⟨h1, h2⟩ := hh _ _ _ hk
      exact ⟨h1, fun hle H ls locs hR hl hb => lv_if_ne C.1 C.2.1 hdg ht (fun hn => absurd hc hn) (fun _ => h2 hle H ls locs hR hl hb)⟩
    next hc =>
      obtain ⟨h1, h2⟩ := h _ _ _ hk
      exact ⟨h1, fun hle H ls locs hR hl hb => lv_if_ne C.1 C.2.1 hdg ht (fun _ => h2 hle H ls locs hR hl hb) (fun hn => absurd hn hc)⟩
  next => cases hk

def c_icne (k1 k2 : am_K) : am_K := fun lv st S => match st with
  | .int y :: .int x :: r => if x = y then k2 lv r S else k1 lv r S
  | _ => none
theorem am_icne (C : am_C X cc nL own G S0 fin.2 fr lo) {off : Int} {tgt : Nat} (hdg : decode cc pc = .ok (.if_icmp .ne off, 3)) (ht : (pc : Int) + off = (tgt : Int)) (h : am_W X G S0 fin nL (tgt) (k1)) (hh : am_W X G S0 fin nL (pc + 3) (k2)) : am_W X G S0 fin nL (pc) (c_icne k1 k2) := by
  intro lv st S hk
  dsimp only [c_icne] at hk
  split at hk
  next y x r =>
    split at hk
    next hc =>
      obtain ⟨h1, h2⟩ := hh _ _ _ hk
      exact ⟨h1, fun hle H ls locs hR hl hb => lv_icmp_ne C.1 C.2.1 hdg ht (fun hn => absurd hc hn) (fun _ => h2 hle H ls locs hR hl hb)⟩
    next hc =>
      obtain ⟨h1, h2⟩ := h _ _ _ hk
      exact ⟨h1, fun hle H ls locs hR hl hb => lv_icmp_ne C.1 C.2.1 hdg ht (fun _ => h2 hle H ls locs hR hl hb) (fun hn => absurd hn hc)⟩
  next => cases hk

theorem am_goto (C : am_C X cc nL own G S0 fin.2 fr lo) {off : Int} {tgt : Nat} (hdg : decode cc pc = .ok (.goto off, 3)) (ht : (pc : Int) + off = (tgt : Int)) (h : am_W X G S0 fin nL (tgt) (k)) : am_W X G S0 fin nL (pc) (k) := by
  intro lv st S hk
  obtain ⟨h1, h2⟩ := h _ _ _ hk
  exact ⟨h1, fun hle H ls locs hR hl hb => lv_goto C.1 C.2.1 hdg ht (h2 hle H ls locs hR hl hb)⟩

def c_ifnull (k1 k2 : am_K) : am_K := fun lv st S => match st with
  | .null :: r => k1 lv r S
  | .ref _ :: r => k2 lv r S
  | _ => none
theorem am_ifnull (C : am_C X cc nL own G S0 fin.2 fr lo) {off : Int} {tgt : Nat} (hdg : decode cc pc = .ok (.ifnull off, 3)) (ht : (pc : Int) + off = (tgt : Int)) (h : am_W X G S0 fin nL (tgt) (k1)) (hh : am_W X G S0 fin nL (pc + 3) (k2)) : am_W X G S0 fin nL (pc) (c_ifnull k1 k2) := by
  intro lv st S hk
  dsimp only [c_ifnull] at hk
  split at hk
  next r =>
    obtain ⟨h1, h2⟩ := h _ _ _ hk
    exact ⟨h1, fun hle H ls locs hR hl hb => lv_ifnullN C.1 C.2.1 hdg ht (h2 hle H ls locs hR hl hb)⟩
  next a r =>
    obtain ⟨h1, h2⟩ := hh _ _ _ hk
    exact ⟨h1, fun hle H ls locs hR hl hb => lv_ifnull C.1 C.2.1 hdg (h2 hle H ls locs hR hl hb)⟩
  next => cases hk

def c_ifnonnull (k1 k2 : am_K) : am_K := fun lv st S => match st with
  | .null :: r => k2 lv r S
  | .ref _ :: r => k1 lv r S
  | _ => none
theorem am_ifnonnull (C : am_C X cc nL own G S0 fin.2 fr lo) {off : Int} {tgt : Nat} (hdg : decode cc pc = .ok (.ifnonnull off, 3)) (ht : (pc : Int) + off = (tgt : Int)) (h : am_W X G S0 fin nL (tgt) (k1)) (hh : am_W X G S0 fin nL (pc + 3) (k2)) : am_W X G S0 fin nL (pc) (c_ifnonnull k1 k2) := by
  intro lv st S hk
  dsimp only [c_ifnonnull] at hk
  split at hk
  next r =>
    obtain ⟨h1, h2⟩ := hh _ _ _ hk
    exact ⟨h1, fun hle H ls locs hR hl hb => lv_ifnonnullN C.1 C.2.1 hdg (h2 hle H ls locs hR hl hb)⟩
  next a r =>
    obtain ⟨h1, h2⟩ := h _ _ _ hk
    exact ⟨h1, fun hle H ls locs hR hl hb => lv_ifnonnull C.1 C.2.1 hdg ht (h2 hle H ls locs hR hl hb)⟩
  next => cases hk

def c_live (is : List Nat) (k : am_K) : am_K := fun lv st S => k (is.filterMap (fun i => (am_lk lv i).map (fun v => (i, v)))) st S
theorem am_live {is : List Nat} (h : am_W X G S0 fin nL (pc) (k)) : am_W X G S0 fin nL (pc) (c_live is k) := by
  intro lv st S hk
  obtain ⟨h1, h2⟩ := h _ _ _ hk
  refine ⟨h1, fun hle H ls locs hR hl hb => h2 hle H ls locs hR ⟨hl.1, hl.2.1, fun q hq => ?_⟩ hb⟩
  obtain ⟨q0, hq0, rfl⟩ := List.mem_map.mp hq
  obtain ⟨i, -, hi⟩ := List.mem_filterMap.mp hq0
  cases hv : am_lk lv i with
  | none => rw [hv] at hi; cases hi
  | some v =>
    rw [hv] at hi
    cases hi
    exact am_lkS hl hv

def c_sw (a : Int) (n : Nat) (ks : Nat → am_K) (kd : am_K) : am_K := fun lv st S => match st with
  | .int x :: r => if x.toInt < a ∨ a + n ≤ x.toInt then kd lv r S else ks (x.toInt - a).toNat lv r S
  | _ => none
theorem am_sw (C : am_C X cc nL own G S0 fin.2 fr lo) {dflt lo9 hi9 : Int} {offs : Array Int} {len n tgt : Nat} {ks : Nat → am_K} (tg : Nat → Nat) (hdg : decode cc pc = .ok (.tableswitch dflt lo9 hi9 offs, len)) (hn : hi9 = lo9 + n - 1) (ht : (pc : Int) + dflt = (tgt : Int)) (hd : am_W X G S0 fin nL (tgt) (k))
    (ho : ∀ i, i < n → offs[i]? = some ((tg i : Int) - (pc : Int))) (h : ∀ i, i < n → am_W X G S0 fin nL (tg i) (ks i)) : am_W X G S0 fin nL (pc) (c_sw lo9 n ks k) := by
  intro lv st S hk
  dsimp only [c_sw] at hk
  split at hk
  next x r =>
    split at hk
    next hc =>
      obtain ⟨h1, h2⟩ := hd _ _ _ hk
      exact ⟨h1, fun hle H ls locs hR hl hb => lv_tableOut C.1 C.2.1 hdg (by omega) ht (h2 hle H ls locs hR hl hb)⟩
    next hc =>
      have hi : (x.toInt - lo9).toNat < n := by omega
      obtain ⟨h1, h2⟩ := h _ hi _ _ _ hk
      exact ⟨h1, fun hle H ls locs hR hl hb => lv_tableIn C.1 C.2.1 hdg (by omega) (by omega) (ho _ hi) (by omega) (h2 hle H ls locs hR hl hb)⟩
  next => cases hk

def c_vret : am_K := fun _ st S => match st with
  | [] => some (.inl (none), S)
  | _ => none
theorem am_return_ (C : am_C X cc nL own G S0 fin.2 fr lo) (hr : am_Rt X cc G S0 fin .return_ p_v) (hdg : decode cc pc = .ok (.return_, 1)) : am_W X G S0 fin nL (pc) (c_vret) := by
  intro lv st S hk
  dsimp only [c_vret] at hk
  split at hk
  next =>
    cases hk
    exact ⟨am_le.rf, fun hle H ls locs hR hl hb => hr _ H ls locs pc rfl rfl hR hb hdg⟩
  next => cases hk

def c_iret : am_K := fun _ st S => match st with
  | [.int x] => some (.inl (some (.int x)), S)
  | _ => none
theorem am_ireturn (C : am_C X cc nL own G S0 fin.2 fr lo) (hr : am_Rt X cc G S0 fin .ireturn p_i) (hdg : decode cc pc = .ok (.ireturn, 1)) : am_W X G S0 fin nL (pc) (c_iret) := by
  intro lv st S hk
  dsimp only [c_iret] at hk
  split at hk
  next x =>
    cases hk
    exact ⟨am_le.rf, fun hle H ls locs hR hl hb => hr _ H ls locs pc ⟨x, rfl⟩ rfl hR hb hdg⟩
  next => cases hk

def c_lret : am_K := fun _ st S => match st with
  | [.long x] => some (.inl (some (.long x)), S)
  | _ => none
theorem am_lreturn (C : am_C X cc nL own G S0 fin.2 fr lo) (hr : am_Rt X cc G S0 fin .lreturn p_l) (hdg : decode cc pc = .ok (.lreturn, 1)) : am_W X G S0 fin nL (pc) (c_lret) := by
  intro lv st S hk
  dsimp only [c_lret] at hk
  split at hk
  next x =>
    cases hk
    exact ⟨am_le.rf, fun hle H ls locs hR hl hb => hr _ H ls locs pc ⟨x, rfl⟩ rfl hR hb hdg⟩
  next => cases hk

def c_fret : am_K := fun _ st S => match st with
  | [.float x] => some (.inl (some (.float x)), S)
  | _ => none
theorem am_freturn (C : am_C X cc nL own G S0 fin.2 fr lo) (hr : am_Rt X cc G S0 fin .freturn p_f) (hdg : decode cc pc = .ok (.freturn, 1)) : am_W X G S0 fin nL (pc) (c_fret) := by
  intro lv st S hk
  dsimp only [c_fret] at hk
  split at hk
  next x =>
    cases hk
    exact ⟨am_le.rf, fun hle H ls locs hR hl hb => hr _ H ls locs pc ⟨x, rfl⟩ rfl hR hb hdg⟩
  next => cases hk

def c_dret : am_K := fun _ st S => match st with
  | [.double x] => some (.inl (some (.double x)), S)
  | _ => none
theorem am_dreturn (C : am_C X cc nL own G S0 fin.2 fr lo) (hr : am_Rt X cc G S0 fin .dreturn p_d) (hdg : decode cc pc = .ok (.dreturn, 1)) : am_W X G S0 fin nL (pc) (c_dret) := by
  intro lv st S hk
  dsimp only [c_dret] at hk
  split at hk
  next x =>
    cases hk
    exact ⟨am_le.rf, fun hle H ls locs hR hl hb => hr _ H ls locs pc ⟨x, rfl⟩ rfl hR hb hdg⟩
  next => cases hk

def c_rret : am_K := fun _ st S => match st with
  | [.ref x] => some (.inl (some (.ref x)), S)
  | _ => none
theorem am_areturn (C : am_C X cc nL own G S0 fin.2 fr lo) (hr : am_Rt X cc G S0 fin .areturn p_r) (hdg : decode cc pc = .ok (.areturn, 1)) : am_W X G S0 fin nL (pc) (c_rret) := by
  intro lv st S hk
  dsimp only [c_rret] at hk
  split at hk
  next x =>
    cases hk
    exact ⟨am_le.rf, fun hle H ls locs hR hl hb => hr _ H ls locs pc ⟨x, rfl⟩ rfl hR hb hdg⟩
  next => cases hk

-- a boolean method: 0 or 1
def c_zret : am_K := fun _ st S => match st with
  | [.int x] => if x = 0 ∨ x = 1 then some (.inl (some (.int x)), S) else none
  | _ => none
theorem am_zreturn (C : am_C X cc nL own G S0 fin.2 fr lo) (hr : am_Rt X cc G S0 fin .ireturn p_z) (hdg : decode cc pc = .ok (.ireturn, 1)) : am_W X G S0 fin nL (pc) (c_zret) := by
  intro lv st S hk
  dsimp only [c_zret] at hk
  split at hk
  next x =>
    split at hk
    next hc =>
      cases hk
      exact ⟨am_le.rf, fun hle H ls locs hR hl hb => hr _ H ls locs pc (by rcases hc with rfl | rfl; exact Or.inl rfl; exact Or.inr rfl) rfl hR hb hdg⟩
    next => cases hk
  next => cases hk

end AM1
