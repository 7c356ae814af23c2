/-! TEXT CONSTANTS, Math, ENDS OF METHODS -/
theorem am_cast {s : State} {args : Array Value} {Cn : String} {n : Nat} (h : (Cond.instantiable Cn n).before args s = true) : (Cond.castable Cn Cn).before args s = true := by
  obtain ⟨cC, kC, hfc, -⟩ := Cond.instantiable_spec h
  simp [Cond.before, Cond.holds, Cond.value, hfc, am_asg]
/-- words that follow from others on the list -/
def am_cdw (x : MethodName) : Cond → Bool
  | .code y _ _ _ => decide (y = x)
  | _ => false
def am_dv : Cond → Bool
  | .castable a b => decide (a = b) && lw_tbl.any (fun w => decide (w = .instantiable a 6) && goodWord w)
  | .declares x => lw_tbl.any (fun w => am_cdw x w && goodWord w) && lw_tbl.any (fun w => decide (w = .instanceMethod x) && goodWord w)
  | _ => false
theorem am_decl {s : State} {args : Array Value} {x : MethodName} {b : ByteArray} {n : Nat} {r : Option FieldType} (h : (Cond.code x b n r).before args s = true) (h2 : (Cond.instanceMethod x).before args s = true) : (Cond.declares x).before args s = true := by
  simp only [Cond.before, Cond.holds, Cond.value, beq_iff_eq] at h h2 ⊢
  cases hm : (s.methodNamed? x).bind s.vm.method? with
  | none => rw [hm] at h; simp at h
  | some meth =>
    rw [hm] at h h2
    simp only [Option.map_some, Option.some.injEq, Bool.and_eq_true] at h h2 ⊢
    exact ⟨h2.1, h.2⟩
theorem am_dv_at {s : State} {args : Array Value} {w : Cond} (t : ∀ w ∈ am_tb, w.before args s = true) (h : am_dv w = true) : w.before args s = true := by
  have g : ∀ {p : Cond → Bool}, lw_tbl.any (fun w => p w && goodWord w) = true → ∃ w, p w = true ∧ w.before args s = true := by
    intro p hp
    obtain ⟨w, h1, h2⟩ := List.any_eq_true.mp hp
    rw [Bool.and_eq_true] at h2
    exact ⟨w, h2.1, t w (List.mem_filter.mpr ⟨h1, h2.2⟩)⟩
  unfold am_dv at h
  split at h
  next a b =>
    rw [Bool.and_eq_true] at h
    obtain ⟨w, h1, h2⟩ := g h.2
    have e1 := of_decide_eq_true h1
    have e2 := of_decide_eq_true h.1
    subst e1
    subst e2
    exact am_cast h2
  next x =>
    rw [Bool.and_eq_true] at h
    obtain ⟨w, h1, h2⟩ := g h.1
    obtain ⟨w', h3, h4⟩ := g h.2
    have e1 := of_decide_eq_true h3
    subst e1
    unfold am_cdw at h1
    split at h1
    next y b n r =>
      have e2 := of_decide_eq_true h1
      subst e2
      exact am_decl h2 h4
    next => cases h1
  next => cases h
section AM7
variable {X : am_X} {cc : ByteArray} {nL : Nat} {own : String} {G : am_G} {S0 : am_S} {fin : am_O × am_S} {fr lo pc : Nat} {k k1 k2 : am_K} {ret : Option FieldType} {nm : String}
theorem am_ldcs (C : am_C X cc nL own G S0 fin.2 fr lo) {idx i : Nat} {tx : String} (hs : (own, idx, tx, i) ∈ am_strs) (hi : i < 100) (hdg : decode cc pc = .ok (.ldc idx, 2)) (h : am_W X G S0 fin nL (pc + 2) k) : am_W X G S0 fin nL pc (c_a i k) := by
  intro lv st S hk
  obtain ⟨h1, h2⟩ := h _ _ _ hk
  refine ⟨h1, fun hle H ls locs hR hl hb => ?_⟩
  have h9 := h2 hle H ls locs hR hl hb
  have e : am_v G (.ref i) = .ref (am_A G i) := by
    show Value.ref (am_L G i) = _
    unfold am_L
    rw [if_pos hi]
  rw [List.map_cons, e] at h9
  exact va_ldcS C.1 C.2.1 C.2.2.2.1 (C.2.2.2.2.2.1.2.1 _ hs) hdg h9
theorem am_ldcsw (C : am_C X cc nL own G S0 fin.2 fr lo) {idx i : Nat} {tx : String} (hs : (own, idx, tx, i) ∈ am_strs) (hi : i < 100) (hdg : decode cc pc = .ok (.ldc_w idx, 3)) (h : am_W X G S0 fin nL (pc + 3) k) : am_W X G S0 fin nL pc (c_a i k) := by
  intro lv st S hk
  obtain ⟨h1, h2⟩ := h _ _ _ hk
  refine ⟨h1, fun hle H ls locs hR hl hb => ?_⟩
  have h9 := h2 hle H ls locs hR hl hb
  have e : am_v G (.ref i) = .ref (am_A G i) := by
    show Value.ref (am_L G i) = _
    unfold am_L
    rw [if_pos hi]
  rw [List.map_cons, e] at h9
  have hZ := C.2.2.2.2.2.1.2.1 _ hs
  intro T hT X9
  obtain ⟨t, a1, b1⟩ := h9 T hT X9
  exact ⟨t, X9.ldcStringW C.1 C.2.2.2.1 (text := tx) (a := am_A G i) hZ.1 hZ.2 (g := F0 (xm X) pc ls (st.map (am_v G))) rfl (by rw [C.2.1]; exact hdg) t a1, b1⟩
theorem am_ldcw (C : am_C X cc nL own G S0 fin.2 fr lo) {n : Nat} {v : Int32} (hdg : decode cc pc = .ok (.ldc_w n, 3)) (hw : Jvm.Cond.constant own n v ∈ am_tb) (h : am_W X G S0 fin nL (pc + 3) k) : am_W X G S0 fin nL pc (c_i v k) := by
  intro lv st S hk
  obtain ⟨h1, h2⟩ := h _ _ _ hk
  exact ⟨h1, fun hle H ls locs hR hl hb => lv_ldcw C.1 C.2.1 C.2.2.2.1 (C.2.2.2.2.1 _ hw) hdg (h2 hle H ls locs hR hl hb)⟩
theorem am_null (C : am_C X cc nL own G S0 fin.2 fr lo) (hdg : decode cc pc = .ok (.aconst_null, 1)) (h : am_W X G S0 fin nL (pc + 1) k) : am_W X G S0 fin nL pc (fun lv st S => k lv (.null :: st) S) := by
  intro lv st S hk
  obtain ⟨h1, h2⟩ := h _ _ _ hk
  exact ⟨h1, fun hle H ls locs hR hl hb => lv_null C.1 C.2.1 hdg (h2 hle H ls locs hR hl hb)⟩
theorem am_cells {S : am_S} {c z : Nat} (h0 : am_le S0 S) (h1 : am_le S fin.2) (hc : am_n fin.2 - am_n S0 ≤ c) (hz : am_z fin.2 - am_z S0 ≤ z) : am_n S - am_n S0 ≤ c ∧ am_z S - am_z S0 ≤ z := by
  obtain ⟨a1, a2⟩ := h0
  obtain ⟨b1, b2⟩ := h1
  constructor <;> omega
theorem am_min (C : am_C X cc nL own G S0 fin.2 fr lo) {idx : Nat} (w1 : Cond.methodLink own idx Lib.Math.min.name ∈ am_tb) (w2 : Cond.static Lib.Math.min.name ∈ am_tb) (w3 : Cond.initialized "java/lang/Math" ∈ am_tb) (w4 : Cond.code Lib.Math.min.name Lib.Math.min.code 2 (some .int) ∈ am_tb) (hfr : 1 ≤ fr) (hlo : 21 ≤ lo)
    (hdg : decode cc pc = .ok (.invokestatic idx, 3)) (h : am_W X G S0 fin nL (pc + 3) k) : am_W X G S0 fin nL pc (c_min k) := by
  intro lv st S hk
  dsimp only [c_min] at hk
  split at hk
  next y x r =>
    split at hk
    next hc =>
      obtain ⟨h1, h2⟩ := h _ _ _ hk
      refine ⟨h1, fun hle H ls locs hR hl hb => ?_⟩
      have a1 := C.2.2.2.2.2.2.2.2.2.2.2.1
      have a2 := C.2.2.2.2.2.2.2.2.2.2.2.2
      obtain ⟨q1, q2⟩ := am_cells hle h1 C.2.2.2.2.2.2.2.1 C.2.2.2.2.2.2.2.2.1
      exact va_mmin C.1 C.2.1 (C.2.2.1.trans hl.1.symm) C.2.2.2.1 (C.2.2.2.2.1 _ w1) (C.2.2.2.2.1 _ w2) (C.2.2.2.2.1 _ w3) (C.2.2.2.2.1 _ w4) (by omega) (by rw [am_csS]; omega) q1 q2 hdg (h2 hle H ls locs hR hl hb)
    next => cases hk
  next => cases hk
theorem am_abs (C : am_C X cc nL own G S0 fin.2 fr lo) {idx : Nat} (w1 : Cond.methodLink own idx Lib.Math.abs.name ∈ am_tb) (w2 : Cond.static Lib.Math.abs.name ∈ am_tb) (w3 : Cond.initialized "java/lang/Math" ∈ am_tb) (w4 : Cond.code Lib.Math.abs.name Lib.Math.abs.code 1 (some .int) ∈ am_tb) (hfr : 1 ≤ fr) (hlo : 21 ≤ lo)
    (hdg : decode cc pc = .ok (.invokestatic idx, 3)) (h : am_W X G S0 fin nL (pc + 3) k) : am_W X G S0 fin nL pc (c_abs k) := by
  intro lv st S hk
  dsimp only [c_abs] at hk
  split at hk
  next x r =>
    split at hk
    next hc =>
      obtain ⟨h1, h2⟩ := h _ _ _ hk
      refine ⟨h1, fun hle H ls locs hR hl hb => ?_⟩
      have a1 := C.2.2.2.2.2.2.2.2.2.2.2.1
      have a2 := C.2.2.2.2.2.2.2.2.2.2.2.2
      obtain ⟨q1, q2⟩ := am_cells hle h1 C.2.2.2.2.2.2.2.1 C.2.2.2.2.2.2.2.2.1
      exact va_mabs C.1 C.2.1 (C.2.2.1.trans hl.1.symm) C.2.2.2.1 (C.2.2.2.2.1 _ w1) (C.2.2.2.2.1 _ w2) (C.2.2.2.2.1 _ w3) (C.2.2.2.2.1 _ w4) (by omega) (by rw [am_csS]; omega) q1 q2 hdg (h2 hle H ls locs hR hl hb)
    next => cases hk
  next => cases hk
theorem am_minl (C : am_C X cc nL own G S0 fin.2 fr lo) {idx : Nat} (w1 : Cond.methodLink own idx Lib.MathLoose.min_long.x ∈ am_tb) (w2 : Cond.static Lib.MathLoose.min_long.x ∈ am_tb) (w3 : Cond.initialized "java/lang/Math" ∈ am_tb) (w4 : Cond.code Lib.MathLoose.min_long.x Lib.MathLoose.min_long.code 4 (some .long) ∈ am_tb) (hfr : 1 ≤ fr) (hlo : 23 ≤ lo)
    (hdg : decode cc pc = .ok (.invokestatic idx, 3)) (h : am_W X G S0 fin nL (pc + 3) k) : am_W X G S0 fin nL pc (c_minl k) := by
  intro lv st S hk
  dsimp only [c_minl] at hk
  split at hk
  next y x r =>
    split at hk
    next hc =>
      obtain ⟨h1, h2⟩ := h _ _ _ hk
      refine ⟨h1, fun hle H ls locs hR hl hb => ?_⟩
      have a1 := C.2.2.2.2.2.2.2.2.2.2.2.1
      have a2 := C.2.2.2.2.2.2.2.2.2.2.2.2
      obtain ⟨q1, q2⟩ := am_cells hle h1 C.2.2.2.2.2.2.2.1 C.2.2.2.2.2.2.2.2.1
      exact va_mmin_long C.1 C.2.1 (C.2.2.1.trans hl.1.symm) C.2.2.2.1 (C.2.2.2.2.1 _ w1) (C.2.2.2.2.1 _ w2) (C.2.2.2.2.1 _ w3) (C.2.2.2.2.1 _ w4) (by omega) (by rw [am_csS]; omega) q1 q2 hdg (h2 hle H ls locs hR hl hb)
    next => cases hk
  next => cases hk
/-- old places are as they were -/
theorem am_old {S : am_S} {H : Heap} {s : State} {locs : List Loc} (hR0 : am_R G S0 s.heap) (hR : am_R G S H) (hle : am_le S0 S) (hb : ∀ q ∈ locs, am_B G ≤ q.base) : va_S (fun q => am_B G ≤ q) s.heap H locs := by
  refine ⟨?_, fun q h1 h2 => ?_, hb⟩
  · have a1 := hR0.2.1
    have a2 := hR.2.1
    have a3 := hle.1
    omega
  · rw [hR.2.2.1 q (by omega), hR0.2.2.1 q (by omega)]
theorem am_kept {C' n d : String} {S : am_S} {H : Heap} {s : State} (h : vx_Zq C' n d (fun q => am_B G ≤ q) s (am_H G)) (hR : am_R G S H) : vx_Zq C' n d (fun q => am_B G ≤ q) s H := h.kept (fun a _ h2 => hR.2.2.1 a (by omega))
theorem am_thrown {S : am_S} {H : Heap} {t : State} (hR : am_R G S H) (h1 : t.heap.size = H.size + 1) (h2 : ∀ q : Nat, q < H.size → t.heap[q]? = H[q]?) : am_R G (am_new S 99 0 6) t.heap := by
  refine hR.push rfl (fun b hb => va_up_ne _ _ hb) (fun b hb _ => am_e_new hb) h1 h2 (fun h => ?_)
  have : am_k (am_new S 99 0 6) (am_n S) = 99 := va_up_self _ _ _
  omega
theorem am_throw (C : am_C X cc nL own G S0 fin.2 fr lo) (E : am_E ret nm X G S0 fin) {cls text : String} {names : List String} {ik is ic i : Nat} {ix : Nat} {rx : ByteArray} {Y : String} (x0 : decode rx 0 = .ok (.aload_n 0, 1)) (x1 : decode rx 1 = .ok (.aload_n 1, 1)) (x2 : decode rx 2 = .ok (.invokespecial ix, 3)) (x5 : decode rx 5 = .ok (.return_, 1)) (hY : Bundle.fit Y = true) (hcls : Bundle.fit cls = true) (hnames : ∀ n ∈ names, Bundle.fit n = true)
    (w1 : Cond.classLink own ik cls ∈ am_tb) (w2 : Cond.initialized cls ∈ am_tb) (hs : (own, is, text, i) ∈ am_strs) (hat : ∀ w ∈ am_atX own ic cls ix rx Y names, w ∈ am_tb ∨ am_dv w = true) (hgood : ∀ w ∈ Cond.classLink own ik cls :: Cond.initialized cls :: am_atX own ic cls ix rx Y names, vx_ot w = true)
    (d0 : decode cc pc = .ok (.new ik, 3)) (d3 : decode cc (pc + 3) = .ok (.dup, 1)) (d4 : decode cc (pc + 4) = .ok (.ldc is, 2)) (d6 : decode cc (pc + 6) = .ok (.invokespecial ic, 3)) (d9 : decode cc (pc + 9) = .ok (.athrow, 1))
    (hfr : names.length + 4 < fr) (hlo : 8 + (13 * (names.length + 2) + 43) ≤ lo) : am_W X G S0 fin nL pc (c_throw cls) := by
  intro lv st S hk
  dsimp only [c_throw] at hk
  split at hk
  next hc =>
    cases hk
    refine ⟨⟨Nat.le_succ _, Nat.le_add_right _ _⟩, fun hle H ls locs hR hl hb => ?_⟩
    have a1 := C.2.2.2.2.2.2.2.2.2.2.2.1
    have a2 := C.2.2.2.2.2.2.2.2.2.2.2.2
    have a3 : am_n S + 1 - am_n S0 ≤ (xR X).cells := C.2.2.2.2.2.2.2.1
    have a4 : am_z S + 6 - am_z S0 ≤ (xR X).slots := C.2.2.2.2.2.2.2.2.1
    have b1 := hle.1
    have b2 := hle.2
    unfold am_w
    rw [E.2.1]
    refine am_throwS C.1 C.2.1 C.2.2.2.2.2.2.2.2.2.2.1 (sa := am_A G i) (names := names) x0 x1 x2 x5 hY C.2.2.2.1 hcls hnames (C.2.2.2.2.1 _ w1) (C.2.2.2.2.1 _ w2) (C.2.2.2.2.2.1.2.1 _ hs) (fun w hw => (hat w hw).elim (fun h => C.2.2.2.2.1 _ h) (fun h => am_dv_at C.2.2.2.2.1 h)) hgood (am_kept C.2.2.2.2.2.1.2.2.1 C.2.2.2.2.2.2.1) (am_kept C.2.2.2.2.2.1.2.2.2.1 C.2.2.2.2.2.2.1)
      (am_old C.2.2.2.2.2.2.1 hR hle hb) (hl.1.trans C.2.2.1.symm) d0 d3 d4 d6 d9 (fun x hx => (E.2.2.1 x hx).elim) (by omega) (by rw [am_csS]; omega) (by omega) (by omega) C.2.2.2.2.2.2.2.2.2.1 (fun t _ h1 h2 => ⟨rfl, am_thrown hR h1 h2⟩) hb (by show _ ≤ am_n S + 1 - am_n S0; omega) (by show _ ≤ am_z S + 6 - am_z S0; omega)
  next => cases hk
theorem am_throww (C : am_C X cc nL own G S0 fin.2 fr lo) (E : am_E ret nm X G S0 fin) {cls text : String} {names : List String} {ik is ic i : Nat} {ix : Nat} {rx : ByteArray} {Y : String} (x0 : decode rx 0 = .ok (.aload_n 0, 1)) (x1 : decode rx 1 = .ok (.aload_n 1, 1)) (x2 : decode rx 2 = .ok (.invokespecial ix, 3)) (x5 : decode rx 5 = .ok (.return_, 1)) (hY : Bundle.fit Y = true) (hcls : Bundle.fit cls = true) (hnames : ∀ n ∈ names, Bundle.fit n = true)
    (w1 : Cond.classLink own ik cls ∈ am_tb) (w2 : Cond.initialized cls ∈ am_tb) (hs : (own, is, text, i) ∈ am_strs) (hat : ∀ w ∈ am_atX own ic cls ix rx Y names, w ∈ am_tb ∨ am_dv w = true) (hgood : ∀ w ∈ Cond.classLink own ik cls :: Cond.initialized cls :: am_atX own ic cls ix rx Y names, vx_ot w = true)
    (d0 : decode cc pc = .ok (.new ik, 3)) (d3 : decode cc (pc + 3) = .ok (.dup, 1)) (d4 : decode cc (pc + 4) = .ok (.ldc_w is, 3)) (d6 : decode cc (pc + 7) = .ok (.invokespecial ic, 3)) (d9 : decode cc (pc + 10) = .ok (.athrow, 1))
    (hfr : names.length + 4 < fr) (hlo : 8 + (13 * (names.length + 2) + 43) ≤ lo) : am_W X G S0 fin nL pc (c_throw cls) := by
  intro lv st S hk
  dsimp only [c_throw] at hk
  split at hk
  next hc =>
    cases hk
    refine ⟨⟨Nat.le_succ _, Nat.le_add_right _ _⟩, fun hle H ls locs hR hl hb => ?_⟩
    have a1 := C.2.2.2.2.2.2.2.2.2.2.2.1
    have a2 := C.2.2.2.2.2.2.2.2.2.2.2.2
    have a3 : am_n S + 1 - am_n S0 ≤ (xR X).cells := C.2.2.2.2.2.2.2.1
    have a4 : am_z S + 6 - am_z S0 ≤ (xR X).slots := C.2.2.2.2.2.2.2.2.1
    have b1 := hle.1
    have b2 := hle.2
    unfold am_w
    rw [E.2.1]
    refine am_throwSW C.1 C.2.1 C.2.2.2.2.2.2.2.2.2.2.1 (sa := am_A G i) (names := names) x0 x1 x2 x5 hY C.2.2.2.1 hcls hnames (C.2.2.2.2.1 _ w1) (C.2.2.2.2.1 _ w2) (C.2.2.2.2.2.1.2.1 _ hs) (fun w hw => (hat w hw).elim (fun h => C.2.2.2.2.1 _ h) (fun h => am_dv_at C.2.2.2.2.1 h)) hgood (am_kept C.2.2.2.2.2.1.2.2.1 C.2.2.2.2.2.2.1) (am_kept C.2.2.2.2.2.1.2.2.2.1 C.2.2.2.2.2.2.1)
      (am_old C.2.2.2.2.2.2.1 hR hle hb) (hl.1.trans C.2.2.1.symm) d0 d3 d4 d6 d9 (fun x hx => (E.2.2.1 x hx).elim) (by omega) (by rw [am_csS]; omega) (by omega) (by omega) C.2.2.2.2.2.2.2.2.2.1 (fun t _ h1 h2 => ⟨rfl, am_thrown hR h1 h2⟩) hb (by show _ ≤ am_n S + 1 - am_n S0; omega) (by show _ ≤ am_z S + 6 - am_z S0; omega)
  next => cases hk
/-- a throw goes through -/
theorem am_E.th (C : am_C X cc nL own G S0 fin.2 fr lo) (E : am_E ret nm X G S0 fin) : am_Th X G S0 fin := by
  intro Ex H ls locs pc rest q ce h1 hR h2 h3 h4 hb
  rw [E.2.1]
  exact vx_out (fun x hx => (E.2.2.1 x hx).elim) C.2.2.2.2.2.2.2.2.2.1 h2 h3 h4 (fun t ht _ => ⟨h1, by rw [ht]; exact hR⟩) hb (Nat.le_refl _) (Nat.le_refl _)
theorem am_E.q {t : State} {H : Heap} {v : Option Value} {v' : Option Value} (h1 : fin.1 = .inl v) (hv : v' = v.map (am_v G)) (hR : am_R G fin.2 H) (ht : t.heap = H) {a : Array Value} {s : State} : am_Qc G fin a s (.returned v') t := ⟨v, h1, by rw [hv], by rw [ht]; exact hR⟩
theorem am_E.v (C : am_C X cc nL own G S0 fin.2 fr lo) (E : am_E none nm X G S0 fin) : am_Rt X cc G S0 fin .return_ p_v := by
  intro v H ls locs pc hp h1 hR hb hdg
  subst hp
  unfold am_w
  rw [E.2.1]
  exact vx_ret (W.vret C.1 C.2.1 E.1 (fun t ht _ => am_E.q h1 rfl hR ht) hb hdg C.2.2.2.2.2.2.2.2.2.1)
theorem am_E.i (C : am_C X cc nL own G S0 fin.2 fr lo) (E : am_E (some .int) nm X G S0 fin) : am_Rt X cc G S0 fin .ireturn p_i := by
  intro v H ls locs pc hp h1 hR hb hdg
  obtain ⟨x, rfl⟩ := hp
  unfold am_w
  rw [E.2.1]
  exact vx_ret (W.iret C.1 C.2.1 E.1 (fun t ht _ => am_E.q h1 rfl hR ht) hb hdg C.2.2.2.2.2.2.2.2.2.1)
theorem am_E.z (C : am_C X cc nL own G S0 fin.2 fr lo) (E : am_E (some .boolean) nm X G S0 fin) : am_Rt X cc G S0 fin .ireturn p_z := by
  intro v H ls locs pc hp h1 hR hb hdg
  unfold am_w
  rw [E.2.1]
  rcases hp with rfl | rfl
  · exact vx_ret (W.zret C.1 C.2.1 E.1 (by decide) (fun t ht _ => am_E.q h1 rfl hR ht) hb hdg C.2.2.2.2.2.2.2.2.2.1)
  · exact vx_ret (W.zret C.1 C.2.1 E.1 (by decide) (fun t ht _ => am_E.q h1 rfl hR ht) hb hdg C.2.2.2.2.2.2.2.2.2.1)
theorem am_E.l (C : am_C X cc nL own G S0 fin.2 fr lo) (E : am_E (some .long) nm X G S0 fin) : am_Rt X cc G S0 fin .lreturn p_l := by
  intro v H ls locs pc hp h1 hR hb hdg
  obtain ⟨x, rfl⟩ := hp
  unfold am_w
  rw [E.2.1]
  exact vx_ret (W.lret C.1 C.2.1 E.1 (fun t ht _ => am_E.q h1 rfl hR ht) hb hdg C.2.2.2.2.2.2.2.2.2.1)
theorem am_E.f (C : am_C X cc nL own G S0 fin.2 fr lo) (E : am_E (some .float) nm X G S0 fin) : am_Rt X cc G S0 fin .freturn p_f := by
  intro v H ls locs pc hp h1 hR hb hdg
  obtain ⟨x, rfl⟩ := hp
  unfold am_w
  rw [E.2.1]
  exact vx_ret (W.fret C.1 C.2.1 E.1 (fun t ht _ => am_E.q h1 rfl hR ht) hb hdg C.2.2.2.2.2.2.2.2.2.1)
theorem am_E.d (C : am_C X cc nL own G S0 fin.2 fr lo) (E : am_E (some .double) nm X G S0 fin) : am_Rt X cc G S0 fin .dreturn p_d := by
  intro v H ls locs pc hp h1 hR hb hdg
  obtain ⟨x, rfl⟩ := hp
  unfold am_w
  rw [E.2.1]
  exact vx_ret (W.dret C.1 C.2.1 E.1 (fun t ht _ => am_E.q h1 rfl hR ht) hb hdg C.2.2.2.2.2.2.2.2.2.1)
theorem am_E.r {Cn : String} (C : am_C X cc nL own G S0 fin.2 fr lo) (E : am_E (some (.object Cn)) nm X G S0 fin) : am_Rt X cc G S0 fin .areturn p_r := by
  intro v H ls locs pc hp h1 hR hb hdg
  obtain ⟨x, rfl⟩ := hp
  unfold am_w
  rw [E.2.1]
  exact vx_ret (W.aret C.1 C.2.1 E.1 (Or.inl ⟨Cn, rfl⟩) (Or.inr ⟨_, rfl⟩) (fun t ht _ => am_E.q h1 rfl hR ht) hb hdg C.2.2.2.2.2.2.2.2.2.1)
end AM7
/-- a method, as a function -/
def am_fn (maxL : Nat) (b : am_K) : am_F := fun As S => if (lg_sl As).length ≤ maxL then b (lv_args 0 As) [] S else none
def am_Mo (k : am_K) : Prop := ∀ (lv : List (Nat × Value)) (st : List Value) (S : am_S) (fin : am_O × am_S), k lv st S = some fin → am_le S fin.2
theorem am_slS (G : am_G) : ∀ As : List Value, (lg_sl (As.map (am_v G))).length = (lg_sl As).length
  | [] => rfl
  | v :: vs => by
    have h := am_slS G vs
    unfold lg_sl at h ⊢
    rw [List.map_cons, List.flatMap_cons, List.flatMap_cons, List.length_append, List.length_append, h, am_v_cat]
    by_cases hc : v.category = 2
    · simp [hc]
    · simp [hc]
theorem am_argS (G : am_G) : ∀ (As : List Value) (i : Nat), lv_args i (As.map (am_v G)) = (lv_args i As).map (am_vp G)
  | [], _ => rfl
  | v :: vs, i => by
    rw [List.map_cons, lv_args, lv_args, am_v_cat, am_argS G vs]
    rfl
theorem am_meth {l : Launch} {y : MethodName} {bytes : ByteArray} {maxL : Nat} {ret : Option FieldType} {fr lo : Nat} {own : String} {b : am_K} (hfl : l.stackTraces = false) (hy : plainName y.cls = true) (hyo : y.cls = own) (hmo : am_Mo b)
    (body : ∀ (X : am_X) (G : am_G) (S0 : am_S) (fin : am_O × am_S), xl X = l → am_C X bytes maxL own G S0 fin.2 fr lo → am_E ret y.name X G S0 fin → am_W X G S0 fin maxL 0 b) : am_M l y bytes maxL ret fr lo (am_fn maxL b) := by
  refine ⟨fun As S fin h => ?_, fun G As S fin h => ?_⟩
  · unfold am_fn at h
    split at h
    next hc => exact hmo _ _ _ _ h
    next => cases h
  · unfold am_fn at h
    split at h
    next hc =>
      have hle := hmo _ _ _ _ h
      refine vx_ofW (cc := bytes) (maxL := maxL) (ret := ret) hy rfl ?_
      intro p e s m args below meth c s₁ B hml hex hv
      obtain ⟨rfl, hR, hK⟩ := hv
      have hts : ∀ w ∈ am_tb, w.before ((As.map (am_v G)).toArray) s = true := fun w hw => atoms_spec B.pre w (List.mem_cons_of_mem _ hw)
      have hown : s.vm.findClass own = some m.cls := hyo ▸ findClass_of_methodNamed B.named
      have hin : meth.name = y.name := (name_of_methodNamed B.named B.method).1
      have hl := lv_entry (As.map (am_v G)) (n := maxL) (by rw [am_slS]; exact hc)
      rw [lg_entry_eq]
      rw [am_argS] at hl
      have hb := body (p, l, e, (am_rm fr lo S fin.2), s, m, ((As.map (am_v G)).toArray), below, meth, c, (vx_MQ below (am_Qc G fin) (am_XC G fin) ((As.map (am_v G)).toArray) s (am_n fin.2 - am_n S) (am_z fin.2 - am_z S) (am_fr G))) G S fin rfl
        ⟨B.exec, B.bytes, hml, hown, hts, hK, hR, Nat.le_refl _, Nat.le_refl _, B.notSynchronized, hfl, Nat.le_refl _, Nat.le_refl _⟩ ⟨B.returns, rfl, hex, hin⟩
      obtain ⟨-, h2⟩ := hb _ _ _ h
      have h3 := h2 am_le.rf s.heap _ [] hR hl (fun _ hq => nomatch hq)
      rw [Nat.sub_self, Nat.sub_self] at h3
      exact h3
    next => cases h
