/-! NEW CELLS, STORES OF REFERENCES, THROWS, TEXTS, Math -/
/-- how an ordinary method ends -/
def am_E (ret : Option FieldType) (nm : String) (X : am_X) (G : am_G) (S0 : am_S) (fin : am_O × am_S) : Prop :=
  (xh X).sig.returnType = ret ∧ xQ X = vx_MQ (xb X) (am_Qc G fin) (am_XC G fin) (xa X) (xs X) (am_n fin.2 - am_n S0) (am_z fin.2 - am_z S0) (am_fr G) ∧ (∀ x ∈ (xc X).exceptionTable.toList, False) ∧ (xh X).name = nm
def c_min (k : am_K) : am_K := fun lv st S => match st with
  | .int y :: .int x :: r => if (r.map (fun v => v.category)).sum ≤ 8 then k lv (.int (if y < x then y else x) :: r) S else none
  | _ => none
def c_abs (k : am_K) : am_K := fun lv st S => match st with
  | .int x :: r => if (r.map (fun v => v.category)).sum ≤ 8 then k lv (.int (if 0 ≤ x then x else 0 - x) :: r) S else none
  | _ => none
def c_minl (k : am_K) : am_K := fun lv st S => match st with
  | .long y :: .long x :: r => if (r.map (fun v => v.category)).sum ≤ 8 then k lv (.long (if y < x then y else x) :: r) S else none
  | _ => none
section AM5
variable {X : am_X} {cc : ByteArray} {nL : Nat} {own : String} {G : am_G} {S0 : am_S} {fin : am_O × am_S} {fr lo pc : Nat} {k k1 k2 : am_K} {ret : Option FieldType} {nm : String}
theorem am_new_le {S T : am_S} {kd len sl : Nat} (h : am_le (am_new S kd len sl) T) : am_le S T ∧ am_n S + 1 ≤ am_n T ∧ am_z S + sl ≤ am_z T := by
  obtain ⟨h1, h2⟩ := h
  have e1 : am_n (am_new S kd len sl) = am_n S + 1 := rfl
  have e2 : am_z (am_new S kd len sl) = am_z S + sl := rfl
  rw [e1] at h1
  rw [e2] at h2
  exact ⟨⟨by omega, by omega⟩, h1, h2⟩
theorem am_new_ok {S0 S T : am_S} {c z sl : Nat} (h0 : am_le S0 S) (h1 : am_n S + 1 ≤ am_n T) (h2 : am_z S + sl ≤ am_z T) (hc : am_n T - am_n S0 ≤ c) (hz : am_z T - am_z S0 ≤ z) : am_n S - am_n S0 + 1 ≤ c ∧ am_z S - am_z S0 + sl ≤ z := by
  obtain ⟨a1, a2⟩ := h0
  constructor <;> omega
theorem am_new_eq {S0 S : am_S} {kd len sl : Nat} (h0 : am_le S0 S) : am_n S - am_n S0 + 1 = am_n (am_new S kd len sl) - am_n S0 ∧ am_z S - am_z S0 + sl = am_z (am_new S kd len sl) - am_z S0 := by
  obtain ⟨a1, a2⟩ := h0
  have e1 : am_n (am_new S kd len sl) = am_n S + 1 := rfl
  have e2 : am_z (am_new S kd len sl) = am_z S + sl := rfl
  rw [e1, e2]
  constructor <;> omega
theorem am_newobj (C : am_C X cc nL own G S0 fin.2 fr lo) {ci idx : Nat} {r : vw_C} (hr : am_CI ci r) (h1 : Cond.classLink own idx r.1 ∈ am_tb) (h2 : Cond.instantiable r.1 r.2.2 ∈ am_tb) (h3 : Cond.initialized r.1 ∈ am_tb)
    (hdg : decode cc pc = .ok (.new idx, 3)) (h : am_W X G S0 fin nL (pc + 3) k) : am_W X G S0 fin nL pc (c_new ci k) := by
  intro lv st S hk
  obtain ⟨g1, g2⟩ := h _ _ _ hk
  obtain ⟨l1, l2, l3⟩ := am_new_le g1
  refine ⟨l1, fun hle H ls locs hR hl hb => ?_⟩
  have hKn := C.2.2.2.2.2.1.1.1 ci _ hr.1
  rw [hr.nf] at l3
  obtain ⟨r1, r2⟩ := am_new_ok hle l2 l3 C.2.2.2.2.2.2.2.1 C.2.2.2.2.2.2.2.2.1
  obtain ⟨ty, hty⟩ := hr.2.2.2.1
  refine W.newcK C.1 C.2.1 C.2.2.2.1 (C.2.2.2.2.1 _ h1) (C.2.2.2.2.1 _ h2) (C.2.2.2.2.1 _ h3) rfl hdg r1 r2 hKn.2.1 rfl fun H1 kC hkC e1 z1 o1 => ?_
  have hk0 : am_k (am_new S ci 0 (am_nf ci)) (am_n S) = ci := va_up_self _ _ _
  have hR' : am_R G (am_new S ci 0 (am_nf ci)) H1 := by
    refine hR.push rfl (fun b hb => va_up_ne _ _ hb) (fun b hb _ => am_e_new hb) z1 o1 (fun _ => ?_)
    have e : am_e G (am_new S ci 0 (am_nf ci)) (am_n S) = .inr (ci, am_ob G (am_new S ci 0 (am_nf ci)) (am_n S)) := by
      unfold am_e
      rw [hk0, if_pos hr.2.1]
    rw [e, hR.addr]
    refine ⟨r, hr.1, (u_born ty C.2.2.2.2.1 hr.2.2.1 hKn hkC e1 (fun q hq => (hty q hq).1)).to (fun j hj => ?_)⟩
    rw [am_ob_V (by rw [hk0, hr.nf]; exact hj)]
    unfold am_fv
    rw [hk0]
    show defaultValue (ty j) = if am_ft ci j = 2 then va_rf ((va_up (am_r S) (am_n S) (fun _ => none) (am_n S) j).map (am_L G)) else .int (va_up (am_i S) (am_n S) (fun _ => 0) (am_n S) j)
    rw [va_up_self, va_up_self, (hty j hj).2]
    rfl
  have h9 := g2 (hle.tr ⟨Nat.le_succ _, Nat.le_add_right _ _⟩) H1 ls locs hR' hl hb
  rw [← hr.nf, (am_new_eq (kd := ci) (len := 0) (sl := am_nf ci) hle).1, (am_new_eq (kd := ci) (len := 0) (sl := am_nf ci) hle).2]
  have ea : am_v G (.ref (am_n S)) = .ref H.size := by
    show Value.ref (am_L G (am_n S)) = _
    rw [hR.addr]
  rw [List.map_cons, ea] at h9
  exact h9
end AM5
