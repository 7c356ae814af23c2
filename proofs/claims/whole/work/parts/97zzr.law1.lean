/-! THE LAW: one call of both -/
def w_law (S : am_S) : Prop := w_Ic S (am_i S) ∧ w_Z S
def w_out (S S' : am_S) : Prop := S' = S ∨ ∃ w, S' = am_putJ S 151 0 w
/-- a call of the class, then (behind a write of what came) the same call of the reference -/
def q_pair (fY fZ : am_F) (Ay Az : List Value) (ox : Nat → Int32 → am_O) (b : Nat) (S : am_S) : Prop := ∃ S1 c v, c ≤ b ∧ w_Z S1 ∧ fY Ay S = some (ox c v, S1) ∧ ∀ S1', w_out S1 S1' → ∃ S2, fZ Az S1' = some (.inl (some (.int v)), S2) ∧ am_i S2 138 6 = nI c ∧ am_j S2 151 = am_j S1' 151 ∧ w_law S2 ∧ w_le 20 4100 S S2
section L70
variable {S S' T S1 S2 : am_S} {a b c d k m n z z2 c2 : Nat} {P : Nat → Prop} {x y w v : Int32} {M M' : Nat → Nat → Int32} {u : (Nat × Int32) × (Nat → Nat → Int32)} {fY fZ : am_F} {Ay Az : List Value} {ox : Nat → Int32 → am_O} {R : Nat → Int32}
theorem w_Mq.self0 : w_Mq (am_i S) S := ⟨rfl, rfl, rfl, rfl, rfl, fun _ _ => rfl⟩
theorem w_Mq.kp0 (k : w_kp S S1) : w_Mq (am_i S) S1 := by
  have e : ∀ b, 138 ≤ b → b ≤ 151 → am_i S1 b = am_i S b := fun b h1 h2 => (k b h1 h2).2.2.1
  exact ⟨e 139 (by omega) (by omega), e 142 (by omega) (by omega), e 143 (by omega) (by omega), e 146 (by omega) (by omega), e 147 (by omega) (by omega), fun j _ => by rw [e 138 (by omega) (by omega)]⟩
theorem w_out.F (h : w_out S S') : w_F (fun b => b = 151) S S' ∧ am_i S' = am_i S ∧ am_n S' = am_n S ∧ am_z S' = am_z S ∧ am_k S' = am_k S ∧ am_l S' = am_l S ∧ am_r S' = am_r S := by
  rcases h with rfl | ⟨w, rfl⟩
  · exact ⟨w_F.rf, rfl, rfl, rfl, rfl, rfl, rfl⟩
  · refine ⟨⟨Nat.le_refl _, Nat.le_refl _, fun b _ => ⟨rfl, rfl⟩, fun b hb hP => ⟨rfl, ?_, rfl⟩⟩, rfl, rfl, rfl, rfl, rfl, rfl⟩
    funext i
    rw [x_j_J, if_neg hP]
theorem w_out.Z (h : w_out S S') (hZ : w_Z S) : w_Z S' := by
  obtain ⟨-, -, -, -, h1, h2, h3⟩ := h.F
  unfold w_Z at hZ ⊢
  rw [h1, h2, h3]
  exact hZ
theorem w_Ic.ref (h : w_Ic S M) (hF : w_F (fun b => 138 ≤ b ∧ b ≤ 151) S S') : w_Ic S' M := by
  have hn := h.1.2.1
  have hF2 : w_F (w_PI S) S S' := hF.mono (fun b hb => Or.inl hb)
  have h13 := h.1.2.2.1 1 113 rfl
  have hT := h.2.1.2.2.1
  refine h.fr hF2 (hF.A h13.1 h13.2.1 (fun q q1 q2 => by omega)) (hT.fr hn hF (hF.r (by omega) (by omega)) (fun q hq hq2 => ?_))
  obtain ⟨t, D, ht, hD, e⟩ := hq
  have := (hT.1 t D ht hD).1.1
  omega
theorem pr_O (hy : fY Ay S = some (ox u.1.1 u.1.2, S1)) (hb : u.1.1 ≤ b) (hZ : w_Z S) (hI : w_Ic S1 u.2) (hle : w_le c z S S1) (hk : w_kp S S1) (hz : ∀ T, w_Mq (am_i S) T → w_Z T → 151 < am_n T → w_Zn c2 z2 u fZ Az T) (hc : c + c2 ≤ 20) (hz2 : z + z2 ≤ 4100) : q_pair fY fZ Ay Az ox b S := by
  refine ⟨S1, u.1.1, u.1.2, hb, hk.Z hZ, hy, fun S1' ho => ?_⟩
  have hn := hI.1.2.1
  obtain ⟨oF, oi, on, oz, ok, ol, or⟩ := ho.F
  have q0 : w_Mq (am_i S) S1 := w_Mq.kp0 hk
  have q1 : w_Mq (am_i S) S1' := by
    obtain ⟨a1, a2, a3, a4, a5, a6⟩ := q0
    exact ⟨by rw [oi]; exact a1, by rw [oi]; exact a2, by rw [oi]; exact a3, by rw [oi]; exact a4, by rw [oi]; exact a5, fun j hj => by rw [oi]; exact a6 j hj⟩
  obtain ⟨S2, f1, f2, f3, f4, f5, f6, f7⟩ := hz S1' q1 (ho.Z (hk.Z hZ)) (by omega)
  have F12 : w_F (fun b => 138 ≤ b ∧ b ≤ 151) S1 S2 := (oF.mono (fun b hb => by omega)).tr (f5.mono (fun b hb => ⟨hb.1, Nat.le_trans hb.2 (by decide)⟩))
  have r130 : am_r S2 130 = am_r S1 130 := F12.r (by omega) (by omega)
  refine ⟨S2, f1, f2, (f5.2.2.2 151 (by omega) (by show ¬ (138 ≤ 151 ∧ 151 ≤ 150); omega)).2.1, ⟨(hI.ref F12).me f3.me, f4⟩, ((hle.tr (w_le.of (c := c2) (z := z2) r130 (by omega) (by omega)))).mono hc hz2⟩
theorem w_Zo.zn (hZ : w_Z S) (h : w_Zo u fZ Az S) : w_Zn 0 0 u fZ Az S := by
  obtain ⟨S', f1, f2, f3, f4⟩ := h
  exact ⟨S', f1, f2, f3, f4.Z hZ, w_F.of f4, Nat.le_of_eq f4.1, Nat.le_of_eq f4.2.1⟩
theorem w_th.zn (hZ : w_Z S) (hM : w_Mq M S) {q : Nat × Int32} (h : ∃ S', fZ Az S = some (.inl (some (.int q.2)), S') ∧ w_th q.1 S S') : w_Zn 0 0 (q, M) fZ Az S := by
  obtain ⟨S', f1, f2⟩ := h
  exact ⟨S', f1, f2.2.2, hM.th f2, f2.Z hZ, w_F.of f2.P7, Nat.le_of_eq f2.1.1, Nat.le_of_eq f2.1.2.1⟩
theorem pr_Q {q : Nat × Int32} (h : w_law S) (hy : fY Ay S = o_y q S) (hb : q.1 ≤ b) (hz : ∀ T, w_Mq (am_i S) T → w_Z T → 151 < am_n T → w_Zn 0 0 (q, am_i S) fZ Az T) : q_pair fY fZ Ay Az o_r b S := by
  have ht := h.1.thr (c := q.1)
  exact pr_O (u := (q, am_i S)) hy hb h.2 ht.1 ht.2.1 ht.2.2 hz (by omega) (by omega)
end L70
