/-! THE LAW: load; the methods that throw nothing -/
def q_prR (fY fZ : am_F) (Ay Az : List Value) (S : am_S) (o : Option Value) : Prop := ∃ S1, w_Z S1 ∧ fY Ay S = some (.inl o, S1) ∧ ∃ S2, fZ Az S1 = some (.inl o, S2) ∧ w_law S2 ∧ w_le 20 4100 S S2
section L72
variable {S S1 T : am_S} {x y z t a b c d e : Int32} {M M' : Nat → Nat → Int32} {fY fZ : am_F} {Ay Az : List Value} {o : Option Value} {k m : Nat}
theorem u_load_1 {B : Nat → Nat} {Q Q' : Nat → Int32} : (u_load M B Q x).1 = (u_load M B Q' x).1 := by
  unfold u_load
  split
  · split <;> rfl
  · rfl
theorem pr_load (h : w_law S) : q_pair (fX10_load w_N) (fX11_load w_N) [.ref 100, .int x] [.ref 138, .int x] o_q 1 S := by
  obtain ⟨n, n1, n2, n3, n4⟩ := h.1.2.2.2.2.1.byt
  have en : s_n (am_i S 138 13) = n := by rw [n2, w_snI (by omega)]
  have hn := h.1.1.2.1
  have zl := fun (T : am_S) (q1 : w_Mq (am_i S) T) (q2 : w_Z T) (q3 : 151 < am_n T) => z_load (x := x) (B := u_B (am_i S)) q2 q1 n2 n1 (fun i hi => (n4 i hi).2) q3
  obtain ⟨Q0, p0, -⟩ := zl S w_Mq.self0 h.2 hn
  obtain ⟨S1, f1, f2, f3, f4⟩ := y_load (x := x) h.1 (fun a b => (p0 (by rw [← en]; exact a) b).1)
  have hb : (u_load (am_i S) (u_B (am_i S)) Q0 x).1.1 ≤ 1 := by
    unfold u_load
    split
    · split
      · exact Nat.zero_le _
      · exact Nat.zero_le _
    · exact Nat.le_refl _
  refine ⟨S1, _, _, hb, f4.Z h.2, f1 Q0, fun S1' ho => ?_⟩
  obtain ⟨oF, oi, on, oz, ok, ol, or⟩ := ho.F
  have q0 : w_Mq (am_i S) S1 := w_Mq.kp0 f4
  have q1 : w_Mq (am_i S) S1' := by
    obtain ⟨a1, a2, a3, a4, a5, a6⟩ := q0
    exact ⟨by rw [oi]; exact a1, by rw [oi]; exact a2, by rw [oi]; exact a3, by rw [oi]; exact a4, by rw [oi]; exact a5, fun j hj => by rw [oi]; exact a6 j hj⟩
  have hn1 : 151 < am_n S1 := (f2 Q0 (fun a b => (p0 (by rw [← en]; exact a) b).2)).1.2.1
  obtain ⟨Q, p1, S2, g1, g2, g3, g4, g5, g6, g7⟩ := zl S1' q1 (ho.Z (f4.Z h.2)) (by omega)
  have hI : w_Ic S1 (u_load (am_i S) (u_B (am_i S)) Q x).2 := f2 Q (fun a b => (p1 (by rw [← en]; exact a) b).2)
  have F12 : w_F (fun b => 138 ≤ b ∧ b ≤ 151) S1 S2 := (oF.mono (fun b hb => by omega)).tr (g5.mono (fun b hb => ⟨hb.1, Nat.le_trans hb.2 (by decide)⟩))
  have h151 := hI.1.2.1
  have r130 : am_r S2 130 = am_r S1 130 := F12.r (by omega) (by omega)
  rw [u_load_1 (Q' := Q0)] at g1 g2
  exact ⟨S2, g1, g2, (g5.2.2.2 151 (by omega) (by show ¬ (138 ≤ 151 ∧ 151 ≤ 150); omega)).2.1, ⟨(hI.ref F12).me g3.me, g4⟩, ((f3.tr (w_le.of (c := 4) (z := 28) r130 (by omega) (by omega)))).mono (by omega) (by omega)⟩
theorem pr_R (hy : fY Ay S = some (.inl o, S1)) (hZ : w_Z S) (hI : w_Ic S1 M) (hle : w_le k m S S1) (hk : w_kp S S1) (hz : ∀ T, w_Mq (am_i S) T → w_Z T → ∃ S', fZ Az T = some (.inl o, S') ∧ w_Mq M S' ∧ w_I w_P7 T S') (h1 : k ≤ 20) (h2 : m ≤ 4100) : q_prR fY fZ Ay Az S o := by
  have q0 : w_Mq (am_i S) S1 := w_Mq.kp0 hk
  have hZ1 := hk.Z hZ
  obtain ⟨S2, f1, f2, f3⟩ := hz S1 q0 hZ1
  have F12 : w_F (fun b => 138 ≤ b ∧ b ≤ 151) S1 S2 := (w_F.of f3).mono (fun b hb => ⟨hb.1, Nat.le_trans hb.2 (by decide)⟩)
  exact ⟨S1, hZ1, hy, S2, f1, ⟨(hI.ref F12).me f2.me, f3.Z hZ1⟩, (hle.tr (w_le.I f3)).mono (by omega) (by omega)⟩
theorem pr_th (h : w_law S) (hy : fY Ay S = some (.inl o, S)) (hz : ∀ T, w_Mq (am_i S) T → w_Z T → ∃ S', fZ Az T = some (.inl o, S') ∧ w_th 0 T S') : q_prR fY fZ Ay Az S o :=
  pr_R hy h.2 h.1 w_le.rf w_kp.rf (fun T q1 q2 => by
    obtain ⟨S', f1, f2⟩ := hz T q1 q2
    exact ⟨S', f1, q1.th f2, f2.P7⟩) (by omega) (by omega)
theorem pr_errorPosition (h : w_law S) : q_prR (fX10_errorPosition w_N) (fX11_errorPosition w_N) [.ref 100] [.ref 138] S (some (.int (am_i S 138 20))) := pr_th h (y_errPos h.1) (fun T q1 q2 => z_errPos q2 q1)
theorem pr_undoCount (h : w_law S) : q_prR (fX10_undoCount w_N) (fX11_undoCount w_N) [.ref 100] [.ref 138] S (some (.int (am_i S 138 5))) := pr_th h (y_undoCount h.1) (fun T q1 q2 => z_undoCount q2 q1)
theorem pr_crossed (h : w_law S) : q_prR (fX10_crossed w_N) (fX11_crossed w_N) [.ref 100] [.ref 138] S (some (.int (u_crossed (am_i S 139)))) := pr_th h (y_crossed h.1.L) (fun T q1 q2 => z_crossed q2 q1.1 h.1.2.1.2.1.1)
theorem pr_formattedByte (h : w_law S) : q_prR (fX10_formattedByte w_N) (fX11_formattedByte w_N) [.ref 100, .int x] [.ref 138, .int x] S (some (.int (u_fb (am_i S) x))) := by
  obtain ⟨⟨l, l1, l2, l3, l4⟩, x2⟩ := h.1.2.2.2.2.2
  exact pr_th h (y_fByte h.1) (fun T q1 q2 => z_fByte q2 q1 l2 l1)
theorem pr_meanDelay (h : w_law S) : q_prR (fX10_meanDelay w_N) (fX11_meanDelay w_N) [.ref 100] [.ref 138] S (some (.double (u_mean (am_i S 139)))) := pr_th h (y_meanDelay h.1.L) (fun T q1 q2 => z_meanDelay q2 q1.1 h.1.2.1.2.1.1)
theorem pr_success (h : w_law S) : q_prR (fX10_success w_N) (fX11_success w_N) [.ref 100] [.ref 138] S (some (.float (u_succ (am_i S 139)))) := pr_th h (y_success h.1.L) (fun T q1 q2 => z_success q2 q1.1 h.1.2.1.2.1.1)
theorem pr_feed (h : w_law S) : q_prR (fX10_feed w_N) (fX11_feed w_N) [.ref 100, .int a, .int b, .int c, .int d, .int e] [.ref 138, .int a, .int b, .int c, .int d, .int e] S (some (.int (u_feed (am_i S) a b c d e).1)) := by
  obtain ⟨S1, f1, f2, f3, f4⟩ := y_feed (a := a) (b := b) (c := c) (d := d) (e := e) h.1
  obtain ⟨n, n1, n2, n3, n4⟩ := h.1.2.2.2.2.1.byt
  exact pr_R f1 h.2 f2 f3 f4 (fun T q1 q2 => z_feed q2 q1 n2 n1) (by omega) (by omega)
theorem pr_undo (h : w_law S) : q_prR (fX10_undo w_N) (fX11_undo w_N) [.ref 100] [.ref 138] S (some (.int (u_undo (am_i S)).1)) := by
  obtain ⟨S1, f1, f2, f3, f4⟩ := y_undo h.1
  obtain ⟨cc, o, ⟨c1, -, -, c4, -⟩, -⟩ := h.1.2.2.1
  exact pr_R f1 h.2 f2 f3 f4 (fun T q1 q2 => z_undo q2 q1 c1 c4) (by omega) (by omega)
theorem pr_restoreSnapshot (h : w_law S) : q_prR (fX10_restoreSnapshot w_N) (fX11_restoreSnapshot w_N) [.ref 100] [.ref 138] S (some (.int (u_restore (am_i S)).1)) := by
  obtain ⟨S1, f1, f2, f3, f4⟩ := y_restore h.1
  have h7 : am_i S 138 7 = nI 0 ∨ am_i S 138 7 = nI 1 := h.1.2.2.2.1.imp (fun q => q.1) (fun q => q.1.1)
  exact pr_R f1 h.2 f2 f3 f4 (fun T q1 q2 => z_restore q2 q1 h7) (by omega) (by omega)
theorem pr_saveSnapshot (h : w_law S) : q_prR (fX10_saveSnapshot w_N) (fX11_saveSnapshot w_N) [.ref 100] [.ref 138] S none := by
  obtain ⟨S1, f1, f2, f3, f4⟩ := y_save h.1
  exact pr_R f1 h.2 f2 f3 f4 (fun T q1 q2 => z_save q2 q1) (by omega) (by omega)
end L72
