/-! System.arraycopy over int arrays -/
section AM8
variable {X : am_X} {cc : ByteArray} {nL : Nat} {own : String} {G : am_G} {S0 : am_S} {fin : am_O × am_S} {fr lo pc : Nat} {k : am_K}
theorem am_nn {z : Int32} (h : 0 ≤ z.toInt) : z.toInt = (z.toNatClampNeg : Int) := by
  show z.toInt = ((z.toInt.toNat : Nat) : Int)
  omega
theorem am_copy (C : am_C X cc nL own G S0 fin.2 fr lo) {idx : Nat} (w1 : Cond.methodLink own idx arraycopyName ∈ am_tb) (w2 : Cond.native arraycopyName ∈ am_tb) (w3 : Cond.static arraycopyName ∈ am_tb) (w4 : Cond.initialized "java/lang/System" ∈ am_tb) (hfr : 1 ≤ fr) (hlo : 8 + (nativeFrameWords "java/lang/System" "arraycopy" 5 + 11) ≤ lo)
    (hdg : decode cc pc = .ok (.invokestatic idx, 3)) (h : am_W X G S0 fin nL (pc + 3) k) : am_W X G S0 fin nL pc (c_copy k) := by
  intro lv st S hk
  dsimp only [c_copy] at hk
  split at hk
  next n dp b sp a rr =>
    split at hk
    next hc =>
      obtain ⟨ka, kb, h1, h2, h3, h4, h5⟩ := hc
      split at hk
      next hcs =>
        obtain ⟨g1, g2⟩ := h _ _ _ hk
        refine ⟨g1, fun hle H ls locs hR hl hb => ?_⟩
        obtain ⟨ha, hPa⟩ := am_at_int hR ka
        obtain ⟨hbb, hPb⟩ := am_at_int hR kb
        have hc0 : H[am_L G a]? = some (vp_cell (am_cl G 20) (am_l S a, .inl (am_i S a))) := hPa 0 _ rfl
        have hc1 : H[am_L G b]? = some (vp_cell (am_cl G 20) (am_l S b, .inl (am_i S b))) := hPb 0 _ rfl
        have e1 := am_nn h1
        have e2 := am_nn h2
        have e3 := am_nn h3
        have h4' : sp.toNatClampNeg + n.toNatClampNeg ≤ am_l S a := by omega
        have h5' : dp.toNatClampNeg + n.toNatClampNeg ≤ am_l S b := by omega
        have a1 := C.2.2.2.2.2.2.2.2.2.2.2.1
        have a2 := C.2.2.2.2.2.2.2.2.2.2.2.2
        intro T hT X9
        obtain ⟨-, k0, hk0, cm0, hkk0⟩ := (C.2.2.2.2.2.1.1.2 0 _ rfl).1 (am_l S a) (fun j => .int (am_i S a j))
        obtain ⟨-, k1, hk1, cm1, hkk1⟩ := (C.2.2.2.2.2.1.1.2 0 _ rfl).1 (am_l S b) (fun j => .int (am_i S b j))
        obtain ⟨vm', X', step⟩ := X9.arraycopy C.1 C.2.2.2.1 (C.2.2.2.2.1 _ w1) (C.2.2.2.2.1 _ w2) (C.2.2.2.2.1 _ w3) (C.2.2.2.2.1 _ w4) (src := am_L G a) (dst := am_L G b) (cs := vp_cell (am_cl G 20) (am_l S a, .inl (am_i S a))) (cd := vp_cell (am_cl G 20) (am_l S b, .inl (am_i S b))) (srcPos := sp) (destPos := dp) (n := n) (by rw [hT]; exact hc0) (by rw [hT]; exact hc1)
          (fun _ h => by cases h) (fun _ h => by cases h) (fun h => by cases h) (fun h => by cases h) hk0 hk1 hkk0 hkk1 (by simp [refKind]) (am_clamp h1) (am_clamp h2) (am_clamp h3)
          (by show ¬ _ > ((arrV (am_cl G 20) (am_l S a) (fun j => .int (am_i S a j))).slots.size : Int); rw [arrV_size]; omega)
          (by show ¬ _ > ((arrV (am_cl G 20) (am_l S b) (fun j => .int (am_i S b j))).slots.size : Int); rw [arrV_size]; omega)
          (fun vm₁ _ i hi => by
            have e : (vp_cell (am_cl G 20) (am_l S a, .inl (am_i S a))).slots.getD (sp.toNatClampNeg + i) .null = .int (am_i S a (sp.toNatClampNeg + i)) := by
              show (arrV (am_cl G 20) (am_l S a) (fun j => .int (am_i S a j))).slots.getD _ _ = _
              rw [Array.getD_eq_getD_getElem?, arrV_read _ _ (by omega)]
              rfl
            refine ⟨?_, ?_⟩
            · rw [e]; rfl
            · rw [e]; exact trivial)
          (g := F0 (xm X) pc ls (.int n :: .int dp :: .ref (am_L G b) :: .int sp :: .ref (am_L G a) :: rr.map (am_v G))) rfl (hl.1.trans C.2.2.1.symm) (rest := rr.map (am_v G)) rfl (by rw [C.2.1]; exact hdg) (by omega) (by show 2 * 0 + _ + _ ≤ _; rw [am_csS]; omega)
        have ec : copied (vp_cell (am_cl G 20) (am_l S a, .inl (am_i S a))) (vp_cell (am_cl G 20) (am_l S b, .inl (am_i S b))) sp dp n = vp_cell (am_cl G 20) (am_l S b, .inl (va_cpy (am_i S a) (am_i S b) sp.toNatClampNeg dp.toNatClampNeg n.toNatClampNeg)) := va_copied (fun z => .int z) (am_cl G 20) (am_cl G 20) (am_i S a) (am_i S b) h4'
        rw [ec] at X' step
        have hlt : am_L G b < H.size := (Array.getElem?_eq_some_iff.mp hc1).1
        have oq : ∀ q : Nat, q ≠ am_L G b → (H.setIfInBounds (am_L G b) (vp_cell (am_cl G 20) (am_l S b, .inl (va_cpy (am_i S a) (am_i S b) sp.toNatClampNeg dp.toNatClampNeg n.toNatClampNeg))))[q]? = H[q]? := fun q hq => by simp [Array.getElem?_setIfInBounds, Ne.symm hq]
        have hR' : am_R G (am_cpy S a sp.toNatClampNeg b dp.toNatClampNeg n.toNatClampNeg) (H.setIfInBounds (am_L G b) (vp_cell (am_cl G 20) (am_l S b, .inl (va_cpy (am_i S a) (am_i S b) sp.toNatClampNeg dp.toNatClampNeg n.toNatClampNeg)))) := by
          refine hR.write (a := b) hbb rfl rfl (fun q hq _ => am_e_row hq) (by simp) oq ?_
          have e9 : am_e G (am_cpy S a sp.toNatClampNeg b dp.toNatClampNeg n.toNatClampNeg) b = .inl (am_cl G 20, am_l S b, .inl (va_cpy (am_i S a) (am_i S b) sp.toNatClampNeg dp.toNatClampNeg n.toNatClampNeg)) := by
            unfold am_e
            show (if am_k S b < 12 then _ else if am_k S b = 20 then _ else _) = _
            rw [if_neg (by omega), if_pos kb]
            rw [show am_i (am_cpy S a sp.toNatClampNeg b dp.toNatClampNeg n.toNatClampNeg) b = va_cpy (am_i S a) (am_i S b) sp.toNatClampNeg dp.toNatClampNeg n.toNatClampNeg from va_up_self _ _ _]
            rfl
          rw [e9]
          show (H.setIfInBounds (am_L G b) _)[am_L G b]? = some _
          simp [Array.getElem?_setIfInBounds, hlt]
        have hheap : ((T.setVm vm').setCell (am_L G b) (vp_cell (am_cl G 20) (am_l S b, .inl (va_cpy (am_i S a) (am_i S b) sp.toNatClampNeg dp.toNatClampNeg n.toNatClampNeg)))).heap = H.setIfInBounds (am_L G b) (vp_cell (am_cl G 20) (am_l S b, .inl (va_cpy (am_i S a) (am_i S b) sp.toNatClampNeg dp.toNatClampNeg n.toNatClampNeg))) := by rw [← hT]; rfl
        have h9 := g2 hle _ ls _ hR' hl (fun q hq => by
          rcases List.mem_append.mp hq with h8 | h8
          · exact hb q h8
          · obtain ⟨z, -, hz⟩ := List.mem_map.mp h8
            rw [← hz]
            show am_B G ≤ am_L G b
            rw [am_L_ge hbb.1]
            omega) _ hheap X'
        obtain ⟨t, a9, b9⟩ := h9
        exact ⟨t, step t a9, b9⟩
      next => cases hk
    next => cases hk
  next => cases hk
end AM8
