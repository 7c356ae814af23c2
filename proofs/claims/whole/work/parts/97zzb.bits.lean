/-! BITS OF LONGS -/
def w_bit (w : Int64) (o : Nat) : Bool := w.toBitVec.getLsbD o
section L51
variable {w u : Int64} {o j : Nat}
theorem w_bit_or : w_bit (w ||| u) o = (w_bit w o || w_bit u o) := by
  unfold w_bit
  rw [Int64.toBitVec_or, BitVec.getLsbD_or]
theorem w_bit_and : w_bit (w &&& u) o = (w_bit w o && w_bit u o) := by
  unfold w_bit
  rw [Int64.toBitVec_and, BitVec.getLsbD_and]
theorem w_bit_m1 : ∀ o, o < 64 → w_bit (-1) o = true := by decide +kernel
theorem w_bit_not (ho : o < 64) : w_bit (w ^^^ (-1)) o = !w_bit w o := by
  have h := w_bit_m1 o ho
  unfold w_bit at h ⊢
  rw [Int64.toBitVec_xor, BitVec.getLsbD_xor, h, Bool.xor_true]
theorem w_bit_0 : w_bit 0 o = false := by
  unfold w_bit
  exact BitVec.getLsbD_zero
theorem w_bit_1 : ∀ o, o < 40 → ∀ j, j < 40 → w_bit ((1 : Int64) <<< ((nI o).toInt64 &&& 63)) j = decide (j = o) := by decide +kernel
theorem w_sh63 : ∀ o, o < 40 → (((nI o).toInt64 &&& 63).toBitVec.smod 64).toNat = o := by decide +kernel
theorem w_bit_sh (ho : o < 40) : ((w >>> ((nI o).toInt64 &&& 63)) &&& 1) = if w_bit w o then 1 else 0 := by
  have h := w_sh63 o ho
  apply Int64.toBitVec_inj.mp
  rw [Int64.toBitVec_and, Int64.toBitVec_shiftRight]
  unfold BitVec.sshiftRight'
  rw [h]
  apply BitVec.eq_of_getLsbD_eq
  intro i hi
  rw [BitVec.getLsbD_and, BitVec.getLsbD_sshiftRight]
  unfold w_bit
  have one : (1 : Int64).toBitVec = 1#64 := rfl
  rw [one]
  cases i with
  | zero =>
    have e1 : (1#64).getLsbD 0 = true := rfl
    rw [e1, Nat.add_zero, if_pos (by omega), Bool.and_true]
    cases hb : w.toBitVec.getLsbD o with
    | true => rfl
    | false => rfl
  | succ i =>
    have e1 : (1#64).getLsbD (i + 1) = false := by
      rw [BitVec.getLsbD_one]
      simp
    rw [e1, Bool.and_false]
    cases hb : w.toBitVec.getLsbD o with
    | true => exact e1.symm
    | false => exact BitVec.getLsbD_zero.symm
end L51
