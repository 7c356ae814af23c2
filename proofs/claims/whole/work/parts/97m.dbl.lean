/-! DOUBLES AND FLOATS: a quotient of whole numbers by one that isn't 0 is a number -/
abbrev dd_f : FP.Core.Fmt := FP.Core.b64
/-- what rounding gives: an infinity, or a number that the format has -/
def dd_g : FP.Core.Datum → Prop
  | .nan => False
  | .inf _ => True
  | .fin _ c q => c < 2 ^ 53 ∧ q ≤ 971
section D1
variable {x y : Int32} {n num den i : Nat} {s : Bool} {e q : Int} {d : FP.Core.Datum}
theorem dd_tails : FP.Core.Fmt.tails dd_f = 4503599627370496 := by decide
theorem dd_exps : FP.Core.Fmt.exps dd_f = 2048 := by decide
theorem dd_qmin : FP.Core.Fmt.qmin dd_f = -1074 := by decide
theorem dd_qmax : FP.Core.Fmt.qmax dd_f = 971 := by decide
theorem dd_bound {c : Nat} (hc : c < 2 ^ 53) : dd_g (FP.Core.bound dd_f s c q) := by
  unfold FP.Core.bound
  rw [dd_qmax]
  by_cases h : q ≤ 971
  · rw [if_pos h]
    exact ⟨hc, h⟩
  · rw [if_neg h]
    trivial
theorem dd_ratio : dd_g (FP.Core.roundRatio dd_f s num den e) := by
  unfold FP.Core.roundRatio
  by_cases h : num = 0
  · rw [if_pos h, dd_qmin]
    exact ⟨by decide, by decide⟩
  · rw [if_neg h]
    unfold FP.Core.roundAt FP.Core.settle
    split
    · next h => exact dd_bound h
    · exact dd_bound (by rw [dd_tails]; decide)
theorem dd_enc (h : dd_g d) : FP.Core.encode dd_f d % 2 ^ 63 ≤ 9218868437227405312 := by
  cases d with
  | nan => exact h.elim
  | inf s =>
    unfold FP.Core.encode FP.Core.assemble
    dsimp only
    rw [dd_exps, dd_tails]
    cases s <;> decide
  | fin s c q =>
    obtain ⟨h1, h2⟩ := h
    unfold FP.Core.encode FP.Core.assemble
    dsimp only
    rw [dd_exps, dd_tails, dd_qmin]
    have hs : s.toNat ≤ 1 := by cases s <;> decide
    generalize s.toNat = b at *
    split
    · omega
    · generalize hk : (q - -1074).toNat = k
      have : k ≤ 2045 := by omega
      omega
theorem dd_nat : (UInt64.ofNat n).toNat % 2 ^ 63 = n % 2 ^ 63 := by
  rw [UInt64.toNat_ofNat']
  omega
theorem dd_mask {a : UInt64} (h : a.toNat % 2 ^ 63 ≤ 9218868437227405312) : a &&& 0x7fffffffffffffff ≤ 0x7ff0000000000000 := by
  rw [UInt64.le_iff_toNat_le, UInt64.toNat_and]
  have e2 : (0x7fffffffffffffff : UInt64).toNat = 2 ^ 63 - 1 := rfl
  have e3 : (0x7ff0000000000000 : UInt64).toNat = 9218868437227405312 := rfl
  rw [e2, e3, Nat.and_two_pow_sub_one_eq_mod]
  exact h
theorem dd_notnan (h : n % 2 ^ 63 ≤ 9218868437227405312) : FP.Core.decode dd_f n ≠ .nan := by
  unfold FP.Core.decode FP.Core.fieldE FP.Core.fieldT
  rw [dd_exps, dd_tails]
  split
  · split
    · exact fun q => by cases q
    · exfalso
      omega
  · split
    · exact fun q => by cases q
    · exact fun q => by cases q
theorem dd_self (h : d ≠ .nan) : FP.Core.order d d = some .eq := by
  have hc : ∀ z : Int, compare z z = Ordering.eq := fun z => by simp [compare, compareOfLessAndEq]
  cases d with
  | nan => exact absurd rfl h
  | inf s =>
    unfold FP.Core.order
    dsimp only
    rw [hc]
  | fin s c q =>
    unfold FP.Core.order
    dsimp only
    rw [hc]
/-- a whole number as a double is a number -/
theorem dd_int : ∃ s c q, FP.Core.decode dd_f (FP.i2d x).toNat = .fin s c q := by
  have hb : x.toInt.natAbs < 2 ^ 32 := by
    have := fb_rng x
    omega
  have hd : ∃ s c q, FP.Core.round dd_f (FP.Core.ofInt x.toInt) = .fin s c q ∧ c < 2 ^ 53 ∧ q ≤ 970 + 1 := by
    unfold FP.Core.ofInt FP.Core.round FP.Core.roundRatio
    dsimp only
    by_cases h0 : x.toInt.natAbs = 0
    · rw [if_pos h0, dd_qmin]
      exact ⟨_, _, _, rfl, by decide, by decide⟩
    · rw [if_neg h0]
      have hq : FP.Core.quantum dd_f x.toInt.natAbs 1 0 ≤ 0 := by
        unfold FP.Core.quantum
        rw [dd_qmin]
        have hl : FP.Core.leading x.toInt.natAbs 1 ≤ 31 := by
          have h32 : x.toInt.natAbs.log2 < 32 := (Nat.log2_lt h0).mpr hb
          have h1 : Nat.log2 1 = 0 := by decide
          unfold FP.Core.leading
          dsimp only
          rw [h1]
          split <;> omega
        have hp : (dd_f.p : Int) = 53 := rfl
        rw [hp]
        omega
      generalize FP.Core.quantum dd_f x.toInt.natAbs 1 0 = q at *
      unfold FP.Core.roundAt FP.Core.settle FP.Core.bound
      rw [dd_qmax]
      split
      · next hc =>
        rw [if_pos (by omega)]
        exact ⟨_, _, _, rfl, hc, by omega⟩
      · rw [if_pos (by omega)]
        exact ⟨_, _, _, rfl, by rw [dd_tails]; decide, by omega⟩
  obtain ⟨s, c, q, h1, h2, h3⟩ := hd
  have e : (FP.i2d x).toNat = FP.Core.encode dd_f (.fin s c q) % 2 ^ 64 := by
    rw [← h1]
    exact UInt64.toNat_ofNat'
  rw [e]
  have hE : FP.Core.encode dd_f (.fin s c q) / 4503599627370496 % 2048 ≤ 2046 := by
    unfold FP.Core.encode FP.Core.assemble
    dsimp only
    rw [dd_exps, dd_tails, dd_qmin]
    have hs : s.toNat ≤ 1 := by cases s <;> decide
    generalize s.toNat = b at *
    split
    · omega
    · generalize hk : (q - -1074).toNat = k
      have : k ≤ 2045 := by omega
      omega
  unfold FP.Core.decode FP.Core.fieldE FP.Core.fieldT
  rw [dd_exps, dd_tails]
  rw [if_neg (by omega)]
  split
  · exact ⟨_, _, _, rfl⟩
  · exact ⟨_, _, _, rfl⟩
theorem dd_40 : ∀ i : Fin 41, i.val ≠ 0 → (match FP.Core.decode dd_f (FP.i2d (nI i.val)).toNat with | .fin _ c _ => c != 0 | _ => false) = true := by decide +kernel
theorem dd_div (h1 : 0 < i) (h2 : i ≤ 40) : (FP.ddiv (FP.i2d x) (FP.i2d (nI i))).toNat % 2 ^ 63 ≤ 9218868437227405312 := by
  obtain ⟨s, c, q, e1⟩ := dd_int (x := x)
  have h := dd_40 ⟨i, by omega⟩ (by show i ≠ 0; omega)
  obtain ⟨t, d, r, e2⟩ := dd_int (x := nI i)
  dsimp only at h
  rw [e2] at h
  have hd : d ≠ 0 := by simpa using h
  have e : FP.ddiv (FP.i2d x) (FP.i2d (nI i)) = UInt64.ofNat (FP.Core.encode dd_f (FP.Core.quotient dd_f (FP.Core.decode dd_f (FP.i2d x).toNat) (FP.Core.decode dd_f (FP.i2d (nI i)).toNat))) := rfl
  rw [e, dd_nat, e1, e2]
  refine dd_enc ?_
  unfold FP.Core.quotient
  dsimp only
  rw [if_neg hd]
  exact dd_ratio
theorem dd_cmp {a : UInt64} (h : a.toNat % 2 ^ 63 ≤ 9218868437227405312) : FP.dcmp a a = some .eq := dd_self (dd_notnan h)
theorem dd_c0 : FP.dcmp FP.dconst0 FP.dconst0 = some .eq := by decide +kernel
end D1
