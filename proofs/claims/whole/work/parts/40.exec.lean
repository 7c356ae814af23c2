/-! RUNNING THE PIECES: each at a written stack -/
def am_cs (st : List Value) : Nat := (st.map (fun v => v.category)).sum
def x_ret (o : Option (am_O × am_S)) (g : Option Value → am_S → Option (am_O × am_S)) : Option (am_O × am_S) := match o with
  | some (.inl v, S2) => g v S2
  | some (.inr E, S2) => some (.inr E, S2)
  | none => none
def x_rem (i : Nat) (lv : List (Nat × Value)) : List (Nat × Value) := lv.filter (fun q => !(q.1 == i) && !(q.1 + 1 == i && q.2.category == 2))
def x_rem2 (i : Nat) (lv : List (Nat × Value)) : List (Nat × Value) := lv.filter (fun q => !(q.1 == i) && (!(q.1 == i + 1) && !(q.1 + 1 == i && q.2.category == 2)))
def x_pick (is : List Nat) (lv : List (Nat × Value)) : List (Nat × Value) := is.filterMap (fun i => (am_lk lv i).map (fun v => (i, v)))
def w_abs (v : Int32) : Int32 := if 0 ≤ v then v else 0 - v
def w_min (x y : Int32) : Int32 := if y < x then y else x
def w_minl (x y : Int64) : Int64 := if y < x then y else x
section X0
variable {k k1 k2 : am_K} {lv : List (Nat × Value)} {st r rest : List Value} {S S2 : am_S} {f : am_F} {a b i j n ci kd : Nat} {x y z : Int32} {u w : Int64} {v v1 v2 v3 v4 v5 : Value} {E : String} {g : Option Value → am_S → Option (am_O × am_S)} {q : Nat × Value} {is : List Nat} {ov : Option Value}
theorem x_cs0 : am_cs [] = 0 := rfl
theorem x_csi : am_cs (.int x :: r) = am_cs r + 1 := by simp [am_cs, Value.category, Nat.add_comm]
theorem x_csr : am_cs (.ref a :: r) = am_cs r + 1 := by simp [am_cs, Value.category, Nat.add_comm]
theorem x_csn : am_cs (.null :: r) = am_cs r + 1 := by simp [am_cs, Value.category, Nat.add_comm]
theorem x_csl : am_cs (.long u :: r) = am_cs r + 2 := by simp [am_cs, Value.category, Nat.add_comm]
theorem x_ret_v : x_ret (some (.inl ov, S2)) g = g ov S2 := rfl
theorem x_ret_t : x_ret (some (.inr E, S2)) g = some (.inr E, S2) := rfl
theorem x_ret_n : x_ret none g = none := rfl
theorem x_tl_s : (some v : Option Value).toList ++ r = v :: r := rfl
theorem x_tl_n : (none : Option Value).toList ++ r = r := rfl
theorem x_lk0 : am_lk [] i = none := rfl
theorem x_lk : am_lk ((j, v) :: lv) i = if j = i then some v else am_lk lv i := rfl
theorem x_rem0 : x_rem i [] = [] := rfl
theorem x_rem_i : x_rem i ((j, .int x) :: lv) = if j = i then x_rem i lv else (j, .int x) :: x_rem i lv := by
  unfold x_rem
  rw [List.filter_cons]
  by_cases h : j = i <;> simp [h, Value.category]
theorem x_rem_r : x_rem i ((j, .ref a) :: lv) = if j = i then x_rem i lv else (j, .ref a) :: x_rem i lv := by
  unfold x_rem
  rw [List.filter_cons]
  by_cases h : j = i <;> simp [h, Value.category]
theorem x_rem_l : x_rem i ((j, .long u) :: lv) = if j = i ∨ j + 1 = i then x_rem i lv else (j, .long u) :: x_rem i lv := by
  unfold x_rem
  rw [List.filter_cons]
  by_cases h : j = i <;> by_cases h2 : j + 1 = i <;> simp [h, h2, Value.category]
theorem x_rem2_0 : x_rem2 i [] = [] := rfl
theorem x_rem2_i : x_rem2 i ((j, .int x) :: lv) = if j = i ∨ j = i + 1 then x_rem2 i lv else (j, .int x) :: x_rem2 i lv := by
  unfold x_rem2
  rw [List.filter_cons]
  by_cases h : j = i <;> by_cases h2 : j = i + 1 <;> simp [h, h2, Value.category]
theorem x_rem2_r : x_rem2 i ((j, .ref a) :: lv) = if j = i ∨ j = i + 1 then x_rem2 i lv else (j, .ref a) :: x_rem2 i lv := by
  unfold x_rem2
  rw [List.filter_cons]
  by_cases h : j = i <;> by_cases h2 : j = i + 1 <;> simp [h, h2, Value.category]
theorem x_rem2_l : x_rem2 i ((j, .long u) :: lv) = if j = i ∨ j = i + 1 ∨ j + 1 = i then x_rem2 i lv else (j, .long u) :: x_rem2 i lv := by
  unfold x_rem2
  rw [List.filter_cons]
  by_cases h : j = i <;> by_cases h2 : j = i + 1 <;> by_cases h3 : j + 1 = i <;> simp [h, h2, h3, Value.category]
theorem x_pick0 : x_pick [] lv = [] := rfl
theorem x_pick_c : x_pick (i :: is) lv = match am_lk lv i with
  | some v => (i, v) :: x_pick is lv
  | none => x_pick is lv := by
  unfold x_pick
  rw [List.filterMap_cons]
  cases am_lk lv i <;> rfl
theorem x_st1 : am_st1 lv i v = (i, v) :: x_rem i lv := rfl
theorem x_st2 : am_st2 lv i v = (i, v) :: x_rem2 i lv := rfl
theorem x_live : c_live is k lv st S = k (x_pick is lv) st S := rfl
theorem x_i : c_i x k lv st S = k lv (.int x :: st) S := rfl
theorem x_l : c_l u k lv st S = k lv (.long u :: st) S := rfl
theorem x_a : c_a a k lv st S = k lv (.ref a :: st) S := rfl
theorem x_ild : c_ild i k lv st S = match am_lk lv i with
  | some (.int x) => k lv (.int x :: st) S
  | _ => none := rfl
theorem x_lld : c_lld i k lv st S = match am_lk lv i with
  | some (.long x) => k lv (.long x :: st) S
  | _ => none := rfl
theorem x_rld : c_rld i k lv st S = match am_lk lv i with
  | some (.ref x) => k lv (.ref x :: st) S
  | _ => none := rfl
theorem x_ist : c_ist i k lv (.int x :: r) S = k (am_st1 lv i (.int x)) r S := rfl
theorem x_lst : c_lst i k lv (.long u :: r) S = k (am_st2 lv i (.long u)) r S := rfl
theorem x_rst : c_rst i k lv (.ref a :: r) S = k (am_st1 lv i (.ref a)) r S := rfl
theorem x_inc : c_inc i x k lv st S = match am_lk lv i with
  | some (.int y) => k (am_st1 lv i (.int (y + x))) st S
  | _ => none := rfl
theorem x_ii {f : Int32 → Int32 → Int32} : c_ii f k lv (.int y :: .int x :: r) S = k lv (.int (f x y) :: r) S := rfl
theorem x_ll {f : Int64 → Int64 → Int64} : c_ll f k lv (.long w :: .long u :: r) S = k lv (.long (f u w) :: r) S := rfl
theorem x_li {f : Int64 → Int32 → Int64} : c_li f k lv (.int y :: .long u :: r) S = k lv (.long (f u y) :: r) S := rfl
theorem x_cmp {f : Int64 → Int64 → Int32} : c_cmp f k lv (.long w :: .long u :: r) S = k lv (.int (f u w) :: r) S := rfl
theorem x_ui {f : Int32 → Int32} : c_ui f k lv (.int x :: r) S = k lv (.int (f x) :: r) S := rfl
theorem x_il {f : Int32 → Int64} : c_il f k lv (.int x :: r) S = k lv (.long (f x) :: r) S := rfl
theorem x_lti {f : Int64 → Int32} : c_lti f k lv (.long u :: r) S = k lv (.int (f u) :: r) S := rfl
theorem x_idiv : c_idiv k lv (.int y :: .int x :: r) S = if y = 0 then none else k lv (.int (x / y) :: r) S := rfl
theorem x_irem : c_irem k lv (.int y :: .int x :: r) S = if y = 0 then none else k lv (.int (x - x / y * y) :: r) S := rfl
theorem x_dup_i : c_dup k lv (.int x :: r) S = k lv (.int x :: .int x :: r) S := rfl
theorem x_dup_r : c_dup k lv (.ref a :: r) S = k lv (.ref a :: .ref a :: r) S := rfl
theorem x_pop_i : c_pop k lv (.int x :: r) S = k lv r S := rfl
theorem x_pop_r : c_pop k lv (.ref a :: r) S = k lv r S := rfl
theorem x_dupx_ir : c_dup_x1 k lv (.int x :: .ref a :: r) S = k lv (.int x :: .ref a :: .int x :: r) S := rfl
theorem x_dup2_ir : c_dup2 k lv (.int x :: .ref a :: r) S = k lv (.int x :: .ref a :: .int x :: .ref a :: r) S := rfl
theorem x_ifeq : c_ifeq k1 k2 lv (.int x :: r) S = if x = 0 then k1 lv r S else k2 lv r S := rfl
theorem x_iceq : c_iceq k1 k2 lv (.int y :: .int x :: r) S = if x = y then k1 lv r S else k2 lv r S := rfl
theorem x_iflt : c_iflt k1 k2 lv (.int x :: r) S = if x < 0 then k1 lv r S else k2 lv r S := rfl
theorem x_iclt : c_iclt k1 k2 lv (.int y :: .int x :: r) S = if x < y then k1 lv r S else k2 lv r S := rfl
theorem x_ifge : c_ifge k1 k2 lv (.int x :: r) S = if 0 ≤ x then k1 lv r S else k2 lv r S := rfl
theorem x_icge : c_icge k1 k2 lv (.int y :: .int x :: r) S = if y ≤ x then k1 lv r S else k2 lv r S := rfl
theorem x_ifgt : c_ifgt k1 k2 lv (.int x :: r) S = if 0 < x then k1 lv r S else k2 lv r S := rfl
theorem x_icgt : c_icgt k1 k2 lv (.int y :: .int x :: r) S = if y < x then k1 lv r S else k2 lv r S := rfl
theorem x_ifle : c_ifle k1 k2 lv (.int x :: r) S = if x ≤ 0 then k1 lv r S else k2 lv r S := rfl
theorem x_icle : c_icle k1 k2 lv (.int y :: .int x :: r) S = if x ≤ y then k1 lv r S else k2 lv r S := rfl
theorem x_ifne : c_ifne k1 k2 lv (.int x :: r) S = if x = 0 then k2 lv r S else k1 lv r S := rfl
theorem x_icne : c_icne k1 k2 lv (.int y :: .int x :: r) S = if x = y then k2 lv r S else k1 lv r S := rfl
theorem x_ifnull_r : c_ifnull k1 k2 lv (.ref a :: r) S = k2 lv r S := rfl
theorem x_ifnull_n : c_ifnull k1 k2 lv (.null :: r) S = k1 lv r S := rfl
theorem x_ifnonnull_r : c_ifnonnull k1 k2 lv (.ref a :: r) S = k1 lv r S := rfl
theorem x_ifnonnull_n : c_ifnonnull k1 k2 lv (.null :: r) S = k2 lv r S := rfl
theorem x_sw {c : Int} {ks : Nat → am_K} : c_sw c n ks k lv (.int x :: r) S = if x.toInt < c ∨ c + n ≤ x.toInt then k lv r S else ks (x.toInt - c).toNat lv r S := rfl
theorem x_vret : c_vret lv [] S = some (.inl none, S) := rfl
theorem x_iret : c_iret lv [.int x] S = some (.inl (some (.int x)), S) := rfl
theorem x_lret : c_lret lv [.long u] S = some (.inl (some (.long u)), S) := rfl
theorem x_rret : c_rret lv [.ref a] S = some (.inl (some (.ref a)), S) := rfl
theorem x_zret : c_zret lv [.int x] S = if x = 0 ∨ x = 1 then some (.inl (some (.int x)), S) else none := rfl
theorem x_zret0 : c_zret lv [.int 0] S = some (.inl (some (.int 0)), S) := rfl
theorem x_zret1 : c_zret lv [.int 1] S = some (.inl (some (.int 1)), S) := rfl
theorem x_rf_s : va_rf (some a) = .ref a := rfl
theorem x_rf_n : va_rf none = .null := rfl
theorem x_geti : c_geti ci j k lv (.ref a :: r) S = if am_k S a = ci then k lv (.int (am_i S a j) :: r) S else none := rfl
theorem x_getr : c_getr ci j k lv (.ref a :: r) S = if am_k S a = ci then k lv (va_rf (am_r S a j) :: r) S else none := rfl
theorem x_puti : c_puti ci j k lv (.int x :: .ref a :: r) S = if am_k S a = ci then k lv r (am_putI S a j x) else none := rfl
theorem x_putz : c_putz ci j k lv (.int x :: .ref a :: r) S = if am_k S a = ci ∧ (x = 0 ∨ x = 1) then k lv r (am_putI S a j x) else none := rfl
theorem x_putr : c_putr ci j k lv (.ref b :: .ref a :: r) S = if am_k S a = ci then k lv r (am_putR S a j (some b)) else none := rfl
theorem x_ial : c_ial k lv (.int x :: .ref a :: r) S = if am_k S a = 20 ∧ 0 ≤ x.toInt ∧ x.toInt < am_l S a then k lv (.int (am_i S a x.toNatClampNeg) :: r) S else none := rfl
theorem x_ias : c_ias k lv (.int y :: .int x :: .ref a :: r) S = if am_k S a = 20 ∧ 0 ≤ x.toInt ∧ x.toInt < am_l S a then k lv r (am_putI S a x.toNatClampNeg y) else none := rfl
theorem x_lal : c_lal k lv (.int x :: .ref a :: r) S = if am_k S a = 21 ∧ 0 ≤ x.toInt ∧ x.toInt < am_l S a then k lv (.long (am_j S a x.toNatClampNeg) :: r) S else none := rfl
theorem x_las : c_las k lv (.long u :: .int x :: .ref a :: r) S = if am_k S a = 21 ∧ 0 ≤ x.toInt ∧ x.toInt < am_l S a then k lv r (am_putJ S a x.toNatClampNeg u) else none := rfl
theorem x_aal : c_aal kd k lv (.int x :: .ref a :: r) S = if am_k S a = kd ∧ 0 ≤ x.toInt ∧ x.toInt < am_l S a then k lv (va_rf (am_r S a x.toNatClampNeg) :: r) S else none := rfl
theorem x_aas : c_aas kd ci k lv (.ref b :: .int x :: .ref a :: r) S = if am_k S a = kd ∧ am_k S b = ci ∧ 0 ≤ x.toInt ∧ x.toInt < am_l S a then k lv r (am_putR S a x.toNatClampNeg (some b)) else none := rfl
theorem x_aast : c_aast k lv (.ref b :: .int x :: .ref a :: r) S = if am_k S a = 24 ∧ am_isT b ∧ 0 ≤ x.toInt ∧ x.toInt < am_l S a then k lv r (am_putR S a x.toNatClampNeg (some b)) else none := rfl
theorem x_alen : c_alen k lv (.ref a :: r) S = if 20 ≤ am_k S a ∧ am_k S a < 25 then k lv (.int (nI (am_l S a)) :: r) S else none := rfl
theorem x_new : c_new ci k lv st S = k lv (.ref (am_n S) :: st) (am_new S ci 0 (am_nf ci)) := rfl
theorem x_newa : c_newa kd k lv (.int x :: r) S = if 0 ≤ x.toInt ∧ x.toInt ≤ 60000 then k lv (.ref (am_n S) :: r) (am_new S kd x.toNatClampNeg x.toNatClampNeg) else none := rfl
theorem x_copy : c_copy k lv (.int z :: .int y :: .ref b :: .int x :: .ref a :: r) S = if am_k S a = 20 ∧ am_k S b = 20 ∧ 0 ≤ x.toInt ∧ 0 ≤ y.toInt ∧ 0 ≤ z.toInt ∧ x.toInt + z.toInt ≤ am_l S a ∧ y.toInt + z.toInt ≤ am_l S b then (if am_cs r ≤ 8 then k lv r (am_cpy S a x.toNatClampNeg b y.toNatClampNeg z.toNatClampNeg) else none) else none := rfl
theorem x_min : c_min k lv (.int y :: .int x :: r) S = if am_cs r ≤ 8 then k lv (.int (w_min x y) :: r) S else none := rfl
theorem x_abs : c_abs k lv (.int x :: r) S = if am_cs r ≤ 8 then k lv (.int (w_abs x) :: r) S else none := rfl
theorem x_minl : c_minl k lv (.long w :: .long u :: r) S = if am_cs r ≤ 8 then k lv (.long (w_minl u w) :: r) S else none := rfl
theorem x_oinit : c_oinit k lv (.ref a :: r) S = if am_cs r ≤ 8 then k lv r S else none := rfl
theorem x_throw : c_throw E lv st S = if am_cs st ≤ 8 then some (.inr E, am_new S 99 0 6) else none := rfl
theorem x_callS0 : c_callS 0 f k lv r S = if am_cs r ≤ 8 then x_ret (f [] S) (fun v S2 => k lv (v.toList ++ r) S2) else none := by
  show (if 0 ≤ r.length ∧ am_cs r ≤ 8 then _ else _) = _
  simp only [Nat.zero_le, true_and]
  rfl
theorem x_callS1 : c_callS 1 f k lv (v1 :: r) S = if am_cs r ≤ 8 then x_ret (f [v1] S) (fun v S2 => k lv (v.toList ++ r) S2) else none := by
  show (if 1 ≤ (v1 :: r).length ∧ am_cs r ≤ 8 then _ else _) = _
  simp only [List.length_cons, Nat.le_add_left, true_and]
  rfl
theorem x_callS2 : c_callS 2 f k lv (v2 :: v1 :: r) S = if am_cs r ≤ 8 then x_ret (f [v1, v2] S) (fun v S2 => k lv (v.toList ++ r) S2) else none := by
  show (if 2 ≤ (v2 :: v1 :: r).length ∧ am_cs r ≤ 8 then _ else _) = _
  simp only [List.length_cons, Nat.le_add_left, true_and]
  rfl
theorem x_callS3 : c_callS 3 f k lv (v3 :: v2 :: v1 :: r) S = if am_cs r ≤ 8 then x_ret (f [v1, v2, v3] S) (fun v S2 => k lv (v.toList ++ r) S2) else none := by
  show (if 3 ≤ (v3 :: v2 :: v1 :: r).length ∧ am_cs r ≤ 8 then _ else _) = _
  simp only [List.length_cons, Nat.le_add_left, true_and]
  rfl
theorem x_callS4 : c_callS 4 f k lv (v4 :: v3 :: v2 :: v1 :: r) S = if am_cs r ≤ 8 then x_ret (f [v1, v2, v3, v4] S) (fun v S2 => k lv (v.toList ++ r) S2) else none := by
  show (if 4 ≤ (v4 :: v3 :: v2 :: v1 :: r).length ∧ am_cs r ≤ 8 then _ else _) = _
  simp only [List.length_cons, Nat.le_add_left, true_and]
  rfl
theorem x_callV0 : c_callV ci 0 f k lv (.ref b :: r) S = if am_k S b = ci ∧ am_cs r ≤ 8 then x_ret (f [.ref b] S) (fun v S2 => k lv (v.toList ++ r) S2) else none := rfl
theorem x_callV1 : c_callV ci 1 f k lv (v1 :: .ref b :: r) S = if am_k S b = ci ∧ am_cs r ≤ 8 then x_ret (f [.ref b, v1] S) (fun v S2 => k lv (v.toList ++ r) S2) else none := rfl
theorem x_callV2 : c_callV ci 2 f k lv (v2 :: v1 :: .ref b :: r) S = if am_k S b = ci ∧ am_cs r ≤ 8 then x_ret (f [.ref b, v1, v2] S) (fun v S2 => k lv (v.toList ++ r) S2) else none := rfl
theorem x_callV3 : c_callV ci 3 f k lv (v3 :: v2 :: v1 :: .ref b :: r) S = if am_k S b = ci ∧ am_cs r ≤ 8 then x_ret (f [.ref b, v1, v2, v3] S) (fun v S2 => k lv (v.toList ++ r) S2) else none := rfl
theorem x_callV4 : c_callV ci 4 f k lv (v4 :: v3 :: v2 :: v1 :: .ref b :: r) S = if am_k S b = ci ∧ am_cs r ≤ 8 then x_ret (f [.ref b, v1, v2, v3, v4] S) (fun v S2 => k lv (v.toList ++ r) S2) else none := rfl
theorem x_callV5 : c_callV ci 5 f k lv (v5 :: v4 :: v3 :: v2 :: v1 :: .ref b :: r) S = if am_k S b = ci ∧ am_cs r ≤ 8 then x_ret (f [.ref b, v1, v2, v3, v4, v5] S) (fun v S2 => k lv (v.toList ++ r) S2) else none := rfl
def x_retI (o : Option (am_O × am_S)) (g : am_S → Option (am_O × am_S)) : Option (am_O × am_S) := match o with
  | some (.inl none, S2) => g S2
  | _ => none
theorem x_retI_v {g : am_S → Option (am_O × am_S)} : x_retI (some (.inl none, S2)) g = g S2 := rfl
theorem x_callI0 : c_callI 0 f k lv (.ref b :: r) S = if am_cs r ≤ 8 then x_retI (f [.ref b] S) (fun S2 => k lv r S2) else none := rfl
theorem x_callI1 : c_callI 1 f k lv (v1 :: .ref b :: r) S = if am_cs r ≤ 8 then x_retI (f [.ref b, v1] S) (fun S2 => k lv r S2) else none := rfl
theorem x_callI2 : c_callI 2 f k lv (v2 :: v1 :: .ref b :: r) S = if am_cs r ≤ 8 then x_retI (f [.ref b, v1, v2] S) (fun S2 => k lv r S2) else none := rfl
def x_retN (o : Option (am_O × am_S)) (g : Option Value → am_S → Option (am_O × am_S)) : Option (am_O × am_S) := match o with
  | some (.inl v, S2) => g v S2
  | _ => none
theorem x_retN_v : x_retN (some (.inl ov, S2)) g = g ov S2 := rfl
theorem x_callSN1 : c_callSN 1 f k lv (v1 :: r) S = if am_cs r ≤ 8 then x_retN (f [v1] S) (fun v S2 => k lv (v.toList ++ r) S2) else none := by
  show (if 1 ≤ (v1 :: r).length ∧ am_cs r ≤ 8 then _ else _) = _
  simp only [List.length_cons, Nat.le_add_left, true_and]
  rfl
theorem x_callSN2 : c_callSN 2 f k lv (v2 :: v1 :: r) S = if am_cs r ≤ 8 then x_retN (f [v1, v2] S) (fun v S2 => k lv (v.toList ++ r) S2) else none := by
  show (if 2 ≤ (v2 :: v1 :: r).length ∧ am_cs r ≤ 8 then _ else _) = _
  simp only [List.length_cons, Nat.le_add_left, true_and]
  rfl
theorem x_callT0 : c_callT 0 f k lv (.ref b :: r) S = if am_isT b ∧ am_cs r ≤ 8 then x_ret (f [.ref b] S) (fun v S2 => k lv (v.toList ++ r) S2) else none := rfl
theorem x_callT1 : c_callT 1 f k lv (v1 :: .ref b :: r) S = if am_isT b ∧ am_cs r ≤ 8 then x_ret (f [.ref b, v1] S) (fun v S2 => k lv (v.toList ++ r) S2) else none := rfl
end X0
/-! what stands in a state behind a change -/
section X1
variable {S : am_S} {a b i j kd len sl : Nat} {x : Int32} {u : Int64} {o : Option Nat}
theorem x_k_I : am_k (am_putI S a j x) = am_k S := rfl
theorem x_l_I : am_l (am_putI S a j x) = am_l S := rfl
theorem x_r_I : am_r (am_putI S a j x) = am_r S := rfl
theorem x_j_I : am_j (am_putI S a j x) = am_j S := rfl
theorem x_n_I : am_n (am_putI S a j x) = am_n S := rfl
theorem x_z_I : am_z (am_putI S a j x) = am_z S := rfl
theorem x_i_I : am_i (am_putI S a j x) b i = if b = a then (if i = j then x else am_i S b i) else am_i S b i := by
  show va_up (am_i S) a (va_up (am_i S a) j x) b i = _
  unfold va_up
  by_cases h : b = a
  · subst h
    simp
  · simp [h]
theorem x_i_Is : am_i (am_putI S a j x) a j = x := by rw [x_i_I, if_pos rfl, if_pos rfl]
theorem x_k_W {f : Nat → Int32} : am_k (am_row S a f) = am_k S := rfl
theorem x_l_W {f : Nat → Int32} : am_l (am_row S a f) = am_l S := rfl
theorem x_r_W {f : Nat → Int32} : am_r (am_row S a f) = am_r S := rfl
theorem x_j_W {f : Nat → Int32} : am_j (am_row S a f) = am_j S := rfl
theorem x_n_W {f : Nat → Int32} : am_n (am_row S a f) = am_n S := rfl
theorem x_z_W {f : Nat → Int32} : am_z (am_row S a f) = am_z S := rfl
theorem x_rows {f : Nat → Int32} : am_i (am_row S a f) a = f := va_up_self _ _ _
theorem x_rown {f : Nat → Int32} (h : b ≠ a) : am_i (am_row S a f) b = am_i S b := va_up_ne _ _ h
theorem x_rowput : am_putI S a j x = am_row S a (va_up (am_i S a) j x) := rfl
theorem w_upup {α : Type} {h f g : α} {u : Nat → α} : va_up (va_up u a f) a g = va_up u a g := by
  funext q
  unfold va_up
  by_cases h : q = a <;> simp [h]
theorem x_rr {f g : Nat → Int32} : am_row (am_row S a f) a g = am_row S a g := by
  show (S.1, S.2.1, S.2.2.1, S.2.2.2.1, va_up (va_up S.2.2.2.2.1 a f) a g, S.2.2.2.2.2) = (S.1, S.2.1, S.2.2.1, S.2.2.2.1, va_up S.2.2.2.2.1 a g, S.2.2.2.2.2)
  have e : va_up (va_up S.2.2.2.2.1 a f) a g = va_up S.2.2.2.2.1 a g := w_upup (h := f) (f := f)
  rw [e]
theorem x_k_J : am_k (am_putJ S a j u) = am_k S := rfl
theorem x_l_J : am_l (am_putJ S a j u) = am_l S := rfl
theorem x_r_J : am_r (am_putJ S a j u) = am_r S := rfl
theorem x_i_J : am_i (am_putJ S a j u) = am_i S := rfl
theorem x_n_J : am_n (am_putJ S a j u) = am_n S := rfl
theorem x_z_J : am_z (am_putJ S a j u) = am_z S := rfl
theorem x_j_J : am_j (am_putJ S a j u) b i = if b = a then (if i = j then u else am_j S b i) else am_j S b i := by
  show va_up (am_j S) a (va_up (am_j S a) j u) b i = _
  unfold va_up
  by_cases h : b = a
  · subst h
    simp
  · simp [h]
theorem x_k_R : am_k (am_putR S a j o) = am_k S := rfl
theorem x_l_R : am_l (am_putR S a j o) = am_l S := rfl
theorem x_j_R : am_j (am_putR S a j o) = am_j S := rfl
theorem x_i_R : am_i (am_putR S a j o) = am_i S := rfl
theorem x_n_R : am_n (am_putR S a j o) = am_n S := rfl
theorem x_z_R : am_z (am_putR S a j o) = am_z S := rfl
theorem x_r_R : am_r (am_putR S a j o) b i = if b = a then (if i = j then o else am_r S b i) else am_r S b i := by
  show va_up (am_r S) a (va_up (am_r S a) j o) b i = _
  unfold va_up
  by_cases h : b = a
  · subst h
    simp
  · simp [h]
theorem x_n_N : am_n (am_new S kd len sl) = am_n S + 1 := rfl
theorem x_z_N : am_z (am_new S kd len sl) = am_z S + sl := rfl
theorem x_k_N : am_k (am_new S kd len sl) b = if b = am_n S then kd else am_k S b := rfl
theorem x_l_N : am_l (am_new S kd len sl) b = if b = am_n S then len else am_l S b := rfl
theorem x_i_N : am_i (am_new S kd len sl) b i = if b = am_n S then 0 else am_i S b i := by
  show va_up (am_i S) (am_n S) (fun _ => 0) b i = _
  unfold va_up
  by_cases h : b = am_n S <;> simp [h]
theorem x_j_N : am_j (am_new S kd len sl) b i = if b = am_n S then 0 else am_j S b i := by
  show va_up (am_j S) (am_n S) (fun _ => 0) b i = _
  unfold va_up
  by_cases h : b = am_n S <;> simp [h]
theorem x_r_N : am_r (am_new S kd len sl) b i = if b = am_n S then none else am_r S b i := by
  show va_up (am_r S) (am_n S) (fun _ => none) b i = _
  unfold va_up
  by_cases h : b = am_n S <;> simp [h]
end X1
/-! a method's arguments -/
section X2
variable {maxL i : Nat} {bk : am_K} {As : List Value} {S : am_S} {x : Int32} {u : Int64} {a : Nat} {r : List Value}
def x_sl (As : List Value) : Nat := (lg_sl As).length
theorem x_fn : am_fn maxL bk As S = if x_sl As ≤ maxL then bk (lv_args 0 As) [] S else none := rfl
theorem x_sl0 : x_sl [] = 0 := rfl
theorem x_sli : x_sl (.int x :: r) = x_sl r + 1 := by simp [x_sl, lg_sl, Value.category, Nat.add_comm]
theorem x_slr : x_sl (.ref a :: r) = x_sl r + 1 := by simp [x_sl, lg_sl, Value.category, Nat.add_comm]
theorem x_sll : x_sl (.long u :: r) = x_sl r + 2 := by
  simp [x_sl, lg_sl, Value.category]
theorem x_ar0 : lv_args i [] = [] := rfl
theorem x_ari : lv_args i (.int x :: r) = (i, .int x) :: lv_args (i + 1) r := rfl
theorem x_arr : lv_args i (.ref a :: r) = (i, .ref a) :: lv_args (i + 1) r := rfl
theorem x_arl : lv_args i (.long u :: r) = (i, .long u) :: lv_args (i + 2) r := rfl
end X2
