/-! THE PIECES WITHOUT A METHOD'S CONTEXT -/
abbrev am_Q : Type := am_X → am_G → am_S → (am_O × am_S) → Prop
def am_V (l : Launch) (cc : ByteArray) (nL : Nat) (own : String) (EC : am_Q) (fr lo pc : Nat) (k : am_K) : Prop :=
  am_Mo k ∧ ∀ (X : am_X) (G : am_G) (S0 : am_S) (fin : am_O × am_S), xl X = l → am_C X cc nL own G S0 fin.2 fr lo → EC X G S0 fin → am_W X G S0 fin nL pc k
def am_HT (cc : ByteArray) (nL : Nat) (own : String) (EC : am_Q) (fr lo : Nat) : Prop := ∀ (X : am_X) (G : am_G) (S0 : am_S) (fin : am_O × am_S), am_C X cc nL own G S0 fin.2 fr lo → EC X G S0 fin → am_Th X G S0 fin
def am_HR (cc : ByteArray) (nL : Nat) (own : String) (EC : am_Q) (fr lo : Nat) (ins : Instr) (P : Option Value → Prop) : Prop := ∀ (X : am_X) (G : am_G) (S0 : am_S) (fin : am_O × am_S), am_C X cc nL own G S0 fin.2 fr lo → EC X G S0 fin → am_Rt X cc G S0 fin ins P
section AV
variable {l : Launch} {cc : ByteArray} {nL : Nat} {own : String} {EC : am_Q} {fr lo pc : Nat} {k k1 k2 : am_K} {nm : String}
theorem am_hT {ret : Option FieldType} : am_HT cc nL own (am_E ret nm) fr lo := fun _ _ _ _ C E => E.th C
theorem am_hv : am_HR cc nL own (am_E none nm) fr lo .return_ p_v := fun _ _ _ _ C E => E.v C
theorem am_hi : am_HR cc nL own (am_E (some .int) nm) fr lo .ireturn p_i := fun _ _ _ _ C E => E.i C
theorem am_hz : am_HR cc nL own (am_E (some .boolean) nm) fr lo .ireturn p_z := fun _ _ _ _ C E => E.z C
theorem am_hl : am_HR cc nL own (am_E (some .long) nm) fr lo .lreturn p_l := fun _ _ _ _ C E => E.l C
theorem am_hf : am_HR cc nL own (am_E (some .float) nm) fr lo .freturn p_f := fun _ _ _ _ C E => E.f C
theorem am_hd : am_HR cc nL own (am_E (some .double) nm) fr lo .dreturn p_d := fun _ _ _ _ C E => E.d C
theorem am_hr {Cn : String} : am_HR cc nL own (am_E (some (.object Cn)) nm) fr lo .areturn p_r := fun _ _ _ _ C E => E.r C

theorem mo_i {v : Int32} (h : am_Mo k) : am_Mo (c_i v k) := by
  intro lv st S fin hk
  dsimp only [c_i] at hk
  (repeat' split at hk) <;> first | exact h _ _ _ _ hk | exact ⟨(h _ _ _ _ hk).1, (h _ _ _ _ hk).2⟩ | cases hk

theorem mo_l {v : Int64} (h : am_Mo k) : am_Mo (c_l v k) := by
  intro lv st S fin hk
  dsimp only [c_l] at hk
  (repeat' split at hk) <;> first | exact h _ _ _ _ hk | exact ⟨(h _ _ _ _ hk).1, (h _ _ _ _ hk).2⟩ | cases hk

theorem mo_f {v : UInt32} (h : am_Mo k) : am_Mo (c_f v k) := by
  intro lv st S fin hk
  dsimp only [c_f] at hk
  (repeat' split at hk) <;> first | exact h _ _ _ _ hk | exact ⟨(h _ _ _ _ hk).1, (h _ _ _ _ hk).2⟩ | cases hk

theorem mo_d {v : UInt64} (h : am_Mo k) : am_Mo (c_d v k) := by
  intro lv st S fin hk
  dsimp only [c_d] at hk
  (repeat' split at hk) <;> first | exact h _ _ _ _ hk | exact ⟨(h _ _ _ _ hk).1, (h _ _ _ _ hk).2⟩ | cases hk

theorem mo_a {v : Nat} (h : am_Mo k) : am_Mo (c_a v k) := by
  intro lv st S fin hk
  dsimp only [c_a] at hk
  (repeat' split at hk) <;> first | exact h _ _ _ _ hk | exact ⟨(h _ _ _ _ hk).1, (h _ _ _ _ hk).2⟩ | cases hk

theorem mo_ild {i : Nat} (h : am_Mo k) : am_Mo (c_ild i k) := by
  intro lv st S fin hk
  dsimp only [c_ild] at hk
  (repeat' split at hk) <;> first | exact h _ _ _ _ hk | exact ⟨(h _ _ _ _ hk).1, (h _ _ _ _ hk).2⟩ | cases hk

theorem mo_lld {i : Nat} (h : am_Mo k) : am_Mo (c_lld i k) := by
  intro lv st S fin hk
  dsimp only [c_lld] at hk
  (repeat' split at hk) <;> first | exact h _ _ _ _ hk | exact ⟨(h _ _ _ _ hk).1, (h _ _ _ _ hk).2⟩ | cases hk

theorem mo_rld {i : Nat} (h : am_Mo k) : am_Mo (c_rld i k) := by
  intro lv st S fin hk
  dsimp only [c_rld] at hk
  (repeat' split at hk) <;> first | exact h _ _ _ _ hk | exact ⟨(h _ _ _ _ hk).1, (h _ _ _ _ hk).2⟩ | cases hk

theorem mo_dld {i : Nat} (h : am_Mo k) : am_Mo (c_dld i k) := by
  intro lv st S fin hk
  dsimp only [c_dld] at hk
  (repeat' split at hk) <;> first | exact h _ _ _ _ hk | exact ⟨(h _ _ _ _ hk).1, (h _ _ _ _ hk).2⟩ | cases hk

theorem mo_ist {i : Nat} (h : am_Mo k) : am_Mo (c_ist i k) := by
  intro lv st S fin hk
  dsimp only [c_ist] at hk
  (repeat' split at hk) <;> first | exact h _ _ _ _ hk | exact ⟨(h _ _ _ _ hk).1, (h _ _ _ _ hk).2⟩ | cases hk

theorem mo_lst {i : Nat} (h : am_Mo k) : am_Mo (c_lst i k) := by
  intro lv st S fin hk
  dsimp only [c_lst] at hk
  (repeat' split at hk) <;> first | exact h _ _ _ _ hk | exact ⟨(h _ _ _ _ hk).1, (h _ _ _ _ hk).2⟩ | cases hk

theorem mo_rst {i : Nat} (h : am_Mo k) : am_Mo (c_rst i k) := by
  intro lv st S fin hk
  dsimp only [c_rst] at hk
  (repeat' split at hk) <;> first | exact h _ _ _ _ hk | exact ⟨(h _ _ _ _ hk).1, (h _ _ _ _ hk).2⟩ | cases hk

theorem mo_dst {i : Nat} (h : am_Mo k) : am_Mo (c_dst i k) := by
  intro lv st S fin hk
  dsimp only [c_dst] at hk
  (repeat' split at hk) <;> first | exact h _ _ _ _ hk | exact ⟨(h _ _ _ _ hk).1, (h _ _ _ _ hk).2⟩ | cases hk

theorem mo_inc {i : Nat} {n : Int32} (h : am_Mo k) : am_Mo (c_inc i n k) := by
  intro lv st S fin hk
  dsimp only [c_inc] at hk
  (repeat' split at hk) <;> first | exact h _ _ _ _ hk | exact ⟨(h _ _ _ _ hk).1, (h _ _ _ _ hk).2⟩ | cases hk

theorem mo_ii {f : Int32 → Int32 → Int32} (h : am_Mo k) : am_Mo (c_ii f k) := by
  intro lv st S fin hk
  dsimp only [c_ii] at hk
  (repeat' split at hk) <;> first | exact h _ _ _ _ hk | exact ⟨(h _ _ _ _ hk).1, (h _ _ _ _ hk).2⟩ | cases hk

theorem mo_ll {f : Int64 → Int64 → Int64} (h : am_Mo k) : am_Mo (c_ll f k) := by
  intro lv st S fin hk
  dsimp only [c_ll] at hk
  (repeat' split at hk) <;> first | exact h _ _ _ _ hk | exact ⟨(h _ _ _ _ hk).1, (h _ _ _ _ hk).2⟩ | cases hk

theorem mo_li {f : Int64 → Int32 → Int64} (h : am_Mo k) : am_Mo (c_li f k) := by
  intro lv st S fin hk
  dsimp only [c_li] at hk
  (repeat' split at hk) <;> first | exact h _ _ _ _ hk | exact ⟨(h _ _ _ _ hk).1, (h _ _ _ _ hk).2⟩ | cases hk

theorem mo_cmp {f : Int64 → Int64 → Int32} (h : am_Mo k) : am_Mo (c_cmp f k) := by
  intro lv st S fin hk
  dsimp only [c_cmp] at hk
  (repeat' split at hk) <;> first | exact h _ _ _ _ hk | exact ⟨(h _ _ _ _ hk).1, (h _ _ _ _ hk).2⟩ | cases hk

theorem mo_ui {f : Int32 → Int32} (h : am_Mo k) : am_Mo (c_ui f k) := by
  intro lv st S fin hk
  dsimp only [c_ui] at hk
  (repeat' split at hk) <;> first | exact h _ _ _ _ hk | exact ⟨(h _ _ _ _ hk).1, (h _ _ _ _ hk).2⟩ | cases hk

theorem mo_il {f : Int32 → Int64} (h : am_Mo k) : am_Mo (c_il f k) := by
  intro lv st S fin hk
  dsimp only [c_il] at hk
  (repeat' split at hk) <;> first | exact h _ _ _ _ hk | exact ⟨(h _ _ _ _ hk).1, (h _ _ _ _ hk).2⟩ | cases hk

theorem mo_lti {f : Int64 → Int32} (h : am_Mo k) : am_Mo (c_lti f k) := by
  intro lv st S fin hk
  dsimp only [c_lti] at hk
  (repeat' split at hk) <;> first | exact h _ _ _ _ hk | exact ⟨(h _ _ _ _ hk).1, (h _ _ _ _ hk).2⟩ | cases hk

theorem mo_itf {f : Int32 → UInt32} (h : am_Mo k) : am_Mo (c_itf f k) := by
  intro lv st S fin hk
  dsimp only [c_itf] at hk
  (repeat' split at hk) <;> first | exact h _ _ _ _ hk | exact ⟨(h _ _ _ _ hk).1, (h _ _ _ _ hk).2⟩ | cases hk

theorem mo_itd {f : Int32 → UInt64} (h : am_Mo k) : am_Mo (c_itd f k) := by
  intro lv st S fin hk
  dsimp only [c_itd] at hk
  (repeat' split at hk) <;> first | exact h _ _ _ _ hk | exact ⟨(h _ _ _ _ hk).1, (h _ _ _ _ hk).2⟩ | cases hk

theorem mo_idiv  (h : am_Mo k) : am_Mo (c_idiv k) := by
  intro lv st S fin hk
  dsimp only [c_idiv] at hk
  (repeat' split at hk) <;> first | exact h _ _ _ _ hk | exact ⟨(h _ _ _ _ hk).1, (h _ _ _ _ hk).2⟩ | cases hk

theorem mo_irem  (h : am_Mo k) : am_Mo (c_irem k) := by
  intro lv st S fin hk
  dsimp only [c_irem] at hk
  (repeat' split at hk) <;> first | exact h _ _ _ _ hk | exact ⟨(h _ _ _ _ hk).1, (h _ _ _ _ hk).2⟩ | cases hk

theorem mo_fdiv  (h : am_Mo k) : am_Mo (c_fdiv k) := by
  intro lv st S fin hk
  dsimp only [c_fdiv] at hk
  (repeat' split at hk) <;> first | exact h _ _ _ _ hk | exact ⟨(h _ _ _ _ hk).1, (h _ _ _ _ hk).2⟩ | cases hk

theorem mo_ddiv  (h : am_Mo k) : am_Mo (c_ddiv k) := by
  intro lv st S fin hk
  dsimp only [c_ddiv] at hk
  (repeat' split at hk) <;> first | exact h _ _ _ _ hk | exact ⟨(h _ _ _ _ hk).1, (h _ _ _ _ hk).2⟩ | cases hk

theorem mo_f2d  (h : am_Mo k) : am_Mo (c_f2d k) := by
  intro lv st S fin hk
  dsimp only [c_f2d] at hk
  (repeat' split at hk) <;> first | exact h _ _ _ _ hk | exact ⟨(h _ _ _ _ hk).1, (h _ _ _ _ hk).2⟩ | cases hk

theorem mo_dcmp {op : CmpOp} (h : am_Mo k) : am_Mo (c_dcmp op k) := by
  intro lv st S fin hk
  dsimp only [c_dcmp] at hk
  (repeat' split at hk) <;> first | exact h _ _ _ _ hk | exact ⟨(h _ _ _ _ hk).1, (h _ _ _ _ hk).2⟩ | cases hk

theorem mo_dup  (h : am_Mo k) : am_Mo (c_dup k) := by
  intro lv st S fin hk
  dsimp only [c_dup] at hk
  (repeat' split at hk) <;> first | exact h _ _ _ _ hk | exact ⟨(h _ _ _ _ hk).1, (h _ _ _ _ hk).2⟩ | cases hk

theorem mo_pop  (h : am_Mo k) : am_Mo (c_pop k) := by
  intro lv st S fin hk
  dsimp only [c_pop] at hk
  (repeat' split at hk) <;> first | exact h _ _ _ _ hk | exact ⟨(h _ _ _ _ hk).1, (h _ _ _ _ hk).2⟩ | cases hk

theorem mo_dup_x1  (h : am_Mo k) : am_Mo (c_dup_x1 k) := by
  intro lv st S fin hk
  dsimp only [c_dup_x1] at hk
  (repeat' split at hk) <;> first | exact h _ _ _ _ hk | exact ⟨(h _ _ _ _ hk).1, (h _ _ _ _ hk).2⟩ | cases hk

theorem mo_dup2  (h : am_Mo k) : am_Mo (c_dup2 k) := by
  intro lv st S fin hk
  dsimp only [c_dup2] at hk
  (repeat' split at hk) <;> first | exact h _ _ _ _ hk | exact ⟨(h _ _ _ _ hk).1, (h _ _ _ _ hk).2⟩ | cases hk

theorem mo_live {is : List Nat} (h : am_Mo k) : am_Mo (c_live is k) := by
  intro lv st S fin hk
  dsimp only [c_live] at hk
  (repeat' split at hk) <;> first | exact h _ _ _ _ hk | exact ⟨(h _ _ _ _ hk).1, (h _ _ _ _ hk).2⟩ | cases hk

theorem mo_geti {ci j : Nat} (h : am_Mo k) : am_Mo (c_geti ci j k) := by
  intro lv st S fin hk
  dsimp only [c_geti] at hk
  (repeat' split at hk) <;> first | exact h _ _ _ _ hk | exact ⟨(h _ _ _ _ hk).1, (h _ _ _ _ hk).2⟩ | cases hk

theorem mo_getr {ci j : Nat} (h : am_Mo k) : am_Mo (c_getr ci j k) := by
  intro lv st S fin hk
  dsimp only [c_getr] at hk
  (repeat' split at hk) <;> first | exact h _ _ _ _ hk | exact ⟨(h _ _ _ _ hk).1, (h _ _ _ _ hk).2⟩ | cases hk

theorem mo_puti {ci j : Nat} (h : am_Mo k) : am_Mo (c_puti ci j k) := by
  intro lv st S fin hk
  dsimp only [c_puti] at hk
  (repeat' split at hk) <;> first | exact h _ _ _ _ hk | exact ⟨(h _ _ _ _ hk).1, (h _ _ _ _ hk).2⟩ | cases hk

theorem mo_putz {ci j : Nat} (h : am_Mo k) : am_Mo (c_putz ci j k) := by
  intro lv st S fin hk
  dsimp only [c_putz] at hk
  (repeat' split at hk) <;> first | exact h _ _ _ _ hk | exact ⟨(h _ _ _ _ hk).1, (h _ _ _ _ hk).2⟩ | cases hk

theorem mo_putr {ci j : Nat} (h : am_Mo k) : am_Mo (c_putr ci j k) := by
  intro lv st S fin hk
  dsimp only [c_putr] at hk
  (repeat' split at hk) <;> first | exact h _ _ _ _ hk | exact ⟨(h _ _ _ _ hk).1, (h _ _ _ _ hk).2⟩ | cases hk

theorem mo_ial  (h : am_Mo k) : am_Mo (c_ial k) := by
  intro lv st S fin hk
  dsimp only [c_ial] at hk
  (repeat' split at hk) <;> first | exact h _ _ _ _ hk | exact ⟨(h _ _ _ _ hk).1, (h _ _ _ _ hk).2⟩ | cases hk

theorem mo_ias  (h : am_Mo k) : am_Mo (c_ias k) := by
  intro lv st S fin hk
  dsimp only [c_ias] at hk
  (repeat' split at hk) <;> first | exact h _ _ _ _ hk | exact ⟨(h _ _ _ _ hk).1, (h _ _ _ _ hk).2⟩ | cases hk

theorem mo_lal  (h : am_Mo k) : am_Mo (c_lal k) := by
  intro lv st S fin hk
  dsimp only [c_lal] at hk
  (repeat' split at hk) <;> first | exact h _ _ _ _ hk | exact ⟨(h _ _ _ _ hk).1, (h _ _ _ _ hk).2⟩ | cases hk

theorem mo_las  (h : am_Mo k) : am_Mo (c_las k) := by
  intro lv st S fin hk
  dsimp only [c_las] at hk
  (repeat' split at hk) <;> first | exact h _ _ _ _ hk | exact ⟨(h _ _ _ _ hk).1, (h _ _ _ _ hk).2⟩ | cases hk

theorem mo_aal {kd : Nat} (h : am_Mo k) : am_Mo (c_aal kd k) := by
  intro lv st S fin hk
  dsimp only [c_aal] at hk
  (repeat' split at hk) <;> first | exact h _ _ _ _ hk | exact ⟨(h _ _ _ _ hk).1, (h _ _ _ _ hk).2⟩ | cases hk

theorem mo_aas {kd ci : Nat} (h : am_Mo k) : am_Mo (c_aas kd ci k) := by
  intro lv st S fin hk
  dsimp only [c_aas] at hk
  (repeat' split at hk) <;> first | exact h _ _ _ _ hk | exact ⟨(h _ _ _ _ hk).1, (h _ _ _ _ hk).2⟩ | cases hk

theorem mo_aast  (h : am_Mo k) : am_Mo (c_aast k) := by
  intro lv st S fin hk
  dsimp only [c_aast] at hk
  (repeat' split at hk) <;> first | exact h _ _ _ _ hk | exact ⟨(h _ _ _ _ hk).1, (h _ _ _ _ hk).2⟩ | cases hk

theorem mo_alen  (h : am_Mo k) : am_Mo (c_alen k) := by
  intro lv st S fin hk
  dsimp only [c_alen] at hk
  (repeat' split at hk) <;> first | exact h _ _ _ _ hk | exact ⟨(h _ _ _ _ hk).1, (h _ _ _ _ hk).2⟩ | cases hk

theorem mo_copy  (h : am_Mo k) : am_Mo (c_copy k) := by
  intro lv st S fin hk
  dsimp only [c_copy] at hk
  (repeat' split at hk) <;> first | exact h _ _ _ _ hk | exact ⟨(h _ _ _ _ hk).1, (h _ _ _ _ hk).2⟩ | cases hk

theorem mo_min  (h : am_Mo k) : am_Mo (c_min k) := by
  intro lv st S fin hk
  dsimp only [c_min] at hk
  (repeat' split at hk) <;> first | exact h _ _ _ _ hk | exact ⟨(h _ _ _ _ hk).1, (h _ _ _ _ hk).2⟩ | cases hk

theorem mo_abs  (h : am_Mo k) : am_Mo (c_abs k) := by
  intro lv st S fin hk
  dsimp only [c_abs] at hk
  (repeat' split at hk) <;> first | exact h _ _ _ _ hk | exact ⟨(h _ _ _ _ hk).1, (h _ _ _ _ hk).2⟩ | cases hk

theorem mo_minl  (h : am_Mo k) : am_Mo (c_minl k) := by
  intro lv st S fin hk
  dsimp only [c_minl] at hk
  (repeat' split at hk) <;> first | exact h _ _ _ _ hk | exact ⟨(h _ _ _ _ hk).1, (h _ _ _ _ hk).2⟩ | cases hk

theorem mo_oinit  (h : am_Mo k) : am_Mo (c_oinit k) := by
  intro lv st S fin hk
  dsimp only [c_oinit] at hk
  (repeat' split at hk) <;> first | exact h _ _ _ _ hk | exact ⟨(h _ _ _ _ hk).1, (h _ _ _ _ hk).2⟩ | cases hk

theorem mo_new {ci : Nat} (h : am_Mo k) : am_Mo (c_new ci k) := by
  intro lv st S fin hk
  dsimp only [c_new] at hk
  (repeat' split at hk) <;> first | exact (am_new_le (h _ _ _ _ hk)).1 | cases hk

theorem mo_newa {kd : Nat} (h : am_Mo k) : am_Mo (c_newa kd k) := by
  intro lv st S fin hk
  dsimp only [c_newa] at hk
  (repeat' split at hk) <;> first | exact (am_new_le (h _ _ _ _ hk)).1 | cases hk

theorem mo_ifeq  (h1 : am_Mo k1) (h2 : am_Mo k2) : am_Mo (c_ifeq k1 k2) := by
  intro lv st S fin hk
  dsimp only [c_ifeq] at hk
  (repeat' split at hk) <;> first | exact h1 _ _ _ _ hk | exact h2 _ _ _ _ hk | cases hk

theorem mo_iceq  (h1 : am_Mo k1) (h2 : am_Mo k2) : am_Mo (c_iceq k1 k2) := by
  intro lv st S fin hk
  dsimp only [c_iceq] at hk
  (repeat' split at hk) <;> first | exact h1 _ _ _ _ hk | exact h2 _ _ _ _ hk | cases hk

theorem mo_ifne  (h1 : am_Mo k1) (h2 : am_Mo k2) : am_Mo (c_ifne k1 k2) := by
  intro lv st S fin hk
  dsimp only [c_ifne] at hk
  (repeat' split at hk) <;> first | exact h1 _ _ _ _ hk | exact h2 _ _ _ _ hk | cases hk

theorem mo_icne  (h1 : am_Mo k1) (h2 : am_Mo k2) : am_Mo (c_icne k1 k2) := by
  intro lv st S fin hk
  dsimp only [c_icne] at hk
  (repeat' split at hk) <;> first | exact h1 _ _ _ _ hk | exact h2 _ _ _ _ hk | cases hk

theorem mo_iflt  (h1 : am_Mo k1) (h2 : am_Mo k2) : am_Mo (c_iflt k1 k2) := by
  intro lv st S fin hk
  dsimp only [c_iflt] at hk
  (repeat' split at hk) <;> first | exact h1 _ _ _ _ hk | exact h2 _ _ _ _ hk | cases hk

theorem mo_iclt  (h1 : am_Mo k1) (h2 : am_Mo k2) : am_Mo (c_iclt k1 k2) := by
  intro lv st S fin hk
  dsimp only [c_iclt] at hk
  (repeat' split at hk) <;> first | exact h1 _ _ _ _ hk | exact h2 _ _ _ _ hk | cases hk

theorem mo_ifge  (h1 : am_Mo k1) (h2 : am_Mo k2) : am_Mo (c_ifge k1 k2) := by
  intro lv st S fin hk
  dsimp only [c_ifge] at hk
  (repeat' split at hk) <;> first | exact h1 _ _ _ _ hk | exact h2 _ _ _ _ hk | cases hk

theorem mo_icge  (h1 : am_Mo k1) (h2 : am_Mo k2) : am_Mo (c_icge k1 k2) := by
  intro lv st S fin hk
  dsimp only [c_icge] at hk
  (repeat' split at hk) <;> first | exact h1 _ _ _ _ hk | exact h2 _ _ _ _ hk | cases hk

theorem mo_ifgt  (h1 : am_Mo k1) (h2 : am_Mo k2) : am_Mo (c_ifgt k1 k2) := by
  intro lv st S fin hk
  dsimp only [c_ifgt] at hk
  (repeat' split at hk) <;> first | exact h1 _ _ _ _ hk | exact h2 _ _ _ _ hk | cases hk

theorem mo_icgt  (h1 : am_Mo k1) (h2 : am_Mo k2) : am_Mo (c_icgt k1 k2) := by
  intro lv st S fin hk
  dsimp only [c_icgt] at hk
  (repeat' split at hk) <;> first | exact h1 _ _ _ _ hk | exact h2 _ _ _ _ hk | cases hk

theorem mo_ifle  (h1 : am_Mo k1) (h2 : am_Mo k2) : am_Mo (c_ifle k1 k2) := by
  intro lv st S fin hk
  dsimp only [c_ifle] at hk
  (repeat' split at hk) <;> first | exact h1 _ _ _ _ hk | exact h2 _ _ _ _ hk | cases hk

theorem mo_icle  (h1 : am_Mo k1) (h2 : am_Mo k2) : am_Mo (c_icle k1 k2) := by
  intro lv st S fin hk
  dsimp only [c_icle] at hk
  (repeat' split at hk) <;> first | exact h1 _ _ _ _ hk | exact h2 _ _ _ _ hk | cases hk

theorem mo_ifnull  (h1 : am_Mo k1) (h2 : am_Mo k2) : am_Mo (c_ifnull k1 k2) := by
  intro lv st S fin hk
  dsimp only [c_ifnull] at hk
  (repeat' split at hk) <;> first | exact h1 _ _ _ _ hk | exact h2 _ _ _ _ hk | cases hk

theorem mo_ifnonnull  (h1 : am_Mo k1) (h2 : am_Mo k2) : am_Mo (c_ifnonnull k1 k2) := by
  intro lv st S fin hk
  dsimp only [c_ifnonnull] at hk
  (repeat' split at hk) <;> first | exact h1 _ _ _ _ hk | exact h2 _ _ _ _ hk | cases hk

theorem mo_vret   : am_Mo (c_vret) := by
  intro lv st S fin hk
  dsimp only [c_vret] at hk
  (repeat' split at hk) <;> first | (cases hk; exact am_le.rf) | cases hk

theorem mo_iret   : am_Mo (c_iret) := by
  intro lv st S fin hk
  dsimp only [c_iret] at hk
  (repeat' split at hk) <;> first | (cases hk; exact am_le.rf) | cases hk

theorem mo_lret   : am_Mo (c_lret) := by
  intro lv st S fin hk
  dsimp only [c_lret] at hk
  (repeat' split at hk) <;> first | (cases hk; exact am_le.rf) | cases hk

theorem mo_fret   : am_Mo (c_fret) := by
  intro lv st S fin hk
  dsimp only [c_fret] at hk
  (repeat' split at hk) <;> first | (cases hk; exact am_le.rf) | cases hk

theorem mo_dret   : am_Mo (c_dret) := by
  intro lv st S fin hk
  dsimp only [c_dret] at hk
  (repeat' split at hk) <;> first | (cases hk; exact am_le.rf) | cases hk

theorem mo_rret   : am_Mo (c_rret) := by
  intro lv st S fin hk
  dsimp only [c_rret] at hk
  (repeat' split at hk) <;> first | (cases hk; exact am_le.rf) | cases hk

theorem mo_zret   : am_Mo (c_zret) := by
  intro lv st S fin hk
  dsimp only [c_zret] at hk
  (repeat' split at hk) <;> first | (cases hk; exact am_le.rf) | cases hk

theorem mo_throw {E : String}  : am_Mo (c_throw E) := by
  intro lv st S fin hk
  dsimp only [c_throw] at hk
  (repeat' split at hk) <;> first | (cases hk; exact ⟨Nat.le_succ _, Nat.le_add_right _ _⟩) | cases hk

theorem mo_sw {a : Int} {n : Nat} {ks : Nat → am_K} (h : ∀ i, i < n → am_Mo (ks i)) (hd : am_Mo k) : am_Mo (c_sw a n ks k) := by
  intro lv st S fin hk
  dsimp only [c_sw] at hk
  split at hk
  next x r =>
    split at hk
    next => exact hd _ _ _ _ hk
    next hc => exact h _ (by omega) _ _ _ _ hk
  next => cases hk
theorem mo_callS {n : Nat} {f : am_F} (hf : ∀ (As : List Value) (S : am_S) (fin : am_O × am_S), f As S = some fin → am_le S fin.2) (h : am_Mo k) : am_Mo (c_callS n f k) := by
  intro lv st S fin hk
  dsimp only [c_callS] at hk
  split at hk
  next hc =>
    split at hk
    next v S2 hq => exact (hf _ _ _ hq).tr (h _ _ _ _ hk)
    next E S2 hq => cases hk; exact hf _ _ _ hq
    next => cases hk
  next => cases hk
theorem mo_callV {ci n : Nat} {f : am_F} (hf : ∀ (As : List Value) (S : am_S) (fin : am_O × am_S), f As S = some fin → am_le S fin.2) (h : am_Mo k) : am_Mo (c_callV ci n f k) := by
  intro lv st S fin hk
  dsimp only [c_callV] at hk
  split at hk
  next b rest hd =>
    split at hk
    next hc =>
      split at hk
      next v S2 hq => exact (hf _ _ _ hq).tr (h _ _ _ _ hk)
      next E S2 hq => cases hk; exact hf _ _ _ hq
      next => cases hk
    next => cases hk
  next => cases hk
theorem mo_callI {n : Nat} {f : am_F} (hf : ∀ (As : List Value) (S : am_S) (fin : am_O × am_S), f As S = some fin → am_le S fin.2) (h : am_Mo k) : am_Mo (c_callI n f k) := by
  intro lv st S fin hk
  dsimp only [c_callI] at hk
  split at hk
  next b rest hd =>
    split at hk
    next hc =>
      split at hk
      next S2 hq => exact (hf _ _ _ hq).tr (h _ _ _ _ hk)
      next => cases hk
    next => cases hk
  next => cases hk

theorem av_iconst {n : Int} {v : Int32} (hdg : decode cc pc = .ok (.iconst n, 1)) (hv : Int32.ofInt n = v) (h : am_V l cc nL own EC fr lo (pc + 1) (k)) : am_V l cc nL own EC fr lo (pc) (c_i v k) := ⟨mo_i h.1, fun X G S0 fin e C E => am_iconst C hdg hv (h.2 X G S0 fin e C E)⟩
theorem av_bipush {n : Int} {v : Int32} (hdg : decode cc pc = .ok (.bipush n, 2)) (hv : (Int8.ofInt n).toInt32 = v) (h : am_V l cc nL own EC fr lo (pc + 2) (k)) : am_V l cc nL own EC fr lo (pc) (c_i v k) := ⟨mo_i h.1, fun X G S0 fin e C E => am_bipush C hdg hv (h.2 X G S0 fin e C E)⟩
theorem av_sipush {n : Int} {v : Int32} (hdg : decode cc pc = .ok (.sipush n, 3)) (hv : (Int16.ofInt n).toInt32 = v) (h : am_V l cc nL own EC fr lo (pc + 3) (k)) : am_V l cc nL own EC fr lo (pc) (c_i v k) := ⟨mo_i h.1, fun X G S0 fin e C E => am_sipush C hdg hv (h.2 X G S0 fin e C E)⟩
theorem av_lconst {n : Fin 2} {v : Int64} (hdg : decode cc pc = .ok (.lconst n, 1)) (hv : Int64.ofNat (n : Nat) = v) (h : am_V l cc nL own EC fr lo (pc + 1) (k)) : am_V l cc nL own EC fr lo (pc) (c_l v k) := ⟨mo_l h.1, fun X G S0 fin e C E => am_lconst C hdg hv (h.2 X G S0 fin e C E)⟩
theorem av_ldc {n : Nat} {v : Int32} (hdg : decode cc pc = .ok (.ldc n, 2)) (hw : Jvm.Cond.constant own n v ∈ am_tb) (h : am_V l cc nL own EC fr lo (pc + 2) (k)) : am_V l cc nL own EC fr lo (pc) (c_i v k) := ⟨mo_i h.1, fun X G S0 fin e C E => am_ldc C hdg hw (h.2 X G S0 fin e C E)⟩
theorem av_ldcw {n : Nat} {v : Int32} (hdg : decode cc pc = .ok (.ldc_w n, 3)) (hw : Jvm.Cond.constant own n v ∈ am_tb) (h : am_V l cc nL own EC fr lo (pc + 3) (k)) : am_V l cc nL own EC fr lo (pc) (c_i v k) := ⟨mo_i h.1, fun X G S0 fin e C E => am_ldcw C hdg hw (h.2 X G S0 fin e C E)⟩
theorem av_ldc2 {n : Nat} {v : Int64} (hdg : decode cc pc = .ok (.ldc2_w n, 3)) (hw : Jvm.Cond.constantLong own n v ∈ am_tb) (h : am_V l cc nL own EC fr lo (pc + 3) (k)) : am_V l cc nL own EC fr lo (pc) (c_l v k) := ⟨mo_l h.1, fun X G S0 fin e C E => am_ldc2 C hdg hw (h.2 X G S0 fin e C E)⟩
theorem av_fconst0  (hdg : decode cc pc = .ok (.fconst 0, 1)) (h : am_V l cc nL own EC fr lo (pc + 1) (k)) : am_V l cc nL own EC fr lo (pc) (c_f FP.fconst0 k) := ⟨mo_f h.1, fun X G S0 fin e C E => am_fconst0 C hdg (h.2 X G S0 fin e C E)⟩
theorem av_dconst0  (hdg : decode cc pc = .ok (.dconst 0, 1)) (h : am_V l cc nL own EC fr lo (pc + 1) (k)) : am_V l cc nL own EC fr lo (pc) (c_d FP.dconst0 k) := ⟨mo_d h.1, fun X G S0 fin e C E => am_dconst0 C hdg (h.2 X G S0 fin e C E)⟩
theorem av_ldcs {idx i : Nat} {tx : String} (hs : (own, idx, tx, i) ∈ am_strs) (hi : i < 100) (hdg : decode cc pc = .ok (.ldc idx, 2)) (h : am_V l cc nL own EC fr lo (pc + 2) (k)) : am_V l cc nL own EC fr lo (pc) (c_a i k) := ⟨mo_a h.1, fun X G S0 fin e C E => am_ldcs C hs hi hdg (h.2 X G S0 fin e C E)⟩
theorem av_ldcsw {idx i : Nat} {tx : String} (hs : (own, idx, tx, i) ∈ am_strs) (hi : i < 100) (hdg : decode cc pc = .ok (.ldc_w idx, 3)) (h : am_V l cc nL own EC fr lo (pc + 3) (k)) : am_V l cc nL own EC fr lo (pc) (c_a i k) := ⟨mo_a h.1, fun X G S0 fin e C E => am_ldcsw C hs hi hdg (h.2 X G S0 fin e C E)⟩
theorem av_iload {i : Nat} (hdg : decode cc pc = .ok (.iload i, 2)) (h : am_V l cc nL own EC fr lo (pc + 2) (k)) : am_V l cc nL own EC fr lo (pc) (c_ild i k) := ⟨mo_ild h.1, fun X G S0 fin e C E => am_iload C hdg (h.2 X G S0 fin e C E)⟩
theorem av_iload_n {n : Fin 4} {i : Nat} (hdg : decode cc pc = .ok (.iload_n n, 1)) (hi : (n : Nat) = i) (h : am_V l cc nL own EC fr lo (pc + 1) (k)) : am_V l cc nL own EC fr lo (pc) (c_ild i k) := ⟨mo_ild h.1, fun X G S0 fin e C E => am_iload_n C hdg hi (h.2 X G S0 fin e C E)⟩
theorem av_lload {i : Nat} (hdg : decode cc pc = .ok (.lload i, 2)) (h : am_V l cc nL own EC fr lo (pc + 2) (k)) : am_V l cc nL own EC fr lo (pc) (c_lld i k) := ⟨mo_lld h.1, fun X G S0 fin e C E => am_lload C hdg (h.2 X G S0 fin e C E)⟩
theorem av_lload_n {n : Fin 4} {i : Nat} (hdg : decode cc pc = .ok (.lload_n n, 1)) (hi : (n : Nat) = i) (h : am_V l cc nL own EC fr lo (pc + 1) (k)) : am_V l cc nL own EC fr lo (pc) (c_lld i k) := ⟨mo_lld h.1, fun X G S0 fin e C E => am_lload_n C hdg hi (h.2 X G S0 fin e C E)⟩
theorem av_aload {i : Nat} (hdg : decode cc pc = .ok (.aload i, 2)) (h : am_V l cc nL own EC fr lo (pc + 2) (k)) : am_V l cc nL own EC fr lo (pc) (c_rld i k) := ⟨mo_rld h.1, fun X G S0 fin e C E => am_aload C hdg (h.2 X G S0 fin e C E)⟩
theorem av_aload_n {n : Fin 4} {i : Nat} (hdg : decode cc pc = .ok (.aload_n n, 1)) (hi : (n : Nat) = i) (h : am_V l cc nL own EC fr lo (pc + 1) (k)) : am_V l cc nL own EC fr lo (pc) (c_rld i k) := ⟨mo_rld h.1, fun X G S0 fin e C E => am_aload_n C hdg hi (h.2 X G S0 fin e C E)⟩
theorem av_dload {i : Nat} (hdg : decode cc pc = .ok (.dload i, 2)) (h : am_V l cc nL own EC fr lo (pc + 2) (k)) : am_V l cc nL own EC fr lo (pc) (c_dld i k) := ⟨mo_dld h.1, fun X G S0 fin e C E => am_dload C hdg (h.2 X G S0 fin e C E)⟩
theorem av_istore {i : Nat} (hdg : decode cc pc = .ok (.istore i, 2)) (hn : i < nL) (h : am_V l cc nL own EC fr lo (pc + 2) (k)) : am_V l cc nL own EC fr lo (pc) (c_ist i k) := ⟨mo_ist h.1, fun X G S0 fin e C E => am_istore C hdg hn (h.2 X G S0 fin e C E)⟩
theorem av_istore_n {n : Fin 4} {i : Nat} (hdg : decode cc pc = .ok (.istore_n n, 1)) (hi : (n : Nat) = i) (hn : i < nL) (h : am_V l cc nL own EC fr lo (pc + 1) (k)) : am_V l cc nL own EC fr lo (pc) (c_ist i k) := ⟨mo_ist h.1, fun X G S0 fin e C E => am_istore_n C hdg hi hn (h.2 X G S0 fin e C E)⟩
theorem av_lstore {i : Nat} (hdg : decode cc pc = .ok (.lstore i, 2)) (hn : i + 1 < nL) (h : am_V l cc nL own EC fr lo (pc + 2) (k)) : am_V l cc nL own EC fr lo (pc) (c_lst i k) := ⟨mo_lst h.1, fun X G S0 fin e C E => am_lstore C hdg hn (h.2 X G S0 fin e C E)⟩
theorem av_lstore_n {n : Fin 4} {i : Nat} (hdg : decode cc pc = .ok (.lstore_n n, 1)) (hi : (n : Nat) = i) (hn : i + 1 < nL) (h : am_V l cc nL own EC fr lo (pc + 1) (k)) : am_V l cc nL own EC fr lo (pc) (c_lst i k) := ⟨mo_lst h.1, fun X G S0 fin e C E => am_lstore_n C hdg hi hn (h.2 X G S0 fin e C E)⟩
theorem av_astore {i : Nat} (hdg : decode cc pc = .ok (.astore i, 2)) (hn : i < nL) (h : am_V l cc nL own EC fr lo (pc + 2) (k)) : am_V l cc nL own EC fr lo (pc) (c_rst i k) := ⟨mo_rst h.1, fun X G S0 fin e C E => am_astore C hdg hn (h.2 X G S0 fin e C E)⟩
theorem av_astore_n {n : Fin 4} {i : Nat} (hdg : decode cc pc = .ok (.astore_n n, 1)) (hi : (n : Nat) = i) (hn : i < nL) (h : am_V l cc nL own EC fr lo (pc + 1) (k)) : am_V l cc nL own EC fr lo (pc) (c_rst i k) := ⟨mo_rst h.1, fun X G S0 fin e C E => am_astore_n C hdg hi hn (h.2 X G S0 fin e C E)⟩
theorem av_dstore {i : Nat} (hdg : decode cc pc = .ok (.dstore i, 2)) (hn : i + 1 < nL) (h : am_V l cc nL own EC fr lo (pc + 2) (k)) : am_V l cc nL own EC fr lo (pc) (c_dst i k) := ⟨mo_dst h.1, fun X G S0 fin e C E => am_dstore C hdg hn (h.2 X G S0 fin e C E)⟩
theorem av_iinc {i : Nat} {n : Int} {v : Int32} (hdg : decode cc pc = .ok (.iinc i n, 3)) (hv : Int32.ofInt n = v) (hn : i < nL) (h : am_V l cc nL own EC fr lo (pc + 3) (k)) : am_V l cc nL own EC fr lo (pc) (c_inc i v k) := ⟨mo_inc h.1, fun X G S0 fin e C E => am_iinc C hdg hv hn (h.2 X G S0 fin e C E)⟩
theorem av_iadd  (hdg : decode cc pc = .ok (.iadd, 1)) (h : am_V l cc nL own EC fr lo (pc + 1) (k)) : am_V l cc nL own EC fr lo (pc) (c_ii (fun x y => x + y) k) := ⟨mo_ii h.1, fun X G S0 fin e C E => am_iadd C hdg (h.2 X G S0 fin e C E)⟩
theorem av_isub  (hdg : decode cc pc = .ok (.isub, 1)) (h : am_V l cc nL own EC fr lo (pc + 1) (k)) : am_V l cc nL own EC fr lo (pc) (c_ii (fun x y => x - y) k) := ⟨mo_ii h.1, fun X G S0 fin e C E => am_isub C hdg (h.2 X G S0 fin e C E)⟩
theorem av_imul  (hdg : decode cc pc = .ok (.imul, 1)) (h : am_V l cc nL own EC fr lo (pc + 1) (k)) : am_V l cc nL own EC fr lo (pc) (c_ii (fun x y => x * y) k) := ⟨mo_ii h.1, fun X G S0 fin e C E => am_imul C hdg (h.2 X G S0 fin e C E)⟩
theorem av_iand  (hdg : decode cc pc = .ok (.iand, 1)) (h : am_V l cc nL own EC fr lo (pc + 1) (k)) : am_V l cc nL own EC fr lo (pc) (c_ii (fun x y => x &&& y) k) := ⟨mo_ii h.1, fun X G S0 fin e C E => am_iand C hdg (h.2 X G S0 fin e C E)⟩
theorem av_ior  (hdg : decode cc pc = .ok (.ior, 1)) (h : am_V l cc nL own EC fr lo (pc + 1) (k)) : am_V l cc nL own EC fr lo (pc) (c_ii (fun x y => x ||| y) k) := ⟨mo_ii h.1, fun X G S0 fin e C E => am_ior C hdg (h.2 X G S0 fin e C E)⟩
theorem av_ishl  (hdg : decode cc pc = .ok (.ishl, 1)) (h : am_V l cc nL own EC fr lo (pc + 1) (k)) : am_V l cc nL own EC fr lo (pc) (c_ii (fun x y => x <<< (y &&& 31)) k) := ⟨mo_ii h.1, fun X G S0 fin e C E => am_ishl C hdg (h.2 X G S0 fin e C E)⟩
theorem av_ishr  (hdg : decode cc pc = .ok (.ishr, 1)) (h : am_V l cc nL own EC fr lo (pc + 1) (k)) : am_V l cc nL own EC fr lo (pc) (c_ii (fun x y => x >>> (y &&& 31)) k) := ⟨mo_ii h.1, fun X G S0 fin e C E => am_ishr C hdg (h.2 X G S0 fin e C E)⟩
theorem av_land  (hdg : decode cc pc = .ok (.land, 1)) (h : am_V l cc nL own EC fr lo (pc + 1) (k)) : am_V l cc nL own EC fr lo (pc) (c_ll (fun x y => x &&& y) k) := ⟨mo_ll h.1, fun X G S0 fin e C E => am_land C hdg (h.2 X G S0 fin e C E)⟩
theorem av_lor  (hdg : decode cc pc = .ok (.lor, 1)) (h : am_V l cc nL own EC fr lo (pc + 1) (k)) : am_V l cc nL own EC fr lo (pc) (c_ll (fun x y => x ||| y) k) := ⟨mo_ll h.1, fun X G S0 fin e C E => am_lor C hdg (h.2 X G S0 fin e C E)⟩
theorem av_lxor  (hdg : decode cc pc = .ok (.lxor, 1)) (h : am_V l cc nL own EC fr lo (pc + 1) (k)) : am_V l cc nL own EC fr lo (pc) (c_ll (fun x y => x ^^^ y) k) := ⟨mo_ll h.1, fun X G S0 fin e C E => am_lxor C hdg (h.2 X G S0 fin e C E)⟩
theorem av_lsub  (hdg : decode cc pc = .ok (.lsub, 1)) (h : am_V l cc nL own EC fr lo (pc + 1) (k)) : am_V l cc nL own EC fr lo (pc) (c_ll (fun x y => x - y) k) := ⟨mo_ll h.1, fun X G S0 fin e C E => am_lsub C hdg (h.2 X G S0 fin e C E)⟩
theorem av_ladd  (hdg : decode cc pc = .ok (.ladd, 1)) (h : am_V l cc nL own EC fr lo (pc + 1) (k)) : am_V l cc nL own EC fr lo (pc) (c_ll (fun x y => x + y) k) := ⟨mo_ll h.1, fun X G S0 fin e C E => am_ladd C hdg (h.2 X G S0 fin e C E)⟩
theorem av_lmul  (hdg : decode cc pc = .ok (.lmul, 1)) (h : am_V l cc nL own EC fr lo (pc + 1) (k)) : am_V l cc nL own EC fr lo (pc) (c_ll (fun x y => x * y) k) := ⟨mo_ll h.1, fun X G S0 fin e C E => am_lmul C hdg (h.2 X G S0 fin e C E)⟩
theorem av_lshl  (hdg : decode cc pc = .ok (.lshl, 1)) (h : am_V l cc nL own EC fr lo (pc + 1) (k)) : am_V l cc nL own EC fr lo (pc) (c_li (fun x y => x <<< (y.toInt64 &&& 63)) k) := ⟨mo_li h.1, fun X G S0 fin e C E => am_lshl C hdg (h.2 X G S0 fin e C E)⟩
theorem av_lshr  (hdg : decode cc pc = .ok (.lshr, 1)) (h : am_V l cc nL own EC fr lo (pc + 1) (k)) : am_V l cc nL own EC fr lo (pc) (c_li (fun x y => x >>> (y.toInt64 &&& 63)) k) := ⟨mo_li h.1, fun X G S0 fin e C E => am_lshr C hdg (h.2 X G S0 fin e C E)⟩
theorem av_lcmp  (hdg : decode cc pc = .ok (.lcmp, 1)) (h : am_V l cc nL own EC fr lo (pc + 1) (k)) : am_V l cc nL own EC fr lo (pc) (c_cmp (fun x y => lg_cmp x y) k) := ⟨mo_cmp h.1, fun X G S0 fin e C E => am_lcmp C hdg (h.2 X G S0 fin e C E)⟩
theorem av_ineg  (hdg : decode cc pc = .ok (.ineg, 1)) (h : am_V l cc nL own EC fr lo (pc + 1) (k)) : am_V l cc nL own EC fr lo (pc) (c_ui (fun x => -x) k) := ⟨mo_ui h.1, fun X G S0 fin e C E => am_ineg C hdg (h.2 X G S0 fin e C E)⟩
theorem av_i2c  (hdg : decode cc pc = .ok (.i2c, 1)) (h : am_V l cc nL own EC fr lo (pc + 1) (k)) : am_V l cc nL own EC fr lo (pc) (c_ui (fun x => (x.toUInt32 % 65536).toInt32) k) := ⟨mo_ui h.1, fun X G S0 fin e C E => am_i2c C hdg (h.2 X G S0 fin e C E)⟩
theorem av_i2l  (hdg : decode cc pc = .ok (.i2l, 1)) (h : am_V l cc nL own EC fr lo (pc + 1) (k)) : am_V l cc nL own EC fr lo (pc) (c_il (fun x => x.toInt64) k) := ⟨mo_il h.1, fun X G S0 fin e C E => am_i2l C hdg (h.2 X G S0 fin e C E)⟩
theorem av_l2i  (hdg : decode cc pc = .ok (.l2i, 1)) (h : am_V l cc nL own EC fr lo (pc + 1) (k)) : am_V l cc nL own EC fr lo (pc) (c_lti (fun x => x.toInt32) k) := ⟨mo_lti h.1, fun X G S0 fin e C E => am_l2i C hdg (h.2 X G S0 fin e C E)⟩
theorem av_i2f  (hdg : decode cc pc = .ok (.i2f, 1)) (h : am_V l cc nL own EC fr lo (pc + 1) (k)) : am_V l cc nL own EC fr lo (pc) (c_itf (fun x => FP.i2f x) k) := ⟨mo_itf h.1, fun X G S0 fin e C E => am_i2f C hdg (h.2 X G S0 fin e C E)⟩
theorem av_i2d  (hdg : decode cc pc = .ok (.i2d, 1)) (h : am_V l cc nL own EC fr lo (pc + 1) (k)) : am_V l cc nL own EC fr lo (pc) (c_itd (fun x => FP.i2d x) k) := ⟨mo_itd h.1, fun X G S0 fin e C E => am_i2d C hdg (h.2 X G S0 fin e C E)⟩
theorem av_idiv  (hdg : decode cc pc = .ok (.idiv, 1)) (h : am_V l cc nL own EC fr lo (pc + 1) (k)) : am_V l cc nL own EC fr lo (pc) (c_idiv k) := ⟨mo_idiv h.1, fun X G S0 fin e C E => am_idiv C hdg (h.2 X G S0 fin e C E)⟩
theorem av_irem  (hdg : decode cc pc = .ok (.irem, 1)) (h : am_V l cc nL own EC fr lo (pc + 1) (k)) : am_V l cc nL own EC fr lo (pc) (c_irem k) := ⟨mo_irem h.1, fun X G S0 fin e C E => am_irem C hdg (h.2 X G S0 fin e C E)⟩
theorem av_fdiv  (hdg : decode cc pc = .ok (.fdiv, 1)) (h : am_V l cc nL own EC fr lo (pc + 1) (k)) : am_V l cc nL own EC fr lo (pc) (c_fdiv k) := ⟨mo_fdiv h.1, fun X G S0 fin e C E => am_fdiv C hdg (h.2 X G S0 fin e C E)⟩
theorem av_ddiv  (hdg : decode cc pc = .ok (.ddiv, 1)) (h : am_V l cc nL own EC fr lo (pc + 1) (k)) : am_V l cc nL own EC fr lo (pc) (c_ddiv k) := ⟨mo_ddiv h.1, fun X G S0 fin e C E => am_ddiv C hdg (h.2 X G S0 fin e C E)⟩
theorem av_f2d  (hdg : decode cc pc = .ok (.f2d, 1)) (h : am_V l cc nL own EC fr lo (pc + 1) (k)) : am_V l cc nL own EC fr lo (pc) (c_f2d k) := ⟨mo_f2d h.1, fun X G S0 fin e C E => am_f2d C hdg (h.2 X G S0 fin e C E)⟩
theorem av_dup  (hdg : decode cc pc = .ok (.dup, 1)) (h : am_V l cc nL own EC fr lo (pc + 1) (k)) : am_V l cc nL own EC fr lo (pc) (c_dup k) := ⟨mo_dup h.1, fun X G S0 fin e C E => am_dup C hdg (h.2 X G S0 fin e C E)⟩
theorem av_pop  (hdg : decode cc pc = .ok (.pop, 1)) (h : am_V l cc nL own EC fr lo (pc + 1) (k)) : am_V l cc nL own EC fr lo (pc) (c_pop k) := ⟨mo_pop h.1, fun X G S0 fin e C E => am_pop C hdg (h.2 X G S0 fin e C E)⟩
theorem av_dup_x1  (hdg : decode cc pc = .ok (.dup_x1, 1)) (h : am_V l cc nL own EC fr lo (pc + 1) (k)) : am_V l cc nL own EC fr lo (pc) (c_dup_x1 k) := ⟨mo_dup_x1 h.1, fun X G S0 fin e C E => am_dup_x1 C hdg (h.2 X G S0 fin e C E)⟩
theorem av_dup2  (hdg : decode cc pc = .ok (.dup2, 1)) (h : am_V l cc nL own EC fr lo (pc + 1) (k)) : am_V l cc nL own EC fr lo (pc) (c_dup2 k) := ⟨mo_dup2 h.1, fun X G S0 fin e C E => am_dup2 C hdg (h.2 X G S0 fin e C E)⟩
theorem av_dcmp {op : CmpOp} (hdg : decode cc pc = .ok (.dcmp op, 1)) (h : am_V l cc nL own EC fr lo (pc + 1) (k)) : am_V l cc nL own EC fr lo (pc) (c_dcmp op k) := ⟨mo_dcmp h.1, fun X G S0 fin e C E => am_dcmp C hdg (h.2 X G S0 fin e C E)⟩
theorem av_ifeq {off : Int} {tgt : Nat} (hdg : decode cc pc = .ok (.ifCond .eq off, 3)) (ht : (pc : Int) + off = (tgt : Int)) (h : am_V l cc nL own EC fr lo (tgt) (k1)) (hh : am_V l cc nL own EC fr lo (pc + 3) (k2)) : am_V l cc nL own EC fr lo (pc) (c_ifeq k1 k2) := ⟨mo_ifeq h.1 hh.1, fun X G S0 fin e C E => am_ifeq C hdg ht (h.2 X G S0 fin e C E) (hh.2 X G S0 fin e C E)⟩
theorem av_iceq {off : Int} {tgt : Nat} (hdg : decode cc pc = .ok (.if_icmp .eq off, 3)) (ht : (pc : Int) + off = (tgt : Int)) (h : am_V l cc nL own EC fr lo (tgt) (k1)) (hh : am_V l cc nL own EC fr lo (pc + 3) (k2)) : am_V l cc nL own EC fr lo (pc) (c_iceq k1 k2) := ⟨mo_iceq h.1 hh.1, fun X G S0 fin e C E => am_iceq C hdg ht (h.2 X G S0 fin e C E) (hh.2 X G S0 fin e C E)⟩
theorem av_ifne {off : Int} {tgt : Nat} (hdg : decode cc pc = .ok (.ifCond .ne off, 3)) (ht : (pc : Int) + off = (tgt : Int)) (h : am_V l cc nL own EC fr lo (tgt) (k1)) (hh : am_V l cc nL own EC fr lo (pc + 3) (k2)) : am_V l cc nL own EC fr lo (pc) (c_ifne k1 k2) := ⟨mo_ifne h.1 hh.1, fun X G S0 fin e C E => am_ifne C hdg ht (h.2 X G S0 fin e C E) (hh.2 X G S0 fin e C E)⟩
theorem av_icne {off : Int} {tgt : Nat} (hdg : decode cc pc = .ok (.if_icmp .ne off, 3)) (ht : (pc : Int) + off = (tgt : Int)) (h : am_V l cc nL own EC fr lo (tgt) (k1)) (hh : am_V l cc nL own EC fr lo (pc + 3) (k2)) : am_V l cc nL own EC fr lo (pc) (c_icne k1 k2) := ⟨mo_icne h.1 hh.1, fun X G S0 fin e C E => am_icne C hdg ht (h.2 X G S0 fin e C E) (hh.2 X G S0 fin e C E)⟩
theorem av_iflt {off : Int} {tgt : Nat} (hdg : decode cc pc = .ok (.ifCond .lt off, 3)) (ht : (pc : Int) + off = (tgt : Int)) (h : am_V l cc nL own EC fr lo (tgt) (k1)) (hh : am_V l cc nL own EC fr lo (pc + 3) (k2)) : am_V l cc nL own EC fr lo (pc) (c_iflt k1 k2) := ⟨mo_iflt h.1 hh.1, fun X G S0 fin e C E => am_iflt C hdg ht (h.2 X G S0 fin e C E) (hh.2 X G S0 fin e C E)⟩
theorem av_iclt {off : Int} {tgt : Nat} (hdg : decode cc pc = .ok (.if_icmp .lt off, 3)) (ht : (pc : Int) + off = (tgt : Int)) (h : am_V l cc nL own EC fr lo (tgt) (k1)) (hh : am_V l cc nL own EC fr lo (pc + 3) (k2)) : am_V l cc nL own EC fr lo (pc) (c_iclt k1 k2) := ⟨mo_iclt h.1 hh.1, fun X G S0 fin e C E => am_iclt C hdg ht (h.2 X G S0 fin e C E) (hh.2 X G S0 fin e C E)⟩
theorem av_ifge {off : Int} {tgt : Nat} (hdg : decode cc pc = .ok (.ifCond .ge off, 3)) (ht : (pc : Int) + off = (tgt : Int)) (h : am_V l cc nL own EC fr lo (tgt) (k1)) (hh : am_V l cc nL own EC fr lo (pc + 3) (k2)) : am_V l cc nL own EC fr lo (pc) (c_ifge k1 k2) := ⟨mo_ifge h.1 hh.1, fun X G S0 fin e C E => am_ifge C hdg ht (h.2 X G S0 fin e C E) (hh.2 X G S0 fin e C E)⟩
theorem av_icge {off : Int} {tgt : Nat} (hdg : decode cc pc = .ok (.if_icmp .ge off, 3)) (ht : (pc : Int) + off = (tgt : Int)) (h : am_V l cc nL own EC fr lo (tgt) (k1)) (hh : am_V l cc nL own EC fr lo (pc + 3) (k2)) : am_V l cc nL own EC fr lo (pc) (c_icge k1 k2) := ⟨mo_icge h.1 hh.1, fun X G S0 fin e C E => am_icge C hdg ht (h.2 X G S0 fin e C E) (hh.2 X G S0 fin e C E)⟩
theorem av_ifgt {off : Int} {tgt : Nat} (hdg : decode cc pc = .ok (.ifCond .gt off, 3)) (ht : (pc : Int) + off = (tgt : Int)) (h : am_V l cc nL own EC fr lo (tgt) (k1)) (hh : am_V l cc nL own EC fr lo (pc + 3) (k2)) : am_V l cc nL own EC fr lo (pc) (c_ifgt k1 k2) := ⟨mo_ifgt h.1 hh.1, fun X G S0 fin e C E => am_ifgt C hdg ht (h.2 X G S0 fin e C E) (hh.2 X G S0 fin e C E)⟩
theorem av_icgt {off : Int} {tgt : Nat} (hdg : decode cc pc = .ok (.if_icmp .gt off, 3)) (ht : (pc : Int) + off = (tgt : Int)) (h : am_V l cc nL own EC fr lo (tgt) (k1)) (hh : am_V l cc nL own EC fr lo (pc + 3) (k2)) : am_V l cc nL own EC fr lo (pc) (c_icgt k1 k2) := ⟨mo_icgt h.1 hh.1, fun X G S0 fin e C E => am_icgt C hdg ht (h.2 X G S0 fin e C E) (hh.2 X G S0 fin e C E)⟩
theorem av_ifle {off : Int} {tgt : Nat} (hdg : decode cc pc = .ok (.ifCond .le off, 3)) (ht : (pc : Int) + off = (tgt : Int)) (h : am_V l cc nL own EC fr lo (tgt) (k1)) (hh : am_V l cc nL own EC fr lo (pc + 3) (k2)) : am_V l cc nL own EC fr lo (pc) (c_ifle k1 k2) := ⟨mo_ifle h.1 hh.1, fun X G S0 fin e C E => am_ifle C hdg ht (h.2 X G S0 fin e C E) (hh.2 X G S0 fin e C E)⟩
theorem av_icle {off : Int} {tgt : Nat} (hdg : decode cc pc = .ok (.if_icmp .le off, 3)) (ht : (pc : Int) + off = (tgt : Int)) (h : am_V l cc nL own EC fr lo (tgt) (k1)) (hh : am_V l cc nL own EC fr lo (pc + 3) (k2)) : am_V l cc nL own EC fr lo (pc) (c_icle k1 k2) := ⟨mo_icle h.1 hh.1, fun X G S0 fin e C E => am_icle C hdg ht (h.2 X G S0 fin e C E) (hh.2 X G S0 fin e C E)⟩
theorem av_ifnull {off : Int} {tgt : Nat} (hdg : decode cc pc = .ok (.ifnull off, 3)) (ht : (pc : Int) + off = (tgt : Int)) (h : am_V l cc nL own EC fr lo (tgt) (k1)) (hh : am_V l cc nL own EC fr lo (pc + 3) (k2)) : am_V l cc nL own EC fr lo (pc) (c_ifnull k1 k2) := ⟨mo_ifnull h.1 hh.1, fun X G S0 fin e C E => am_ifnull C hdg ht (h.2 X G S0 fin e C E) (hh.2 X G S0 fin e C E)⟩
theorem av_ifnonnull {off : Int} {tgt : Nat} (hdg : decode cc pc = .ok (.ifnonnull off, 3)) (ht : (pc : Int) + off = (tgt : Int)) (h : am_V l cc nL own EC fr lo (tgt) (k1)) (hh : am_V l cc nL own EC fr lo (pc + 3) (k2)) : am_V l cc nL own EC fr lo (pc) (c_ifnonnull k1 k2) := ⟨mo_ifnonnull h.1 hh.1, fun X G S0 fin e C E => am_ifnonnull C hdg ht (h.2 X G S0 fin e C E) (hh.2 X G S0 fin e C E)⟩
theorem av_goto {off : Int} {tgt : Nat} (hdg : decode cc pc = .ok (.goto off, 3)) (ht : (pc : Int) + off = (tgt : Int)) (h : am_V l cc nL own EC fr lo (tgt) (k)) : am_V l cc nL own EC fr lo (pc) (k) := ⟨h.1, fun X G S0 fin e C E => am_goto C hdg ht (h.2 X G S0 fin e C E)⟩
theorem av_live {is : List Nat} (h : am_V l cc nL own EC fr lo (pc) (k)) : am_V l cc nL own EC fr lo (pc) (c_live is k) := ⟨mo_live h.1, fun X G S0 fin e C E => am_live (h.2 X G S0 fin e C E)⟩
theorem av_sw {dflt lo9 hi9 : Int} {offs : Array Int} {len n tgt : Nat} {ks : Nat → am_K} (tg : Nat → Nat) (hdg : decode cc pc = .ok (.tableswitch dflt lo9 hi9 offs, len)) (hn : hi9 = lo9 + n - 1) (ht : (pc : Int) + dflt = (tgt : Int)) (hd : am_V l cc nL own EC fr lo (tgt) (k))
    (ho : ∀ i, i < n → offs[i]? = some ((tg i : Int) - (pc : Int))) (h : ∀ i, i < n → am_V l cc nL own EC fr lo (tg i) (ks i)) : am_V l cc nL own EC fr lo (pc) (c_sw lo9 n ks k) := ⟨mo_sw (fun i hi => (h i hi).1) hd.1, fun X G S0 fin e C E => am_sw C tg hdg hn ht (hd.2 X G S0 fin e C E) ho (fun i hi => (h i hi).2 X G S0 fin e C E)⟩
theorem av_return_ (hr : am_HR cc nL own EC fr lo .return_ p_v) (hdg : decode cc pc = .ok (.return_, 1)) : am_V l cc nL own EC fr lo (pc) (c_vret) := ⟨mo_vret, fun X G S0 fin e C E => am_return_ C (hr X G S0 fin C E) hdg⟩
theorem av_ireturn (hr : am_HR cc nL own EC fr lo .ireturn p_i) (hdg : decode cc pc = .ok (.ireturn, 1)) : am_V l cc nL own EC fr lo (pc) (c_iret) := ⟨mo_iret, fun X G S0 fin e C E => am_ireturn C (hr X G S0 fin C E) hdg⟩
theorem av_lreturn (hr : am_HR cc nL own EC fr lo .lreturn p_l) (hdg : decode cc pc = .ok (.lreturn, 1)) : am_V l cc nL own EC fr lo (pc) (c_lret) := ⟨mo_lret, fun X G S0 fin e C E => am_lreturn C (hr X G S0 fin C E) hdg⟩
theorem av_freturn (hr : am_HR cc nL own EC fr lo .freturn p_f) (hdg : decode cc pc = .ok (.freturn, 1)) : am_V l cc nL own EC fr lo (pc) (c_fret) := ⟨mo_fret, fun X G S0 fin e C E => am_freturn C (hr X G S0 fin C E) hdg⟩
theorem av_dreturn (hr : am_HR cc nL own EC fr lo .dreturn p_d) (hdg : decode cc pc = .ok (.dreturn, 1)) : am_V l cc nL own EC fr lo (pc) (c_dret) := ⟨mo_dret, fun X G S0 fin e C E => am_dreturn C (hr X G S0 fin C E) hdg⟩
theorem av_areturn (hr : am_HR cc nL own EC fr lo .areturn p_r) (hdg : decode cc pc = .ok (.areturn, 1)) : am_V l cc nL own EC fr lo (pc) (c_rret) := ⟨mo_rret, fun X G S0 fin e C E => am_areturn C (hr X G S0 fin C E) hdg⟩
theorem av_zreturn (hr : am_HR cc nL own EC fr lo .ireturn p_z) (hdg : decode cc pc = .ok (.ireturn, 1)) : am_V l cc nL own EC fr lo (pc) (c_zret) := ⟨mo_zret, fun X G S0 fin e C E => am_zreturn C (hr X G S0 fin C E) hdg⟩
theorem av_geti {ci j idx : Nat} {r : vw_C} (hr : am_CI ci r) (hj : j < r.2.2) (hf : am_ft ci j ≠ 2) (hl : Cond.fieldLink own idx (r.2.1 j).1 (r.2.1 j).2.1 (r.2.1 j).2.2.1 ∈ am_tb) (hdg : decode cc pc = .ok (.getfield idx, 3)) (h : am_V l cc nL own EC fr lo (pc + 3) (k)) : am_V l cc nL own EC fr lo (pc) (c_geti ci j k) := ⟨mo_geti h.1, fun X G S0 fin e C E => am_geti C hr hj hf hl hdg (h.2 X G S0 fin e C E)⟩
theorem av_getr {ci j idx : Nat} {r : vw_C} (hr : am_CI ci r) (hj : j < r.2.2) (hf : am_ft ci j = 2) (hl : Cond.fieldLink own idx (r.2.1 j).1 (r.2.1 j).2.1 (r.2.1 j).2.2.1 ∈ am_tb) (hdg : decode cc pc = .ok (.getfield idx, 3)) (h : am_V l cc nL own EC fr lo (pc + 3) (k)) : am_V l cc nL own EC fr lo (pc) (c_getr ci j k) := ⟨mo_getr h.1, fun X G S0 fin e C E => am_getr C hr hj hf hl hdg (h.2 X G S0 fin e C E)⟩
theorem av_puti {ci j idx : Nat} {r : vw_C} (hr : am_CI ci r) (hj : j < r.2.2) (hf : am_ft ci j ≠ 2) (hl : Cond.fieldLink own idx (r.2.1 j).1 (r.2.1 j).2.1 (r.2.1 j).2.2.1 ∈ am_tb) (hd : parseFieldDescriptor (r.2.1 j).2.2.1 = some .int) (hfin : (r.2.1 j).2.2.2 = false) (hdg : decode cc pc = .ok (.putfield idx, 3)) (h : am_V l cc nL own EC fr lo (pc + 3) (k)) : am_V l cc nL own EC fr lo (pc) (c_puti ci j k) := ⟨mo_puti h.1, fun X G S0 fin e C E => am_puti C hr hj hf hl hd (Or.inl hfin) hdg (h.2 X G S0 fin e C E)⟩
theorem av_putz {ci j idx : Nat} {r : vw_C} (hr : am_CI ci r) (hj : j < r.2.2) (hf : am_ft ci j ≠ 2) (hl : Cond.fieldLink own idx (r.2.1 j).1 (r.2.1 j).2.1 (r.2.1 j).2.2.1 ∈ am_tb) (hd : parseFieldDescriptor (r.2.1 j).2.2.1 = some .boolean) (hfin : (r.2.1 j).2.2.2 = false) (hdg : decode cc pc = .ok (.putfield idx, 3)) (h : am_V l cc nL own EC fr lo (pc + 3) (k)) : am_V l cc nL own EC fr lo (pc) (c_putz ci j k) := ⟨mo_putz h.1, fun X G S0 fin e C E => am_putz C hr hj hf hl hd (Or.inl hfin) hdg (h.2 X G S0 fin e C E)⟩
theorem av_putr {ci j idx : Nat} {r : vw_C} {ty : FieldType} (hr : am_CI ci r) (hj : j < r.2.2) (hf : am_ft ci j = 2) (hl : Cond.fieldLink own idx (r.2.1 j).1 (r.2.1 j).2.1 (r.2.1 j).2.2.1 ∈ am_tb) (hd : parseFieldDescriptor (r.2.1 j).2.2.1 = some ty) (hn : ∀ a : Nat, narrow ty (.ref a) = .ref a ∧ fits ty (.ref a) = true) (hfin : (r.2.1 j).2.2.2 = false) (hdg : decode cc pc = .ok (.putfield idx, 3)) (h : am_V l cc nL own EC fr lo (pc + 3) (k)) : am_V l cc nL own EC fr lo (pc) (c_putr ci j k) := ⟨mo_putr h.1, fun X G S0 fin e C E => am_putr C hr hj hf hl hd hn (Or.inl hfin) hdg (h.2 X G S0 fin e C E)⟩
section Ini
variable {ret : Option FieldType}

theorem av_putiF {ci j idx : Nat} {r : vw_C} (hr : am_CI ci r) (hj : j < r.2.2) (hf : am_ft ci j ≠ 2) (hl : Cond.fieldLink own idx (r.2.1 j).1 (r.2.1 j).2.1 (r.2.1 j).2.2.1 ∈ am_tb) (hd : parseFieldDescriptor (r.2.1 j).2.2.1 = some .int) (hfin : (r.2.1 j).2.2.2 = true ∧ (r.2.1 j).1 = own) (hdg : decode cc pc = .ok (.putfield idx, 3)) (h : am_V l cc nL own (am_E ret "<init>") fr lo (pc + 3) k) : am_V l cc nL own (am_E ret "<init>") fr lo pc (c_puti ci j k) := ⟨mo_puti h.1, fun X G S0 fin e C E => am_puti C hr hj hf hl hd (Or.inr ⟨hfin.1, E.2.2.2, hfin.2⟩) hdg (h.2 X G S0 fin e C E)⟩
theorem av_putzF {ci j idx : Nat} {r : vw_C} (hr : am_CI ci r) (hj : j < r.2.2) (hf : am_ft ci j ≠ 2) (hl : Cond.fieldLink own idx (r.2.1 j).1 (r.2.1 j).2.1 (r.2.1 j).2.2.1 ∈ am_tb) (hd : parseFieldDescriptor (r.2.1 j).2.2.1 = some .boolean) (hfin : (r.2.1 j).2.2.2 = true ∧ (r.2.1 j).1 = own) (hdg : decode cc pc = .ok (.putfield idx, 3)) (h : am_V l cc nL own (am_E ret "<init>") fr lo (pc + 3) k) : am_V l cc nL own (am_E ret "<init>") fr lo pc (c_putz ci j k) := ⟨mo_putz h.1, fun X G S0 fin e C E => am_putz C hr hj hf hl hd (Or.inr ⟨hfin.1, E.2.2.2, hfin.2⟩) hdg (h.2 X G S0 fin e C E)⟩
theorem av_putrF {ci j idx : Nat} {r : vw_C} {ty : FieldType} (hr : am_CI ci r) (hj : j < r.2.2) (hf : am_ft ci j = 2) (hl : Cond.fieldLink own idx (r.2.1 j).1 (r.2.1 j).2.1 (r.2.1 j).2.2.1 ∈ am_tb) (hd : parseFieldDescriptor (r.2.1 j).2.2.1 = some ty) (hn : ∀ a : Nat, narrow ty (.ref a) = .ref a ∧ fits ty (.ref a) = true) (hfin : (r.2.1 j).2.2.2 = true ∧ (r.2.1 j).1 = own) (hdg : decode cc pc = .ok (.putfield idx, 3)) (h : am_V l cc nL own (am_E ret "<init>") fr lo (pc + 3) k) : am_V l cc nL own (am_E ret "<init>") fr lo pc (c_putr ci j k) := ⟨mo_putr h.1, fun X G S0 fin e C E => am_putr C hr hj hf hl hd hn (Or.inr ⟨hfin.1, E.2.2.2, hfin.2⟩) hdg (h.2 X G S0 fin e C E)⟩
theorem av_throw {cls text : String} {names : List String} {ik is ic i ix : Nat} {rx : ByteArray} {Y : String} (x0 : decode rx 0 = .ok (.aload_n 0, 1)) (x1 : decode rx 1 = .ok (.aload_n 1, 1)) (x2 : decode rx 2 = .ok (.invokespecial ix, 3)) (x5 : decode rx 5 = .ok (.return_, 1)) (hY : Bundle.fit Y = true) (hcls : Bundle.fit cls = true) (hnames : ∀ n ∈ names, Bundle.fit n = true) (w1 : Cond.classLink own ik cls ∈ am_tb) (w2 : Cond.initialized cls ∈ am_tb) (hs : (own, is, text, i) ∈ am_strs) (hat : ∀ w ∈ am_atX own ic cls ix rx Y names, w ∈ am_tb ∨ am_dv w = true) (hgood : ∀ w ∈ Cond.classLink own ik cls :: Cond.initialized cls :: am_atX own ic cls ix rx Y names, vx_ot w = true) (d0 : decode cc pc = .ok (.new ik, 3)) (d3 : decode cc (pc + 3) = .ok (.dup, 1)) (d4 : decode cc (pc + 4) = .ok (.ldc is, 2)) (d6 : decode cc (pc + 6) = .ok (.invokespecial ic, 3)) (d9 : decode cc (pc + 9) = .ok (.athrow, 1)) (hfr : names.length + 4 < fr) (hlo : 8 + (13 * (names.length + 2) + 43) ≤ lo) : am_V l cc nL own (am_E ret nm) fr lo pc (c_throw cls) := ⟨mo_throw, fun X G S0 fin e C E => am_throw C E x0 x1 x2 x5 hY hcls hnames w1 w2 hs hat hgood d0 d3 d4 d6 d9 hfr hlo⟩
theorem av_throww {cls text : String} {names : List String} {ik is ic i ix : Nat} {rx : ByteArray} {Y : String} (x0 : decode rx 0 = .ok (.aload_n 0, 1)) (x1 : decode rx 1 = .ok (.aload_n 1, 1)) (x2 : decode rx 2 = .ok (.invokespecial ix, 3)) (x5 : decode rx 5 = .ok (.return_, 1)) (hY : Bundle.fit Y = true) (hcls : Bundle.fit cls = true) (hnames : ∀ n ∈ names, Bundle.fit n = true) (w1 : Cond.classLink own ik cls ∈ am_tb) (w2 : Cond.initialized cls ∈ am_tb) (hs : (own, is, text, i) ∈ am_strs) (hat : ∀ w ∈ am_atX own ic cls ix rx Y names, w ∈ am_tb ∨ am_dv w = true) (hgood : ∀ w ∈ Cond.classLink own ik cls :: Cond.initialized cls :: am_atX own ic cls ix rx Y names, vx_ot w = true) (d0 : decode cc pc = .ok (.new ik, 3)) (d3 : decode cc (pc + 3) = .ok (.dup, 1)) (d4 : decode cc (pc + 4) = .ok (.ldc_w is, 3)) (d6 : decode cc (pc + 7) = .ok (.invokespecial ic, 3)) (d9 : decode cc (pc + 10) = .ok (.athrow, 1)) (hfr : names.length + 4 < fr) (hlo : 8 + (13 * (names.length + 2) + 43) ≤ lo) : am_V l cc nL own (am_E ret nm) fr lo pc (c_throw cls) := ⟨mo_throw, fun X G S0 fin e C E => am_throww C E x0 x1 x2 x5 hY hcls hnames w1 w2 hs hat hgood d0 d3 d4 d6 d9 hfr hlo⟩
end Ini
theorem av_iaload  (hdg : decode cc pc = .ok (.iaload, 1)) (h : am_V l cc nL own EC fr lo (pc + 1) (k)) : am_V l cc nL own EC fr lo (pc) (c_ial k) := ⟨mo_ial h.1, fun X G S0 fin e C E => am_iaload C hdg (h.2 X G S0 fin e C E)⟩
theorem av_iastore  (hdg : decode cc pc = .ok (.iastore, 1)) (h : am_V l cc nL own EC fr lo (pc + 1) (k)) : am_V l cc nL own EC fr lo (pc) (c_ias k) := ⟨mo_ias h.1, fun X G S0 fin e C E => am_iastore C hdg (h.2 X G S0 fin e C E)⟩
theorem av_laload  (hdg : decode cc pc = .ok (.laload, 1)) (h : am_V l cc nL own EC fr lo (pc + 1) (k)) : am_V l cc nL own EC fr lo (pc) (c_lal k) := ⟨mo_lal h.1, fun X G S0 fin e C E => am_laload C hdg (h.2 X G S0 fin e C E)⟩
theorem av_lastore  (hdg : decode cc pc = .ok (.lastore, 1)) (h : am_V l cc nL own EC fr lo (pc + 1) (k)) : am_V l cc nL own EC fr lo (pc) (c_las k) := ⟨mo_las h.1, fun X G S0 fin e C E => am_lastore C hdg (h.2 X G S0 fin e C E)⟩
theorem av_arraylength  (hdg : decode cc pc = .ok (.arraylength, 1)) (h : am_V l cc nL own EC fr lo (pc + 1) (k)) : am_V l cc nL own EC fr lo (pc) (c_alen k) := ⟨mo_alen h.1, fun X G S0 fin e C E => am_arraylength C hdg (h.2 X G S0 fin e C E)⟩
theorem av_aastore_t  (hdg : decode cc pc = .ok (.aastore, 1)) (h : am_V l cc nL own EC fr lo (pc + 1) (k)) : am_V l cc nL own EC fr lo (pc) (c_aast k) := ⟨mo_aast h.1, fun X G S0 fin e C E => am_aastore_t C hdg (h.2 X G S0 fin e C E)⟩
theorem av_aaload {kd t0 : Nat} {Cn : String} (hk1 : 22 ≤ kd) (hk2 : kd < 25) (ht : ∀ G : am_G, (am_ty G)[t0]? = some (am_cl G kd, .object Cn)) (hdg : decode cc pc = .ok (.aaload, 1)) (h : am_V l cc nL own EC fr lo (pc + 1) (k)) : am_V l cc nL own EC fr lo (pc) (c_aal kd k) := ⟨mo_aal h.1, fun X G S0 fin e C E => am_aaload C hk1 hk2 (ht G) hdg (h.2 X G S0 fin e C E)⟩
theorem av_aastore {kd t0 ci : Nat} {r : vw_C} (hk1 : 22 ≤ kd) (hk2 : kd < 25) (hr : am_CI ci r) (ht : ∀ G : am_G, (am_ty G)[t0]? = some (am_cl G kd, .object r.1)) (hdg : decode cc pc = .ok (.aastore, 1)) (h : am_V l cc nL own EC fr lo (pc + 1) (k)) : am_V l cc nL own EC fr lo (pc) (c_aas kd ci k) := ⟨mo_aas h.1, fun X G S0 fin e C E => am_aastore C hk1 hk2 hr (ht G) hdg (h.2 X G S0 fin e C E)⟩
theorem av_newobj {ci idx : Nat} {r : vw_C} (hr : am_CI ci r) (w1 : Cond.classLink own idx r.1 ∈ am_tb) (w2 : Cond.instantiable r.1 r.2.2 ∈ am_tb) (w3 : Cond.initialized r.1 ∈ am_tb) (hdg : decode cc pc = .ok (.new idx, 3)) (h : am_V l cc nL own EC fr lo (pc + 3) (k)) : am_V l cc nL own EC fr lo (pc) (c_new ci k) := ⟨mo_new h.1, fun X G S0 fin e C E => am_newobj C hr w1 w2 w3 hdg (h.2 X G S0 fin e C E)⟩
theorem av_newarr_int  (w1 : Cond.arrayClass .int ∈ am_tb) (hdg : decode cc pc = .ok (.newarray .int, 2)) (h : am_V l cc nL own EC fr lo (pc + 2) (k)) : am_V l cc nL own EC fr lo (pc) (c_newa 20 k) := ⟨mo_newa h.1, fun X G S0 fin e C E => am_newarr_int C w1 hdg (h.2 X G S0 fin e C E)⟩
theorem av_newarr_long  (w1 : Cond.arrayClass .long ∈ am_tb) (hdg : decode cc pc = .ok (.newarray .long, 2)) (h : am_V l cc nL own EC fr lo (pc + 2) (k)) : am_V l cc nL own EC fr lo (pc) (c_newa 21 k) := ⟨mo_newa h.1, fun X G S0 fin e C E => am_newarr_long C w1 hdg (h.2 X G S0 fin e C E)⟩
theorem av_newarr_ref {kd t0 idx : Nat} {Cn : String} (hk1 : 22 ≤ kd) (hk2 : kd < 25) (ht : ∀ G : am_G, (am_ty G)[t0]? = some (am_cl G kd, .object Cn)) (w1 : Cond.classLink own idx Cn ∈ am_tb) (w2 : Cn ∈ am_aos) (hdg : decode cc pc = .ok (.anewarray idx, 3)) (h : am_V l cc nL own EC fr lo (pc + 3) (k)) : am_V l cc nL own EC fr lo (pc) (c_newa kd k) := ⟨mo_newa h.1, fun X G S0 fin e C E => am_newarr_ref C hk1 hk2 (ht G) w1 w2 hdg (h.2 X G S0 fin e C E)⟩
theorem av_min {idx : Nat} (w1 : Cond.methodLink own idx Lib.Math.min.name ∈ am_tb) (w2 : Cond.static Lib.Math.min.name ∈ am_tb) (w3 : Cond.initialized "java/lang/Math" ∈ am_tb) (w4 : Cond.code Lib.Math.min.name Lib.Math.min.code 2 (some .int) ∈ am_tb) (hfr : 1 ≤ fr) (hlo : 21 ≤ lo) (hdg : decode cc pc = .ok (.invokestatic idx, 3)) (h : am_V l cc nL own EC fr lo (pc + 3) (k)) : am_V l cc nL own EC fr lo (pc) (c_min k) := ⟨mo_min h.1, fun X G S0 fin e C E => am_min C w1 w2 w3 w4 hfr hlo hdg (h.2 X G S0 fin e C E)⟩
theorem av_abs {idx : Nat} (w1 : Cond.methodLink own idx Lib.Math.abs.name ∈ am_tb) (w2 : Cond.static Lib.Math.abs.name ∈ am_tb) (w3 : Cond.initialized "java/lang/Math" ∈ am_tb) (w4 : Cond.code Lib.Math.abs.name Lib.Math.abs.code 1 (some .int) ∈ am_tb) (hfr : 1 ≤ fr) (hlo : 21 ≤ lo) (hdg : decode cc pc = .ok (.invokestatic idx, 3)) (h : am_V l cc nL own EC fr lo (pc + 3) (k)) : am_V l cc nL own EC fr lo (pc) (c_abs k) := ⟨mo_abs h.1, fun X G S0 fin e C E => am_abs C w1 w2 w3 w4 hfr hlo hdg (h.2 X G S0 fin e C E)⟩
theorem av_minl {idx : Nat} (w1 : Cond.methodLink own idx Lib.MathLoose.min_long.x ∈ am_tb) (w2 : Cond.static Lib.MathLoose.min_long.x ∈ am_tb) (w3 : Cond.initialized "java/lang/Math" ∈ am_tb) (w4 : Cond.code Lib.MathLoose.min_long.x Lib.MathLoose.min_long.code 4 (some .long) ∈ am_tb) (hfr : 1 ≤ fr) (hlo : 23 ≤ lo) (hdg : decode cc pc = .ok (.invokestatic idx, 3)) (h : am_V l cc nL own EC fr lo (pc + 3) (k)) : am_V l cc nL own EC fr lo (pc) (c_minl k) := ⟨mo_minl h.1, fun X G S0 fin e C E => am_minl C w1 w2 w3 w4 hfr hlo hdg (h.2 X G S0 fin e C E)⟩
theorem av_copy {idx : Nat} (w1 : Cond.methodLink own idx arraycopyName ∈ am_tb) (w2 : Cond.native arraycopyName ∈ am_tb) (w3 : Cond.static arraycopyName ∈ am_tb) (w4 : Cond.initialized "java/lang/System" ∈ am_tb) (hfr : 1 ≤ fr) (hlo : 8 + (nativeFrameWords "java/lang/System" "arraycopy" 5 + 11) ≤ lo) (hdg : decode cc pc = .ok (.invokestatic idx, 3)) (h : am_V l cc nL own EC fr lo (pc + 3) (k)) : am_V l cc nL own EC fr lo (pc) (c_copy k) := ⟨mo_copy h.1, fun X G S0 fin e C E => am_copy C w1 w2 w3 w4 hfr hlo hdg (h.2 X G S0 fin e C E)⟩
theorem av_objInit {idx : Nat} (w1 : Cond.methodLink own idx Lib.objectInit ∈ am_tb) (w2 : Cond.instanceMethod Lib.objectInit ∈ am_tb) (w3 : Cond.code Lib.objectInit ⟨#[0xb1]⟩ 1 none ∈ am_tb) (hfr : 1 ≤ fr) (hlo : 20 ≤ lo) (hdg : decode cc pc = .ok (.invokespecial idx, 3)) (h : am_V l cc nL own EC fr lo (pc + 3) (k)) : am_V l cc nL own EC fr lo (pc) (c_oinit k) := ⟨mo_oinit h.1, fun X G S0 fin e C E => am_objInit C w1 w2 w3 hfr hlo hdg (h.2 X G S0 fin e C E)⟩
theorem av_callS {y : MethodName} {bytes : ByteArray} {maxL fr' lo' idx n : Nat} {rt : Option FieldType} {f : am_F} (hT : am_HT cc nL own EC fr lo) (hM : am_M l y bytes maxL rt fr' lo' f) (hy : y.cls ≠ "java/lang/invoke/MethodHandle" ∧ y.cls ≠ "java/lang/invoke/VarHandle" ∧ (parseMethodDescriptor y.desc).map (fun d => d.parameters.length) = some n) (w1 : Cond.methodLink own idx y ∈ am_tb) (w2 : Cond.static y ∈ am_tb) (w3 : Cond.initialized y.cls ∈ am_tb) (w4 : Cond.code y bytes maxL rt ∈ am_tb) (hfr : fr' + 1 ≤ fr) (hlo : 8 + (maxL + 11) + lo' ≤ lo) (hdg : decode cc pc = .ok (.invokestatic idx, 3)) (h : am_V l cc nL own EC fr lo (pc + 3) (k)) : am_V l cc nL own EC fr lo (pc) (c_callS n f k) := ⟨mo_callS hM.1 h.1, fun X G S0 fin e C E => am_callS C (hT X G S0 fin C E) (by rw [e]; exact hM) hy w1 w2 w3 w4 hfr hlo hdg (h.2 X G S0 fin e C E)⟩
theorem av_callV {y : MethodName} {bytes : ByteArray} {maxL fr' lo' idx n ci : Nat} {rt : Option FieldType} {f : am_F} {r : vw_C} (hT : am_HT cc nL own EC fr lo) (hM : am_M l y bytes maxL rt fr' lo' f) (hr : am_CI ci r) (hy : y.cls ≠ "java/lang/invoke/MethodHandle" ∧ y.cls ≠ "java/lang/invoke/VarHandle" ∧ (parseMethodDescriptor y.desc).map (fun d => d.parameters.length) = some n) (w1 : Cond.methodLink own idx y ∈ am_tb) (w2 : Cond.instanceMethod y ∈ am_tb) (w3 : Cond.initialized y.cls ∈ am_tb) (w4 : Cond.code y bytes maxL rt ∈ am_tb) (w5 : Cond.selects r.1 y y ∈ am_tb) (hfr : fr' + 1 ≤ fr) (hlo : 8 + (maxL + 11) + lo' ≤ lo) (hdg : decode cc pc = .ok (.invokevirtual idx, 3)) (h : am_V l cc nL own EC fr lo (pc + 3) (k)) : am_V l cc nL own EC fr lo (pc) (c_callV ci n f k) := ⟨mo_callV hM.1 h.1, fun X G S0 fin e C E => am_callV C (hT X G S0 fin C E) (by rw [e]; exact hM) hr hy w1 w2 w3 w4 w5 hfr hlo hdg (h.2 X G S0 fin e C E)⟩
theorem av_callI {y : MethodName} {bytes : ByteArray} {maxL fr' lo' idx n : Nat} {f : am_F} (hM : am_M l y bytes maxL none fr' lo' f) (hy1 : y.name = "<init>") (hy : y.cls ≠ "java/lang/invoke/MethodHandle" ∧ y.cls ≠ "java/lang/invoke/VarHandle" ∧ (parseMethodDescriptor y.desc).map (fun d => d.parameters.length) = some n) (w1 : Cond.methodLink own idx y ∈ am_tb) (w2 : Cond.instanceMethod y ∈ am_tb) (w3 : Cond.initialized y.cls ∈ am_tb) (w4 : Cond.code y bytes maxL none ∈ am_tb) (hfr : fr' + 1 ≤ fr) (hlo : 8 + (maxL + 11) + lo' ≤ lo) (hdg : decode cc pc = .ok (.invokespecial idx, 3)) (h : am_V l cc nL own EC fr lo (pc + 3) (k)) : am_V l cc nL own EC fr lo (pc) (c_callI n f k) := ⟨mo_callI hM.1 h.1, fun X G S0 fin e C E => am_callI C (by rw [e]; exact hM) hy1 hy w1 w2 w3 w4 hfr hlo hdg (h.2 X G S0 fin e C E)⟩
/-- a method out of its body -/
theorem av_meth {y : MethodName} {maxL : Nat} {ret : Option FieldType} {b : am_K} (hfl : l.stackTraces = false) (hy : plainName y.cls = true) (hyo : y.cls = own) (h : am_V l cc maxL own (am_E ret y.name) fr lo 0 b) : am_M l y cc maxL ret fr lo (am_fn maxL b) :=
  am_meth hfl hy hyo h.1 (fun X G S0 fin e C E => h.2 X G S0 fin e C E)
theorem av_none : am_V l cc nL own EC fr lo pc (fun _ _ _ => none) := ⟨fun lv st S fin h => (nomatch (show (none : Option (am_O × am_S)) = some fin from h)), fun X G S0 fin _ _ _ lv st S h => (nomatch (show (none : Option (am_O × am_S)) = some fin from h))⟩
noncomputable def am_loop (body : am_K → am_K) (n : Nat) : am_K := Nat.rec (motive := fun _ => am_K) (fun _ _ _ => none) (fun _ r => body r) n
theorem am_loop_s (body : am_K → am_K) (n : Nat) : am_loop body (n + 1) = body (am_loop body n) := rfl
theorem av_loop {body : am_K → am_K} (h : ∀ r, am_V l cc nL own EC fr lo pc r → am_V l cc nL own EC fr lo pc (body r)) : ∀ n, am_V l cc nL own EC fr lo pc (am_loop body n)
  | 0 => av_none
  | n + 1 => h _ (av_loop h n)
end AV
