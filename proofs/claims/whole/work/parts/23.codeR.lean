/-! MessengerBoard$BoardReader.<init>(LMessengerBoard$Tokens;LMessengerBoard$Situation;)V -/
noncomputable def kX0_init_0 (N : Nat) : am_K := c_live [0, 1, 2] <|
  c_rld 0 <|
  c_oinit <|
  c_rld 0 <|
  c_rld 1 <|
  c_putr 0 0 <|
  c_rld 0 <|
  c_rld 2 <|
  c_putr 0 1 <|
  c_vret
noncomputable def fX0_init (N : Nat) : am_F := am_fn 3 (kX0_init_0 N)
set_option maxRecDepth 20000 in
theorem vX0_init_0 (l : Launch) (hfl : l.stackTraces = false) (N : Nat)  : am_V l cX0_init 3 RX0 (am_E none yX0_init.name) 1 60 0 (kX0_init_0 N) := by
  refine av_live ?_
  refine av_aload_n dX0_init_0 rfl ?_
  refine av_objInit q236 q25 q26 (by decide) (by decide) dX0_init_1 ?_
  refine av_aload_n dX0_init_4 rfl ?_
  refine av_aload_n dX0_init_5 rfl ?_
  refine av_putrF am_ci0 (by decide) am_f0_0 q237 (tyX0_ok 0 (by decide)) (fun _ => ⟨rfl, rfl⟩) ⟨rfl, rfl⟩ dX0_init_6 ?_
  refine av_aload_n dX0_init_9 rfl ?_
  refine av_aload_n dX0_init_10 rfl ?_
  refine av_putrF am_ci0 (by decide) am_f0_1 q238 (tyX0_ok 1 (by decide)) (fun _ => ⟨rfl, rfl⟩) ⟨rfl, rfl⟩ dX0_init_11 ?_
  exact av_return_ am_hv dX0_init_14
theorem mX0_init (l : Launch) (hfl : l.stackTraces = false) (N : Nat) : am_M l yX0_init cX0_init 3 none 1 60 (fX0_init N) := av_meth hfl (by decide +kernel) rfl (vX0_init_0 l hfl N)
/-! MessengerBoard$BoardReader.readNumber(II)I -/
noncomputable def kX0_readNumber_57 (N : Nat) : am_K := c_live [0, 1] <|
  c_rld 0 <|
  c_getr 0 0 <|
  c_i (2) <|
  c_callV 8 1 (fX8_fail N) <|
  c_ild 1 <|
  c_iret
noncomputable def kX0_readNumber_0 (N : Nat) : am_K := c_live [0, 1, 2] <|
  c_rld 0 <|
  c_getr 0 0 <|
  c_callV 8 0 (fX8_sound N) <|
  c_ifne (
  c_rld 0 <|
  c_getr 0 0 <|
  c_callV 8 0 (fX8_next N) <|
  c_rld 0 <|
  c_getr 0 0 <|
  c_callV 8 0 (fX8_isNumber N) <|
  c_ifne (
  c_rld 0 <|
  c_getr 0 0 <|
  c_callV 8 0 (fX8_value N) <|
  c_ist 3 <|
  c_ild 3 <|
  c_ild 1 <|
  c_iclt (
  kX0_readNumber_57 N) <|
  c_ild 3 <|
  c_ild 2 <|
  c_icle (
  c_ild 3 <|
  c_iret) <|
  kX0_readNumber_57 N) <|
  c_rld 0 <|
  c_getr 0 0 <|
  c_i (1) <|
  c_callV 8 1 (fX8_fail N) <|
  c_ild 1 <|
  c_iret) <|
  c_ild 1 <|
  c_iret
noncomputable def fX0_readNumber (N : Nat) : am_F := am_fn 4 (kX0_readNumber_0 N)
set_option maxRecDepth 20000 in
theorem vX0_readNumber_57 (l : Launch) (hfl : l.stackTraces = false) (N : Nat)  : am_V l cX0_readNumber 4 RX0 (am_E (some .int) yX0_readNumber.name) 3 102 57 (kX0_readNumber_57 N) := by
  refine av_live ?_
  refine av_aload_n dX0_readNumber_57 rfl ?_
  refine av_getr am_ci0 (by decide) am_f0_0 q237 dX0_readNumber_58 ?_
  refine av_iconst (v := 2) dX0_readNumber_61 (by decide) ?_
  refine av_callV am_hT (mX8_fail l hfl N) am_ci8 ⟨by decide +kernel, by decide +kernel, by decide +kernel⟩ q255 q256 q53 q257 q258 (by decide) (by decide) dX0_readNumber_62 ?_
  refine av_iload_n dX0_readNumber_65 rfl ?_
  exact av_ireturn am_hi dX0_readNumber_66
set_option maxRecDepth 20000 in
theorem vX0_readNumber_0 (l : Launch) (hfl : l.stackTraces = false) (N : Nat)  : am_V l cX0_readNumber 4 RX0 (am_E (some .int) yX0_readNumber.name) 3 102 0 (kX0_readNumber_0 N) := by
  refine av_live ?_
  refine av_aload_n dX0_readNumber_0 rfl ?_
  refine av_getr am_ci0 (by decide) am_f0_0 q237 dX0_readNumber_1 ?_
  refine av_callV am_hT (mX8_sound l hfl N) am_ci8 ⟨by decide +kernel, by decide +kernel, by decide +kernel⟩ q239 q240 q53 q241 q242 (by decide) (by decide) dX0_readNumber_4 ?_
  refine av_ifne (tgt := 12) dX0_readNumber_7 (by decide) ?_ ?_
  · refine av_aload_n dX0_readNumber_12 rfl ?_
    refine av_getr am_ci0 (by decide) am_f0_0 q237 dX0_readNumber_13 ?_
    refine av_callV am_hT (mX8_next l hfl N) am_ci8 ⟨by decide +kernel, by decide +kernel, by decide +kernel⟩ q243 q244 q53 q245 q246 (by decide) (by decide) dX0_readNumber_16 ?_
    refine av_aload_n dX0_readNumber_19 rfl ?_
    refine av_getr am_ci0 (by decide) am_f0_0 q237 dX0_readNumber_20 ?_
    refine av_callV am_hT (mX8_isNumber l hfl N) am_ci8 ⟨by decide +kernel, by decide +kernel, by decide +kernel⟩ q247 q248 q53 q249 q250 (by decide) (by decide) dX0_readNumber_23 ?_
    refine av_ifne (tgt := 39) dX0_readNumber_26 (by decide) ?_ ?_
    · refine av_aload_n dX0_readNumber_39 rfl ?_
      refine av_getr am_ci0 (by decide) am_f0_0 q237 dX0_readNumber_40 ?_
      refine av_callV am_hT (mX8_value l hfl N) am_ci8 ⟨by decide +kernel, by decide +kernel, by decide +kernel⟩ q251 q252 q53 q253 q254 (by decide) (by decide) dX0_readNumber_43 ?_
      refine av_istore_n dX0_readNumber_46 rfl (by decide) ?_
      refine av_iload_n dX0_readNumber_47 rfl ?_
      refine av_iload_n dX0_readNumber_48 rfl ?_
      refine av_iclt (tgt := 57) dX0_readNumber_49 (by decide) ?_ ?_
      · exact vX0_readNumber_57 l hfl N
      refine av_iload_n dX0_readNumber_52 rfl ?_
      refine av_iload_n dX0_readNumber_53 rfl ?_
      refine av_icle (tgt := 67) dX0_readNumber_54 (by decide) ?_ ?_
      · refine av_iload_n dX0_readNumber_67 rfl ?_
        exact av_ireturn am_hi dX0_readNumber_68
      exact vX0_readNumber_57 l hfl N
    refine av_aload_n dX0_readNumber_29 rfl ?_
    refine av_getr am_ci0 (by decide) am_f0_0 q237 dX0_readNumber_30 ?_
    refine av_iconst (v := 1) dX0_readNumber_33 (by decide) ?_
    refine av_callV am_hT (mX8_fail l hfl N) am_ci8 ⟨by decide +kernel, by decide +kernel, by decide +kernel⟩ q255 q256 q53 q257 q258 (by decide) (by decide) dX0_readNumber_34 ?_
    refine av_iload_n dX0_readNumber_37 rfl ?_
    exact av_ireturn am_hi dX0_readNumber_38
  refine av_iload_n dX0_readNumber_10 rfl ?_
  exact av_ireturn am_hi dX0_readNumber_11
theorem mX0_readNumber (l : Launch) (hfl : l.stackTraces = false) (N : Nat) : am_M l yX0_readNumber cX0_readNumber 4 (some .int) 3 102 (fX0_readNumber N) := av_meth hfl (by decide +kernel) rfl (vX0_readNumber_0 l hfl N)
/-! MessengerBoard$BoardReader.readSemicolon()V -/
noncomputable def kX0_readSemicolon_38 (N : Nat) : am_K := c_live [] <|
  c_vret
noncomputable def kX0_readSemicolon_0 (N : Nat) : am_K := c_live [0] <|
  c_rld 0 <|
  c_getr 0 0 <|
  c_callV 8 0 (fX8_sound N) <|
  c_ifne (
  c_rld 0 <|
  c_getr 0 0 <|
  c_callV 8 0 (fX8_next N) <|
  c_rld 0 <|
  c_getr 0 0 <|
  c_i (59) <|
  c_callV 8 1 (fX8_isSign N) <|
  c_ifne (
  kX0_readSemicolon_38 N) <|
  c_rld 0 <|
  c_getr 0 0 <|
  c_i (1) <|
  c_callV 8 1 (fX8_fail N) <|
  kX0_readSemicolon_38 N) <|
  c_vret
noncomputable def fX0_readSemicolon (N : Nat) : am_F := am_fn 1 (kX0_readSemicolon_0 N)
set_option maxRecDepth 20000 in
theorem vX0_readSemicolon_38 (l : Launch) (hfl : l.stackTraces = false) (N : Nat)  : am_V l cX0_readSemicolon 1 RX0 (am_E none yX0_readSemicolon.name) 3 102 38 (kX0_readSemicolon_38 N) := by
  refine av_live ?_
  exact av_return_ am_hv dX0_readSemicolon_38
set_option maxRecDepth 20000 in
theorem vX0_readSemicolon_0 (l : Launch) (hfl : l.stackTraces = false) (N : Nat)  : am_V l cX0_readSemicolon 1 RX0 (am_E none yX0_readSemicolon.name) 3 102 0 (kX0_readSemicolon_0 N) := by
  refine av_live ?_
  refine av_aload_n dX0_readSemicolon_0 rfl ?_
  refine av_getr am_ci0 (by decide) am_f0_0 q237 dX0_readSemicolon_1 ?_
  refine av_callV am_hT (mX8_sound l hfl N) am_ci8 ⟨by decide +kernel, by decide +kernel, by decide +kernel⟩ q239 q240 q53 q241 q242 (by decide) (by decide) dX0_readSemicolon_4 ?_
  refine av_ifne (tgt := 11) dX0_readSemicolon_7 (by decide) ?_ ?_
  · refine av_aload_n dX0_readSemicolon_11 rfl ?_
    refine av_getr am_ci0 (by decide) am_f0_0 q237 dX0_readSemicolon_12 ?_
    refine av_callV am_hT (mX8_next l hfl N) am_ci8 ⟨by decide +kernel, by decide +kernel, by decide +kernel⟩ q243 q244 q53 q245 q246 (by decide) (by decide) dX0_readSemicolon_15 ?_
    refine av_aload_n dX0_readSemicolon_18 rfl ?_
    refine av_getr am_ci0 (by decide) am_f0_0 q237 dX0_readSemicolon_19 ?_
    refine av_bipush (v := 59) dX0_readSemicolon_22 (by decide) ?_
    refine av_callV am_hT (mX8_isSign l hfl N) am_ci8 ⟨by decide +kernel, by decide +kernel, by decide +kernel⟩ q259 q260 q53 q261 q262 (by decide) (by decide) dX0_readSemicolon_24 ?_
    refine av_ifne (tgt := 38) dX0_readSemicolon_27 (by decide) ?_ ?_
    · exact vX0_readSemicolon_38 l hfl N
    refine av_aload_n dX0_readSemicolon_30 rfl ?_
    refine av_getr am_ci0 (by decide) am_f0_0 q237 dX0_readSemicolon_31 ?_
    refine av_iconst (v := 1) dX0_readSemicolon_34 (by decide) ?_
    refine av_callV am_hT (mX8_fail l hfl N) am_ci8 ⟨by decide +kernel, by decide +kernel, by decide +kernel⟩ q255 q256 q53 q257 q258 (by decide) (by decide) dX0_readSemicolon_35 ?_
    exact vX0_readSemicolon_38 l hfl N
  exact av_return_ am_hv dX0_readSemicolon_10
theorem mX0_readSemicolon (l : Launch) (hfl : l.stackTraces = false) (N : Nat) : am_M l yX0_readSemicolon cX0_readSemicolon 1 none 3 102 (fX0_readSemicolon N) := av_meth hfl (by decide +kernel) rfl (vX0_readSemicolon_0 l hfl N)
/-! MessengerBoard$BoardReader.readColumn()I -/
noncomputable def kX0_readColumn_0 (N : Nat) : am_K := c_live [0] <|
  c_rld 0 <|
  c_i (0) <|
  c_rld 0 <|
  c_getr 0 1 <|
  c_geti 6 0 <|
  c_i (1) <|
  c_ii (fun x y => x - y) <|
  c_callV 0 2 (fX0_readNumber N) <|
  c_iret
noncomputable def fX0_readColumn (N : Nat) : am_F := am_fn 1 (kX0_readColumn_0 N)
set_option maxRecDepth 20000 in
theorem vX0_readColumn_0 (l : Launch) (hfl : l.stackTraces = false) (N : Nat)  : am_V l cX0_readColumn 1 RX0 (am_E (some .int) yX0_readColumn.name) 4 125 0 (kX0_readColumn_0 N) := by
  refine av_live ?_
  refine av_aload_n dX0_readColumn_0 rfl ?_
  refine av_iconst (v := 0) dX0_readColumn_1 (by decide) ?_
  refine av_aload_n dX0_readColumn_2 rfl ?_
  refine av_getr am_ci0 (by decide) am_f0_1 q238 dX0_readColumn_3 ?_
  refine av_geti am_ci6 (by decide) am_f6_0 q263 dX0_readColumn_6 ?_
  refine av_iconst (v := 1) dX0_readColumn_9 (by decide) ?_
  refine av_isub dX0_readColumn_10 ?_
  refine av_callV am_hT (mX0_readNumber l hfl N) am_ci0 ⟨by decide +kernel, by decide +kernel, by decide +kernel⟩ q264 q265 q266 q267 q268 (by decide) (by decide) dX0_readColumn_11 ?_
  exact av_ireturn am_hi dX0_readColumn_14
theorem mX0_readColumn (l : Launch) (hfl : l.stackTraces = false) (N : Nat) : am_M l yX0_readColumn cX0_readColumn 1 (some .int) 4 125 (fX0_readColumn N) := av_meth hfl (by decide +kernel) rfl (vX0_readColumn_0 l hfl N)
/-! MessengerBoard$BoardReader.readRow()I -/
noncomputable def kX0_readRow_0 (N : Nat) : am_K := c_live [0] <|
  c_rld 0 <|
  c_i (0) <|
  c_rld 0 <|
  c_getr 0 1 <|
  c_geti 6 1 <|
  c_i (1) <|
  c_ii (fun x y => x - y) <|
  c_callV 0 2 (fX0_readNumber N) <|
  c_iret
noncomputable def fX0_readRow (N : Nat) : am_F := am_fn 1 (kX0_readRow_0 N)
set_option maxRecDepth 20000 in
theorem vX0_readRow_0 (l : Launch) (hfl : l.stackTraces = false) (N : Nat)  : am_V l cX0_readRow 1 RX0 (am_E (some .int) yX0_readRow.name) 4 125 0 (kX0_readRow_0 N) := by
  refine av_live ?_
  refine av_aload_n dX0_readRow_0 rfl ?_
  refine av_iconst (v := 0) dX0_readRow_1 (by decide) ?_
  refine av_aload_n dX0_readRow_2 rfl ?_
  refine av_getr am_ci0 (by decide) am_f0_1 q238 dX0_readRow_3 ?_
  refine av_geti am_ci6 (by decide) am_f6_1 q269 dX0_readRow_6 ?_
  refine av_iconst (v := 1) dX0_readRow_9 (by decide) ?_
  refine av_isub dX0_readRow_10 ?_
  refine av_callV am_hT (mX0_readNumber l hfl N) am_ci0 ⟨by decide +kernel, by decide +kernel, by decide +kernel⟩ q264 q265 q266 q267 q268 (by decide) (by decide) dX0_readRow_11 ?_
  exact av_ireturn am_hi dX0_readRow_14
theorem mX0_readRow (l : Launch) (hfl : l.stackTraces = false) (N : Nat) : am_M l yX0_readRow cX0_readRow 1 (some .int) 4 125 (fX0_readRow N) := av_meth hfl (by decide +kernel) rfl (vX0_readRow_0 l hfl N)
/-! MessengerBoard$BoardReader.readWall()V -/
noncomputable def kX0_readWall_74 (N : Nat) : am_K := c_live [] <|
  c_vret
noncomputable def kX0_readWall_55 (N : Nat) : am_K := c_live [0, 1, 2] <|
  c_rld 0 <|
  c_getr 0 0 <|
  c_callV 8 0 (fX8_sound N) <|
  c_ifeq (
  kX0_readWall_74 N) <|
  c_rld 0 <|
  c_getr 0 1 <|
  c_ild 1 <|
  c_ild 2 <|
  c_callV 6 2 (fX6_turnWall N) <|
  kX0_readWall_74 N
noncomputable def kX0_readWall_47 (N : Nat) : am_K := c_live [0, 1, 2] <|
  c_rld 0 <|
  c_getr 0 0 <|
  c_i (4) <|
  c_callV 8 1 (fX8_fail N) <|
  kX0_readWall_55 N
noncomputable def kX0_readWall_0 (N : Nat) : am_K := c_live [0] <|
  c_rld 0 <|
  c_callV 0 0 (fX0_readColumn N) <|
  c_ist 1 <|
  c_rld 0 <|
  c_callV 0 0 (fX0_readRow N) <|
  c_ist 2 <|
  c_rld 0 <|
  c_getr 0 1 <|
  c_ild 1 <|
  c_ild 2 <|
  c_callV 6 2 (fX6_walled N) <|
  c_ifne (
  kX0_readWall_47 N) <|
  c_rld 0 <|
  c_getr 0 1 <|
  c_ild 1 <|
  c_ild 2 <|
  c_callV 6 2 (fX6_isHeadquarters N) <|
  c_ifne (
  kX0_readWall_47 N) <|
  c_rld 0 <|
  c_getr 0 1 <|
  c_ild 1 <|
  c_ild 2 <|
  c_callV 6 2 (fX6_lowestUnitAt N) <|
  c_i (-1) <|
  c_iceq (
  kX0_readWall_55 N) <|
  kX0_readWall_47 N
noncomputable def fX0_readWall (N : Nat) : am_F := am_fn 3 (kX0_readWall_0 N)
set_option maxRecDepth 20000 in
theorem vX0_readWall_74 (l : Launch) (hfl : l.stackTraces = false) (N : Nat)  : am_V l cX0_readWall 3 RX0 (am_E none yX0_readWall.name) 5 145 74 (kX0_readWall_74 N) := by
  refine av_live ?_
  exact av_return_ am_hv dX0_readWall_74
set_option maxRecDepth 20000 in
theorem vX0_readWall_55 (l : Launch) (hfl : l.stackTraces = false) (N : Nat)  : am_V l cX0_readWall 3 RX0 (am_E none yX0_readWall.name) 5 145 55 (kX0_readWall_55 N) := by
  refine av_live ?_
  refine av_aload_n dX0_readWall_55 rfl ?_
  refine av_getr am_ci0 (by decide) am_f0_0 q237 dX0_readWall_56 ?_
  refine av_callV am_hT (mX8_sound l hfl N) am_ci8 ⟨by decide +kernel, by decide +kernel, by decide +kernel⟩ q239 q240 q53 q241 q242 (by decide) (by decide) dX0_readWall_59 ?_
  refine av_ifeq (tgt := 74) dX0_readWall_62 (by decide) ?_ ?_
  · exact vX0_readWall_74 l hfl N
  refine av_aload_n dX0_readWall_65 rfl ?_
  refine av_getr am_ci0 (by decide) am_f0_1 q238 dX0_readWall_66 ?_
  refine av_iload_n dX0_readWall_69 rfl ?_
  refine av_iload_n dX0_readWall_70 rfl ?_
  refine av_callV am_hT (mX6_turnWall l hfl N) am_ci6 ⟨by decide +kernel, by decide +kernel, by decide +kernel⟩ q279 q280 q126 q281 q282 (by decide) (by decide) dX0_readWall_71 ?_
  exact vX0_readWall_74 l hfl N
set_option maxRecDepth 20000 in
theorem vX0_readWall_47 (l : Launch) (hfl : l.stackTraces = false) (N : Nat)  : am_V l cX0_readWall 3 RX0 (am_E none yX0_readWall.name) 5 145 47 (kX0_readWall_47 N) := by
  refine av_live ?_
  refine av_aload_n dX0_readWall_47 rfl ?_
  refine av_getr am_ci0 (by decide) am_f0_0 q237 dX0_readWall_48 ?_
  refine av_iconst (v := 4) dX0_readWall_51 (by decide) ?_
  refine av_callV am_hT (mX8_fail l hfl N) am_ci8 ⟨by decide +kernel, by decide +kernel, by decide +kernel⟩ q255 q256 q53 q257 q258 (by decide) (by decide) dX0_readWall_52 ?_
  exact vX0_readWall_55 l hfl N
set_option maxRecDepth 20000 in
theorem vX0_readWall_0 (l : Launch) (hfl : l.stackTraces = false) (N : Nat)  : am_V l cX0_readWall 3 RX0 (am_E none yX0_readWall.name) 5 145 0 (kX0_readWall_0 N) := by
  refine av_live ?_
  refine av_aload_n dX0_readWall_0 rfl ?_
  refine av_callV am_hT (mX0_readColumn l hfl N) am_ci0 ⟨by decide +kernel, by decide +kernel, by decide +kernel⟩ q270 q271 q266 q272 q273 (by decide) (by decide) dX0_readWall_1 ?_
  refine av_istore_n dX0_readWall_4 rfl (by decide) ?_
  refine av_aload_n dX0_readWall_5 rfl ?_
  refine av_callV am_hT (mX0_readRow l hfl N) am_ci0 ⟨by decide +kernel, by decide +kernel, by decide +kernel⟩ q274 q275 q266 q276 q277 (by decide) (by decide) dX0_readWall_6 ?_
  refine av_istore_n dX0_readWall_9 rfl (by decide) ?_
  refine av_aload_n dX0_readWall_10 rfl ?_
  refine av_getr am_ci0 (by decide) am_f0_1 q238 dX0_readWall_11 ?_
  refine av_iload_n dX0_readWall_14 rfl ?_
  refine av_iload_n dX0_readWall_15 rfl ?_
  refine av_callV am_hT (mX6_walled l hfl N) am_ci6 ⟨by decide +kernel, by decide +kernel, by decide +kernel⟩ q278 q164 q126 q165 q166 (by decide) (by decide) dX0_readWall_16 ?_
  refine av_ifne (tgt := 47) dX0_readWall_19 (by decide) ?_ ?_
  · exact vX0_readWall_47 l hfl N
  refine av_aload_n dX0_readWall_22 rfl ?_
  refine av_getr am_ci0 (by decide) am_f0_1 q238 dX0_readWall_23 ?_
  refine av_iload_n dX0_readWall_26 rfl ?_
  refine av_iload_n dX0_readWall_27 rfl ?_
  refine av_callV am_hT (mX6_isHeadquarters l hfl N) am_ci6 ⟨by decide +kernel, by decide +kernel, by decide +kernel⟩ q283 q284 q126 q285 q286 (by decide) (by decide) dX0_readWall_28 ?_
  refine av_ifne (tgt := 47) dX0_readWall_31 (by decide) ?_ ?_
  · exact vX0_readWall_47 l hfl N
  refine av_aload_n dX0_readWall_34 rfl ?_
  refine av_getr am_ci0 (by decide) am_f0_1 q238 dX0_readWall_35 ?_
  refine av_iload_n dX0_readWall_38 rfl ?_
  refine av_iload_n dX0_readWall_39 rfl ?_
  refine av_callV am_hT (mX6_lowestUnitAt l hfl N) am_ci6 ⟨by decide +kernel, by decide +kernel, by decide +kernel⟩ q287 q288 q126 q289 q290 (by decide) (by decide) dX0_readWall_40 ?_
  refine av_iconst (v := -1) dX0_readWall_43 (by decide) ?_
  refine av_iceq (tgt := 55) dX0_readWall_44 (by decide) ?_ ?_
  · exact vX0_readWall_55 l hfl N
  exact vX0_readWall_47 l hfl N
theorem mX0_readWall (l : Launch) (hfl : l.stackTraces = false) (N : Nat) : am_M l yX0_readWall cX0_readWall 3 none 5 145 (fX0_readWall N) := av_meth hfl (by decide +kernel) rfl (vX0_readWall_0 l hfl N)
/-! MessengerBoard$BoardReader.readFreeRow(I)I -/
noncomputable def kX0_readFreeRow_35 (N : Nat) : am_K := c_live [2] <|
  c_ild 2 <|
  c_iret
noncomputable def kX0_readFreeRow_0 (N : Nat) : am_K := c_live [0, 1] <|
  c_rld 0 <|
  c_i (0) <|
  c_rld 0 <|
  c_getr 0 1 <|
  c_geti 6 1 <|
  c_i (1) <|
  c_ii (fun x y => x - y) <|
  c_callV 0 2 (fX0_readNumber N) <|
  c_ist 2 <|
  c_rld 0 <|
  c_getr 0 1 <|
  c_ild 1 <|
  c_ild 2 <|
  c_callV 6 2 (fX6_walled N) <|
  c_ifeq (
  kX0_readFreeRow_35 N) <|
  c_rld 0 <|
  c_getr 0 0 <|
  c_i (4) <|
  c_callV 8 1 (fX8_fail N) <|
  kX0_readFreeRow_35 N
noncomputable def fX0_readFreeRow (N : Nat) : am_F := am_fn 3 (kX0_readFreeRow_0 N)
set_option maxRecDepth 20000 in
theorem vX0_readFreeRow_35 (l : Launch) (hfl : l.stackTraces = false) (N : Nat)  : am_V l cX0_readFreeRow 3 RX0 (am_E (some .int) yX0_readFreeRow.name) 4 125 35 (kX0_readFreeRow_35 N) := by
  refine av_live ?_
  refine av_iload_n dX0_readFreeRow_35 rfl ?_
  exact av_ireturn am_hi dX0_readFreeRow_36
set_option maxRecDepth 20000 in
theorem vX0_readFreeRow_0 (l : Launch) (hfl : l.stackTraces = false) (N : Nat)  : am_V l cX0_readFreeRow 3 RX0 (am_E (some .int) yX0_readFreeRow.name) 4 125 0 (kX0_readFreeRow_0 N) := by
  refine av_live ?_
  refine av_aload_n dX0_readFreeRow_0 rfl ?_
  refine av_iconst (v := 0) dX0_readFreeRow_1 (by decide) ?_
  refine av_aload_n dX0_readFreeRow_2 rfl ?_
  refine av_getr am_ci0 (by decide) am_f0_1 q238 dX0_readFreeRow_3 ?_
  refine av_geti am_ci6 (by decide) am_f6_1 q269 dX0_readFreeRow_6 ?_
  refine av_iconst (v := 1) dX0_readFreeRow_9 (by decide) ?_
  refine av_isub dX0_readFreeRow_10 ?_
  refine av_callV am_hT (mX0_readNumber l hfl N) am_ci0 ⟨by decide +kernel, by decide +kernel, by decide +kernel⟩ q264 q265 q266 q267 q268 (by decide) (by decide) dX0_readFreeRow_11 ?_
  refine av_istore_n dX0_readFreeRow_14 rfl (by decide) ?_
  refine av_aload_n dX0_readFreeRow_15 rfl ?_
  refine av_getr am_ci0 (by decide) am_f0_1 q238 dX0_readFreeRow_16 ?_
  refine av_iload_n dX0_readFreeRow_19 rfl ?_
  refine av_iload_n dX0_readFreeRow_20 rfl ?_
  refine av_callV am_hT (mX6_walled l hfl N) am_ci6 ⟨by decide +kernel, by decide +kernel, by decide +kernel⟩ q278 q164 q126 q165 q166 (by decide) (by decide) dX0_readFreeRow_21 ?_
  refine av_ifeq (tgt := 35) dX0_readFreeRow_24 (by decide) ?_ ?_
  · exact vX0_readFreeRow_35 l hfl N
  refine av_aload_n dX0_readFreeRow_27 rfl ?_
  refine av_getr am_ci0 (by decide) am_f0_0 q237 dX0_readFreeRow_28 ?_
  refine av_iconst (v := 4) dX0_readFreeRow_31 (by decide) ?_
  refine av_callV am_hT (mX8_fail l hfl N) am_ci8 ⟨by decide +kernel, by decide +kernel, by decide +kernel⟩ q255 q256 q53 q257 q258 (by decide) (by decide) dX0_readFreeRow_32 ?_
  exact vX0_readFreeRow_35 l hfl N
theorem mX0_readFreeRow (l : Launch) (hfl : l.stackTraces = false) (N : Nat) : am_M l yX0_readFreeRow cX0_readFreeRow 3 (some .int) 4 125 (fX0_readFreeRow N) := av_meth hfl (by decide +kernel) rfl (vX0_readFreeRow_0 l hfl N)
/-! MessengerBoard$BoardReader.readHeadquarters()V -/
noncomputable def kX0_readHeadquarters_0 (N : Nat) : am_K := c_live [0] <|
  c_rld 0 <|
  c_callV 0 0 (fX0_readColumn N) <|
  c_ist 1 <|
  c_rld 0 <|
  c_ild 1 <|
  c_callV 0 1 (fX0_readFreeRow N) <|
  c_ist 2 <|
  c_rld 0 <|
  c_getr 0 1 <|
  c_ild 1 <|
  c_puti 6 2 <|
  c_rld 0 <|
  c_getr 0 1 <|
  c_ild 2 <|
  c_puti 6 3 <|
  c_vret
noncomputable def fX0_readHeadquarters (N : Nat) : am_F := am_fn 3 (kX0_readHeadquarters_0 N)
set_option maxRecDepth 20000 in
theorem vX0_readHeadquarters_0 (l : Launch) (hfl : l.stackTraces = false) (N : Nat)  : am_V l cX0_readHeadquarters 3 RX0 (am_E none yX0_readHeadquarters.name) 5 147 0 (kX0_readHeadquarters_0 N) := by
  refine av_live ?_
  refine av_aload_n dX0_readHeadquarters_0 rfl ?_
  refine av_callV am_hT (mX0_readColumn l hfl N) am_ci0 ⟨by decide +kernel, by decide +kernel, by decide +kernel⟩ q270 q271 q266 q272 q273 (by decide) (by decide) dX0_readHeadquarters_1 ?_
  refine av_istore_n dX0_readHeadquarters_4 rfl (by decide) ?_
  refine av_aload_n dX0_readHeadquarters_5 rfl ?_
  refine av_iload_n dX0_readHeadquarters_6 rfl ?_
  refine av_callV am_hT (mX0_readFreeRow l hfl N) am_ci0 ⟨by decide +kernel, by decide +kernel, by decide +kernel⟩ q291 q292 q266 q293 q294 (by decide) (by decide) dX0_readHeadquarters_7 ?_
  refine av_istore_n dX0_readHeadquarters_10 rfl (by decide) ?_
  refine av_aload_n dX0_readHeadquarters_11 rfl ?_
  refine av_getr am_ci0 (by decide) am_f0_1 q238 dX0_readHeadquarters_12 ?_
  refine av_iload_n dX0_readHeadquarters_15 rfl ?_
  refine av_puti am_ci6 (by decide) am_f6_2 q295 (tyX6_ok 2 (by decide)) rfl dX0_readHeadquarters_16 ?_
  refine av_aload_n dX0_readHeadquarters_19 rfl ?_
  refine av_getr am_ci0 (by decide) am_f0_1 q238 dX0_readHeadquarters_20 ?_
  refine av_iload_n dX0_readHeadquarters_23 rfl ?_
  refine av_puti am_ci6 (by decide) am_f6_3 q296 (tyX6_ok 3 (by decide)) rfl dX0_readHeadquarters_24 ?_
  exact av_return_ am_hv dX0_readHeadquarters_27
theorem mX0_readHeadquarters (l : Launch) (hfl : l.stackTraces = false) (N : Nat) : am_M l yX0_readHeadquarters cX0_readHeadquarters 3 none 5 147 (fX0_readHeadquarters N) := av_meth hfl (by decide +kernel) rfl (vX0_readHeadquarters_0 l hfl N)
/-! MessengerBoard$BoardReader.readUnit()V -/
noncomputable def kX0_readUnit_23 (N : Nat) : am_K := c_live [0] <|
  c_rld 0 <|
  c_callV 0 0 (fX0_readColumn N) <|
  c_ist 1 <|
  c_rld 0 <|
  c_ild 1 <|
  c_callV 0 1 (fX0_readFreeRow N) <|
  c_ist 2 <|
  c_rld 0 <|
  c_i (1) <|
  c_i (3) <|
  c_callV 0 2 (fX0_readNumber N) <|
  c_ist 3 <|
  c_rld 0 <|
  c_getr 0 1 <|
  c_ild 1 <|
  c_ild 2 <|
  c_ild 3 <|
  c_callV 6 3 (fX6_addUnit N) <|
  c_pop <|
  c_vret
noncomputable def kX0_readUnit_0 (N : Nat) : am_K := c_live [0] <|
  c_rld 0 <|
  c_getr 0 1 <|
  c_getr 6 8 <|
  c_callV 7 0 (fX7_count N) <|
  c_i (6) <|
  c_iclt (
  kX0_readUnit_23 N) <|
  c_rld 0 <|
  c_getr 0 0 <|
  c_i (3) <|
  c_callV 8 1 (fX8_fail N) <|
  kX0_readUnit_23 N
noncomputable def fX0_readUnit (N : Nat) : am_F := am_fn 4 (kX0_readUnit_0 N)
set_option maxRecDepth 20000 in
theorem vX0_readUnit_23 (l : Launch) (hfl : l.stackTraces = false) (N : Nat)  : am_V l cX0_readUnit 4 RX0 (am_E none yX0_readUnit.name) 5 147 23 (kX0_readUnit_23 N) := by
  refine av_live ?_
  refine av_aload_n dX0_readUnit_23 rfl ?_
  refine av_callV am_hT (mX0_readColumn l hfl N) am_ci0 ⟨by decide +kernel, by decide +kernel, by decide +kernel⟩ q270 q271 q266 q272 q273 (by decide) (by decide) dX0_readUnit_24 ?_
  refine av_istore_n dX0_readUnit_27 rfl (by decide) ?_
  refine av_aload_n dX0_readUnit_28 rfl ?_
  refine av_iload_n dX0_readUnit_29 rfl ?_
  refine av_callV am_hT (mX0_readFreeRow l hfl N) am_ci0 ⟨by decide +kernel, by decide +kernel, by decide +kernel⟩ q291 q292 q266 q293 q294 (by decide) (by decide) dX0_readUnit_30 ?_
  refine av_istore_n dX0_readUnit_33 rfl (by decide) ?_
  refine av_aload_n dX0_readUnit_34 rfl ?_
  refine av_iconst (v := 1) dX0_readUnit_35 (by decide) ?_
  refine av_iconst (v := 3) dX0_readUnit_36 (by decide) ?_
  refine av_callV am_hT (mX0_readNumber l hfl N) am_ci0 ⟨by decide +kernel, by decide +kernel, by decide +kernel⟩ q264 q265 q266 q267 q268 (by decide) (by decide) dX0_readUnit_37 ?_
  refine av_istore_n dX0_readUnit_40 rfl (by decide) ?_
  refine av_aload_n dX0_readUnit_41 rfl ?_
  refine av_getr am_ci0 (by decide) am_f0_1 q238 dX0_readUnit_42 ?_
  refine av_iload_n dX0_readUnit_45 rfl ?_
  refine av_iload_n dX0_readUnit_46 rfl ?_
  refine av_iload_n dX0_readUnit_47 rfl ?_
  refine av_callV am_hT (mX6_addUnit l hfl N) am_ci6 ⟨by decide +kernel, by decide +kernel, by decide +kernel⟩ q299 q300 q126 q301 q302 (by decide) (by decide) dX0_readUnit_48 ?_
  refine av_pop dX0_readUnit_51 ?_
  exact av_return_ am_hv dX0_readUnit_52
set_option maxRecDepth 20000 in
theorem vX0_readUnit_0 (l : Launch) (hfl : l.stackTraces = false) (N : Nat)  : am_V l cX0_readUnit 4 RX0 (am_E none yX0_readUnit.name) 5 147 0 (kX0_readUnit_0 N) := by
  refine av_live ?_
  refine av_aload_n dX0_readUnit_0 rfl ?_
  refine av_getr am_ci0 (by decide) am_f0_1 q238 dX0_readUnit_1 ?_
  refine av_getr am_ci6 (by decide) am_f6_8 q297 dX0_readUnit_4 ?_
  refine av_callV am_hT (mX7_count l hfl N) am_ci7 ⟨by decide +kernel, by decide +kernel, by decide +kernel⟩ q298 q90 q73 q91 q92 (by decide) (by decide) dX0_readUnit_7 ?_
  refine av_bipush (v := 6) dX0_readUnit_10 (by decide) ?_
  refine av_iclt (tgt := 23) dX0_readUnit_12 (by decide) ?_ ?_
  · exact vX0_readUnit_23 l hfl N
  refine av_aload_n dX0_readUnit_15 rfl ?_
  refine av_getr am_ci0 (by decide) am_f0_0 q237 dX0_readUnit_16 ?_
  refine av_iconst (v := 3) dX0_readUnit_19 (by decide) ?_
  refine av_callV am_hT (mX8_fail l hfl N) am_ci8 ⟨by decide +kernel, by decide +kernel, by decide +kernel⟩ q255 q256 q53 q257 q258 (by decide) (by decide) dX0_readUnit_20 ?_
  exact vX0_readUnit_23 l hfl N
theorem mX0_readUnit (l : Launch) (hfl : l.stackTraces = false) (N : Nat) : am_M l yX0_readUnit cX0_readUnit 4 none 5 147 (fX0_readUnit N) := av_meth hfl (by decide +kernel) rfl (vX0_readUnit_0 l hfl N)
/-! MessengerBoard$BoardReader.readPicket()V -/
noncomputable def kX0_readPicket_150 (N : Nat) : am_K := c_live [0, 1, 4] <|
  c_rld 0 <|
  c_getr 0 1 <|
  c_getr 6 9 <|
  c_ild 1 <|
  c_i (5) <|
  c_ild 4 <|
  c_callV 7 3 (fX7_put N) <|
  c_rld 0 <|
  c_getr 0 1 <|
  c_getr 6 9 <|
  c_ild 1 <|
  c_i (7) <|
  c_i (0) <|
  c_callV 7 3 (fX7_put N) <|
  c_vret
noncomputable def kX0_readPicket_22 (N : Nat) : am_K := c_live [0] <|
  c_rld 0 <|
  c_getr 0 1 <|
  c_getr 6 9 <|
  c_callV 7 0 (fX7_add N) <|
  c_ist 1 <|
  c_rld 0 <|
  c_getr 0 1 <|
  c_getr 6 9 <|
  c_ild 1 <|
  c_i (0) <|
  c_rld 0 <|
  c_callV 0 0 (fX0_readColumn N) <|
  c_callV 7 3 (fX7_put N) <|
  c_rld 0 <|
  c_getr 0 1 <|
  c_getr 6 9 <|
  c_ild 1 <|
  c_i (1) <|
  c_rld 0 <|
  c_callV 0 0 (fX0_readRow N) <|
  c_callV 7 3 (fX7_put N) <|
  c_rld 0 <|
  c_getr 0 1 <|
  c_getr 6 9 <|
  c_ild 1 <|
  c_i (2) <|
  c_rld 0 <|
  c_i (0) <|
  c_i (3) <|
  c_callV 0 2 (fX0_readNumber N) <|
  c_callV 7 3 (fX7_put N) <|
  c_rld 0 <|
  c_i (1) <|
  c_i (20) <|
  c_callV 0 2 (fX0_readNumber N) <|
  c_ist 2 <|
  c_rld 0 <|
  c_getr 0 1 <|
  c_getr 6 9 <|
  c_ild 1 <|
  c_i (3) <|
  c_ild 2 <|
  c_callV 7 3 (fX7_put N) <|
  c_rld 0 <|
  c_i (0) <|
  c_ild 2 <|
  c_i (1) <|
  c_ii (fun x y => x - y) <|
  c_callV 0 2 (fX0_readNumber N) <|
  c_ist 3 <|
  c_rld 0 <|
  c_getr 0 1 <|
  c_getr 6 9 <|
  c_ild 1 <|
  c_i (4) <|
  c_ild 3 <|
  c_callV 7 3 (fX7_put N) <|
  c_rld 0 <|
  c_i (0) <|
  c_ild 2 <|
  c_i (1) <|
  c_ii (fun x y => x - y) <|
  c_callV 0 2 (fX0_readNumber N) <|
  c_ist 4 <|
  c_ild 4 <|
  c_ild 3 <|
  c_icge (
  kX0_readPicket_150 N) <|
  c_rld 0 <|
  c_getr 0 0 <|
  c_i (4) <|
  c_callV 8 1 (fX8_fail N) <|
  kX0_readPicket_150 N
noncomputable def kX0_readPicket_0 (N : Nat) : am_K := c_live [0] <|
  c_rld 0 <|
  c_getr 0 1 <|
  c_getr 6 9 <|
  c_callV 7 0 (fX7_count N) <|
  c_i (4) <|
  c_iclt (
  kX0_readPicket_22 N) <|
  c_rld 0 <|
  c_getr 0 0 <|
  c_i (3) <|
  c_callV 8 1 (fX8_fail N) <|
  kX0_readPicket_22 N
noncomputable def fX0_readPicket (N : Nat) : am_F := am_fn 5 (kX0_readPicket_0 N)
set_option maxRecDepth 20000 in
theorem vX0_readPicket_150 (l : Launch) (hfl : l.stackTraces = false) (N : Nat)  : am_V l cX0_readPicket 5 RX0 (am_E none yX0_readPicket.name) 5 145 150 (kX0_readPicket_150 N) := by
  refine av_live ?_
  refine av_aload_n dX0_readPicket_150 rfl ?_
  refine av_getr am_ci0 (by decide) am_f0_1 q238 dX0_readPicket_151 ?_
  refine av_getr am_ci6 (by decide) am_f6_9 q303 dX0_readPicket_154 ?_
  refine av_iload_n dX0_readPicket_157 rfl ?_
  refine av_iconst (v := 5) dX0_readPicket_158 (by decide) ?_
  refine av_iload dX0_readPicket_159 ?_
  refine av_callV am_hT (mX7_put l hfl N) am_ci7 ⟨by decide +kernel, by decide +kernel, by decide +kernel⟩ q305 q118 q73 q119 q120 (by decide) (by decide) dX0_readPicket_161 ?_
  refine av_aload_n dX0_readPicket_164 rfl ?_
  refine av_getr am_ci0 (by decide) am_f0_1 q238 dX0_readPicket_165 ?_
  refine av_getr am_ci6 (by decide) am_f6_9 q303 dX0_readPicket_168 ?_
  refine av_iload_n dX0_readPicket_171 rfl ?_
  refine av_bipush (v := 7) dX0_readPicket_172 (by decide) ?_
  refine av_iconst (v := 0) dX0_readPicket_174 (by decide) ?_
  refine av_callV am_hT (mX7_put l hfl N) am_ci7 ⟨by decide +kernel, by decide +kernel, by decide +kernel⟩ q305 q118 q73 q119 q120 (by decide) (by decide) dX0_readPicket_175 ?_
  exact av_return_ am_hv dX0_readPicket_178
set_option maxRecDepth 20000 in
theorem vX0_readPicket_22 (l : Launch) (hfl : l.stackTraces = false) (N : Nat)  : am_V l cX0_readPicket 5 RX0 (am_E none yX0_readPicket.name) 5 145 22 (kX0_readPicket_22 N) := by
  refine av_live ?_
  refine av_aload_n dX0_readPicket_22 rfl ?_
  refine av_getr am_ci0 (by decide) am_f0_1 q238 dX0_readPicket_23 ?_
  refine av_getr am_ci6 (by decide) am_f6_9 q303 dX0_readPicket_26 ?_
  refine av_callV am_hT (mX7_add l hfl N) am_ci7 ⟨by decide +kernel, by decide +kernel, by decide +kernel⟩ q304 q114 q73 q115 q116 (by decide) (by decide) dX0_readPicket_29 ?_
  refine av_istore_n dX0_readPicket_32 rfl (by decide) ?_
  refine av_aload_n dX0_readPicket_33 rfl ?_
  refine av_getr am_ci0 (by decide) am_f0_1 q238 dX0_readPicket_34 ?_
  refine av_getr am_ci6 (by decide) am_f6_9 q303 dX0_readPicket_37 ?_
  refine av_iload_n dX0_readPicket_40 rfl ?_
  refine av_iconst (v := 0) dX0_readPicket_41 (by decide) ?_
  refine av_aload_n dX0_readPicket_42 rfl ?_
  refine av_callV am_hT (mX0_readColumn l hfl N) am_ci0 ⟨by decide +kernel, by decide +kernel, by decide +kernel⟩ q270 q271 q266 q272 q273 (by decide) (by decide) dX0_readPicket_43 ?_
  refine av_callV am_hT (mX7_put l hfl N) am_ci7 ⟨by decide +kernel, by decide +kernel, by decide +kernel⟩ q305 q118 q73 q119 q120 (by decide) (by decide) dX0_readPicket_46 ?_
  refine av_aload_n dX0_readPicket_49 rfl ?_
  refine av_getr am_ci0 (by decide) am_f0_1 q238 dX0_readPicket_50 ?_
  refine av_getr am_ci6 (by decide) am_f6_9 q303 dX0_readPicket_53 ?_
  refine av_iload_n dX0_readPicket_56 rfl ?_
  refine av_iconst (v := 1) dX0_readPicket_57 (by decide) ?_
  refine av_aload_n dX0_readPicket_58 rfl ?_
  refine av_callV am_hT (mX0_readRow l hfl N) am_ci0 ⟨by decide +kernel, by decide +kernel, by decide +kernel⟩ q274 q275 q266 q276 q277 (by decide) (by decide) dX0_readPicket_59 ?_
  refine av_callV am_hT (mX7_put l hfl N) am_ci7 ⟨by decide +kernel, by decide +kernel, by decide +kernel⟩ q305 q118 q73 q119 q120 (by decide) (by decide) dX0_readPicket_62 ?_
  refine av_aload_n dX0_readPicket_65 rfl ?_
  refine av_getr am_ci0 (by decide) am_f0_1 q238 dX0_readPicket_66 ?_
  refine av_getr am_ci6 (by decide) am_f6_9 q303 dX0_readPicket_69 ?_
  refine av_iload_n dX0_readPicket_72 rfl ?_
  refine av_iconst (v := 2) dX0_readPicket_73 (by decide) ?_
  refine av_aload_n dX0_readPicket_74 rfl ?_
  refine av_iconst (v := 0) dX0_readPicket_75 (by decide) ?_
  refine av_iconst (v := 3) dX0_readPicket_76 (by decide) ?_
  refine av_callV am_hT (mX0_readNumber l hfl N) am_ci0 ⟨by decide +kernel, by decide +kernel, by decide +kernel⟩ q264 q265 q266 q267 q268 (by decide) (by decide) dX0_readPicket_77 ?_
  refine av_callV am_hT (mX7_put l hfl N) am_ci7 ⟨by decide +kernel, by decide +kernel, by decide +kernel⟩ q305 q118 q73 q119 q120 (by decide) (by decide) dX0_readPicket_80 ?_
  refine av_aload_n dX0_readPicket_83 rfl ?_
  refine av_iconst (v := 1) dX0_readPicket_84 (by decide) ?_
  refine av_bipush (v := 20) dX0_readPicket_85 (by decide) ?_
  refine av_callV am_hT (mX0_readNumber l hfl N) am_ci0 ⟨by decide +kernel, by decide +kernel, by decide +kernel⟩ q264 q265 q266 q267 q268 (by decide) (by decide) dX0_readPicket_87 ?_
  refine av_istore_n dX0_readPicket_90 rfl (by decide) ?_
  refine av_aload_n dX0_readPicket_91 rfl ?_
  refine av_getr am_ci0 (by decide) am_f0_1 q238 dX0_readPicket_92 ?_
  refine av_getr am_ci6 (by decide) am_f6_9 q303 dX0_readPicket_95 ?_
  refine av_iload_n dX0_readPicket_98 rfl ?_
  refine av_iconst (v := 3) dX0_readPicket_99 (by decide) ?_
  refine av_iload_n dX0_readPicket_100 rfl ?_
  refine av_callV am_hT (mX7_put l hfl N) am_ci7 ⟨by decide +kernel, by decide +kernel, by decide +kernel⟩ q305 q118 q73 q119 q120 (by decide) (by decide) dX0_readPicket_101 ?_
  refine av_aload_n dX0_readPicket_104 rfl ?_
  refine av_iconst (v := 0) dX0_readPicket_105 (by decide) ?_
  refine av_iload_n dX0_readPicket_106 rfl ?_
  refine av_iconst (v := 1) dX0_readPicket_107 (by decide) ?_
  refine av_isub dX0_readPicket_108 ?_
  refine av_callV am_hT (mX0_readNumber l hfl N) am_ci0 ⟨by decide +kernel, by decide +kernel, by decide +kernel⟩ q264 q265 q266 q267 q268 (by decide) (by decide) dX0_readPicket_109 ?_
  refine av_istore_n dX0_readPicket_112 rfl (by decide) ?_
  refine av_aload_n dX0_readPicket_113 rfl ?_
  refine av_getr am_ci0 (by decide) am_f0_1 q238 dX0_readPicket_114 ?_
  refine av_getr am_ci6 (by decide) am_f6_9 q303 dX0_readPicket_117 ?_
  refine av_iload_n dX0_readPicket_120 rfl ?_
  refine av_iconst (v := 4) dX0_readPicket_121 (by decide) ?_
  refine av_iload_n dX0_readPicket_122 rfl ?_
  refine av_callV am_hT (mX7_put l hfl N) am_ci7 ⟨by decide +kernel, by decide +kernel, by decide +kernel⟩ q305 q118 q73 q119 q120 (by decide) (by decide) dX0_readPicket_123 ?_
  refine av_aload_n dX0_readPicket_126 rfl ?_
  refine av_iconst (v := 0) dX0_readPicket_127 (by decide) ?_
  refine av_iload_n dX0_readPicket_128 rfl ?_
  refine av_iconst (v := 1) dX0_readPicket_129 (by decide) ?_
  refine av_isub dX0_readPicket_130 ?_
  refine av_callV am_hT (mX0_readNumber l hfl N) am_ci0 ⟨by decide +kernel, by decide +kernel, by decide +kernel⟩ q264 q265 q266 q267 q268 (by decide) (by decide) dX0_readPicket_131 ?_
  refine av_istore dX0_readPicket_134 (by decide) ?_
  refine av_iload dX0_readPicket_136 ?_
  refine av_iload_n dX0_readPicket_138 rfl ?_
  refine av_icge (tgt := 150) dX0_readPicket_139 (by decide) ?_ ?_
  · exact vX0_readPicket_150 l hfl N
  refine av_aload_n dX0_readPicket_142 rfl ?_
  refine av_getr am_ci0 (by decide) am_f0_0 q237 dX0_readPicket_143 ?_
  refine av_iconst (v := 4) dX0_readPicket_146 (by decide) ?_
  refine av_callV am_hT (mX8_fail l hfl N) am_ci8 ⟨by decide +kernel, by decide +kernel, by decide +kernel⟩ q255 q256 q53 q257 q258 (by decide) (by decide) dX0_readPicket_147 ?_
  exact vX0_readPicket_150 l hfl N
set_option maxRecDepth 20000 in
theorem vX0_readPicket_0 (l : Launch) (hfl : l.stackTraces = false) (N : Nat)  : am_V l cX0_readPicket 5 RX0 (am_E none yX0_readPicket.name) 5 145 0 (kX0_readPicket_0 N) := by
  refine av_live ?_
  refine av_aload_n dX0_readPicket_0 rfl ?_
  refine av_getr am_ci0 (by decide) am_f0_1 q238 dX0_readPicket_1 ?_
  refine av_getr am_ci6 (by decide) am_f6_9 q303 dX0_readPicket_4 ?_
  refine av_callV am_hT (mX7_count l hfl N) am_ci7 ⟨by decide +kernel, by decide +kernel, by decide +kernel⟩ q298 q90 q73 q91 q92 (by decide) (by decide) dX0_readPicket_7 ?_
  refine av_iconst (v := 4) dX0_readPicket_10 (by decide) ?_
  refine av_iclt (tgt := 22) dX0_readPicket_11 (by decide) ?_ ?_
  · exact vX0_readPicket_22 l hfl N
  refine av_aload_n dX0_readPicket_14 rfl ?_
  refine av_getr am_ci0 (by decide) am_f0_0 q237 dX0_readPicket_15 ?_
  refine av_iconst (v := 3) dX0_readPicket_18 (by decide) ?_
  refine av_callV am_hT (mX8_fail l hfl N) am_ci8 ⟨by decide +kernel, by decide +kernel, by decide +kernel⟩ q255 q256 q53 q257 q258 (by decide) (by decide) dX0_readPicket_19 ?_
  exact vX0_readPicket_22 l hfl N
theorem mX0_readPicket (l : Launch) (hfl : l.stackTraces = false) (N : Nat) : am_M l yX0_readPicket cX0_readPicket 5 none 5 145 (fX0_readPicket N) := av_meth hfl (by decide +kernel) rfl (vX0_readPicket_0 l hfl N)
/-! MessengerBoard$BoardReader.readPlan()V -/
noncomputable def kX0_readPlan_23 (N : Nat) : am_K := c_live [0] <|
  c_rld 0 <|
  c_i (0) <|
  c_rld 0 <|
  c_getr 0 1 <|
  c_getr 6 8 <|
  c_callV 7 0 (fX7_count N) <|
  c_i (1) <|
  c_ii (fun x y => x - y) <|
  c_callV 0 2 (fX0_readNumber N) <|
  c_ist 1 <|
  c_rld 0 <|
  c_callV 0 0 (fX0_readColumn N) <|
  c_ist 2 <|
  c_rld 0 <|
  c_ild 2 <|
  c_callV 0 1 (fX0_readFreeRow N) <|
  c_ist 3 <|
  c_rld 0 <|
  c_i (0) <|
  c_i (499) <|
  c_callV 0 2 (fX0_readNumber N) <|
  c_ist 4 <|
  c_rld 0 <|
  c_getr 0 1 <|
  c_getr 6 10 <|
  c_callV 7 0 (fX7_add N) <|
  c_ist 5 <|
  c_rld 0 <|
  c_getr 0 1 <|
  c_getr 6 10 <|
  c_ild 5 <|
  c_i (0) <|
  c_ild 1 <|
  c_callV 7 3 (fX7_put N) <|
  c_rld 0 <|
  c_getr 0 1 <|
  c_getr 6 10 <|
  c_ild 5 <|
  c_i (1) <|
  c_ild 2 <|
  c_callV 7 3 (fX7_put N) <|
  c_rld 0 <|
  c_getr 0 1 <|
  c_getr 6 10 <|
  c_ild 5 <|
  c_i (2) <|
  c_ild 3 <|
  c_callV 7 3 (fX7_put N) <|
  c_rld 0 <|
  c_getr 0 1 <|
  c_getr 6 10 <|
  c_ild 5 <|
  c_i (3) <|
  c_ild 4 <|
  c_callV 7 3 (fX7_put N) <|
  c_vret
noncomputable def kX0_readPlan_0 (N : Nat) : am_K := c_live [0] <|
  c_rld 0 <|
  c_getr 0 1 <|
  c_getr 6 10 <|
  c_callV 7 0 (fX7_count N) <|
  c_i (20) <|
  c_iclt (
  kX0_readPlan_23 N) <|
  c_rld 0 <|
  c_getr 0 0 <|
  c_i (3) <|
  c_callV 8 1 (fX8_fail N) <|
  kX0_readPlan_23 N
noncomputable def fX0_readPlan (N : Nat) : am_F := am_fn 6 (kX0_readPlan_0 N)
set_option maxRecDepth 20000 in
theorem vX0_readPlan_23 (l : Launch) (hfl : l.stackTraces = false) (N : Nat)  : am_V l cX0_readPlan 6 RX0 (am_E none yX0_readPlan.name) 5 147 23 (kX0_readPlan_23 N) := by
  refine av_live ?_
  refine av_aload_n dX0_readPlan_23 rfl ?_
  refine av_iconst (v := 0) dX0_readPlan_24 (by decide) ?_
  refine av_aload_n dX0_readPlan_25 rfl ?_
  refine av_getr am_ci0 (by decide) am_f0_1 q238 dX0_readPlan_26 ?_
  refine av_getr am_ci6 (by decide) am_f6_8 q297 dX0_readPlan_29 ?_
  refine av_callV am_hT (mX7_count l hfl N) am_ci7 ⟨by decide +kernel, by decide +kernel, by decide +kernel⟩ q298 q90 q73 q91 q92 (by decide) (by decide) dX0_readPlan_32 ?_
  refine av_iconst (v := 1) dX0_readPlan_35 (by decide) ?_
  refine av_isub dX0_readPlan_36 ?_
  refine av_callV am_hT (mX0_readNumber l hfl N) am_ci0 ⟨by decide +kernel, by decide +kernel, by decide +kernel⟩ q264 q265 q266 q267 q268 (by decide) (by decide) dX0_readPlan_37 ?_
  refine av_istore_n dX0_readPlan_40 rfl (by decide) ?_
  refine av_aload_n dX0_readPlan_41 rfl ?_
  refine av_callV am_hT (mX0_readColumn l hfl N) am_ci0 ⟨by decide +kernel, by decide +kernel, by decide +kernel⟩ q270 q271 q266 q272 q273 (by decide) (by decide) dX0_readPlan_42 ?_
  refine av_istore_n dX0_readPlan_45 rfl (by decide) ?_
  refine av_aload_n dX0_readPlan_46 rfl ?_
  refine av_iload_n dX0_readPlan_47 rfl ?_
  refine av_callV am_hT (mX0_readFreeRow l hfl N) am_ci0 ⟨by decide +kernel, by decide +kernel, by decide +kernel⟩ q291 q292 q266 q293 q294 (by decide) (by decide) dX0_readPlan_48 ?_
  refine av_istore_n dX0_readPlan_51 rfl (by decide) ?_
  refine av_aload_n dX0_readPlan_52 rfl ?_
  refine av_iconst (v := 0) dX0_readPlan_53 (by decide) ?_
  refine av_sipush (v := 499) dX0_readPlan_54 (by decide) ?_
  refine av_callV am_hT (mX0_readNumber l hfl N) am_ci0 ⟨by decide +kernel, by decide +kernel, by decide +kernel⟩ q264 q265 q266 q267 q268 (by decide) (by decide) dX0_readPlan_57 ?_
  refine av_istore dX0_readPlan_60 (by decide) ?_
  refine av_aload_n dX0_readPlan_62 rfl ?_
  refine av_getr am_ci0 (by decide) am_f0_1 q238 dX0_readPlan_63 ?_
  refine av_getr am_ci6 (by decide) am_f6_10 q306 dX0_readPlan_66 ?_
  refine av_callV am_hT (mX7_add l hfl N) am_ci7 ⟨by decide +kernel, by decide +kernel, by decide +kernel⟩ q304 q114 q73 q115 q116 (by decide) (by decide) dX0_readPlan_69 ?_
  refine av_istore dX0_readPlan_72 (by decide) ?_
  refine av_aload_n dX0_readPlan_74 rfl ?_
  refine av_getr am_ci0 (by decide) am_f0_1 q238 dX0_readPlan_75 ?_
  refine av_getr am_ci6 (by decide) am_f6_10 q306 dX0_readPlan_78 ?_
  refine av_iload dX0_readPlan_81 ?_
  refine av_iconst (v := 0) dX0_readPlan_83 (by decide) ?_
  refine av_iload_n dX0_readPlan_84 rfl ?_
  refine av_callV am_hT (mX7_put l hfl N) am_ci7 ⟨by decide +kernel, by decide +kernel, by decide +kernel⟩ q305 q118 q73 q119 q120 (by decide) (by decide) dX0_readPlan_85 ?_
  refine av_aload_n dX0_readPlan_88 rfl ?_
  refine av_getr am_ci0 (by decide) am_f0_1 q238 dX0_readPlan_89 ?_
  refine av_getr am_ci6 (by decide) am_f6_10 q306 dX0_readPlan_92 ?_
  refine av_iload dX0_readPlan_95 ?_
  refine av_iconst (v := 1) dX0_readPlan_97 (by decide) ?_
  refine av_iload_n dX0_readPlan_98 rfl ?_
  refine av_callV am_hT (mX7_put l hfl N) am_ci7 ⟨by decide +kernel, by decide +kernel, by decide +kernel⟩ q305 q118 q73 q119 q120 (by decide) (by decide) dX0_readPlan_99 ?_
  refine av_aload_n dX0_readPlan_102 rfl ?_
  refine av_getr am_ci0 (by decide) am_f0_1 q238 dX0_readPlan_103 ?_
  refine av_getr am_ci6 (by decide) am_f6_10 q306 dX0_readPlan_106 ?_
  refine av_iload dX0_readPlan_109 ?_
  refine av_iconst (v := 2) dX0_readPlan_111 (by decide) ?_
  refine av_iload_n dX0_readPlan_112 rfl ?_
  refine av_callV am_hT (mX7_put l hfl N) am_ci7 ⟨by decide +kernel, by decide +kernel, by decide +kernel⟩ q305 q118 q73 q119 q120 (by decide) (by decide) dX0_readPlan_113 ?_
  refine av_aload_n dX0_readPlan_116 rfl ?_
  refine av_getr am_ci0 (by decide) am_f0_1 q238 dX0_readPlan_117 ?_
  refine av_getr am_ci6 (by decide) am_f6_10 q306 dX0_readPlan_120 ?_
  refine av_iload dX0_readPlan_123 ?_
  refine av_iconst (v := 3) dX0_readPlan_125 (by decide) ?_
  refine av_iload dX0_readPlan_126 ?_
  refine av_callV am_hT (mX7_put l hfl N) am_ci7 ⟨by decide +kernel, by decide +kernel, by decide +kernel⟩ q305 q118 q73 q119 q120 (by decide) (by decide) dX0_readPlan_128 ?_
  exact av_return_ am_hv dX0_readPlan_131
set_option maxRecDepth 20000 in
theorem vX0_readPlan_0 (l : Launch) (hfl : l.stackTraces = false) (N : Nat)  : am_V l cX0_readPlan 6 RX0 (am_E none yX0_readPlan.name) 5 147 0 (kX0_readPlan_0 N) := by
  refine av_live ?_
  refine av_aload_n dX0_readPlan_0 rfl ?_
  refine av_getr am_ci0 (by decide) am_f0_1 q238 dX0_readPlan_1 ?_
  refine av_getr am_ci6 (by decide) am_f6_10 q306 dX0_readPlan_4 ?_
  refine av_callV am_hT (mX7_count l hfl N) am_ci7 ⟨by decide +kernel, by decide +kernel, by decide +kernel⟩ q298 q90 q73 q91 q92 (by decide) (by decide) dX0_readPlan_7 ?_
  refine av_bipush (v := 20) dX0_readPlan_10 (by decide) ?_
  refine av_iclt (tgt := 23) dX0_readPlan_12 (by decide) ?_ ?_
  · exact vX0_readPlan_23 l hfl N
  refine av_aload_n dX0_readPlan_15 rfl ?_
  refine av_getr am_ci0 (by decide) am_f0_0 q237 dX0_readPlan_16 ?_
  refine av_iconst (v := 3) dX0_readPlan_19 (by decide) ?_
  refine av_callV am_hT (mX8_fail l hfl N) am_ci8 ⟨by decide +kernel, by decide +kernel, by decide +kernel⟩ q255 q256 q53 q257 q258 (by decide) (by decide) dX0_readPlan_20 ?_
  exact vX0_readPlan_23 l hfl N
theorem mX0_readPlan (l : Launch) (hfl : l.stackTraces = false) (N : Nat) : am_M l yX0_readPlan cX0_readPlan 6 none 5 147 (fX0_readPlan N) := av_meth hfl (by decide +kernel) rfl (vX0_readPlan_0 l hfl N)
/-! MessengerBoard$BoardReader.readClause()V -/
noncomputable def kX0_readClause_132 (N : Nat) : am_K := c_live [] <|
  c_vret
noncomputable def kX0_readClause_0 (N : Nat) : am_K := c_live [0] <|
  c_rld 0 <|
  c_getr 0 0 <|
  c_a 3 <|
  c_callV 8 1 (fX8_isWord N) <|
  c_ifeq (
  c_rld 0 <|
  c_getr 0 0 <|
  c_a 4 <|
  c_callV 8 1 (fX8_isWord N) <|
  c_ifeq (
  c_rld 0 <|
  c_getr 0 0 <|
  c_a 5 <|
  c_callV 8 1 (fX8_isWord N) <|
  c_ifeq (
  c_rld 0 <|
  c_getr 0 0 <|
  c_a 6 <|
  c_callV 8 1 (fX8_isWord N) <|
  c_ifeq (
  c_rld 0 <|
  c_getr 0 0 <|
  c_a 7 <|
  c_callV 8 1 (fX8_isWord N) <|
  c_ifeq (
  c_rld 0 <|
  c_getr 0 0 <|
  c_a 8 <|
  c_callV 8 1 (fX8_isWord N) <|
  c_ifeq (
  c_rld 0 <|
  c_getr 0 0 <|
  c_i (1) <|
  c_callV 8 1 (fX8_fail N) <|
  kX0_readClause_132 N) <|
  c_rld 0 <|
  c_callV 0 0 (fX0_readPlan N) <|
  kX0_readClause_132 N) <|
  c_rld 0 <|
  c_getr 0 1 <|
  c_rld 0 <|
  c_i (1) <|
  c_i (30) <|
  c_callV 0 2 (fX0_readNumber N) <|
  c_puti 6 5 <|
  kX0_readClause_132 N) <|
  c_rld 0 <|
  c_callV 0 0 (fX0_readPicket N) <|
  kX0_readClause_132 N) <|
  c_rld 0 <|
  c_callV 0 0 (fX0_readUnit N) <|
  kX0_readClause_132 N) <|
  c_rld 0 <|
  c_callV 0 0 (fX0_readHeadquarters N) <|
  kX0_readClause_132 N) <|
  c_rld 0 <|
  c_callV 0 0 (fX0_readWall N) <|
  kX0_readClause_132 N
noncomputable def fX0_readClause (N : Nat) : am_F := am_fn 1 (kX0_readClause_0 N)
set_option maxRecDepth 20000 in
theorem vX0_readClause_132 (l : Launch) (hfl : l.stackTraces = false) (N : Nat)  : am_V l cX0_readClause 1 RX0 (am_E none yX0_readClause.name) 6 172 132 (kX0_readClause_132 N) := by
  refine av_live ?_
  exact av_return_ am_hv dX0_readClause_132
set_option maxRecDepth 20000 in
theorem vX0_readClause_0 (l : Launch) (hfl : l.stackTraces = false) (N : Nat)  : am_V l cX0_readClause 1 RX0 (am_E none yX0_readClause.name) 6 172 0 (kX0_readClause_0 N) := by
  refine av_live ?_
  refine av_aload_n dX0_readClause_0 rfl ?_
  refine av_getr am_ci0 (by decide) am_f0_0 q237 dX0_readClause_1 ?_
  refine av_ldcs t2 (by decide) dX0_readClause_4 ?_
  refine av_callV am_hT (mX8_isWord l hfl N) am_ci8 ⟨by decide +kernel, by decide +kernel, by decide +kernel⟩ q307 q308 q53 q309 q310 (by decide) (by decide) dX0_readClause_6 ?_
  refine av_ifeq (tgt := 19) dX0_readClause_9 (by decide) ?_ ?_
  · refine av_aload_n dX0_readClause_19 rfl ?_
    refine av_getr am_ci0 (by decide) am_f0_0 q237 dX0_readClause_20 ?_
    refine av_ldcs t3 (by decide) dX0_readClause_23 ?_
    refine av_callV am_hT (mX8_isWord l hfl N) am_ci8 ⟨by decide +kernel, by decide +kernel, by decide +kernel⟩ q307 q308 q53 q309 q310 (by decide) (by decide) dX0_readClause_25 ?_
    refine av_ifeq (tgt := 38) dX0_readClause_28 (by decide) ?_ ?_
    · refine av_aload_n dX0_readClause_38 rfl ?_
      refine av_getr am_ci0 (by decide) am_f0_0 q237 dX0_readClause_39 ?_
      refine av_ldcs t4 (by decide) dX0_readClause_42 ?_
      refine av_callV am_hT (mX8_isWord l hfl N) am_ci8 ⟨by decide +kernel, by decide +kernel, by decide +kernel⟩ q307 q308 q53 q309 q310 (by decide) (by decide) dX0_readClause_44 ?_
      refine av_ifeq (tgt := 57) dX0_readClause_47 (by decide) ?_ ?_
      · refine av_aload_n dX0_readClause_57 rfl ?_
        refine av_getr am_ci0 (by decide) am_f0_0 q237 dX0_readClause_58 ?_
        refine av_ldcs t5 (by decide) dX0_readClause_61 ?_
        refine av_callV am_hT (mX8_isWord l hfl N) am_ci8 ⟨by decide +kernel, by decide +kernel, by decide +kernel⟩ q307 q308 q53 q309 q310 (by decide) (by decide) dX0_readClause_63 ?_
        refine av_ifeq (tgt := 76) dX0_readClause_66 (by decide) ?_ ?_
        · refine av_aload_n dX0_readClause_76 rfl ?_
          refine av_getr am_ci0 (by decide) am_f0_0 q237 dX0_readClause_77 ?_
          refine av_ldcs t6 (by decide) dX0_readClause_80 ?_
          refine av_callV am_hT (mX8_isWord l hfl N) am_ci8 ⟨by decide +kernel, by decide +kernel, by decide +kernel⟩ q307 q308 q53 q309 q310 (by decide) (by decide) dX0_readClause_82 ?_
          refine av_ifeq (tgt := 105) dX0_readClause_85 (by decide) ?_ ?_
          · refine av_aload_n dX0_readClause_105 rfl ?_
            refine av_getr am_ci0 (by decide) am_f0_0 q237 dX0_readClause_106 ?_
            refine av_ldcs t7 (by decide) dX0_readClause_109 ?_
            refine av_callV am_hT (mX8_isWord l hfl N) am_ci8 ⟨by decide +kernel, by decide +kernel, by decide +kernel⟩ q307 q308 q53 q309 q310 (by decide) (by decide) dX0_readClause_111 ?_
            refine av_ifeq (tgt := 124) dX0_readClause_114 (by decide) ?_ ?_
            · refine av_aload_n dX0_readClause_124 rfl ?_
              refine av_getr am_ci0 (by decide) am_f0_0 q237 dX0_readClause_125 ?_
              refine av_iconst (v := 1) dX0_readClause_128 (by decide) ?_
              refine av_callV am_hT (mX8_fail l hfl N) am_ci8 ⟨by decide +kernel, by decide +kernel, by decide +kernel⟩ q255 q256 q53 q257 q258 (by decide) (by decide) dX0_readClause_129 ?_
              exact vX0_readClause_132 l hfl N
            refine av_aload_n dX0_readClause_117 rfl ?_
            refine av_callV am_hT (mX0_readPlan l hfl N) am_ci0 ⟨by decide +kernel, by decide +kernel, by decide +kernel⟩ q311 q312 q266 q313 q314 (by decide) (by decide) dX0_readClause_118 ?_
            refine av_goto (tgt := 132) dX0_readClause_121 (by decide) ?_
            exact vX0_readClause_132 l hfl N
          refine av_aload_n dX0_readClause_88 rfl ?_
          refine av_getr am_ci0 (by decide) am_f0_1 q238 dX0_readClause_89 ?_
          refine av_aload_n dX0_readClause_92 rfl ?_
          refine av_iconst (v := 1) dX0_readClause_93 (by decide) ?_
          refine av_bipush (v := 30) dX0_readClause_94 (by decide) ?_
          refine av_callV am_hT (mX0_readNumber l hfl N) am_ci0 ⟨by decide +kernel, by decide +kernel, by decide +kernel⟩ q264 q265 q266 q267 q268 (by decide) (by decide) dX0_readClause_96 ?_
          refine av_puti am_ci6 (by decide) am_f6_5 q315 (tyX6_ok 5 (by decide)) rfl dX0_readClause_99 ?_
          refine av_goto (tgt := 132) dX0_readClause_102 (by decide) ?_
          exact vX0_readClause_132 l hfl N
        refine av_aload_n dX0_readClause_69 rfl ?_
        refine av_callV am_hT (mX0_readPicket l hfl N) am_ci0 ⟨by decide +kernel, by decide +kernel, by decide +kernel⟩ q316 q317 q266 q318 q319 (by decide) (by decide) dX0_readClause_70 ?_
        refine av_goto (tgt := 132) dX0_readClause_73 (by decide) ?_
        exact vX0_readClause_132 l hfl N
      refine av_aload_n dX0_readClause_50 rfl ?_
      refine av_callV am_hT (mX0_readUnit l hfl N) am_ci0 ⟨by decide +kernel, by decide +kernel, by decide +kernel⟩ q320 q321 q266 q322 q323 (by decide) (by decide) dX0_readClause_51 ?_
      refine av_goto (tgt := 132) dX0_readClause_54 (by decide) ?_
      exact vX0_readClause_132 l hfl N
    refine av_aload_n dX0_readClause_31 rfl ?_
    refine av_callV am_hT (mX0_readHeadquarters l hfl N) am_ci0 ⟨by decide +kernel, by decide +kernel, by decide +kernel⟩ q324 q325 q266 q326 q327 (by decide) (by decide) dX0_readClause_32 ?_
    refine av_goto (tgt := 132) dX0_readClause_35 (by decide) ?_
    exact vX0_readClause_132 l hfl N
  refine av_aload_n dX0_readClause_12 rfl ?_
  refine av_callV am_hT (mX0_readWall l hfl N) am_ci0 ⟨by decide +kernel, by decide +kernel, by decide +kernel⟩ q328 q329 q266 q330 q331 (by decide) (by decide) dX0_readClause_13 ?_
  refine av_goto (tgt := 132) dX0_readClause_16 (by decide) ?_
  exact vX0_readClause_132 l hfl N
theorem mX0_readClause (l : Launch) (hfl : l.stackTraces = false) (N : Nat) : am_M l yX0_readClause cX0_readClause 1 none 6 172 (fX0_readClause N) := av_meth hfl (by decide +kernel) rfl (vX0_readClause_0 l hfl N)
/-! MessengerBoard$BoardReader.readText(I)I -/
noncomputable def kX0_readText_133 (N : Nat) : am_K := c_live [0] <|
  c_rld 0 <|
  c_getr 0 0 <|
  c_callV 8 0 (fX8_errorCode N) <|
  c_iret
noncomputable def bX0_readText_81 (N : Nat) (r81 : am_K) : am_K :=
  c_ild 4 <|
  c_i (600) <|
  c_icge (
  kX0_readText_133 N) <|
  c_rld 0 <|
  c_getr 0 0 <|
  c_callV 8 0 (fX8_sound N) <|
  c_ifeq (
  kX0_readText_133 N) <|
  c_rld 0 <|
  c_getr 0 0 <|
  c_callV 8 0 (fX8_next N) <|
  c_rld 0 <|
  c_getr 0 0 <|
  c_callV 8 0 (fX8_atEnd N) <|
  c_ifeq (
  c_rld 0 <|
  c_callV 0 0 (fX0_readClause N) <|
  c_rld 0 <|
  c_callV 0 0 (fX0_readSemicolon N) <|
  c_inc 4 (1) <|
  c_live [0, 4] r81) <|
  kX0_readText_133 N
noncomputable def kX0_readText_81 (N : Nat) : am_K := c_live [0, 4] (am_loop (bX0_readText_81 N) N)
noncomputable def kX0_readText_42 (N : Nat) : am_K := c_live [0] <|
  c_rld 0 <|
  c_i (3) <|
  c_i (12) <|
  c_callV 0 2 (fX0_readNumber N) <|
  c_ist 2 <|
  c_rld 0 <|
  c_i (3) <|
  c_i (12) <|
  c_callV 0 2 (fX0_readNumber N) <|
  c_ist 3 <|
  c_rld 0 <|
  c_callV 0 0 (fX0_readSemicolon N) <|
  c_rld 0 <|
  c_getr 0 1 <|
  c_ild 2 <|
  c_puti 6 0 <|
  c_rld 0 <|
  c_getr 0 1 <|
  c_ild 3 <|
  c_puti 6 1 <|
  c_i (0) <|
  c_ist 4 <|
  kX0_readText_81 N
noncomputable def kX0_readText_0 (N : Nat) : am_K := c_live [0, 1] <|
  c_rld 0 <|
  c_getr 0 0 <|
  c_ild 1 <|
  c_callV 8 1 (fX8_open N) <|
  c_rld 0 <|
  c_getr 0 1 <|
  c_callV 6 0 (fX6_begin N) <|
  c_rld 0 <|
  c_getr 0 0 <|
  c_callV 8 0 (fX8_next N) <|
  c_rld 0 <|
  c_getr 0 0 <|
  c_a 2 <|
  c_callV 8 1 (fX8_isWord N) <|
  c_ifne (
  kX0_readText_42 N) <|
  c_rld 0 <|
  c_getr 0 0 <|
  c_i (1) <|
  c_callV 8 1 (fX8_fail N) <|
  kX0_readText_42 N
noncomputable def fX0_readText (N : Nat) : am_F := am_fn 5 (kX0_readText_0 N)
set_option maxRecDepth 20000 in
theorem vX0_readText_133 (l : Launch) (hfl : l.stackTraces = false) (N : Nat)  : am_V l cX0_readText 5 RX0 (am_E (some .int) yX0_readText.name) 7 192 133 (kX0_readText_133 N) := by
  refine av_live ?_
  refine av_aload_n dX0_readText_133 rfl ?_
  refine av_getr am_ci0 (by decide) am_f0_0 q237 dX0_readText_134 ?_
  refine av_callV am_hT (mX8_errorCode l hfl N) am_ci8 ⟨by decide +kernel, by decide +kernel, by decide +kernel⟩ q344 q345 q53 q346 q347 (by decide) (by decide) dX0_readText_137 ?_
  exact av_ireturn am_hi dX0_readText_140
set_option maxRecDepth 20000 in
theorem vX0_readText_81 (l : Launch) (hfl : l.stackTraces = false) (N : Nat)  : am_V l cX0_readText 5 RX0 (am_E (some .int) yX0_readText.name) 7 192 81 (kX0_readText_81 N) := by
  refine av_live ?_
  refine av_loop (fun r81 h81 => ?_) N
  refine av_iload dX0_readText_81 ?_
  refine av_sipush (v := 600) dX0_readText_83 (by decide) ?_
  refine av_icge (tgt := 133) dX0_readText_86 (by decide) ?_ ?_
  · exact vX0_readText_133 l hfl N
  refine av_aload_n dX0_readText_89 rfl ?_
  refine av_getr am_ci0 (by decide) am_f0_0 q237 dX0_readText_90 ?_
  refine av_callV am_hT (mX8_sound l hfl N) am_ci8 ⟨by decide +kernel, by decide +kernel, by decide +kernel⟩ q239 q240 q53 q241 q242 (by decide) (by decide) dX0_readText_93 ?_
  refine av_ifeq (tgt := 133) dX0_readText_96 (by decide) ?_ ?_
  · exact vX0_readText_133 l hfl N
  refine av_aload_n dX0_readText_99 rfl ?_
  refine av_getr am_ci0 (by decide) am_f0_0 q237 dX0_readText_100 ?_
  refine av_callV am_hT (mX8_next l hfl N) am_ci8 ⟨by decide +kernel, by decide +kernel, by decide +kernel⟩ q243 q244 q53 q245 q246 (by decide) (by decide) dX0_readText_103 ?_
  refine av_aload_n dX0_readText_106 rfl ?_
  refine av_getr am_ci0 (by decide) am_f0_0 q237 dX0_readText_107 ?_
  refine av_callV am_hT (mX8_atEnd l hfl N) am_ci8 ⟨by decide +kernel, by decide +kernel, by decide +kernel⟩ q348 q349 q53 q350 q351 (by decide) (by decide) dX0_readText_110 ?_
  refine av_ifeq (tgt := 119) dX0_readText_113 (by decide) ?_ ?_
  · refine av_aload_n dX0_readText_119 rfl ?_
    refine av_callV am_hT (mX0_readClause l hfl N) am_ci0 ⟨by decide +kernel, by decide +kernel, by decide +kernel⟩ q352 q353 q266 q354 q355 (by decide) (by decide) dX0_readText_120 ?_
    refine av_aload_n dX0_readText_123 rfl ?_
    refine av_callV am_hT (mX0_readSemicolon l hfl N) am_ci0 ⟨by decide +kernel, by decide +kernel, by decide +kernel⟩ q340 q341 q266 q342 q343 (by decide) (by decide) dX0_readText_124 ?_
    refine av_iinc dX0_readText_127 (by decide) (by decide) ?_
    refine av_goto (tgt := 81) dX0_readText_130 (by decide) ?_
    exact av_live h81
  refine av_goto (tgt := 133) dX0_readText_116 (by decide) ?_
  exact vX0_readText_133 l hfl N
set_option maxRecDepth 20000 in
theorem vX0_readText_42 (l : Launch) (hfl : l.stackTraces = false) (N : Nat)  : am_V l cX0_readText 5 RX0 (am_E (some .int) yX0_readText.name) 7 192 42 (kX0_readText_42 N) := by
  refine av_live ?_
  refine av_aload_n dX0_readText_42 rfl ?_
  refine av_iconst (v := 3) dX0_readText_43 (by decide) ?_
  refine av_bipush (v := 12) dX0_readText_44 (by decide) ?_
  refine av_callV am_hT (mX0_readNumber l hfl N) am_ci0 ⟨by decide +kernel, by decide +kernel, by decide +kernel⟩ q264 q265 q266 q267 q268 (by decide) (by decide) dX0_readText_46 ?_
  refine av_istore_n dX0_readText_49 rfl (by decide) ?_
  refine av_aload_n dX0_readText_50 rfl ?_
  refine av_iconst (v := 3) dX0_readText_51 (by decide) ?_
  refine av_bipush (v := 12) dX0_readText_52 (by decide) ?_
  refine av_callV am_hT (mX0_readNumber l hfl N) am_ci0 ⟨by decide +kernel, by decide +kernel, by decide +kernel⟩ q264 q265 q266 q267 q268 (by decide) (by decide) dX0_readText_54 ?_
  refine av_istore_n dX0_readText_57 rfl (by decide) ?_
  refine av_aload_n dX0_readText_58 rfl ?_
  refine av_callV am_hT (mX0_readSemicolon l hfl N) am_ci0 ⟨by decide +kernel, by decide +kernel, by decide +kernel⟩ q340 q341 q266 q342 q343 (by decide) (by decide) dX0_readText_59 ?_
  refine av_aload_n dX0_readText_62 rfl ?_
  refine av_getr am_ci0 (by decide) am_f0_1 q238 dX0_readText_63 ?_
  refine av_iload_n dX0_readText_66 rfl ?_
  refine av_puti am_ci6 (by decide) am_f6_0 q263 (tyX6_ok 0 (by decide)) rfl dX0_readText_67 ?_
  refine av_aload_n dX0_readText_70 rfl ?_
  refine av_getr am_ci0 (by decide) am_f0_1 q238 dX0_readText_71 ?_
  refine av_iload_n dX0_readText_74 rfl ?_
  refine av_puti am_ci6 (by decide) am_f6_1 q269 (tyX6_ok 1 (by decide)) rfl dX0_readText_75 ?_
  refine av_iconst (v := 0) dX0_readText_78 (by decide) ?_
  refine av_istore dX0_readText_79 (by decide) ?_
  exact vX0_readText_81 l hfl N
set_option maxRecDepth 20000 in
theorem vX0_readText_0 (l : Launch) (hfl : l.stackTraces = false) (N : Nat)  : am_V l cX0_readText 5 RX0 (am_E (some .int) yX0_readText.name) 7 192 0 (kX0_readText_0 N) := by
  refine av_live ?_
  refine av_aload_n dX0_readText_0 rfl ?_
  refine av_getr am_ci0 (by decide) am_f0_0 q237 dX0_readText_1 ?_
  refine av_iload_n dX0_readText_4 rfl ?_
  refine av_callV am_hT (mX8_open l hfl N) am_ci8 ⟨by decide +kernel, by decide +kernel, by decide +kernel⟩ q332 q333 q53 q334 q335 (by decide) (by decide) dX0_readText_5 ?_
  refine av_aload_n dX0_readText_8 rfl ?_
  refine av_getr am_ci0 (by decide) am_f0_1 q238 dX0_readText_9 ?_
  refine av_callV am_hT (mX6_begin l hfl N) am_ci6 ⟨by decide +kernel, by decide +kernel, by decide +kernel⟩ q336 q337 q126 q338 q339 (by decide) (by decide) dX0_readText_12 ?_
  refine av_aload_n dX0_readText_15 rfl ?_
  refine av_getr am_ci0 (by decide) am_f0_0 q237 dX0_readText_16 ?_
  refine av_callV am_hT (mX8_next l hfl N) am_ci8 ⟨by decide +kernel, by decide +kernel, by decide +kernel⟩ q243 q244 q53 q245 q246 (by decide) (by decide) dX0_readText_19 ?_
  refine av_aload_n dX0_readText_22 rfl ?_
  refine av_getr am_ci0 (by decide) am_f0_0 q237 dX0_readText_23 ?_
  refine av_ldcs t1 (by decide) dX0_readText_26 ?_
  refine av_callV am_hT (mX8_isWord l hfl N) am_ci8 ⟨by decide +kernel, by decide +kernel, by decide +kernel⟩ q307 q308 q53 q309 q310 (by decide) (by decide) dX0_readText_28 ?_
  refine av_ifne (tgt := 42) dX0_readText_31 (by decide) ?_ ?_
  · exact vX0_readText_42 l hfl N
  refine av_aload_n dX0_readText_34 rfl ?_
  refine av_getr am_ci0 (by decide) am_f0_0 q237 dX0_readText_35 ?_
  refine av_iconst (v := 1) dX0_readText_38 (by decide) ?_
  refine av_callV am_hT (mX8_fail l hfl N) am_ci8 ⟨by decide +kernel, by decide +kernel, by decide +kernel⟩ q255 q256 q53 q257 q258 (by decide) (by decide) dX0_readText_39 ?_
  exact vX0_readText_42 l hfl N
theorem mX0_readText (l : Launch) (hfl : l.stackTraces = false) (N : Nat) : am_M l yX0_readText cX0_readText 5 (some .int) 7 192 (fX0_readText N) := av_meth hfl (by decide +kernel) rfl (vX0_readText_0 l hfl N)
/-! MessengerBoard$QueryReader.<init>(LMessengerBoard$Tokens;LMessengerBoard$Situation;)V -/
noncomputable def kX5_init_0 (N : Nat) : am_K := c_live [0, 1, 2] <|
  c_rld 0 <|
  c_oinit <|
  c_rld 0 <|
  c_rld 1 <|
  c_putr 5 0 <|
  c_rld 0 <|
  c_rld 2 <|
  c_putr 5 1 <|
  c_vret
noncomputable def fX5_init (N : Nat) : am_F := am_fn 3 (kX5_init_0 N)
set_option maxRecDepth 20000 in
theorem vX5_init_0 (l : Launch) (hfl : l.stackTraces = false) (N : Nat)  : am_V l cX5_init 3 RX5 (am_E none yX5_init.name) 1 60 0 (kX5_init_0 N) := by
  refine av_live ?_
  refine av_aload_n dX5_init_0 rfl ?_
  refine av_objInit q356 q25 q26 (by decide) (by decide) dX5_init_1 ?_
  refine av_aload_n dX5_init_4 rfl ?_
  refine av_aload_n dX5_init_5 rfl ?_
  refine av_putrF am_ci5 (by decide) am_f5_0 q357 (tyX5_ok 0 (by decide)) (fun _ => ⟨rfl, rfl⟩) ⟨rfl, rfl⟩ dX5_init_6 ?_
  refine av_aload_n dX5_init_9 rfl ?_
  refine av_aload_n dX5_init_10 rfl ?_
  refine av_putrF am_ci5 (by decide) am_f5_1 q358 (tyX5_ok 1 (by decide)) (fun _ => ⟨rfl, rfl⟩) ⟨rfl, rfl⟩ dX5_init_11 ?_
  exact av_return_ am_hv dX5_init_14
theorem mX5_init (l : Launch) (hfl : l.stackTraces = false) (N : Nat) : am_M l yX5_init cX5_init 3 none 1 60 (fX5_init N) := av_meth hfl (by decide +kernel) rfl (vX5_init_0 l hfl N)
/-! MessengerBoard$QueryReader.operandAtHand()I -/
noncomputable def kX5_operandAtHand_187 (N : Nat) : am_K := c_live [] <|
  c_i (10002) <|
  c_iret
noncomputable def kX5_operandAtHand_31 (N : Nat) : am_K := c_live [0] <|
  c_rld 0 <|
  c_getr 5 0 <|
  c_callV 8 0 (fX8_value N) <|
  c_iret
noncomputable def kX5_operandAtHand_0 (N : Nat) : am_K := c_live [0] <|
  c_rld 0 <|
  c_getr 5 0 <|
  c_callV 8 0 (fX8_isNumber N) <|
  c_ifeq (
  c_rld 0 <|
  c_getr 5 0 <|
  c_a 23 <|
  c_callV 8 1 (fX8_isWord N) <|
  c_ifeq (
  c_rld 0 <|
  c_getr 5 0 <|
  c_a 5 <|
  c_callV 8 1 (fX8_isWord N) <|
  c_ifeq (
  c_rld 0 <|
  c_getr 5 0 <|
  c_a 24 <|
  c_callV 8 1 (fX8_isWord N) <|
  c_ifeq (
  c_rld 0 <|
  c_getr 5 0 <|
  c_a 25 <|
  c_callV 8 1 (fX8_isWord N) <|
  c_ifeq (
  c_rld 0 <|
  c_getr 5 0 <|
  c_a 26 <|
  c_callV 8 1 (fX8_isWord N) <|
  c_ifeq (
  c_rld 0 <|
  c_getr 5 0 <|
  c_a 27 <|
  c_callV 8 1 (fX8_isWord N) <|
  c_ifeq (
  c_rld 0 <|
  c_getr 5 0 <|
  c_a 28 <|
  c_callV 8 1 (fX8_isWord N) <|
  c_ifeq (
  c_rld 0 <|
  c_getr 5 0 <|
  c_a 29 <|
  c_callV 8 1 (fX8_isWord N) <|
  c_ifeq (
  c_rld 0 <|
  c_getr 5 0 <|
  c_a 30 <|
  c_callV 8 1 (fX8_isWord N) <|
  c_ifne (
  kX5_operandAtHand_187 N) <|
  c_rld 0 <|
  c_getr 5 0 <|
  c_i (1) <|
  c_callV 8 1 (fX8_fail N) <|
  kX5_operandAtHand_187 N) <|
  c_i (10001) <|
  c_iret) <|
  c_i (10009) <|
  c_iret) <|
  c_i (10006) <|
  c_iret) <|
  c_i (10005) <|
  c_iret) <|
  c_i (10004) <|
  c_iret) <|
  c_i (10003) <|
  c_iret) <|
  c_i (10000) <|
  c_iret) <|
  c_i (10010) <|
  c_iret) <|
  c_rld 0 <|
  c_getr 5 0 <|
  c_callV 8 0 (fX8_value N) <|
  c_i (10000) <|
  c_iclt (
  kX5_operandAtHand_31 N) <|
  c_rld 0 <|
  c_getr 5 0 <|
  c_i (2) <|
  c_callV 8 1 (fX8_fail N) <|
  kX5_operandAtHand_31 N
noncomputable def fX5_operandAtHand (N : Nat) : am_F := am_fn 1 (kX5_operandAtHand_0 N)
set_option maxRecDepth 20000 in
theorem vX5_operandAtHand_187 (l : Launch) (hfl : l.stackTraces = false) (N : Nat)  : am_V l cX5_operandAtHand 1 RX5 (am_E (some .int) yX5_operandAtHand.name) 6 168 187 (kX5_operandAtHand_187 N) := by
  refine av_live ?_
  refine av_sipush (v := 10002) dX5_operandAtHand_187 (by decide) ?_
  exact av_ireturn am_hi dX5_operandAtHand_190
set_option maxRecDepth 20000 in
theorem vX5_operandAtHand_31 (l : Launch) (hfl : l.stackTraces = false) (N : Nat)  : am_V l cX5_operandAtHand 1 RX5 (am_E (some .int) yX5_operandAtHand.name) 6 168 31 (kX5_operandAtHand_31 N) := by
  refine av_live ?_
  refine av_aload_n dX5_operandAtHand_31 rfl ?_
  refine av_getr am_ci5 (by decide) am_f5_0 q357 dX5_operandAtHand_32 ?_
  refine av_callV am_hT (mX8_value l hfl N) am_ci8 ⟨by decide +kernel, by decide +kernel, by decide +kernel⟩ q362 q252 q53 q253 q254 (by decide) (by decide) dX5_operandAtHand_35 ?_
  exact av_ireturn am_hi dX5_operandAtHand_38
set_option maxRecDepth 20000 in
theorem vX5_operandAtHand_0 (l : Launch) (hfl : l.stackTraces = false) (N : Nat)  : am_V l cX5_operandAtHand 1 RX5 (am_E (some .int) yX5_operandAtHand.name) 6 168 0 (kX5_operandAtHand_0 N) := by
  refine av_live ?_
  refine av_aload_n dX5_operandAtHand_0 rfl ?_
  refine av_getr am_ci5 (by decide) am_f5_0 q357 dX5_operandAtHand_1 ?_
  refine av_callV am_hT (mX8_isNumber l hfl N) am_ci8 ⟨by decide +kernel, by decide +kernel, by decide +kernel⟩ q359 q248 q53 q249 q250 (by decide) (by decide) dX5_operandAtHand_4 ?_
  refine av_ifeq (tgt := 39) dX5_operandAtHand_7 (by decide) ?_ ?_
  · refine av_aload_n dX5_operandAtHand_39 rfl ?_
    refine av_getr am_ci5 (by decide) am_f5_0 q357 dX5_operandAtHand_40 ?_
    refine av_ldcs t22 (by decide) dX5_operandAtHand_43 ?_
    refine av_callV am_hT (mX8_isWord l hfl N) am_ci8 ⟨by decide +kernel, by decide +kernel, by decide +kernel⟩ q360 q308 q53 q309 q310 (by decide) (by decide) dX5_operandAtHand_45 ?_
    refine av_ifeq (tgt := 55) dX5_operandAtHand_48 (by decide) ?_ ?_
    · refine av_aload_n dX5_operandAtHand_55 rfl ?_
      refine av_getr am_ci5 (by decide) am_f5_0 q357 dX5_operandAtHand_56 ?_
      refine av_ldcs t23 (by decide) dX5_operandAtHand_59 ?_
      refine av_callV am_hT (mX8_isWord l hfl N) am_ci8 ⟨by decide +kernel, by decide +kernel, by decide +kernel⟩ q360 q308 q53 q309 q310 (by decide) (by decide) dX5_operandAtHand_61 ?_
      refine av_ifeq (tgt := 71) dX5_operandAtHand_64 (by decide) ?_ ?_
      · refine av_aload_n dX5_operandAtHand_71 rfl ?_
        refine av_getr am_ci5 (by decide) am_f5_0 q357 dX5_operandAtHand_72 ?_
        refine av_ldcs t24 (by decide) dX5_operandAtHand_75 ?_
        refine av_callV am_hT (mX8_isWord l hfl N) am_ci8 ⟨by decide +kernel, by decide +kernel, by decide +kernel⟩ q360 q308 q53 q309 q310 (by decide) (by decide) dX5_operandAtHand_77 ?_
        refine av_ifeq (tgt := 87) dX5_operandAtHand_80 (by decide) ?_ ?_
        · refine av_aload_n dX5_operandAtHand_87 rfl ?_
          refine av_getr am_ci5 (by decide) am_f5_0 q357 dX5_operandAtHand_88 ?_
          refine av_ldcs t25 (by decide) dX5_operandAtHand_91 ?_
          refine av_callV am_hT (mX8_isWord l hfl N) am_ci8 ⟨by decide +kernel, by decide +kernel, by decide +kernel⟩ q360 q308 q53 q309 q310 (by decide) (by decide) dX5_operandAtHand_93 ?_
          refine av_ifeq (tgt := 103) dX5_operandAtHand_96 (by decide) ?_ ?_
          · refine av_aload_n dX5_operandAtHand_103 rfl ?_
            refine av_getr am_ci5 (by decide) am_f5_0 q357 dX5_operandAtHand_104 ?_
            refine av_ldcs t26 (by decide) dX5_operandAtHand_107 ?_
            refine av_callV am_hT (mX8_isWord l hfl N) am_ci8 ⟨by decide +kernel, by decide +kernel, by decide +kernel⟩ q360 q308 q53 q309 q310 (by decide) (by decide) dX5_operandAtHand_109 ?_
            refine av_ifeq (tgt := 119) dX5_operandAtHand_112 (by decide) ?_ ?_
            · refine av_aload_n dX5_operandAtHand_119 rfl ?_
              refine av_getr am_ci5 (by decide) am_f5_0 q357 dX5_operandAtHand_120 ?_
              refine av_ldcs t27 (by decide) dX5_operandAtHand_123 ?_
              refine av_callV am_hT (mX8_isWord l hfl N) am_ci8 ⟨by decide +kernel, by decide +kernel, by decide +kernel⟩ q360 q308 q53 q309 q310 (by decide) (by decide) dX5_operandAtHand_125 ?_
              refine av_ifeq (tgt := 135) dX5_operandAtHand_128 (by decide) ?_ ?_
              · refine av_aload_n dX5_operandAtHand_135 rfl ?_
                refine av_getr am_ci5 (by decide) am_f5_0 q357 dX5_operandAtHand_136 ?_
                refine av_ldcs t28 (by decide) dX5_operandAtHand_139 ?_
                refine av_callV am_hT (mX8_isWord l hfl N) am_ci8 ⟨by decide +kernel, by decide +kernel, by decide +kernel⟩ q360 q308 q53 q309 q310 (by decide) (by decide) dX5_operandAtHand_141 ?_
                refine av_ifeq (tgt := 151) dX5_operandAtHand_144 (by decide) ?_ ?_
                · refine av_aload_n dX5_operandAtHand_151 rfl ?_
                  refine av_getr am_ci5 (by decide) am_f5_0 q357 dX5_operandAtHand_152 ?_
                  refine av_ldcs t29 (by decide) dX5_operandAtHand_155 ?_
                  refine av_callV am_hT (mX8_isWord l hfl N) am_ci8 ⟨by decide +kernel, by decide +kernel, by decide +kernel⟩ q360 q308 q53 q309 q310 (by decide) (by decide) dX5_operandAtHand_157 ?_
                  refine av_ifeq (tgt := 167) dX5_operandAtHand_160 (by decide) ?_ ?_
                  · refine av_aload_n dX5_operandAtHand_167 rfl ?_
                    refine av_getr am_ci5 (by decide) am_f5_0 q357 dX5_operandAtHand_168 ?_
                    refine av_ldcs t30 (by decide) dX5_operandAtHand_171 ?_
                    refine av_callV am_hT (mX8_isWord l hfl N) am_ci8 ⟨by decide +kernel, by decide +kernel, by decide +kernel⟩ q360 q308 q53 q309 q310 (by decide) (by decide) dX5_operandAtHand_173 ?_
                    refine av_ifne (tgt := 187) dX5_operandAtHand_176 (by decide) ?_ ?_
                    · exact vX5_operandAtHand_187 l hfl N
                    refine av_aload_n dX5_operandAtHand_179 rfl ?_
                    refine av_getr am_ci5 (by decide) am_f5_0 q357 dX5_operandAtHand_180 ?_
                    refine av_iconst (v := 1) dX5_operandAtHand_183 (by decide) ?_
                    refine av_callV am_hT (mX8_fail l hfl N) am_ci8 ⟨by decide +kernel, by decide +kernel, by decide +kernel⟩ q361 q256 q53 q257 q258 (by decide) (by decide) dX5_operandAtHand_184 ?_
                    exact vX5_operandAtHand_187 l hfl N
                  refine av_sipush (v := 10001) dX5_operandAtHand_163 (by decide) ?_
                  exact av_ireturn am_hi dX5_operandAtHand_166
                refine av_sipush (v := 10009) dX5_operandAtHand_147 (by decide) ?_
                exact av_ireturn am_hi dX5_operandAtHand_150
              refine av_sipush (v := 10006) dX5_operandAtHand_131 (by decide) ?_
              exact av_ireturn am_hi dX5_operandAtHand_134
            refine av_sipush (v := 10005) dX5_operandAtHand_115 (by decide) ?_
            exact av_ireturn am_hi dX5_operandAtHand_118
          refine av_sipush (v := 10004) dX5_operandAtHand_99 (by decide) ?_
          exact av_ireturn am_hi dX5_operandAtHand_102
        refine av_sipush (v := 10003) dX5_operandAtHand_83 (by decide) ?_
        exact av_ireturn am_hi dX5_operandAtHand_86
      refine av_sipush (v := 10000) dX5_operandAtHand_67 (by decide) ?_
      exact av_ireturn am_hi dX5_operandAtHand_70
    refine av_sipush (v := 10010) dX5_operandAtHand_51 (by decide) ?_
    exact av_ireturn am_hi dX5_operandAtHand_54
  refine av_aload_n dX5_operandAtHand_10 rfl ?_
  refine av_getr am_ci5 (by decide) am_f5_0 q357 dX5_operandAtHand_11 ?_
  refine av_callV am_hT (mX8_value l hfl N) am_ci8 ⟨by decide +kernel, by decide +kernel, by decide +kernel⟩ q362 q252 q53 q253 q254 (by decide) (by decide) dX5_operandAtHand_14 ?_
  refine av_sipush (v := 10000) dX5_operandAtHand_17 (by decide) ?_
  refine av_iclt (tgt := 31) dX5_operandAtHand_20 (by decide) ?_ ?_
  · exact vX5_operandAtHand_31 l hfl N
  refine av_aload_n dX5_operandAtHand_23 rfl ?_
  refine av_getr am_ci5 (by decide) am_f5_0 q357 dX5_operandAtHand_24 ?_
  refine av_iconst (v := 2) dX5_operandAtHand_27 (by decide) ?_
  refine av_callV am_hT (mX8_fail l hfl N) am_ci8 ⟨by decide +kernel, by decide +kernel, by decide +kernel⟩ q361 q256 q53 q257 q258 (by decide) (by decide) dX5_operandAtHand_28 ?_
  exact vX5_operandAtHand_31 l hfl N
theorem mX5_operandAtHand (l : Launch) (hfl : l.stackTraces = false) (N : Nat) : am_M l yX5_operandAtHand cX5_operandAtHand 1 (some .int) 6 168 (fX5_operandAtHand N) := av_meth hfl (by decide +kernel) rfl (vX5_operandAtHand_0 l hfl N)
/-! MessengerBoard$QueryReader.valueOf(II)I -/
noncomputable def kX5_valueOf_57 (N : Nat) : am_K := c_live [] <|
  c_iret
noncomputable def kX5_valueOf_48 (N : Nat) : am_K := c_live [4] <|
  c_ild 4 <|
  c_i (1) <|
  c_ii (fun x y => x + y) <|
  kX5_valueOf_57 N
noncomputable def kX5_valueOf_0 (N : Nat) : am_K := c_live [0, 1, 2] <|
  c_ild 1 <|
  c_i (10000) <|
  c_icge (
  c_ild 1 <|
  c_i (10000) <|
  c_ii (fun x y => x - y) <|
  c_ist 3 <|
  c_ild 3 <|
  c_i (10) <|
  c_icne (
  c_rld 0 <|
  c_getr 5 1 <|
  c_getr 6 11 <|
  c_ild 2 <|
  c_ild 3 <|
  c_callV 7 2 (fX7_get N) <|
  c_ist 4 <|
  c_ild 3 <|
  c_i (5) <|
  c_iceq (
  kX5_valueOf_48 N) <|
  c_ild 3 <|
  c_i (6) <|
  c_icne (
  c_ild 4 <|
  kX5_valueOf_57 N) <|
  kX5_valueOf_48 N) <|
  c_ild 2 <|
  c_iret) <|
  c_ild 1 <|
  c_iret
noncomputable def fX5_valueOf (N : Nat) : am_F := am_fn 5 (kX5_valueOf_0 N)
set_option maxRecDepth 20000 in
theorem vX5_valueOf_57 (l : Launch) (hfl : l.stackTraces = false) (N : Nat)  : am_V l cX5_valueOf 5 RX5 (am_E (some .int) yX5_valueOf.name) 2 84 57 (kX5_valueOf_57 N) := by
  refine av_live ?_
  exact av_ireturn am_hi dX5_valueOf_57
set_option maxRecDepth 20000 in
theorem vX5_valueOf_48 (l : Launch) (hfl : l.stackTraces = false) (N : Nat)  : am_V l cX5_valueOf 5 RX5 (am_E (some .int) yX5_valueOf.name) 2 84 48 (kX5_valueOf_48 N) := by
  refine av_live ?_
  refine av_iload dX5_valueOf_48 ?_
  refine av_iconst (v := 1) dX5_valueOf_50 (by decide) ?_
  refine av_iadd dX5_valueOf_51 ?_
  refine av_goto (tgt := 57) dX5_valueOf_52 (by decide) ?_
  exact vX5_valueOf_57 l hfl N
set_option maxRecDepth 20000 in
theorem vX5_valueOf_0 (l : Launch) (hfl : l.stackTraces = false) (N : Nat)  : am_V l cX5_valueOf 5 RX5 (am_E (some .int) yX5_valueOf.name) 2 84 0 (kX5_valueOf_0 N) := by
  refine av_live ?_
  refine av_iload_n dX5_valueOf_0 rfl ?_
  refine av_sipush (v := 10000) dX5_valueOf_1 (by decide) ?_
  refine av_icge (tgt := 9) dX5_valueOf_4 (by decide) ?_ ?_
  · refine av_iload_n dX5_valueOf_9 rfl ?_
    refine av_sipush (v := 10000) dX5_valueOf_10 (by decide) ?_
    refine av_isub dX5_valueOf_13 ?_
    refine av_istore_n dX5_valueOf_14 rfl (by decide) ?_
    refine av_iload_n dX5_valueOf_15 rfl ?_
    refine av_bipush (v := 10) dX5_valueOf_16 (by decide) ?_
    refine av_icne (tgt := 23) dX5_valueOf_18 (by decide) ?_ ?_
    · refine av_aload_n dX5_valueOf_23 rfl ?_
      refine av_getr am_ci5 (by decide) am_f5_1 q358 dX5_valueOf_24 ?_
      refine av_getr am_ci6 (by decide) am_f6_11 q363 dX5_valueOf_27 ?_
      refine av_iload_n dX5_valueOf_30 rfl ?_
      refine av_iload_n dX5_valueOf_31 rfl ?_
      refine av_callV am_hT (mX7_get l hfl N) am_ci7 ⟨by decide +kernel, by decide +kernel, by decide +kernel⟩ q364 q86 q73 q87 q88 (by decide) (by decide) dX5_valueOf_32 ?_
      refine av_istore dX5_valueOf_35 (by decide) ?_
      refine av_iload_n dX5_valueOf_37 rfl ?_
      refine av_iconst (v := 5) dX5_valueOf_38 (by decide) ?_
      refine av_iceq (tgt := 48) dX5_valueOf_39 (by decide) ?_ ?_
      · exact vX5_valueOf_48 l hfl N
      refine av_iload_n dX5_valueOf_42 rfl ?_
      refine av_bipush (v := 6) dX5_valueOf_43 (by decide) ?_
      refine av_icne (tgt := 55) dX5_valueOf_45 (by decide) ?_ ?_
      · refine av_iload dX5_valueOf_55 ?_
        exact vX5_valueOf_57 l hfl N
      exact vX5_valueOf_48 l hfl N
    refine av_iload_n dX5_valueOf_21 rfl ?_
    exact av_ireturn am_hi dX5_valueOf_22
  refine av_iload_n dX5_valueOf_7 rfl ?_
  exact av_ireturn am_hi dX5_valueOf_8
theorem mX5_valueOf (l : Launch) (hfl : l.stackTraces = false) (N : Nat) : am_M l yX5_valueOf cX5_valueOf 5 (some .int) 2 84 (fX5_valueOf N) := av_meth hfl (by decide +kernel) rfl (vX5_valueOf_0 l hfl N)
/-! MessengerBoard$QueryReader.readFactor(I)J -/
noncomputable def kX5_readFactor_36 (N : Nat) (rF : am_F) : am_K := c_live [0, 1] <|
  c_rld 0 <|
  c_ild 1 <|
  c_callV 5 1 rF <|
  c_lret
noncomputable def kX5_readFactor_208 (N : Nat) (rF : am_F) (r142 : am_K) : am_K := c_live [0, 2, 3, 4, 5, 6, 8, 9] <|
  c_inc 9 (1) <|
  c_live [0, 2, 3, 4, 5, 6, 8, 9] r142
noncomputable def kX5_readFactor_199 (N : Nat) (rF : am_F) (r142 : am_K) : am_K := c_live [0, 2, 3, 4, 5, 6, 8, 9] <|
  c_lld 6 <|
  c_l 1 <|
  c_ild 9 <|
  c_li (fun x y => x <<< (y.toInt64 &&& 63)) <|
  c_ll (fun x y => x ||| y) <|
  c_lst 6 <|
  kX5_readFactor_208 N rF r142
noncomputable def bX5_readFactor_142 (N : Nat) (rF : am_F) (r142 : am_K) : am_K :=
  c_ild 9 <|
  c_ild 8 <|
  c_icge (
  c_lld 6 <|
  c_lret) <|
  c_rld 0 <|
  c_ild 2 <|
  c_ild 9 <|
  c_callV 5 2 (fX5_valueOf N) <|
  c_rld 0 <|
  c_ild 5 <|
  c_ild 9 <|
  c_callV 5 2 (fX5_valueOf N) <|
  c_callS 2 (fJ6_compare_7cf53 N) <|
  c_ist 10 <|
  c_ild 3 <|
  c_ifeq (
  c_ild 4 <|
  c_ifeq (
  c_ild 10 <|
  c_ifle (
  kX5_readFactor_208 N rF r142) <|
  kX5_readFactor_199 N rF r142) <|
  c_ild 10 <|
  c_ifne (
  kX5_readFactor_208 N rF r142) <|
  kX5_readFactor_199 N rF r142) <|
  c_ild 10 <|
  c_ifge (
  kX5_readFactor_208 N rF r142) <|
  kX5_readFactor_199 N rF r142
noncomputable def kX5_readFactor_142 (N : Nat) (rF : am_F) : am_K := c_live [0, 2, 3, 4, 5, 6, 8, 9] (am_loop (bX5_readFactor_142 N rF) N)
noncomputable def kX5_readFactor_104 (N : Nat) (rF : am_F) : am_K := c_live [0, 2, 3, 4] <|
  c_rld 0 <|
  c_getr 5 0 <|
  c_callV 8 0 (fX8_next N) <|
  c_rld 0 <|
  c_callV 5 0 (fX5_operandAtHand N) <|
  c_ist 5 <|
  c_rld 0 <|
  c_getr 5 0 <|
  c_callV 8 0 (fX8_next N) <|
  c_l 0 <|
  c_lst 6 <|
  c_rld 0 <|
  c_getr 5 1 <|
  c_getr 6 11 <|
  c_callV 7 0 (fX7_count N) <|
  c_ist 8 <|
  c_i (0) <|
  c_ist 9 <|
  kX5_readFactor_142 N rF
noncomputable def kX5_readFactor_0 (N : Nat) (rF : am_F) : am_K := c_live [0, 1] <|
  c_rld 0 <|
  c_getr 5 0 <|
  c_callV 8 0 (fX8_sound N) <|
  c_ifne (
  c_rld 0 <|
  c_getr 5 0 <|
  c_a 22 <|
  c_callV 8 1 (fX8_isWord N) <|
  c_ifne (
  kX5_readFactor_36 N rF) <|
  c_rld 0 <|
  c_getr 5 0 <|
  c_i (40) <|
  c_callV 8 1 (fX8_isSign N) <|
  c_ifeq (
  c_rld 0 <|
  c_callV 5 0 (fX5_operandAtHand N) <|
  c_ist 2 <|
  c_rld 0 <|
  c_getr 5 0 <|
  c_callV 8 0 (fX8_next N) <|
  c_rld 0 <|
  c_getr 5 0 <|
  c_i (60) <|
  c_callV 8 1 (fX8_isSign N) <|
  c_ist 3 <|
  c_rld 0 <|
  c_getr 5 0 <|
  c_i (61) <|
  c_callV 8 1 (fX8_isSign N) <|
  c_ist 4 <|
  c_ild 3 <|
  c_ifne (
  kX5_readFactor_104 N rF) <|
  c_ild 4 <|
  c_ifne (
  kX5_readFactor_104 N rF) <|
  c_rld 0 <|
  c_getr 5 0 <|
  c_i (62) <|
  c_callV 8 1 (fX8_isSign N) <|
  c_ifne (
  kX5_readFactor_104 N rF) <|
  c_rld 0 <|
  c_getr 5 0 <|
  c_i (1) <|
  c_callV 8 1 (fX8_fail N) <|
  kX5_readFactor_104 N rF) <|
  kX5_readFactor_36 N rF) <|
  c_l 0 <|
  c_lret
noncomputable def fX5_readFactor (N : Nat) (rF : am_F) : am_F := am_fn 11 (kX5_readFactor_0 N rF)
set_option maxRecDepth 20000 in
theorem vX5_readFactor_36 (l : Launch) (hfl : l.stackTraces = false) (N : Nat) {d : Nat} {rF : am_F} (hF : am_M l yX5_readOpened cX5_readOpened 5 (some .long) (20 + 4 * d) (700 + 240 * d) rF)  : am_V l cX5_readFactor 11 RX5 (am_E (some .long) yX5_readFactor.name) (20 + 4 * d + 1) (700 + 240 * d + 60) 36 (kX5_readFactor_36 N rF) := by
  refine av_live ?_
  refine av_aload_n dX5_readFactor_36 rfl ?_
  refine av_iload_n dX5_readFactor_37 rfl ?_
  refine av_callV am_hT hF am_ci5 ⟨by decide +kernel, by decide +kernel, by decide +kernel⟩ q366 q367 q368 q369 q370 (by omega) (by omega) dX5_readFactor_38 ?_
  exact av_lreturn am_hl dX5_readFactor_41
set_option maxRecDepth 20000 in
theorem vX5_readFactor_208 (l : Launch) (hfl : l.stackTraces = false) (N : Nat) {d : Nat} {rF : am_F} (hF : am_M l yX5_readOpened cX5_readOpened 5 (some .long) (20 + 4 * d) (700 + 240 * d) rF)  {r142 : am_K} (h142 : am_V l cX5_readFactor 11 RX5 (am_E (some .long) yX5_readFactor.name) (20 + 4 * d + 1) (700 + 240 * d + 60) 142 r142) : am_V l cX5_readFactor 11 RX5 (am_E (some .long) yX5_readFactor.name) (20 + 4 * d + 1) (700 + 240 * d + 60) 208 (kX5_readFactor_208 N rF r142) := by
  refine av_live ?_
  refine av_iinc dX5_readFactor_208 (by decide) (by decide) ?_
  refine av_goto (tgt := 142) dX5_readFactor_211 (by decide) ?_
  exact av_live h142
set_option maxRecDepth 20000 in
theorem vX5_readFactor_199 (l : Launch) (hfl : l.stackTraces = false) (N : Nat) {d : Nat} {rF : am_F} (hF : am_M l yX5_readOpened cX5_readOpened 5 (some .long) (20 + 4 * d) (700 + 240 * d) rF)  {r142 : am_K} (h142 : am_V l cX5_readFactor 11 RX5 (am_E (some .long) yX5_readFactor.name) (20 + 4 * d + 1) (700 + 240 * d + 60) 142 r142) : am_V l cX5_readFactor 11 RX5 (am_E (some .long) yX5_readFactor.name) (20 + 4 * d + 1) (700 + 240 * d + 60) 199 (kX5_readFactor_199 N rF r142) := by
  refine av_live ?_
  refine av_lload dX5_readFactor_199 ?_
  refine av_lconst dX5_readFactor_201 (by decide) ?_
  refine av_iload dX5_readFactor_202 ?_
  refine av_lshl dX5_readFactor_204 ?_
  refine av_lor dX5_readFactor_205 ?_
  refine av_lstore dX5_readFactor_206 (by decide) ?_
  exact vX5_readFactor_208 l hfl N hF h142
set_option maxRecDepth 20000 in
theorem vX5_readFactor_142 (l : Launch) (hfl : l.stackTraces = false) (N : Nat) {d : Nat} {rF : am_F} (hF : am_M l yX5_readOpened cX5_readOpened 5 (some .long) (20 + 4 * d) (700 + 240 * d) rF)  : am_V l cX5_readFactor 11 RX5 (am_E (some .long) yX5_readFactor.name) (20 + 4 * d + 1) (700 + 240 * d + 60) 142 (kX5_readFactor_142 N rF) := by
  refine av_live ?_
  refine av_loop (fun r142 h142 => ?_) N
  refine av_iload dX5_readFactor_142 ?_
  refine av_iload dX5_readFactor_144 ?_
  refine av_icge (tgt := 214) dX5_readFactor_146 (by decide) ?_ ?_
  · refine av_lload dX5_readFactor_214 ?_
    exact av_lreturn am_hl dX5_readFactor_216
  refine av_aload_n dX5_readFactor_149 rfl ?_
  refine av_iload_n dX5_readFactor_150 rfl ?_
  refine av_iload dX5_readFactor_151 ?_
  refine av_callV am_hT (mX5_valueOf l hfl N) am_ci5 ⟨by decide +kernel, by decide +kernel, by decide +kernel⟩ q378 q379 q368 q380 q381 (by omega) (by omega) dX5_readFactor_153 ?_
  refine av_aload_n dX5_readFactor_156 rfl ?_
  refine av_iload dX5_readFactor_157 ?_
  refine av_iload dX5_readFactor_159 ?_
  refine av_callV am_hT (mX5_valueOf l hfl N) am_ci5 ⟨by decide +kernel, by decide +kernel, by decide +kernel⟩ q378 q379 q368 q380 q381 (by omega) (by omega) dX5_readFactor_161 ?_
  refine av_callS am_hT (mJ6_compare_7cf53 l hfl N) ⟨by decide +kernel, by decide +kernel, by decide +kernel⟩ q382 q383 q384 q385 (by omega) (by omega) dX5_readFactor_164 ?_
  refine av_istore dX5_readFactor_167 (by decide) ?_
  refine av_iload_n dX5_readFactor_169 rfl ?_
  refine av_ifeq (tgt := 181) dX5_readFactor_170 (by decide) ?_ ?_
  · refine av_iload dX5_readFactor_181 ?_
    refine av_ifeq (tgt := 194) dX5_readFactor_183 (by decide) ?_ ?_
    · refine av_iload dX5_readFactor_194 ?_
      refine av_ifle (tgt := 208) dX5_readFactor_196 (by decide) ?_ ?_
      · exact vX5_readFactor_208 l hfl N hF h142
      exact vX5_readFactor_199 l hfl N hF h142
    refine av_iload dX5_readFactor_186 ?_
    refine av_ifne (tgt := 208) dX5_readFactor_188 (by decide) ?_ ?_
    · exact vX5_readFactor_208 l hfl N hF h142
    refine av_goto (tgt := 199) dX5_readFactor_191 (by decide) ?_
    exact vX5_readFactor_199 l hfl N hF h142
  refine av_iload dX5_readFactor_173 ?_
  refine av_ifge (tgt := 208) dX5_readFactor_175 (by decide) ?_ ?_
  · exact vX5_readFactor_208 l hfl N hF h142
  refine av_goto (tgt := 199) dX5_readFactor_178 (by decide) ?_
  exact vX5_readFactor_199 l hfl N hF h142
set_option maxRecDepth 20000 in
theorem vX5_readFactor_104 (l : Launch) (hfl : l.stackTraces = false) (N : Nat) {d : Nat} {rF : am_F} (hF : am_M l yX5_readOpened cX5_readOpened 5 (some .long) (20 + 4 * d) (700 + 240 * d) rF)  : am_V l cX5_readFactor 11 RX5 (am_E (some .long) yX5_readFactor.name) (20 + 4 * d + 1) (700 + 240 * d + 60) 104 (kX5_readFactor_104 N rF) := by
  refine av_live ?_
  refine av_aload_n dX5_readFactor_104 rfl ?_
  refine av_getr am_ci5 (by decide) am_f5_0 q357 dX5_readFactor_105 ?_
  refine av_callV am_hT (mX8_next l hfl N) am_ci8 ⟨by decide +kernel, by decide +kernel, by decide +kernel⟩ q376 q244 q53 q245 q246 (by omega) (by omega) dX5_readFactor_108 ?_
  refine av_aload_n dX5_readFactor_111 rfl ?_
  refine av_callV am_hT (mX5_operandAtHand l hfl N) am_ci5 ⟨by decide +kernel, by decide +kernel, by decide +kernel⟩ q372 q373 q368 q374 q375 (by omega) (by omega) dX5_readFactor_112 ?_
  refine av_istore dX5_readFactor_115 (by decide) ?_
  refine av_aload_n dX5_readFactor_117 rfl ?_
  refine av_getr am_ci5 (by decide) am_f5_0 q357 dX5_readFactor_118 ?_
  refine av_callV am_hT (mX8_next l hfl N) am_ci8 ⟨by decide +kernel, by decide +kernel, by decide +kernel⟩ q376 q244 q53 q245 q246 (by omega) (by omega) dX5_readFactor_121 ?_
  refine av_lconst dX5_readFactor_124 (by decide) ?_
  refine av_lstore dX5_readFactor_125 (by decide) ?_
  refine av_aload_n dX5_readFactor_127 rfl ?_
  refine av_getr am_ci5 (by decide) am_f5_1 q358 dX5_readFactor_128 ?_
  refine av_getr am_ci6 (by decide) am_f6_11 q363 dX5_readFactor_131 ?_
  refine av_callV am_hT (mX7_count l hfl N) am_ci7 ⟨by decide +kernel, by decide +kernel, by decide +kernel⟩ q377 q90 q73 q91 q92 (by omega) (by omega) dX5_readFactor_134 ?_
  refine av_istore dX5_readFactor_137 (by decide) ?_
  refine av_iconst (v := 0) dX5_readFactor_139 (by decide) ?_
  refine av_istore dX5_readFactor_140 (by decide) ?_
  exact vX5_readFactor_142 l hfl N hF
set_option maxRecDepth 20000 in
theorem vX5_readFactor_0 (l : Launch) (hfl : l.stackTraces = false) (N : Nat) {d : Nat} {rF : am_F} (hF : am_M l yX5_readOpened cX5_readOpened 5 (some .long) (20 + 4 * d) (700 + 240 * d) rF)  : am_V l cX5_readFactor 11 RX5 (am_E (some .long) yX5_readFactor.name) (20 + 4 * d + 1) (700 + 240 * d + 60) 0 (kX5_readFactor_0 N rF) := by
  refine av_live ?_
  refine av_aload_n dX5_readFactor_0 rfl ?_
  refine av_getr am_ci5 (by decide) am_f5_0 q357 dX5_readFactor_1 ?_
  refine av_callV am_hT (mX8_sound l hfl N) am_ci8 ⟨by decide +kernel, by decide +kernel, by decide +kernel⟩ q365 q240 q53 q241 q242 (by omega) (by omega) dX5_readFactor_4 ?_
  refine av_ifne (tgt := 12) dX5_readFactor_7 (by decide) ?_ ?_
  · refine av_aload_n dX5_readFactor_12 rfl ?_
    refine av_getr am_ci5 (by decide) am_f5_0 q357 dX5_readFactor_13 ?_
    refine av_ldcs t21 (by decide) dX5_readFactor_16 ?_
    refine av_callV am_hT (mX8_isWord l hfl N) am_ci8 ⟨by decide +kernel, by decide +kernel, by decide +kernel⟩ q360 q308 q53 q309 q310 (by omega) (by omega) dX5_readFactor_18 ?_
    refine av_ifne (tgt := 36) dX5_readFactor_21 (by decide) ?_ ?_
    · exact vX5_readFactor_36 l hfl N hF
    refine av_aload_n dX5_readFactor_24 rfl ?_
    refine av_getr am_ci5 (by decide) am_f5_0 q357 dX5_readFactor_25 ?_
    refine av_bipush (v := 40) dX5_readFactor_28 (by decide) ?_
    refine av_callV am_hT (mX8_isSign l hfl N) am_ci8 ⟨by decide +kernel, by decide +kernel, by decide +kernel⟩ q371 q260 q53 q261 q262 (by omega) (by omega) dX5_readFactor_30 ?_
    refine av_ifeq (tgt := 42) dX5_readFactor_33 (by decide) ?_ ?_
    · refine av_aload_n dX5_readFactor_42 rfl ?_
      refine av_callV am_hT (mX5_operandAtHand l hfl N) am_ci5 ⟨by decide +kernel, by decide +kernel, by decide +kernel⟩ q372 q373 q368 q374 q375 (by omega) (by omega) dX5_readFactor_43 ?_
      refine av_istore_n dX5_readFactor_46 rfl (by decide) ?_
      refine av_aload_n dX5_readFactor_47 rfl ?_
      refine av_getr am_ci5 (by decide) am_f5_0 q357 dX5_readFactor_48 ?_
      refine av_callV am_hT (mX8_next l hfl N) am_ci8 ⟨by decide +kernel, by decide +kernel, by decide +kernel⟩ q376 q244 q53 q245 q246 (by omega) (by omega) dX5_readFactor_51 ?_
      refine av_aload_n dX5_readFactor_54 rfl ?_
      refine av_getr am_ci5 (by decide) am_f5_0 q357 dX5_readFactor_55 ?_
      refine av_bipush (v := 60) dX5_readFactor_58 (by decide) ?_
      refine av_callV am_hT (mX8_isSign l hfl N) am_ci8 ⟨by decide +kernel, by decide +kernel, by decide +kernel⟩ q371 q260 q53 q261 q262 (by omega) (by omega) dX5_readFactor_60 ?_
      refine av_istore_n dX5_readFactor_63 rfl (by decide) ?_
      refine av_aload_n dX5_readFactor_64 rfl ?_
      refine av_getr am_ci5 (by decide) am_f5_0 q357 dX5_readFactor_65 ?_
      refine av_bipush (v := 61) dX5_readFactor_68 (by decide) ?_
      refine av_callV am_hT (mX8_isSign l hfl N) am_ci8 ⟨by decide +kernel, by decide +kernel, by decide +kernel⟩ q371 q260 q53 q261 q262 (by omega) (by omega) dX5_readFactor_70 ?_
      refine av_istore dX5_readFactor_73 (by decide) ?_
      refine av_iload_n dX5_readFactor_75 rfl ?_
      refine av_ifne (tgt := 104) dX5_readFactor_76 (by decide) ?_ ?_
      · exact vX5_readFactor_104 l hfl N hF
      refine av_iload dX5_readFactor_79 ?_
      refine av_ifne (tgt := 104) dX5_readFactor_81 (by decide) ?_ ?_
      · exact vX5_readFactor_104 l hfl N hF
      refine av_aload_n dX5_readFactor_84 rfl ?_
      refine av_getr am_ci5 (by decide) am_f5_0 q357 dX5_readFactor_85 ?_
      refine av_bipush (v := 62) dX5_readFactor_88 (by decide) ?_
      refine av_callV am_hT (mX8_isSign l hfl N) am_ci8 ⟨by decide +kernel, by decide +kernel, by decide +kernel⟩ q371 q260 q53 q261 q262 (by omega) (by omega) dX5_readFactor_90 ?_
      refine av_ifne (tgt := 104) dX5_readFactor_93 (by decide) ?_ ?_
      · exact vX5_readFactor_104 l hfl N hF
      refine av_aload_n dX5_readFactor_96 rfl ?_
      refine av_getr am_ci5 (by decide) am_f5_0 q357 dX5_readFactor_97 ?_
      refine av_iconst (v := 1) dX5_readFactor_100 (by decide) ?_
      refine av_callV am_hT (mX8_fail l hfl N) am_ci8 ⟨by decide +kernel, by decide +kernel, by decide +kernel⟩ q361 q256 q53 q257 q258 (by omega) (by omega) dX5_readFactor_101 ?_
      exact vX5_readFactor_104 l hfl N hF
    exact vX5_readFactor_36 l hfl N hF
  refine av_lconst dX5_readFactor_10 (by decide) ?_
  exact av_lreturn am_hl dX5_readFactor_11
theorem mX5_readFactor (l : Launch) (hfl : l.stackTraces = false) (N : Nat) {d : Nat} {rF : am_F} (hF : am_M l yX5_readOpened cX5_readOpened 5 (some .long) (20 + 4 * d) (700 + 240 * d) rF) : am_M l yX5_readFactor cX5_readFactor 11 (some .long) (20 + 4 * d + 1) (700 + 240 * d + 60) (fX5_readFactor N rF) := av_meth hfl (by decide +kernel) rfl (vX5_readFactor_0 l hfl N hF)
/-! MessengerBoard$QueryReader.readConjunction(I)J -/
noncomputable def kX5_readConjunction_60 (N : Nat) (rF : am_F) : am_K := c_live [2] <|
  c_lld 2 <|
  c_lret
noncomputable def bX5_readConjunction_9 (N : Nat) (rF : am_F) (r9 : am_K) : am_K :=
  c_ild 4 <|
  c_i (200) <|
  c_icge (
  kX5_readConjunction_60 N rF) <|
  c_rld 0 <|
  c_getr 5 0 <|
  c_callV 8 0 (fX8_sound N) <|
  c_ifeq (
  kX5_readConjunction_60 N rF) <|
  c_rld 0 <|
  c_getr 5 0 <|
  c_a 31 <|
  c_callV 8 1 (fX8_isWord N) <|
  c_ifeq (
  kX5_readConjunction_60 N rF) <|
  c_rld 0 <|
  c_getr 5 0 <|
  c_callV 8 0 (fX8_next N) <|
  c_lld 2 <|
  c_rld 0 <|
  c_ild 1 <|
  c_callV 5 1 (fX5_readFactor N rF) <|
  c_ll (fun x y => x &&& y) <|
  c_lst 2 <|
  c_inc 4 (1) <|
  c_live [0, 1, 2, 4] r9
noncomputable def kX5_readConjunction_9 (N : Nat) (rF : am_F) : am_K := c_live [0, 1, 2, 4] (am_loop (bX5_readConjunction_9 N rF) N)
noncomputable def kX5_readConjunction_0 (N : Nat) (rF : am_F) : am_K := c_live [0, 1] <|
  c_rld 0 <|
  c_ild 1 <|
  c_callV 5 1 (fX5_readFactor N rF) <|
  c_lst 2 <|
  c_i (0) <|
  c_ist 4 <|
  kX5_readConjunction_9 N rF
noncomputable def fX5_readConjunction (N : Nat) (rF : am_F) : am_F := am_fn 5 (kX5_readConjunction_0 N rF)
set_option maxRecDepth 20000 in
theorem vX5_readConjunction_60 (l : Launch) (hfl : l.stackTraces = false) (N : Nat) {d : Nat} {rF : am_F} (hF : am_M l yX5_readOpened cX5_readOpened 5 (some .long) (20 + 4 * d) (700 + 240 * d) rF)  : am_V l cX5_readConjunction 5 RX5 (am_E (some .long) yX5_readConjunction.name) (20 + 4 * d + 2) (700 + 240 * d + 120) 60 (kX5_readConjunction_60 N rF) := by
  refine av_live ?_
  refine av_lload_n dX5_readConjunction_60 rfl ?_
  exact av_lreturn am_hl dX5_readConjunction_61
set_option maxRecDepth 20000 in
theorem vX5_readConjunction_9 (l : Launch) (hfl : l.stackTraces = false) (N : Nat) {d : Nat} {rF : am_F} (hF : am_M l yX5_readOpened cX5_readOpened 5 (some .long) (20 + 4 * d) (700 + 240 * d) rF)  : am_V l cX5_readConjunction 5 RX5 (am_E (some .long) yX5_readConjunction.name) (20 + 4 * d + 2) (700 + 240 * d + 120) 9 (kX5_readConjunction_9 N rF) := by
  refine av_live ?_
  refine av_loop (fun r9 h9 => ?_) N
  refine av_iload dX5_readConjunction_9 ?_
  refine av_sipush (v := 200) dX5_readConjunction_11 (by decide) ?_
  refine av_icge (tgt := 60) dX5_readConjunction_14 (by decide) ?_ ?_
  · exact vX5_readConjunction_60 l hfl N hF
  refine av_aload_n dX5_readConjunction_17 rfl ?_
  refine av_getr am_ci5 (by decide) am_f5_0 q357 dX5_readConjunction_18 ?_
  refine av_callV am_hT (mX8_sound l hfl N) am_ci8 ⟨by decide +kernel, by decide +kernel, by decide +kernel⟩ q365 q240 q53 q241 q242 (by omega) (by omega) dX5_readConjunction_21 ?_
  refine av_ifeq (tgt := 60) dX5_readConjunction_24 (by decide) ?_ ?_
  · exact vX5_readConjunction_60 l hfl N hF
  refine av_aload_n dX5_readConjunction_27 rfl ?_
  refine av_getr am_ci5 (by decide) am_f5_0 q357 dX5_readConjunction_28 ?_
  refine av_ldcs t31 (by decide) dX5_readConjunction_31 ?_
  refine av_callV am_hT (mX8_isWord l hfl N) am_ci8 ⟨by decide +kernel, by decide +kernel, by decide +kernel⟩ q360 q308 q53 q309 q310 (by omega) (by omega) dX5_readConjunction_33 ?_
  refine av_ifeq (tgt := 60) dX5_readConjunction_36 (by decide) ?_ ?_
  · exact vX5_readConjunction_60 l hfl N hF
  refine av_aload_n dX5_readConjunction_39 rfl ?_
  refine av_getr am_ci5 (by decide) am_f5_0 q357 dX5_readConjunction_40 ?_
  refine av_callV am_hT (mX8_next l hfl N) am_ci8 ⟨by decide +kernel, by decide +kernel, by decide +kernel⟩ q376 q244 q53 q245 q246 (by omega) (by omega) dX5_readConjunction_43 ?_
  refine av_lload_n dX5_readConjunction_46 rfl ?_
  refine av_aload_n dX5_readConjunction_47 rfl ?_
  refine av_iload_n dX5_readConjunction_48 rfl ?_
  refine av_callV am_hT (mX5_readFactor l hfl N hF) am_ci5 ⟨by decide +kernel, by decide +kernel, by decide +kernel⟩ q386 q387 q368 q388 q389 (by omega) (by omega) dX5_readConjunction_49 ?_
  refine av_land dX5_readConjunction_52 ?_
  refine av_lstore_n dX5_readConjunction_53 rfl (by decide) ?_
  refine av_iinc dX5_readConjunction_54 (by decide) (by decide) ?_
  refine av_goto (tgt := 9) dX5_readConjunction_57 (by decide) ?_
  exact av_live h9
set_option maxRecDepth 20000 in
theorem vX5_readConjunction_0 (l : Launch) (hfl : l.stackTraces = false) (N : Nat) {d : Nat} {rF : am_F} (hF : am_M l yX5_readOpened cX5_readOpened 5 (some .long) (20 + 4 * d) (700 + 240 * d) rF)  : am_V l cX5_readConjunction 5 RX5 (am_E (some .long) yX5_readConjunction.name) (20 + 4 * d + 2) (700 + 240 * d + 120) 0 (kX5_readConjunction_0 N rF) := by
  refine av_live ?_
  refine av_aload_n dX5_readConjunction_0 rfl ?_
  refine av_iload_n dX5_readConjunction_1 rfl ?_
  refine av_callV am_hT (mX5_readFactor l hfl N hF) am_ci5 ⟨by decide +kernel, by decide +kernel, by decide +kernel⟩ q386 q387 q368 q388 q389 (by omega) (by omega) dX5_readConjunction_2 ?_
  refine av_lstore_n dX5_readConjunction_5 rfl (by decide) ?_
  refine av_iconst (v := 0) dX5_readConjunction_6 (by decide) ?_
  refine av_istore dX5_readConjunction_7 (by decide) ?_
  exact vX5_readConjunction_9 l hfl N hF
theorem mX5_readConjunction (l : Launch) (hfl : l.stackTraces = false) (N : Nat) {d : Nat} {rF : am_F} (hF : am_M l yX5_readOpened cX5_readOpened 5 (some .long) (20 + 4 * d) (700 + 240 * d) rF) : am_M l yX5_readConjunction cX5_readConjunction 5 (some .long) (20 + 4 * d + 2) (700 + 240 * d + 120) (fX5_readConjunction N rF) := av_meth hfl (by decide +kernel) rfl (vX5_readConjunction_0 l hfl N hF)
/-! MessengerBoard$QueryReader.readTest(I)J -/
noncomputable def kX5_readTest_60 (N : Nat) (rF : am_F) : am_K := c_live [2] <|
  c_lld 2 <|
  c_lret
noncomputable def bX5_readTest_9 (N : Nat) (rF : am_F) (r9 : am_K) : am_K :=
  c_ild 4 <|
  c_i (200) <|
  c_icge (
  kX5_readTest_60 N rF) <|
  c_rld 0 <|
  c_getr 5 0 <|
  c_callV 8 0 (fX8_sound N) <|
  c_ifeq (
  kX5_readTest_60 N rF) <|
  c_rld 0 <|
  c_getr 5 0 <|
  c_a 32 <|
  c_callV 8 1 (fX8_isWord N) <|
  c_ifeq (
  kX5_readTest_60 N rF) <|
  c_rld 0 <|
  c_getr 5 0 <|
  c_callV 8 0 (fX8_next N) <|
  c_lld 2 <|
  c_rld 0 <|
  c_ild 1 <|
  c_callV 5 1 (fX5_readConjunction N rF) <|
  c_ll (fun x y => x ||| y) <|
  c_lst 2 <|
  c_inc 4 (1) <|
  c_live [0, 1, 2, 4] r9
noncomputable def kX5_readTest_9 (N : Nat) (rF : am_F) : am_K := c_live [0, 1, 2, 4] (am_loop (bX5_readTest_9 N rF) N)
noncomputable def kX5_readTest_0 (N : Nat) (rF : am_F) : am_K := c_live [0, 1] <|
  c_rld 0 <|
  c_ild 1 <|
  c_callV 5 1 (fX5_readConjunction N rF) <|
  c_lst 2 <|
  c_i (0) <|
  c_ist 4 <|
  kX5_readTest_9 N rF
noncomputable def fX5_readTest (N : Nat) (rF : am_F) : am_F := am_fn 5 (kX5_readTest_0 N rF)
set_option maxRecDepth 20000 in
theorem vX5_readTest_60 (l : Launch) (hfl : l.stackTraces = false) (N : Nat) {d : Nat} {rF : am_F} (hF : am_M l yX5_readOpened cX5_readOpened 5 (some .long) (20 + 4 * d) (700 + 240 * d) rF)  : am_V l cX5_readTest 5 RX5 (am_E (some .long) yX5_readTest.name) (20 + 4 * d + 3) (700 + 240 * d + 180) 60 (kX5_readTest_60 N rF) := by
  refine av_live ?_
  refine av_lload_n dX5_readTest_60 rfl ?_
  exact av_lreturn am_hl dX5_readTest_61
set_option maxRecDepth 20000 in
theorem vX5_readTest_9 (l : Launch) (hfl : l.stackTraces = false) (N : Nat) {d : Nat} {rF : am_F} (hF : am_M l yX5_readOpened cX5_readOpened 5 (some .long) (20 + 4 * d) (700 + 240 * d) rF)  : am_V l cX5_readTest 5 RX5 (am_E (some .long) yX5_readTest.name) (20 + 4 * d + 3) (700 + 240 * d + 180) 9 (kX5_readTest_9 N rF) := by
  refine av_live ?_
  refine av_loop (fun r9 h9 => ?_) N
  refine av_iload dX5_readTest_9 ?_
  refine av_sipush (v := 200) dX5_readTest_11 (by decide) ?_
  refine av_icge (tgt := 60) dX5_readTest_14 (by decide) ?_ ?_
  · exact vX5_readTest_60 l hfl N hF
  refine av_aload_n dX5_readTest_17 rfl ?_
  refine av_getr am_ci5 (by decide) am_f5_0 q357 dX5_readTest_18 ?_
  refine av_callV am_hT (mX8_sound l hfl N) am_ci8 ⟨by decide +kernel, by decide +kernel, by decide +kernel⟩ q365 q240 q53 q241 q242 (by omega) (by omega) dX5_readTest_21 ?_
  refine av_ifeq (tgt := 60) dX5_readTest_24 (by decide) ?_ ?_
  · exact vX5_readTest_60 l hfl N hF
  refine av_aload_n dX5_readTest_27 rfl ?_
  refine av_getr am_ci5 (by decide) am_f5_0 q357 dX5_readTest_28 ?_
  refine av_ldcs t32 (by decide) dX5_readTest_31 ?_
  refine av_callV am_hT (mX8_isWord l hfl N) am_ci8 ⟨by decide +kernel, by decide +kernel, by decide +kernel⟩ q360 q308 q53 q309 q310 (by omega) (by omega) dX5_readTest_33 ?_
  refine av_ifeq (tgt := 60) dX5_readTest_36 (by decide) ?_ ?_
  · exact vX5_readTest_60 l hfl N hF
  refine av_aload_n dX5_readTest_39 rfl ?_
  refine av_getr am_ci5 (by decide) am_f5_0 q357 dX5_readTest_40 ?_
  refine av_callV am_hT (mX8_next l hfl N) am_ci8 ⟨by decide +kernel, by decide +kernel, by decide +kernel⟩ q376 q244 q53 q245 q246 (by omega) (by omega) dX5_readTest_43 ?_
  refine av_lload_n dX5_readTest_46 rfl ?_
  refine av_aload_n dX5_readTest_47 rfl ?_
  refine av_iload_n dX5_readTest_48 rfl ?_
  refine av_callV am_hT (mX5_readConjunction l hfl N hF) am_ci5 ⟨by decide +kernel, by decide +kernel, by decide +kernel⟩ q390 q391 q368 q392 q393 (by omega) (by omega) dX5_readTest_49 ?_
  refine av_lor dX5_readTest_52 ?_
  refine av_lstore_n dX5_readTest_53 rfl (by decide) ?_
  refine av_iinc dX5_readTest_54 (by decide) (by decide) ?_
  refine av_goto (tgt := 9) dX5_readTest_57 (by decide) ?_
  exact av_live h9
set_option maxRecDepth 20000 in
theorem vX5_readTest_0 (l : Launch) (hfl : l.stackTraces = false) (N : Nat) {d : Nat} {rF : am_F} (hF : am_M l yX5_readOpened cX5_readOpened 5 (some .long) (20 + 4 * d) (700 + 240 * d) rF)  : am_V l cX5_readTest 5 RX5 (am_E (some .long) yX5_readTest.name) (20 + 4 * d + 3) (700 + 240 * d + 180) 0 (kX5_readTest_0 N rF) := by
  refine av_live ?_
  refine av_aload_n dX5_readTest_0 rfl ?_
  refine av_iload_n dX5_readTest_1 rfl ?_
  refine av_callV am_hT (mX5_readConjunction l hfl N hF) am_ci5 ⟨by decide +kernel, by decide +kernel, by decide +kernel⟩ q390 q391 q368 q392 q393 (by omega) (by omega) dX5_readTest_2 ?_
  refine av_lstore_n dX5_readTest_5 rfl (by decide) ?_
  refine av_iconst (v := 0) dX5_readTest_6 (by decide) ?_
  refine av_istore dX5_readTest_7 (by decide) ?_
  exact vX5_readTest_9 l hfl N hF
theorem mX5_readTest (l : Launch) (hfl : l.stackTraces = false) (N : Nat) {d : Nat} {rF : am_F} (hF : am_M l yX5_readOpened cX5_readOpened 5 (some .long) (20 + 4 * d) (700 + 240 * d) rF) : am_M l yX5_readTest cX5_readTest 5 (some .long) (20 + 4 * d + 3) (700 + 240 * d + 180) (fX5_readTest N rF) := av_meth hfl (by decide +kernel) rfl (vX5_readTest_0 l hfl N hF)
/-! MessengerBoard$QueryReader.readOpened(I)J -/
noncomputable def kX5_readOpened_77 (N : Nat) (rF : am_F) : am_K := c_live [0, 3] <|
  c_rld 0 <|
  c_getr 5 0 <|
  c_callV 8 0 (fX8_next N) <|
  c_lld 3 <|
  c_lret
noncomputable def kX5_readOpened_0 (N : Nat) (rF : am_F) : am_K := c_live [0, 1] <|
  c_ild 1 <|
  c_i (6) <|
  c_iclt (
  c_rld 0 <|
  c_getr 5 0 <|
  c_a 22 <|
  c_callV 8 1 (fX8_isWord N) <|
  c_ist 2 <|
  c_rld 0 <|
  c_getr 5 0 <|
  c_callV 8 0 (fX8_next N) <|
  c_ild 2 <|
  c_ifeq (
  c_rld 0 <|
  c_ild 1 <|
  c_i (1) <|
  c_ii (fun x y => x + y) <|
  c_callV 5 1 (fX5_readTest N rF) <|
  c_lst 3 <|
  c_rld 0 <|
  c_getr 5 0 <|
  c_i (41) <|
  c_callV 8 1 (fX8_isSign N) <|
  c_ifne (
  kX5_readOpened_77 N rF) <|
  c_rld 0 <|
  c_getr 5 0 <|
  c_i (1) <|
  c_callV 8 1 (fX8_fail N) <|
  kX5_readOpened_77 N rF) <|
  c_rld 0 <|
  c_ild 1 <|
  c_i (1) <|
  c_ii (fun x y => x + y) <|
  c_callV 5 1 (fX5_readFactor N rF) <|
  c_l (-1) <|
  c_ll (fun x y => x ^^^ y) <|
  c_lret) <|
  c_rld 0 <|
  c_getr 5 0 <|
  c_i (3) <|
  c_callV 8 1 (fX8_fail N) <|
  c_l 0 <|
  c_lret
noncomputable def fX5_readOpened (N : Nat) (rF : am_F) : am_F := am_fn 5 (kX5_readOpened_0 N rF)
noncomputable def rX5_readOpened (N : Nat) : Nat → am_F := Nat.rec (motive := fun _ => am_F) (fun _ _ => none) (fun _ r => fX5_readOpened N r)
set_option maxRecDepth 20000 in
theorem vX5_readOpened_77 (l : Launch) (hfl : l.stackTraces = false) (N : Nat) {d : Nat} {rF : am_F} (hF : am_M l yX5_readOpened cX5_readOpened 5 (some .long) (20 + 4 * d) (700 + 240 * d) rF)  : am_V l cX5_readOpened 5 RX5 (am_E (some .long) yX5_readOpened.name) (20 + 4 * (d + 1)) (700 + 240 * (d + 1)) 77 (kX5_readOpened_77 N rF) := by
  refine av_live ?_
  refine av_aload_n dX5_readOpened_77 rfl ?_
  refine av_getr am_ci5 (by decide) am_f5_0 q357 dX5_readOpened_78 ?_
  refine av_callV am_hT (mX8_next l hfl N) am_ci8 ⟨by decide +kernel, by decide +kernel, by decide +kernel⟩ q376 q244 q53 q245 q246 (by omega) (by omega) dX5_readOpened_81 ?_
  refine av_lload_n dX5_readOpened_84 rfl ?_
  exact av_lreturn am_hl dX5_readOpened_85
set_option maxRecDepth 20000 in
theorem vX5_readOpened_0 (l : Launch) (hfl : l.stackTraces = false) (N : Nat) {d : Nat} {rF : am_F} (hF : am_M l yX5_readOpened cX5_readOpened 5 (some .long) (20 + 4 * d) (700 + 240 * d) rF)  : am_V l cX5_readOpened 5 RX5 (am_E (some .long) yX5_readOpened.name) (20 + 4 * (d + 1)) (700 + 240 * (d + 1)) 0 (kX5_readOpened_0 N rF) := by
  refine av_live ?_
  refine av_iload_n dX5_readOpened_0 rfl ?_
  refine av_bipush (v := 6) dX5_readOpened_1 (by decide) ?_
  refine av_iclt (tgt := 16) dX5_readOpened_3 (by decide) ?_ ?_
  · refine av_aload_n dX5_readOpened_16 rfl ?_
    refine av_getr am_ci5 (by decide) am_f5_0 q357 dX5_readOpened_17 ?_
    refine av_ldcs t21 (by decide) dX5_readOpened_20 ?_
    refine av_callV am_hT (mX8_isWord l hfl N) am_ci8 ⟨by decide +kernel, by decide +kernel, by decide +kernel⟩ q360 q308 q53 q309 q310 (by omega) (by omega) dX5_readOpened_22 ?_
    refine av_istore_n dX5_readOpened_25 rfl (by decide) ?_
    refine av_aload_n dX5_readOpened_26 rfl ?_
    refine av_getr am_ci5 (by decide) am_f5_0 q357 dX5_readOpened_27 ?_
    refine av_callV am_hT (mX8_next l hfl N) am_ci8 ⟨by decide +kernel, by decide +kernel, by decide +kernel⟩ q376 q244 q53 q245 q246 (by omega) (by omega) dX5_readOpened_30 ?_
    refine av_iload_n dX5_readOpened_33 rfl ?_
    refine av_ifeq (tgt := 49) dX5_readOpened_34 (by decide) ?_ ?_
    · refine av_aload_n dX5_readOpened_49 rfl ?_
      refine av_iload_n dX5_readOpened_50 rfl ?_
      refine av_iconst (v := 1) dX5_readOpened_51 (by decide) ?_
      refine av_iadd dX5_readOpened_52 ?_
      refine av_callV am_hT (mX5_readTest l hfl N hF) am_ci5 ⟨by decide +kernel, by decide +kernel, by decide +kernel⟩ q394 q395 q368 q396 q397 (by omega) (by omega) dX5_readOpened_53 ?_
      refine av_lstore_n dX5_readOpened_56 rfl (by decide) ?_
      refine av_aload_n dX5_readOpened_57 rfl ?_
      refine av_getr am_ci5 (by decide) am_f5_0 q357 dX5_readOpened_58 ?_
      refine av_bipush (v := 41) dX5_readOpened_61 (by decide) ?_
      refine av_callV am_hT (mX8_isSign l hfl N) am_ci8 ⟨by decide +kernel, by decide +kernel, by decide +kernel⟩ q371 q260 q53 q261 q262 (by omega) (by omega) dX5_readOpened_63 ?_
      refine av_ifne (tgt := 77) dX5_readOpened_66 (by decide) ?_ ?_
      · exact vX5_readOpened_77 l hfl N hF
      refine av_aload_n dX5_readOpened_69 rfl ?_
      refine av_getr am_ci5 (by decide) am_f5_0 q357 dX5_readOpened_70 ?_
      refine av_iconst (v := 1) dX5_readOpened_73 (by decide) ?_
      refine av_callV am_hT (mX8_fail l hfl N) am_ci8 ⟨by decide +kernel, by decide +kernel, by decide +kernel⟩ q361 q256 q53 q257 q258 (by omega) (by omega) dX5_readOpened_74 ?_
      exact vX5_readOpened_77 l hfl N hF
    refine av_aload_n dX5_readOpened_37 rfl ?_
    refine av_iload_n dX5_readOpened_38 rfl ?_
    refine av_iconst (v := 1) dX5_readOpened_39 (by decide) ?_
    refine av_iadd dX5_readOpened_40 ?_
    refine av_callV am_hT (mX5_readFactor l hfl N hF) am_ci5 ⟨by decide +kernel, by decide +kernel, by decide +kernel⟩ q386 q387 q368 q388 q389 (by omega) (by omega) dX5_readOpened_41 ?_
    refine av_ldc2 dX5_readOpened_44 q398 ?_
    refine av_lxor dX5_readOpened_47 ?_
    exact av_lreturn am_hl dX5_readOpened_48
  refine av_aload_n dX5_readOpened_6 rfl ?_
  refine av_getr am_ci5 (by decide) am_f5_0 q357 dX5_readOpened_7 ?_
  refine av_iconst (v := 3) dX5_readOpened_10 (by decide) ?_
  refine av_callV am_hT (mX8_fail l hfl N) am_ci8 ⟨by decide +kernel, by decide +kernel, by decide +kernel⟩ q361 q256 q53 q257 q258 (by omega) (by omega) dX5_readOpened_11 ?_
  refine av_lconst dX5_readOpened_14 (by decide) ?_
  exact av_lreturn am_hl dX5_readOpened_15
theorem mX5_readOpened (l : Launch) (hfl : l.stackTraces = false) (N : Nat) {d : Nat} {rF : am_F} (hF : am_M l yX5_readOpened cX5_readOpened 5 (some .long) (20 + 4 * d) (700 + 240 * d) rF) : am_M l yX5_readOpened cX5_readOpened 5 (some .long) (20 + 4 * (d + 1)) (700 + 240 * (d + 1)) (fX5_readOpened N rF) := av_meth hfl (by decide +kernel) rfl (vX5_readOpened_0 l hfl N hF)
theorem rX5_readOpened_m (l : Launch) (hfl : l.stackTraces = false) (N : Nat) : ∀ d : Nat, am_M l yX5_readOpened cX5_readOpened 5 (some .long) (20 + 4 * d) (700 + 240 * d) (rX5_readOpened N d)
  | 0 => am_M.none
  | d + 1 => mX5_readOpened l hfl N (rX5_readOpened_m l hfl N d)
/-! MessengerBoard$QueryReader.countOf(J)I -/
noncomputable def bX5_countOf_17 (N : Nat) (r17 : am_K) : am_K :=
  c_ild 5 <|
  c_ild 4 <|
  c_icge (
  c_ild 3 <|
  c_iret) <|
  c_ild 3 <|
  c_lld 1 <|
  c_ild 5 <|
  c_li (fun x y => x >>> (y.toInt64 &&& 63)) <|
  c_l 1 <|
  c_ll (fun x y => x &&& y) <|
  c_lti (fun x => x.toInt32) <|
  c_ii (fun x y => x + y) <|
  c_ist 3 <|
  c_inc 5 (1) <|
  c_live [1, 3, 4, 5] r17
noncomputable def kX5_countOf_17 (N : Nat) : am_K := c_live [1, 3, 4, 5] (am_loop (bX5_countOf_17 N) N)
noncomputable def kX5_countOf_0 (N : Nat) : am_K := c_live [0, 1] <|
  c_i (0) <|
  c_ist 3 <|
  c_rld 0 <|
  c_getr 5 1 <|
  c_getr 6 11 <|
  c_callV 7 0 (fX7_count N) <|
  c_ist 4 <|
  c_i (0) <|
  c_ist 5 <|
  kX5_countOf_17 N
noncomputable def fX5_countOf (N : Nat) : am_F := am_fn 6 (kX5_countOf_0 N)
set_option maxRecDepth 20000 in
theorem vX5_countOf_17 (l : Launch) (hfl : l.stackTraces = false) (N : Nat)  : am_V l cX5_countOf 6 RX5 (am_E (some .int) yX5_countOf.name) 2 80 17 (kX5_countOf_17 N) := by
  refine av_live ?_
  refine av_loop (fun r17 h17 => ?_) N
  refine av_iload dX5_countOf_17 ?_
  refine av_iload dX5_countOf_19 ?_
  refine av_icge (tgt := 40) dX5_countOf_21 (by decide) ?_ ?_
  · refine av_iload_n dX5_countOf_40 rfl ?_
    exact av_ireturn am_hi dX5_countOf_41
  refine av_iload_n dX5_countOf_24 rfl ?_
  refine av_lload_n dX5_countOf_25 rfl ?_
  refine av_iload dX5_countOf_26 ?_
  refine av_lshr dX5_countOf_28 ?_
  refine av_lconst dX5_countOf_29 (by decide) ?_
  refine av_land dX5_countOf_30 ?_
  refine av_l2i dX5_countOf_31 ?_
  refine av_iadd dX5_countOf_32 ?_
  refine av_istore_n dX5_countOf_33 rfl (by decide) ?_
  refine av_iinc dX5_countOf_34 (by decide) (by decide) ?_
  refine av_goto (tgt := 17) dX5_countOf_37 (by decide) ?_
  exact av_live h17
set_option maxRecDepth 20000 in
theorem vX5_countOf_0 (l : Launch) (hfl : l.stackTraces = false) (N : Nat)  : am_V l cX5_countOf 6 RX5 (am_E (some .int) yX5_countOf.name) 2 80 0 (kX5_countOf_0 N) := by
  refine av_live ?_
  refine av_iconst (v := 0) dX5_countOf_0 (by decide) ?_
  refine av_istore_n dX5_countOf_1 rfl (by decide) ?_
  refine av_aload_n dX5_countOf_2 rfl ?_
  refine av_getr am_ci5 (by decide) am_f5_1 q358 dX5_countOf_3 ?_
  refine av_getr am_ci6 (by decide) am_f6_11 q363 dX5_countOf_6 ?_
  refine av_callV am_hT (mX7_count l hfl N) am_ci7 ⟨by decide +kernel, by decide +kernel, by decide +kernel⟩ q377 q90 q73 q91 q92 (by decide) (by decide) dX5_countOf_9 ?_
  refine av_istore dX5_countOf_12 (by decide) ?_
  refine av_iconst (v := 0) dX5_countOf_14 (by decide) ?_
  refine av_istore dX5_countOf_15 (by decide) ?_
  exact vX5_countOf_17 l hfl N
theorem mX5_countOf (l : Launch) (hfl : l.stackTraces = false) (N : Nat) : am_M l yX5_countOf cX5_countOf 6 (some .int) 2 80 (fX5_countOf N) := av_meth hfl (by decide +kernel) rfl (vX5_countOf_0 l hfl N)
/-! MessengerBoard$QueryReader.firstOf(J)I -/
noncomputable def bX5_firstOf_14 (N : Nat) (r14 : am_K) : am_K :=
  c_ild 4 <|
  c_ild 3 <|
  c_icge (
  c_i (-1) <|
  c_iret) <|
  c_lld 1 <|
  c_ild 4 <|
  c_li (fun x y => x >>> (y.toInt64 &&& 63)) <|
  c_l 1 <|
  c_ll (fun x y => x &&& y) <|
  c_l 0 <|
  c_cmp (fun x y => lg_cmp x y) <|
  c_ifeq (
  c_inc 4 (1) <|
  c_live [1, 3, 4] r14) <|
  c_ild 4 <|
  c_iret
noncomputable def kX5_firstOf_14 (N : Nat) : am_K := c_live [1, 3, 4] (am_loop (bX5_firstOf_14 N) N)
noncomputable def kX5_firstOf_0 (N : Nat) : am_K := c_live [0, 1] <|
  c_rld 0 <|
  c_getr 5 1 <|
  c_getr 6 11 <|
  c_callV 7 0 (fX7_count N) <|
  c_ist 3 <|
  c_i (0) <|
  c_ist 4 <|
  kX5_firstOf_14 N
noncomputable def fX5_firstOf (N : Nat) : am_F := am_fn 5 (kX5_firstOf_0 N)
set_option maxRecDepth 20000 in
theorem vX5_firstOf_14 (l : Launch) (hfl : l.stackTraces = false) (N : Nat)  : am_V l cX5_firstOf 5 RX5 (am_E (some .int) yX5_firstOf.name) 2 80 14 (kX5_firstOf_14 N) := by
  refine av_live ?_
  refine av_loop (fun r14 h14 => ?_) N
  refine av_iload dX5_firstOf_14 ?_
  refine av_iload_n dX5_firstOf_16 rfl ?_
  refine av_icge (tgt := 40) dX5_firstOf_17 (by decide) ?_ ?_
  · refine av_iconst (v := -1) dX5_firstOf_40 (by decide) ?_
    exact av_ireturn am_hi dX5_firstOf_41
  refine av_lload_n dX5_firstOf_20 rfl ?_
  refine av_iload dX5_firstOf_21 ?_
  refine av_lshr dX5_firstOf_23 ?_
  refine av_lconst dX5_firstOf_24 (by decide) ?_
  refine av_land dX5_firstOf_25 ?_
  refine av_lconst dX5_firstOf_26 (by decide) ?_
  refine av_lcmp dX5_firstOf_27 ?_
  refine av_ifeq (tgt := 34) dX5_firstOf_28 (by decide) ?_ ?_
  · refine av_iinc dX5_firstOf_34 (by decide) (by decide) ?_
    refine av_goto (tgt := 14) dX5_firstOf_37 (by decide) ?_
    exact av_live h14
  refine av_iload dX5_firstOf_31 ?_
  exact av_ireturn am_hi dX5_firstOf_33
set_option maxRecDepth 20000 in
theorem vX5_firstOf_0 (l : Launch) (hfl : l.stackTraces = false) (N : Nat)  : am_V l cX5_firstOf 5 RX5 (am_E (some .int) yX5_firstOf.name) 2 80 0 (kX5_firstOf_0 N) := by
  refine av_live ?_
  refine av_aload_n dX5_firstOf_0 rfl ?_
  refine av_getr am_ci5 (by decide) am_f5_1 q358 dX5_firstOf_1 ?_
  refine av_getr am_ci6 (by decide) am_f6_11 q363 dX5_firstOf_4 ?_
  refine av_callV am_hT (mX7_count l hfl N) am_ci7 ⟨by decide +kernel, by decide +kernel, by decide +kernel⟩ q377 q90 q73 q91 q92 (by decide) (by decide) dX5_firstOf_7 ?_
  refine av_istore_n dX5_firstOf_10 rfl (by decide) ?_
  refine av_iconst (v := 0) dX5_firstOf_11 (by decide) ?_
  refine av_istore dX5_firstOf_12 (by decide) ?_
  exact vX5_firstOf_14 l hfl N
theorem mX5_firstOf (l : Launch) (hfl : l.stackTraces = false) (N : Nat) : am_M l yX5_firstOf cX5_firstOf 5 (some .int) 2 80 (fX5_firstOf N) := av_meth hfl (by decide +kernel) rfl (vX5_firstOf_0 l hfl N)
/-! MessengerBoard$QueryReader.answer(I)I -/
noncomputable def kX5_answer_118 (N : Nat) : am_K := c_live [] <|
  c_iret
noncomputable def kX5_answer_80 (N : Nat) : am_K := c_live [0, 2, 3] <|
  c_rld 0 <|
  c_getr 5 0 <|
  c_callV 8 0 (fX8_sound N) <|
  c_ifne (
  c_ild 2 <|
  c_ifeq (
  c_rld 0 <|
  c_lld 3 <|
  c_callV 5 1 (fX5_firstOf N) <|
  kX5_answer_118 N) <|
  c_rld 0 <|
  c_lld 3 <|
  c_callV 5 1 (fX5_countOf N) <|
  kX5_answer_118 N) <|
  c_i (-1000000000) <|
  c_rld 0 <|
  c_getr 5 0 <|
  c_callV 8 0 (fX8_errorCode N) <|
  c_ii (fun x y => x - y) <|
  c_iret
noncomputable def kX5_answer_49 (N : Nat) : am_K := c_live [0, 2] <|
  c_rld 0 <|
  c_getr 5 0 <|
  c_callV 8 0 (fX8_next N) <|
  c_rld 0 <|
  c_i (0) <|
  c_callV 5 1 (fX5_readTest N (rX5_readOpened N 8)) <|
  c_lst 3 <|
  c_rld 0 <|
  c_getr 5 0 <|
  c_callV 8 0 (fX8_atEnd N) <|
  c_ifne (
  kX5_answer_80 N) <|
  c_rld 0 <|
  c_getr 5 0 <|
  c_i (1) <|
  c_callV 8 1 (fX8_fail N) <|
  kX5_answer_80 N
noncomputable def kX5_answer_0 (N : Nat) : am_K := c_live [0, 1] <|
  c_rld 0 <|
  c_getr 5 0 <|
  c_ild 1 <|
  c_callV 8 1 (fX8_open N) <|
  c_rld 0 <|
  c_getr 5 0 <|
  c_callV 8 0 (fX8_next N) <|
  c_rld 0 <|
  c_getr 5 0 <|
  c_a 20 <|
  c_callV 8 1 (fX8_isWord N) <|
  c_ist 2 <|
  c_ild 2 <|
  c_ifne (
  kX5_answer_49 N) <|
  c_rld 0 <|
  c_getr 5 0 <|
  c_a 21 <|
  c_callV 8 1 (fX8_isWord N) <|
  c_ifne (
  kX5_answer_49 N) <|
  c_rld 0 <|
  c_getr 5 0 <|
  c_i (1) <|
  c_callV 8 1 (fX8_fail N) <|
  kX5_answer_49 N
noncomputable def fX5_answer (N : Nat) : am_F := am_fn 5 (kX5_answer_0 N)
set_option maxRecDepth 20000 in
theorem vX5_answer_118 (l : Launch) (hfl : l.stackTraces = false) (N : Nat)  : am_V l cX5_answer 5 RX5 (am_E (some .int) yX5_answer.name) 56 2824 118 (kX5_answer_118 N) := by
  refine av_live ?_
  exact av_ireturn am_hi dX5_answer_118
set_option maxRecDepth 20000 in
theorem vX5_answer_80 (l : Launch) (hfl : l.stackTraces = false) (N : Nat)  : am_V l cX5_answer 5 RX5 (am_E (some .int) yX5_answer.name) 56 2824 80 (kX5_answer_80 N) := by
  refine av_live ?_
  refine av_aload_n dX5_answer_80 rfl ?_
  refine av_getr am_ci5 (by decide) am_f5_0 q357 dX5_answer_81 ?_
  refine av_callV am_hT (mX8_sound l hfl N) am_ci8 ⟨by decide +kernel, by decide +kernel, by decide +kernel⟩ q365 q240 q53 q241 q242 (by decide) (by decide) dX5_answer_84 ?_
  refine av_ifne (tgt := 101) dX5_answer_87 (by decide) ?_ ?_
  · refine av_iload_n dX5_answer_101 rfl ?_
    refine av_ifeq (tgt := 113) dX5_answer_102 (by decide) ?_ ?_
    · refine av_aload_n dX5_answer_113 rfl ?_
      refine av_lload_n dX5_answer_114 rfl ?_
      refine av_callV am_hT (mX5_firstOf l hfl N) am_ci5 ⟨by decide +kernel, by decide +kernel, by decide +kernel⟩ q401 q402 q368 q403 q404 (by decide) (by decide) dX5_answer_115 ?_
      exact vX5_answer_118 l hfl N
    refine av_aload_n dX5_answer_105 rfl ?_
    refine av_lload_n dX5_answer_106 rfl ?_
    refine av_callV am_hT (mX5_countOf l hfl N) am_ci5 ⟨by decide +kernel, by decide +kernel, by decide +kernel⟩ q405 q406 q368 q407 q408 (by decide) (by decide) dX5_answer_107 ?_
    refine av_goto (tgt := 118) dX5_answer_110 (by decide) ?_
    exact vX5_answer_118 l hfl N
  refine av_ldc dX5_answer_90 q409 ?_
  refine av_aload_n dX5_answer_92 rfl ?_
  refine av_getr am_ci5 (by decide) am_f5_0 q357 dX5_answer_93 ?_
  refine av_callV am_hT (mX8_errorCode l hfl N) am_ci8 ⟨by decide +kernel, by decide +kernel, by decide +kernel⟩ q410 q345 q53 q346 q347 (by decide) (by decide) dX5_answer_96 ?_
  refine av_isub dX5_answer_99 ?_
  exact av_ireturn am_hi dX5_answer_100
set_option maxRecDepth 20000 in
theorem vX5_answer_49 (l : Launch) (hfl : l.stackTraces = false) (N : Nat)  : am_V l cX5_answer 5 RX5 (am_E (some .int) yX5_answer.name) 56 2824 49 (kX5_answer_49 N) := by
  refine av_live ?_
  refine av_aload_n dX5_answer_49 rfl ?_
  refine av_getr am_ci5 (by decide) am_f5_0 q357 dX5_answer_50 ?_
  refine av_callV am_hT (mX8_next l hfl N) am_ci8 ⟨by decide +kernel, by decide +kernel, by decide +kernel⟩ q376 q244 q53 q245 q246 (by decide) (by decide) dX5_answer_53 ?_
  refine av_aload_n dX5_answer_56 rfl ?_
  refine av_iconst (v := 0) dX5_answer_57 (by decide) ?_
  refine av_callV am_hT (mX5_readTest l hfl N (rX5_readOpened_m l hfl N 8)) am_ci5 ⟨by decide +kernel, by decide +kernel, by decide +kernel⟩ q394 q395 q368 q396 q397 (by decide) (by decide) dX5_answer_58 ?_
  refine av_lstore_n dX5_answer_61 rfl (by decide) ?_
  refine av_aload_n dX5_answer_62 rfl ?_
  refine av_getr am_ci5 (by decide) am_f5_0 q357 dX5_answer_63 ?_
  refine av_callV am_hT (mX8_atEnd l hfl N) am_ci8 ⟨by decide +kernel, by decide +kernel, by decide +kernel⟩ q400 q349 q53 q350 q351 (by decide) (by decide) dX5_answer_66 ?_
  refine av_ifne (tgt := 80) dX5_answer_69 (by decide) ?_ ?_
  · exact vX5_answer_80 l hfl N
  refine av_aload_n dX5_answer_72 rfl ?_
  refine av_getr am_ci5 (by decide) am_f5_0 q357 dX5_answer_73 ?_
  refine av_iconst (v := 1) dX5_answer_76 (by decide) ?_
  refine av_callV am_hT (mX8_fail l hfl N) am_ci8 ⟨by decide +kernel, by decide +kernel, by decide +kernel⟩ q361 q256 q53 q257 q258 (by decide) (by decide) dX5_answer_77 ?_
  exact vX5_answer_80 l hfl N
set_option maxRecDepth 20000 in
theorem vX5_answer_0 (l : Launch) (hfl : l.stackTraces = false) (N : Nat)  : am_V l cX5_answer 5 RX5 (am_E (some .int) yX5_answer.name) 56 2824 0 (kX5_answer_0 N) := by
  refine av_live ?_
  refine av_aload_n dX5_answer_0 rfl ?_
  refine av_getr am_ci5 (by decide) am_f5_0 q357 dX5_answer_1 ?_
  refine av_iload_n dX5_answer_4 rfl ?_
  refine av_callV am_hT (mX8_open l hfl N) am_ci8 ⟨by decide +kernel, by decide +kernel, by decide +kernel⟩ q399 q333 q53 q334 q335 (by decide) (by decide) dX5_answer_5 ?_
  refine av_aload_n dX5_answer_8 rfl ?_
  refine av_getr am_ci5 (by decide) am_f5_0 q357 dX5_answer_9 ?_
  refine av_callV am_hT (mX8_next l hfl N) am_ci8 ⟨by decide +kernel, by decide +kernel, by decide +kernel⟩ q376 q244 q53 q245 q246 (by decide) (by decide) dX5_answer_12 ?_
  refine av_aload_n dX5_answer_15 rfl ?_
  refine av_getr am_ci5 (by decide) am_f5_0 q357 dX5_answer_16 ?_
  refine av_ldcs t19 (by decide) dX5_answer_19 ?_
  refine av_callV am_hT (mX8_isWord l hfl N) am_ci8 ⟨by decide +kernel, by decide +kernel, by decide +kernel⟩ q360 q308 q53 q309 q310 (by decide) (by decide) dX5_answer_21 ?_
  refine av_istore_n dX5_answer_24 rfl (by decide) ?_
  refine av_iload_n dX5_answer_25 rfl ?_
  refine av_ifne (tgt := 49) dX5_answer_26 (by decide) ?_ ?_
  · exact vX5_answer_49 l hfl N
  refine av_aload_n dX5_answer_29 rfl ?_
  refine av_getr am_ci5 (by decide) am_f5_0 q357 dX5_answer_30 ?_
  refine av_ldcs t20 (by decide) dX5_answer_33 ?_
  refine av_callV am_hT (mX8_isWord l hfl N) am_ci8 ⟨by decide +kernel, by decide +kernel, by decide +kernel⟩ q360 q308 q53 q309 q310 (by decide) (by decide) dX5_answer_35 ?_
  refine av_ifne (tgt := 49) dX5_answer_38 (by decide) ?_ ?_
  · exact vX5_answer_49 l hfl N
  refine av_aload_n dX5_answer_41 rfl ?_
  refine av_getr am_ci5 (by decide) am_f5_0 q357 dX5_answer_42 ?_
  refine av_iconst (v := 1) dX5_answer_45 (by decide) ?_
  refine av_callV am_hT (mX8_fail l hfl N) am_ci8 ⟨by decide +kernel, by decide +kernel, by decide +kernel⟩ q361 q256 q53 q257 q258 (by decide) (by decide) dX5_answer_46 ?_
  exact vX5_answer_49 l hfl N
theorem mX5_answer (l : Launch) (hfl : l.stackTraces = false) (N : Nat) : am_M l yX5_answer cX5_answer 5 (some .int) 56 2824 (fX5_answer N) := av_meth hfl (by decide +kernel) rfl (vX5_answer_0 l hfl N)
