/-! java/lang/String.coder()B -/
noncomputable def kJ0_coder_7d493_14 (N : Nat) : am_K := c_live [] <|
  c_nret .byte
noncomputable def kJ0_coder_7d493_0 (N : Nat) : am_K := c_live [0] <|
  c_i (1) <|
  c_ifeq (
  c_i (1) <|
  kJ0_coder_7d493_14 N) <|
  c_rld 0 <|
  c_scod <|
  kJ0_coder_7d493_14 N
noncomputable def fJ0_coder_7d493 (N : Nat) : am_F := am_fn 1 (kJ0_coder_7d493_0 N)
set_option maxRecDepth 20000 in
theorem vJ0_coder_7d493_14 (l : Launch) (hfl : l.stackTraces = false) (N : Nat)  : am_V l cJ0_coder_7d493 1 RJ0 (am_E (some .byte) yJ0_coder_7d493.name) 1 60 14 (kJ0_coder_7d493_14 N) := by
  refine av_live ?_
  exact av_nreturn am_hn dJ0_coder_7d493_14
set_option maxRecDepth 20000 in
theorem vJ0_coder_7d493_0 (l : Launch) (hfl : l.stackTraces = false) (N : Nat)  : am_V l cJ0_coder_7d493 1 RJ0 (am_E (some .byte) yJ0_coder_7d493.name) 1 60 0 (kJ0_coder_7d493_0 N) := by
  refine av_live ?_
  refine av_cst q0 dJ0_coder_7d493_0 ?_
  refine av_ifeq (tgt := 13) dJ0_coder_7d493_3 (by decide) ?_ ?_
  · refine av_iconst (v := 1) dJ0_coder_7d493_13 (by decide) ?_
    exact vJ0_coder_7d493_14 l hfl N
  refine av_aload_n dJ0_coder_7d493_6 rfl ?_
  refine av_scod q1 dJ0_coder_7d493_7 ?_
  refine av_goto (tgt := 14) dJ0_coder_7d493_10 (by decide) ?_
  exact vJ0_coder_7d493_14 l hfl N
theorem mJ0_coder_7d493 (l : Launch) (hfl : l.stackTraces = false) (N : Nat) : am_M l yJ0_coder_7d493 cJ0_coder_7d493 1 (some .byte) 1 60 (fJ0_coder_7d493 N) := av_meth hfl (by decide +kernel) rfl (vJ0_coder_7d493_0 l hfl N)
/-! java/lang/String.length()I -/
noncomputable def kJ0_length_8abf5_0 (N : Nat) : am_K := c_live [0] <|
  c_rld 0 <|
  c_sval <|
  c_blen <|
  c_rld 0 <|
  c_callT 0 (fJ0_coder_7d493 N) <|
  c_ii (fun x y => x >>> (y &&& 31)) <|
  c_iret
noncomputable def fJ0_length_8abf5 (N : Nat) : am_F := am_fn 1 (kJ0_length_8abf5_0 N)
set_option maxRecDepth 20000 in
theorem vJ0_length_8abf5_0 (l : Launch) (hfl : l.stackTraces = false) (N : Nat)  : am_V l cJ0_length_8abf5 1 RJ0 (am_E (some .int) yJ0_length_8abf5.name) 2 80 0 (kJ0_length_8abf5_0 N) := by
  refine av_live ?_
  refine av_aload_n dJ0_length_8abf5_0 rfl ?_
  refine av_sval q2 dJ0_length_8abf5_1 ?_
  refine av_blen dJ0_length_8abf5_4 ?_
  refine av_aload_n dJ0_length_8abf5_5 rfl ?_
  refine av_callT am_hT (mJ0_coder_7d493 l hfl N) ⟨by decide +kernel, by decide +kernel, by decide +kernel⟩ q3 q4 q5 q6 q7 (by decide) (by decide) dJ0_length_8abf5_6 ?_
  refine av_ishr dJ0_length_8abf5_9 ?_
  exact av_ireturn am_hi dJ0_length_8abf5_10
theorem mJ0_length_8abf5 (l : Launch) (hfl : l.stackTraces = false) (N : Nat) : am_M l yJ0_length_8abf5 cJ0_length_8abf5 1 (some .int) 2 80 (fJ0_length_8abf5 N) := av_meth hfl (by decide +kernel) rfl (vJ0_length_8abf5_0 l hfl N)
/-! java/lang/String.isLatin1()Z -/
noncomputable def kJ0_isLatin1_aae02_18 (N : Nat) : am_K := c_live [] <|
  c_zret
noncomputable def kJ0_isLatin1_aae02_17 (N : Nat) : am_K := c_live [] <|
  c_i (0) <|
  kJ0_isLatin1_aae02_18 N
noncomputable def kJ0_isLatin1_aae02_0 (N : Nat) : am_K := c_live [0] <|
  c_i (1) <|
  c_ifeq (
  kJ0_isLatin1_aae02_17 N) <|
  c_rld 0 <|
  c_scod <|
  c_ifne (
  kJ0_isLatin1_aae02_17 N) <|
  c_i (1) <|
  kJ0_isLatin1_aae02_18 N
noncomputable def fJ0_isLatin1_aae02 (N : Nat) : am_F := am_fn 1 (kJ0_isLatin1_aae02_0 N)
set_option maxRecDepth 20000 in
theorem vJ0_isLatin1_aae02_18 (l : Launch) (hfl : l.stackTraces = false) (N : Nat)  : am_V l cJ0_isLatin1_aae02 1 RJ0 (am_E (some .boolean) yJ0_isLatin1_aae02.name) 1 60 18 (kJ0_isLatin1_aae02_18 N) := by
  refine av_live ?_
  exact av_zreturn am_hz dJ0_isLatin1_aae02_18
set_option maxRecDepth 20000 in
theorem vJ0_isLatin1_aae02_17 (l : Launch) (hfl : l.stackTraces = false) (N : Nat)  : am_V l cJ0_isLatin1_aae02 1 RJ0 (am_E (some .boolean) yJ0_isLatin1_aae02.name) 1 60 17 (kJ0_isLatin1_aae02_17 N) := by
  refine av_live ?_
  refine av_iconst (v := 0) dJ0_isLatin1_aae02_17 (by decide) ?_
  exact vJ0_isLatin1_aae02_18 l hfl N
set_option maxRecDepth 20000 in
theorem vJ0_isLatin1_aae02_0 (l : Launch) (hfl : l.stackTraces = false) (N : Nat)  : am_V l cJ0_isLatin1_aae02 1 RJ0 (am_E (some .boolean) yJ0_isLatin1_aae02.name) 1 60 0 (kJ0_isLatin1_aae02_0 N) := by
  refine av_live ?_
  refine av_cst q0 dJ0_isLatin1_aae02_0 ?_
  refine av_ifeq (tgt := 17) dJ0_isLatin1_aae02_3 (by decide) ?_ ?_
  · exact vJ0_isLatin1_aae02_17 l hfl N
  refine av_aload_n dJ0_isLatin1_aae02_6 rfl ?_
  refine av_scod q1 dJ0_isLatin1_aae02_7 ?_
  refine av_ifne (tgt := 17) dJ0_isLatin1_aae02_10 (by decide) ?_ ?_
  · exact vJ0_isLatin1_aae02_17 l hfl N
  refine av_iconst (v := 1) dJ0_isLatin1_aae02_13 (by decide) ?_
  refine av_goto (tgt := 18) dJ0_isLatin1_aae02_14 (by decide) ?_
  exact vJ0_isLatin1_aae02_18 l hfl N
theorem mJ0_isLatin1_aae02 (l : Launch) (hfl : l.stackTraces = false) (N : Nat) : am_M l yJ0_isLatin1_aae02 cJ0_isLatin1_aae02 1 (some .boolean) 1 60 (fJ0_isLatin1_aae02 N) := av_meth hfl (by decide +kernel) rfl (vJ0_isLatin1_aae02_0 l hfl N)
/-! jdk/internal/util/Preconditions.checkIndex(IILjava/util/function/BiFunction;)I -/
noncomputable def kJ3_checkIndex_8e157_9 (N : Nat) : am_K := c_live [2] <|
  (fun _ _ _ => none)
noncomputable def kJ3_checkIndex_8e157_0 (N : Nat) : am_K := c_live [0, 1, 2] <|
  c_ild 0 <|
  c_iflt (
  kJ3_checkIndex_8e157_9 N) <|
  c_ild 0 <|
  c_ild 1 <|
  c_iclt (
  c_ild 0 <|
  c_iret) <|
  kJ3_checkIndex_8e157_9 N
noncomputable def fJ3_checkIndex_8e157 (N : Nat) : am_F := am_fn 3 (kJ3_checkIndex_8e157_0 N)
set_option maxRecDepth 20000 in
theorem vJ3_checkIndex_8e157_9 (l : Launch) (hfl : l.stackTraces = false) (N : Nat)  : am_V l cJ3_checkIndex_8e157 3 RJ3 (am_E (some .int) yJ3_checkIndex_8e157.name) 1 60 9 (kJ3_checkIndex_8e157_9 N) := by
  refine av_live ?_
  exact av_none
set_option maxRecDepth 20000 in
theorem vJ3_checkIndex_8e157_0 (l : Launch) (hfl : l.stackTraces = false) (N : Nat)  : am_V l cJ3_checkIndex_8e157 3 RJ3 (am_E (some .int) yJ3_checkIndex_8e157.name) 1 60 0 (kJ3_checkIndex_8e157_0 N) := by
  refine av_live ?_
  refine av_iload_n dJ3_checkIndex_8e157_0 rfl ?_
  refine av_iflt (tgt := 9) dJ3_checkIndex_8e157_1 (by decide) ?_ ?_
  · exact vJ3_checkIndex_8e157_9 l hfl N
  refine av_iload_n dJ3_checkIndex_8e157_4 rfl ?_
  refine av_iload_n dJ3_checkIndex_8e157_5 rfl ?_
  refine av_iclt (tgt := 16) dJ3_checkIndex_8e157_6 (by decide) ?_ ?_
  · refine av_iload_n dJ3_checkIndex_8e157_16 rfl ?_
    exact av_ireturn am_hi dJ3_checkIndex_8e157_17
  exact vJ3_checkIndex_8e157_9 l hfl N
theorem mJ3_checkIndex_8e157 (l : Launch) (hfl : l.stackTraces = false) (N : Nat) : am_M l yJ3_checkIndex_8e157 cJ3_checkIndex_8e157 3 (some .int) 1 60 (fJ3_checkIndex_8e157 N) := av_meth hfl (by decide +kernel) rfl (vJ3_checkIndex_8e157_0 l hfl N)
/-! java/lang/String.checkIndex(II)V -/
noncomputable def kJ0_checkIndex_df160_0 (N : Nat) : am_K := c_live [0, 1] <|
  c_ild 0 <|
  c_ild 1 <|
  c_sio <|
  c_callS 3 (fJ3_checkIndex_8e157 N) <|
  c_pop <|
  c_vret
noncomputable def fJ0_checkIndex_df160 (N : Nat) : am_F := am_fn 2 (kJ0_checkIndex_df160_0 N)
set_option maxRecDepth 20000 in
theorem vJ0_checkIndex_df160_0 (l : Launch) (hfl : l.stackTraces = false) (N : Nat)  : am_V l cJ0_checkIndex_df160 2 RJ0 (am_E none yJ0_checkIndex_df160.name) 2 82 0 (kJ0_checkIndex_df160_0 N) := by
  refine av_live ?_
  refine av_iload_n dJ0_checkIndex_df160_0 rfl ?_
  refine av_iload_n dJ0_checkIndex_df160_1 rfl ?_
  refine av_sio q8 dJ0_checkIndex_df160_2 ?_
  refine av_callS am_hT (mJ3_checkIndex_8e157 l hfl N) ⟨by decide +kernel, by decide +kernel, by decide +kernel⟩ q9 q10 q11 q12 (by decide) (by decide) dJ0_checkIndex_df160_5 ?_
  refine av_pop dJ0_checkIndex_df160_8 ?_
  exact av_return_ am_hv dJ0_checkIndex_df160_9
theorem mJ0_checkIndex_df160 (l : Launch) (hfl : l.stackTraces = false) (N : Nat) : am_M l yJ0_checkIndex_df160 cJ0_checkIndex_df160 2 none 2 82 (fJ0_checkIndex_df160 N) := av_meth hfl (by decide +kernel) rfl (vJ0_checkIndex_df160_0 l hfl N)
/-! java/lang/StringLatin1.charAt([BI)C -/
noncomputable def kJ1_charAt_3b067_0 (N : Nat) : am_K := c_live [0, 1] <|
  c_ild 1 <|
  c_rld 0 <|
  c_blen <|
  c_callS 2 (fJ0_checkIndex_df160 N) <|
  c_rld 0 <|
  c_ild 1 <|
  c_bal <|
  c_i (255) <|
  c_ii (fun x y => x &&& y) <|
  c_ui (fun x => (x.toUInt32 % 65536).toInt32) <|
  c_nret .char
noncomputable def fJ1_charAt_3b067 (N : Nat) : am_F := am_fn 2 (kJ1_charAt_3b067_0 N)
set_option maxRecDepth 20000 in
theorem vJ1_charAt_3b067_0 (l : Launch) (hfl : l.stackTraces = false) (N : Nat)  : am_V l cJ1_charAt_3b067 2 RJ1 (am_E (some .char) yJ1_charAt_3b067.name) 3 103 0 (kJ1_charAt_3b067_0 N) := by
  refine av_live ?_
  refine av_iload_n dJ1_charAt_3b067_0 rfl ?_
  refine av_aload_n dJ1_charAt_3b067_1 rfl ?_
  refine av_blen dJ1_charAt_3b067_2 ?_
  refine av_callS am_hT (mJ0_checkIndex_df160 l hfl N) ⟨by decide +kernel, by decide +kernel, by decide +kernel⟩ q13 q14 q5 q15 (by decide) (by decide) dJ1_charAt_3b067_3 ?_
  refine av_aload_n dJ1_charAt_3b067_6 rfl ?_
  refine av_iload_n dJ1_charAt_3b067_7 rfl ?_
  refine av_bal dJ1_charAt_3b067_8 ?_
  refine av_sipush (v := 255) dJ1_charAt_3b067_9 (by decide) ?_
  refine av_iand dJ1_charAt_3b067_12 ?_
  refine av_i2c dJ1_charAt_3b067_13 ?_
  exact av_nreturn am_hn dJ1_charAt_3b067_14
theorem mJ1_charAt_3b067 (l : Launch) (hfl : l.stackTraces = false) (N : Nat) : am_M l yJ1_charAt_3b067 cJ1_charAt_3b067 2 (some .char) 3 103 (fJ1_charAt_3b067 N) := av_meth hfl (by decide +kernel) rfl (vJ1_charAt_3b067_0 l hfl N)
/-! java/lang/String.charAt(I)C -/
noncomputable def kJ0_charAt_5068e_0 (N : Nat) : am_K := c_live [0, 1] <|
  c_rld 0 <|
  c_callT 0 (fJ0_isLatin1_aae02 N) <|
  c_ifeq (
  (fun _ _ _ => none)) <|
  c_rld 0 <|
  c_sval <|
  c_ild 1 <|
  c_callS 2 (fJ1_charAt_3b067 N) <|
  c_nret .char
noncomputable def fJ0_charAt_5068e (N : Nat) : am_F := am_fn 2 (kJ0_charAt_5068e_0 N)
set_option maxRecDepth 20000 in
theorem vJ0_charAt_5068e_0 (l : Launch) (hfl : l.stackTraces = false) (N : Nat)  : am_V l cJ0_charAt_5068e 2 RJ0 (am_E (some .char) yJ0_charAt_5068e.name) 4 124 0 (kJ0_charAt_5068e_0 N) := by
  refine av_live ?_
  refine av_aload_n dJ0_charAt_5068e_0 rfl ?_
  refine av_callT am_hT (mJ0_isLatin1_aae02 l hfl N) ⟨by decide +kernel, by decide +kernel, by decide +kernel⟩ q16 q17 q5 q18 q19 (by decide) (by decide) dJ0_charAt_5068e_1 ?_
  refine av_ifeq (tgt := 16) dJ0_charAt_5068e_4 (by decide) ?_ ?_
  · exact av_none
  refine av_aload_n dJ0_charAt_5068e_7 rfl ?_
  refine av_sval q2 dJ0_charAt_5068e_8 ?_
  refine av_iload_n dJ0_charAt_5068e_11 rfl ?_
  refine av_callS am_hT (mJ1_charAt_3b067 l hfl N) ⟨by decide +kernel, by decide +kernel, by decide +kernel⟩ q20 q21 q22 q23 (by decide) (by decide) dJ0_charAt_5068e_12 ?_
  exact av_nreturn am_hn dJ0_charAt_5068e_15
theorem mJ0_charAt_5068e (l : Launch) (hfl : l.stackTraces = false) (N : Nat) : am_M l yJ0_charAt_5068e cJ0_charAt_5068e 2 (some .char) 4 124 (fJ0_charAt_5068e N) := av_meth hfl (by decide +kernel) rfl (vJ0_charAt_5068e_0 l hfl N)
/-! java/lang/Integer.compare(II)I -/
noncomputable def kJ6_compare_7cf53_19 (N : Nat) : am_K := c_live [] <|
  c_iret
noncomputable def kJ6_compare_7cf53_0 (N : Nat) : am_K := c_live [0, 1] <|
  c_ild 0 <|
  c_ild 1 <|
  c_icge (
  c_ild 0 <|
  c_ild 1 <|
  c_icne (
  c_i (1) <|
  kJ6_compare_7cf53_19 N) <|
  c_i (0) <|
  kJ6_compare_7cf53_19 N) <|
  c_i (-1) <|
  kJ6_compare_7cf53_19 N
noncomputable def fJ6_compare_7cf53 (N : Nat) : am_F := am_fn 2 (kJ6_compare_7cf53_0 N)
set_option maxRecDepth 20000 in
theorem vJ6_compare_7cf53_19 (l : Launch) (hfl : l.stackTraces = false) (N : Nat)  : am_V l cJ6_compare_7cf53 2 RJ6 (am_E (some .int) yJ6_compare_7cf53.name) 1 60 19 (kJ6_compare_7cf53_19 N) := by
  refine av_live ?_
  exact av_ireturn am_hi dJ6_compare_7cf53_19
set_option maxRecDepth 20000 in
theorem vJ6_compare_7cf53_0 (l : Launch) (hfl : l.stackTraces = false) (N : Nat)  : am_V l cJ6_compare_7cf53 2 RJ6 (am_E (some .int) yJ6_compare_7cf53.name) 1 60 0 (kJ6_compare_7cf53_0 N) := by
  refine av_live ?_
  refine av_iload_n dJ6_compare_7cf53_0 rfl ?_
  refine av_iload_n dJ6_compare_7cf53_1 rfl ?_
  refine av_icge (tgt := 9) dJ6_compare_7cf53_2 (by decide) ?_ ?_
  · refine av_iload_n dJ6_compare_7cf53_9 rfl ?_
    refine av_iload_n dJ6_compare_7cf53_10 rfl ?_
    refine av_icne (tgt := 18) dJ6_compare_7cf53_11 (by decide) ?_ ?_
    · refine av_iconst (v := 1) dJ6_compare_7cf53_18 (by decide) ?_
      exact vJ6_compare_7cf53_19 l hfl N
    refine av_iconst (v := 0) dJ6_compare_7cf53_14 (by decide) ?_
    refine av_goto (tgt := 19) dJ6_compare_7cf53_15 (by decide) ?_
    exact vJ6_compare_7cf53_19 l hfl N
  refine av_iconst (v := -1) dJ6_compare_7cf53_5 (by decide) ?_
  refine av_goto (tgt := 19) dJ6_compare_7cf53_6 (by decide) ?_
  exact vJ6_compare_7cf53_19 l hfl N
theorem mJ6_compare_7cf53 (l : Launch) (hfl : l.stackTraces = false) (N : Nat) : am_M l yJ6_compare_7cf53 cJ6_compare_7cf53 2 (some .int) 1 60 (fJ6_compare_7cf53 N) := av_meth hfl (by decide +kernel) rfl (vJ6_compare_7cf53_0 l hfl N)
/-! java/util/Arrays.fill([II)V -/
noncomputable def bJ7_fill_53178_5 (N : Nat) (r5 : am_K) : am_K :=
  c_ild 2 <|
  c_ild 3 <|
  c_icge (
  c_vret) <|
  c_rld 0 <|
  c_ild 2 <|
  c_ild 1 <|
  c_ias <|
  c_inc 2 (1) <|
  c_live [0, 1, 2, 3] r5
noncomputable def kJ7_fill_53178_5 (N : Nat) : am_K := c_live [0, 1, 2, 3] (am_loop (bJ7_fill_53178_5 N) N)
noncomputable def kJ7_fill_53178_0 (N : Nat) : am_K := c_live [0, 1] <|
  c_i (0) <|
  c_ist 2 <|
  c_rld 0 <|
  c_alen <|
  c_ist 3 <|
  kJ7_fill_53178_5 N
noncomputable def fJ7_fill_53178 (N : Nat) : am_F := am_fn 4 (kJ7_fill_53178_0 N)
set_option maxRecDepth 20000 in
theorem vJ7_fill_53178_5 (l : Launch) (hfl : l.stackTraces = false) (N : Nat)  : am_V l cJ7_fill_53178 4 RJ7 (am_E none yJ7_fill_53178.name) 1 60 5 (kJ7_fill_53178_5 N) := by
  refine av_live ?_
  refine av_loop (fun r5 h5 => ?_) N
  refine av_iload_n dJ7_fill_53178_5 rfl ?_
  refine av_iload_n dJ7_fill_53178_6 rfl ?_
  refine av_icge (tgt := 20) dJ7_fill_53178_7 (by decide) ?_ ?_
  · exact av_return_ am_hv dJ7_fill_53178_20
  refine av_aload_n dJ7_fill_53178_10 rfl ?_
  refine av_iload_n dJ7_fill_53178_11 rfl ?_
  refine av_iload_n dJ7_fill_53178_12 rfl ?_
  refine av_iastore dJ7_fill_53178_13 ?_
  refine av_iinc dJ7_fill_53178_14 (by decide) (by decide) ?_
  refine av_goto (tgt := 5) dJ7_fill_53178_17 (by decide) ?_
  exact av_live h5
set_option maxRecDepth 20000 in
theorem vJ7_fill_53178_0 (l : Launch) (hfl : l.stackTraces = false) (N : Nat)  : am_V l cJ7_fill_53178 4 RJ7 (am_E none yJ7_fill_53178.name) 1 60 0 (kJ7_fill_53178_0 N) := by
  refine av_live ?_
  refine av_iconst (v := 0) dJ7_fill_53178_0 (by decide) ?_
  refine av_istore_n dJ7_fill_53178_1 rfl (by decide) ?_
  refine av_aload_n dJ7_fill_53178_2 rfl ?_
  refine av_arraylength dJ7_fill_53178_3 ?_
  refine av_istore_n dJ7_fill_53178_4 rfl (by decide) ?_
  exact vJ7_fill_53178_5 l hfl N
theorem mJ7_fill_53178 (l : Launch) (hfl : l.stackTraces = false) (N : Nat) : am_M l yJ7_fill_53178 cJ7_fill_53178 4 none 1 60 (fJ7_fill_53178 N) := av_meth hfl (by decide +kernel) rfl (vJ7_fill_53178_0 l hfl N)
