/-! MessengerBoardModel.clear([I)V -/
noncomputable def bX11_clear_2 (N : Nat) (r2 : am_K) : am_K :=
  c_ild 1 <|
  c_i (3934) <|
  c_icge (
  c_rld 0 <|
  c_i (0) <|
  c_i (3) <|
  c_ias <|
  c_rld 0 <|
  c_i (1) <|
  c_i (3) <|
  c_ias <|
  c_rld 0 <|
  c_i (9) <|
  c_i (30) <|
  c_ias <|
  c_vret) <|
  c_rld 0 <|
  c_ild 1 <|
  c_i (0) <|
  c_ias <|
  c_inc 1 (1) <|
  c_live [0, 1] r2
noncomputable def kX11_clear_2 (N : Nat) : am_K := c_live [0, 1] (am_loop (bX11_clear_2 N) N)
noncomputable def kX11_clear_0 (N : Nat) : am_K := c_live [0] <|
  c_i (0) <|
  c_ist 1 <|
  kX11_clear_2 N
noncomputable def fX11_clear (N : Nat) : am_F := am_fn 2 (kX11_clear_0 N)
set_option maxRecDepth 20000 in
theorem vX11_clear_2 (l : Launch) (hfl : l.stackTraces = false) (N : Nat)  : am_V l cX11_clear 2 RX11 (am_E none yX11_clear.name) 1 60 2 (kX11_clear_2 N) := by
  refine av_live ?_
  refine av_loop (fun r2 h2 => ?_) N
  refine av_iload_n dX11_clear_2 rfl ?_
  refine av_sipush (v := 3934) dX11_clear_3 (by decide) ?_
  refine av_icge (tgt := 19) dX11_clear_6 (by decide) ?_ ?_
  · refine av_aload_n dX11_clear_19 rfl ?_
    refine av_iconst (v := 0) dX11_clear_20 (by decide) ?_
    refine av_iconst (v := 3) dX11_clear_21 (by decide) ?_
    refine av_iastore dX11_clear_22 ?_
    refine av_aload_n dX11_clear_23 rfl ?_
    refine av_iconst (v := 1) dX11_clear_24 (by decide) ?_
    refine av_iconst (v := 3) dX11_clear_25 (by decide) ?_
    refine av_iastore dX11_clear_26 ?_
    refine av_aload_n dX11_clear_27 rfl ?_
    refine av_bipush (v := 9) dX11_clear_28 (by decide) ?_
    refine av_bipush (v := 30) dX11_clear_30 (by decide) ?_
    refine av_iastore dX11_clear_32 ?_
    exact av_return_ am_hv dX11_clear_33
  refine av_aload_n dX11_clear_9 rfl ?_
  refine av_iload_n dX11_clear_10 rfl ?_
  refine av_iconst (v := 0) dX11_clear_11 (by decide) ?_
  refine av_iastore dX11_clear_12 ?_
  refine av_iinc dX11_clear_13 (by decide) (by decide) ?_
  refine av_goto (tgt := 2) dX11_clear_16 (by decide) ?_
  exact av_live h2
set_option maxRecDepth 20000 in
theorem vX11_clear_0 (l : Launch) (hfl : l.stackTraces = false) (N : Nat)  : am_V l cX11_clear 2 RX11 (am_E none yX11_clear.name) 1 60 0 (kX11_clear_0 N) := by
  refine av_live ?_
  refine av_iconst (v := 0) dX11_clear_0 (by decide) ?_
  refine av_istore_n dX11_clear_1 rfl (by decide) ?_
  exact vX11_clear_2 l hfl N
theorem mX11_clear (l : Launch) (hfl : l.stackTraces = false) (N : Nat) : am_M l yX11_clear cX11_clear 2 none 1 60 (fX11_clear N) := av_meth hfl (by decide +kernel) rfl (vX11_clear_0 l hfl N)
/-! MessengerBoardModel.<init>()V -/
noncomputable def kX11_init_0 (N : Nat) : am_K := c_live [0] <|
  c_rld 0 <|
  c_oinit <|
  c_rld 0 <|
  c_i (3934) <|
  c_newa 20 <|
  c_putr 11 0 <|
  c_rld 0 <|
  c_i (3934) <|
  c_newa 20 <|
  c_putr 11 1 <|
  c_rld 0 <|
  c_i (3934) <|
  c_newa 20 <|
  c_putr 11 2 <|
  c_rld 0 <|
  c_i (3934) <|
  c_newa 20 <|
  c_putr 11 3 <|
  c_rld 0 <|
  c_i (39340) <|
  c_newa 20 <|
  c_putr 11 4 <|
  c_rld 0 <|
  c_i (144) <|
  c_newa 20 <|
  c_putr 11 8 <|
  c_rld 0 <|
  c_i (144) <|
  c_newa 20 <|
  c_putr 11 9 <|
  c_rld 0 <|
  c_i (12) <|
  c_newa 20 <|
  c_putr 11 10 <|
  c_rld 0 <|
  c_i (600) <|
  c_newa 20 <|
  c_putr 11 12 <|
  c_rld 0 <|
  c_i (-1) <|
  c_puti 11 20 <|
  c_rld 0 <|
  c_i (9) <|
  c_newa 24 <|
  c_dup <|
  c_i (0) <|
  c_a 23 <|
  c_aast <|
  c_dup <|
  c_i (1) <|
  c_a 5 <|
  c_aast <|
  c_dup <|
  c_i (2) <|
  c_a 24 <|
  c_aast <|
  c_dup <|
  c_i (3) <|
  c_a 25 <|
  c_aast <|
  c_dup <|
  c_i (4) <|
  c_a 26 <|
  c_aast <|
  c_dup <|
  c_i (5) <|
  c_a 27 <|
  c_aast <|
  c_dup <|
  c_i (6) <|
  c_a 28 <|
  c_aast <|
  c_dup <|
  c_i (7) <|
  c_a 29 <|
  c_aast <|
  c_dup <|
  c_i (8) <|
  c_a 30 <|
  c_aast <|
  c_putr 11 24 <|
  c_rld 0 <|
  c_i (200) <|
  c_newa 20 <|
  c_putr 11 25 <|
  c_rld 0 <|
  c_i (200) <|
  c_newa 21 <|
  c_putr 11 26 <|
  c_rld 0 <|
  c_getr 11 0 <|
  c_callS 1 (fX11_clear N) <|
  c_vret
noncomputable def fX11_init (N : Nat) : am_F := am_fn 1 (kX11_init_0 N)
set_option maxRecDepth 20000 in
theorem vX11_init_0 (l : Launch) (hfl : l.stackTraces = false) (N : Nat)  : am_V l cX11_init 1 RX11 (am_E none yX11_init.name) 2 81 0 (kX11_init_0 N) := by
  refine av_live ?_
  refine av_aload_n dX11_init_0 rfl ?_
  refine av_objInit q609 q25 q26 (by decide) (by decide) dX11_init_1 ?_
  refine av_aload_n dX11_init_4 rfl ?_
  refine av_sipush (v := 3934) dX11_init_5 (by decide) ?_
  refine av_newarr_int q29 dX11_init_8 ?_
  refine av_putrF am_ci11 (by decide) am_f11_0 q610 (tyX11_ok 0 (by decide)) (fun _ => ⟨rfl, rfl⟩) ⟨rfl, rfl⟩ dX11_init_10 ?_
  refine av_aload_n dX11_init_13 rfl ?_
  refine av_sipush (v := 3934) dX11_init_14 (by decide) ?_
  refine av_newarr_int q29 dX11_init_17 ?_
  refine av_putrF am_ci11 (by decide) am_f11_1 q611 (tyX11_ok 1 (by decide)) (fun _ => ⟨rfl, rfl⟩) ⟨rfl, rfl⟩ dX11_init_19 ?_
  refine av_aload_n dX11_init_22 rfl ?_
  refine av_sipush (v := 3934) dX11_init_23 (by decide) ?_
  refine av_newarr_int q29 dX11_init_26 ?_
  refine av_putrF am_ci11 (by decide) am_f11_2 q612 (tyX11_ok 2 (by decide)) (fun _ => ⟨rfl, rfl⟩) ⟨rfl, rfl⟩ dX11_init_28 ?_
  refine av_aload_n dX11_init_31 rfl ?_
  refine av_sipush (v := 3934) dX11_init_32 (by decide) ?_
  refine av_newarr_int q29 dX11_init_35 ?_
  refine av_putrF am_ci11 (by decide) am_f11_3 q613 (tyX11_ok 3 (by decide)) (fun _ => ⟨rfl, rfl⟩) ⟨rfl, rfl⟩ dX11_init_37 ?_
  refine av_aload_n dX11_init_40 rfl ?_
  refine av_ldc dX11_init_41 q614 ?_
  refine av_newarr_int q29 dX11_init_43 ?_
  refine av_putrF am_ci11 (by decide) am_f11_4 q615 (tyX11_ok 4 (by decide)) (fun _ => ⟨rfl, rfl⟩) ⟨rfl, rfl⟩ dX11_init_45 ?_
  refine av_aload_n dX11_init_48 rfl ?_
  refine av_sipush (v := 144) dX11_init_49 (by decide) ?_
  refine av_newarr_int q29 dX11_init_52 ?_
  refine av_putrF am_ci11 (by decide) am_f11_8 q616 (tyX11_ok 8 (by decide)) (fun _ => ⟨rfl, rfl⟩) ⟨rfl, rfl⟩ dX11_init_54 ?_
  refine av_aload_n dX11_init_57 rfl ?_
  refine av_sipush (v := 144) dX11_init_58 (by decide) ?_
  refine av_newarr_int q29 dX11_init_61 ?_
  refine av_putrF am_ci11 (by decide) am_f11_9 q617 (tyX11_ok 9 (by decide)) (fun _ => ⟨rfl, rfl⟩) ⟨rfl, rfl⟩ dX11_init_63 ?_
  refine av_aload_n dX11_init_66 rfl ?_
  refine av_bipush (v := 12) dX11_init_67 (by decide) ?_
  refine av_newarr_int q29 dX11_init_69 ?_
  refine av_putrF am_ci11 (by decide) am_f11_10 q618 (tyX11_ok 10 (by decide)) (fun _ => ⟨rfl, rfl⟩) ⟨rfl, rfl⟩ dX11_init_71 ?_
  refine av_aload_n dX11_init_74 rfl ?_
  refine av_sipush (v := 600) dX11_init_75 (by decide) ?_
  refine av_newarr_int q29 dX11_init_78 ?_
  refine av_putrF am_ci11 (by decide) am_f11_12 q619 (tyX11_ok 12 (by decide)) (fun _ => ⟨rfl, rfl⟩) ⟨rfl, rfl⟩ dX11_init_80 ?_
  refine av_aload_n dX11_init_83 rfl ?_
  refine av_iconst (v := -1) dX11_init_84 (by decide) ?_
  refine av_puti am_ci11 (by decide) am_f11_20 q620 (tyX11_ok 20 (by decide)) rfl dX11_init_85 ?_
  refine av_aload_n dX11_init_88 rfl ?_
  refine av_bipush (v := 9) dX11_init_89 (by decide) ?_
  refine av_newarr_ref (t0 := 4) (by decide) (by decide) (fun _ => rfl) q621 (by decide +kernel) dX11_init_91 ?_
  refine av_dup dX11_init_94 ?_
  refine av_iconst (v := 0) dX11_init_95 (by decide) ?_
  refine av_ldcs t33 (by decide) dX11_init_96 ?_
  refine av_aastore_t dX11_init_98 ?_
  refine av_dup dX11_init_99 ?_
  refine av_iconst (v := 1) dX11_init_100 (by decide) ?_
  refine av_ldcs t34 (by decide) dX11_init_101 ?_
  refine av_aastore_t dX11_init_103 ?_
  refine av_dup dX11_init_104 ?_
  refine av_iconst (v := 2) dX11_init_105 (by decide) ?_
  refine av_ldcs t35 (by decide) dX11_init_106 ?_
  refine av_aastore_t dX11_init_108 ?_
  refine av_dup dX11_init_109 ?_
  refine av_iconst (v := 3) dX11_init_110 (by decide) ?_
  refine av_ldcs t36 (by decide) dX11_init_111 ?_
  refine av_aastore_t dX11_init_113 ?_
  refine av_dup dX11_init_114 ?_
  refine av_iconst (v := 4) dX11_init_115 (by decide) ?_
  refine av_ldcs t37 (by decide) dX11_init_116 ?_
  refine av_aastore_t dX11_init_118 ?_
  refine av_dup dX11_init_119 ?_
  refine av_iconst (v := 5) dX11_init_120 (by decide) ?_
  refine av_ldcs t38 (by decide) dX11_init_121 ?_
  refine av_aastore_t dX11_init_123 ?_
  refine av_dup dX11_init_124 ?_
  refine av_bipush (v := 6) dX11_init_125 (by decide) ?_
  refine av_ldcs t39 (by decide) dX11_init_127 ?_
  refine av_aastore_t dX11_init_129 ?_
  refine av_dup dX11_init_130 ?_
  refine av_bipush (v := 7) dX11_init_131 (by decide) ?_
  refine av_ldcs t40 (by decide) dX11_init_133 ?_
  refine av_aastore_t dX11_init_135 ?_
  refine av_dup dX11_init_136 ?_
  refine av_bipush (v := 8) dX11_init_137 (by decide) ?_
  refine av_ldcs t41 (by decide) dX11_init_139 ?_
  refine av_aastore_t dX11_init_141 ?_
  refine av_putrF am_ci11 (by decide) am_f11_24 q622 (tyX11_ok 24 (by decide)) (fun _ => ⟨rfl, rfl⟩) ⟨rfl, rfl⟩ dX11_init_142 ?_
  refine av_aload_n dX11_init_145 rfl ?_
  refine av_sipush (v := 200) dX11_init_146 (by decide) ?_
  refine av_newarr_int q29 dX11_init_149 ?_
  refine av_putrF am_ci11 (by decide) am_f11_25 q623 (tyX11_ok 25 (by decide)) (fun _ => ⟨rfl, rfl⟩) ⟨rfl, rfl⟩ dX11_init_151 ?_
  refine av_aload_n dX11_init_154 rfl ?_
  refine av_sipush (v := 200) dX11_init_155 (by decide) ?_
  refine av_newarr_long q624 dX11_init_158 ?_
  refine av_putrF am_ci11 (by decide) am_f11_26 q625 (tyX11_ok 26 (by decide)) (fun _ => ⟨rfl, rfl⟩) ⟨rfl, rfl⟩ dX11_init_160 ?_
  refine av_aload_n dX11_init_163 rfl ?_
  refine av_getr am_ci11 (by decide) am_f11_0 q610 dX11_init_164 ?_
  refine av_callS am_hT (mX11_clear l hfl N) ⟨by decide +kernel, by decide +kernel, by decide +kernel⟩ q626 q627 q628 q629 (by decide) (by decide) dX11_init_167 ?_
  exact av_return_ am_hv dX11_init_170
theorem mX11_init (l : Launch) (hfl : l.stackTraces = false) (N : Nat) : am_M l yX11_init cX11_init 1 none 2 81 (fX11_init N) := av_meth hfl (by decide +kernel) rfl (vX11_init_0 l hfl N)
/-! MessengerBoardModel.thrown()I -/
noncomputable def kX11_thrown_0 (N : Nat) : am_K := c_live [0] <|
  c_rld 0 <|
  c_geti 11 6 <|
  c_iret
noncomputable def fX11_thrown (N : Nat) : am_F := am_fn 1 (kX11_thrown_0 N)
set_option maxRecDepth 20000 in
theorem vX11_thrown_0 (l : Launch) (hfl : l.stackTraces = false) (N : Nat)  : am_V l cX11_thrown 1 RX11 (am_E (some .int) yX11_thrown.name) 1 60 0 (kX11_thrown_0 N) := by
  refine av_live ?_
  refine av_aload_n dX11_thrown_0 rfl ?_
  refine av_geti am_ci11 (by decide) am_f11_6 q630 dX11_thrown_1 ?_
  exact av_ireturn am_hi dX11_thrown_4
theorem mX11_thrown (l : Launch) (hfl : l.stackTraces = false) (N : Nat) : am_M l yX11_thrown cX11_thrown 1 (some .int) 1 60 (fX11_thrown N) := av_meth hfl (by decide +kernel) rfl (vX11_thrown_0 l hfl N)
/-! MessengerBoardModel.inRange(III)Z -/
noncomputable def kX11_inRange_15 (N : Nat) : am_K := c_live [] <|
  c_zret
noncomputable def kX11_inRange_14 (N : Nat) : am_K := c_live [] <|
  c_i (0) <|
  kX11_inRange_15 N
noncomputable def kX11_inRange_0 (N : Nat) : am_K := c_live [0, 1, 2] <|
  c_ild 0 <|
  c_ild 1 <|
  c_iclt (
  kX11_inRange_14 N) <|
  c_ild 0 <|
  c_ild 2 <|
  c_icgt (
  kX11_inRange_14 N) <|
  c_i (1) <|
  kX11_inRange_15 N
noncomputable def fX11_inRange (N : Nat) : am_F := am_fn 3 (kX11_inRange_0 N)
set_option maxRecDepth 20000 in
theorem vX11_inRange_15 (l : Launch) (hfl : l.stackTraces = false) (N : Nat)  : am_V l cX11_inRange 3 RX11 (am_E (some .boolean) yX11_inRange.name) 1 60 15 (kX11_inRange_15 N) := by
  refine av_live ?_
  exact av_zreturn am_hz dX11_inRange_15
set_option maxRecDepth 20000 in
theorem vX11_inRange_14 (l : Launch) (hfl : l.stackTraces = false) (N : Nat)  : am_V l cX11_inRange 3 RX11 (am_E (some .boolean) yX11_inRange.name) 1 60 14 (kX11_inRange_14 N) := by
  refine av_live ?_
  refine av_iconst (v := 0) dX11_inRange_14 (by decide) ?_
  exact vX11_inRange_15 l hfl N
set_option maxRecDepth 20000 in
theorem vX11_inRange_0 (l : Launch) (hfl : l.stackTraces = false) (N : Nat)  : am_V l cX11_inRange 3 RX11 (am_E (some .boolean) yX11_inRange.name) 1 60 0 (kX11_inRange_0 N) := by
  refine av_live ?_
  refine av_iload_n dX11_inRange_0 rfl ?_
  refine av_iload_n dX11_inRange_1 rfl ?_
  refine av_iclt (tgt := 14) dX11_inRange_2 (by decide) ?_ ?_
  · exact vX11_inRange_14 l hfl N
  refine av_iload_n dX11_inRange_5 rfl ?_
  refine av_iload_n dX11_inRange_6 rfl ?_
  refine av_icgt (tgt := 14) dX11_inRange_7 (by decide) ?_ ?_
  · exact vX11_inRange_14 l hfl N
  refine av_iconst (v := 1) dX11_inRange_10 (by decide) ?_
  refine av_goto (tgt := 15) dX11_inRange_11 (by decide) ?_
  exact vX11_inRange_15 l hfl N
theorem mX11_inRange (l : Launch) (hfl : l.stackTraces = false) (N : Nat) : am_M l yX11_inRange cX11_inRange 3 (some .boolean) 1 60 (fX11_inRange N) := av_meth hfl (by decide +kernel) rfl (vX11_inRange_0 l hfl N)
/-! MessengerBoardModel.raise(I)I -/
noncomputable def kX11_raise_0 (N : Nat) : am_K := c_live [0, 1] <|
  c_rld 0 <|
  c_ild 1 <|
  c_puti 11 6 <|
  c_i (0) <|
  c_iret
noncomputable def fX11_raise (N : Nat) : am_F := am_fn 2 (kX11_raise_0 N)
set_option maxRecDepth 20000 in
theorem vX11_raise_0 (l : Launch) (hfl : l.stackTraces = false) (N : Nat)  : am_V l cX11_raise 2 RX11 (am_E (some .int) yX11_raise.name) 1 60 0 (kX11_raise_0 N) := by
  refine av_live ?_
  refine av_aload_n dX11_raise_0 rfl ?_
  refine av_iload_n dX11_raise_1 rfl ?_
  refine av_puti am_ci11 (by decide) am_f11_6 q630 (tyX11_ok 6 (by decide)) rfl dX11_raise_2 ?_
  refine av_iconst (v := 0) dX11_raise_5 (by decide) ?_
  exact av_ireturn am_hi dX11_raise_6
theorem mX11_raise (l : Launch) (hfl : l.stackTraces = false) (N : Nat) : am_M l yX11_raise cX11_raise 2 (some .int) 1 60 (fX11_raise N) := av_meth hfl (by decide +kernel) rfl (vX11_raise_0 l hfl N)
/-! MessengerBoardModel.size(I)I -/
noncomputable def kX11_size_29 (N : Nat) : am_K := c_live [] <|
  c_iret
noncomputable def kX11_size_0 (N : Nat) : am_K := c_live [0, 1] <|
  c_rld 0 <|
  c_i (0) <|
  c_puti 11 6 <|
  c_ild 1 <|
  c_i (0) <|
  c_i (11) <|
  c_callS 3 (fX11_inRange N) <|
  c_ifeq (
  c_rld 0 <|
  c_i (1) <|
  c_callV 11 1 (fX11_raise N) <|
  kX11_size_29 N) <|
  c_rld 0 <|
  c_getr 11 0 <|
  c_ild 1 <|
  c_ial <|
  kX11_size_29 N
noncomputable def fX11_size (N : Nat) : am_F := am_fn 2 (kX11_size_0 N)
set_option maxRecDepth 20000 in
theorem vX11_size_29 (l : Launch) (hfl : l.stackTraces = false) (N : Nat)  : am_V l cX11_size 2 RX11 (am_E (some .int) yX11_size.name) 2 82 29 (kX11_size_29 N) := by
  refine av_live ?_
  exact av_ireturn am_hi dX11_size_29
set_option maxRecDepth 20000 in
theorem vX11_size_0 (l : Launch) (hfl : l.stackTraces = false) (N : Nat)  : am_V l cX11_size 2 RX11 (am_E (some .int) yX11_size.name) 2 82 0 (kX11_size_0 N) := by
  refine av_live ?_
  refine av_aload_n dX11_size_0 rfl ?_
  refine av_iconst (v := 0) dX11_size_1 (by decide) ?_
  refine av_puti am_ci11 (by decide) am_f11_6 q630 (tyX11_ok 6 (by decide)) rfl dX11_size_2 ?_
  refine av_iload_n dX11_size_5 rfl ?_
  refine av_iconst (v := 0) dX11_size_6 (by decide) ?_
  refine av_bipush (v := 11) dX11_size_7 (by decide) ?_
  refine av_callS am_hT (mX11_inRange l hfl N) ⟨by decide +kernel, by decide +kernel, by decide +kernel⟩ q631 q632 q628 q633 (by decide) (by decide) dX11_size_9 ?_
  refine av_ifeq (tgt := 24) dX11_size_12 (by decide) ?_ ?_
  · refine av_aload_n dX11_size_24 rfl ?_
    refine av_iconst (v := 1) dX11_size_25 (by decide) ?_
    refine av_callV am_hT (mX11_raise l hfl N) am_ci11 ⟨by decide +kernel, by decide +kernel, by decide +kernel⟩ q634 q635 q628 q636 q637 (by decide) (by decide) dX11_size_26 ?_
    exact vX11_size_29 l hfl N
  refine av_aload_n dX11_size_15 rfl ?_
  refine av_getr am_ci11 (by decide) am_f11_0 q610 dX11_size_16 ?_
  refine av_iload_n dX11_size_19 rfl ?_
  refine av_iaload dX11_size_20 ?_
  refine av_goto (tgt := 29) dX11_size_21 (by decide) ?_
  exact vX11_size_29 l hfl N
theorem mX11_size (l : Launch) (hfl : l.stackTraces = false) (N : Nat) : am_M l yX11_size cX11_size 2 (some .int) 2 82 (fX11_size N) := av_meth hfl (by decide +kernel) rfl (vX11_size_0 l hfl N)
/-! MessengerBoardModel.isUnit(I)Z -/
noncomputable def kX11_isUnit_0 (N : Nat) : am_K := c_live [0, 1] <|
  c_ild 1 <|
  c_i (0) <|
  c_rld 0 <|
  c_getr 11 0 <|
  c_i (2) <|
  c_ial <|
  c_i (1) <|
  c_ii (fun x y => x - y) <|
  c_callS 3 (fX11_inRange N) <|
  c_zret
noncomputable def fX11_isUnit (N : Nat) : am_F := am_fn 2 (kX11_isUnit_0 N)
set_option maxRecDepth 20000 in
theorem vX11_isUnit_0 (l : Launch) (hfl : l.stackTraces = false) (N : Nat)  : am_V l cX11_isUnit 2 RX11 (am_E (some .boolean) yX11_isUnit.name) 2 82 0 (kX11_isUnit_0 N) := by
  refine av_live ?_
  refine av_iload_n dX11_isUnit_0 rfl ?_
  refine av_iconst (v := 0) dX11_isUnit_1 (by decide) ?_
  refine av_aload_n dX11_isUnit_2 rfl ?_
  refine av_getr am_ci11 (by decide) am_f11_0 q610 dX11_isUnit_3 ?_
  refine av_iconst (v := 2) dX11_isUnit_6 (by decide) ?_
  refine av_iaload dX11_isUnit_7 ?_
  refine av_iconst (v := 1) dX11_isUnit_8 (by decide) ?_
  refine av_isub dX11_isUnit_9 ?_
  refine av_callS am_hT (mX11_inRange l hfl N) ⟨by decide +kernel, by decide +kernel, by decide +kernel⟩ q631 q632 q628 q633 (by decide) (by decide) dX11_isUnit_10 ?_
  exact av_zreturn am_hz dX11_isUnit_13
theorem mX11_isUnit (l : Launch) (hfl : l.stackTraces = false) (N : Nat) : am_M l yX11_isUnit cX11_isUnit 2 (some .boolean) 2 82 (fX11_isUnit N) := av_meth hfl (by decide +kernel) rfl (vX11_isUnit_0 l hfl N)
/-! MessengerBoardModel.unitAt(II)I -/
noncomputable def kX11_unitAt_0 (N : Nat) : am_K := c_live [0, 1] <|
  c_i (12) <|
  c_i (4) <|
  c_ild 0 <|
  c_ii (fun x y => x * y) <|
  c_ii (fun x y => x + y) <|
  c_ild 1 <|
  c_ii (fun x y => x + y) <|
  c_iret
noncomputable def fX11_unitAt (N : Nat) : am_F := am_fn 2 (kX11_unitAt_0 N)
set_option maxRecDepth 20000 in
theorem vX11_unitAt_0 (l : Launch) (hfl : l.stackTraces = false) (N : Nat)  : am_V l cX11_unitAt 2 RX11 (am_E (some .int) yX11_unitAt.name) 1 60 0 (kX11_unitAt_0 N) := by
  refine av_live ?_
  refine av_bipush (v := 12) dX11_unitAt_0 (by decide) ?_
  refine av_iconst (v := 4) dX11_unitAt_2 (by decide) ?_
  refine av_iload_n dX11_unitAt_3 rfl ?_
  refine av_imul dX11_unitAt_4 ?_
  refine av_iadd dX11_unitAt_5 ?_
  refine av_iload_n dX11_unitAt_6 rfl ?_
  refine av_iadd dX11_unitAt_7 ?_
  exact av_ireturn am_hi dX11_unitAt_8
theorem mX11_unitAt (l : Launch) (hfl : l.stackTraces = false) (N : Nat) : am_M l yX11_unitAt cX11_unitAt 2 (some .int) 1 60 (fX11_unitAt N) := av_meth hfl (by decide +kernel) rfl (vX11_unitAt_0 l hfl N)
/-! MessengerBoardModel.ofUnit(II)I -/
noncomputable def kX11_ofUnit_0 (N : Nat) : am_K := c_live [0, 1, 2] <|
  c_rld 0 <|
  c_getr 11 0 <|
  c_ild 1 <|
  c_ild 2 <|
  c_callS 2 (fX11_unitAt N) <|
  c_ial <|
  c_iret
noncomputable def fX11_ofUnit (N : Nat) : am_F := am_fn 3 (kX11_ofUnit_0 N)
set_option maxRecDepth 20000 in
theorem vX11_ofUnit_0 (l : Launch) (hfl : l.stackTraces = false) (N : Nat)  : am_V l cX11_ofUnit 3 RX11 (am_E (some .int) yX11_ofUnit.name) 2 81 0 (kX11_ofUnit_0 N) := by
  refine av_live ?_
  refine av_aload_n dX11_ofUnit_0 rfl ?_
  refine av_getr am_ci11 (by decide) am_f11_0 q610 dX11_ofUnit_1 ?_
  refine av_iload_n dX11_ofUnit_4 rfl ?_
  refine av_iload_n dX11_ofUnit_5 rfl ?_
  refine av_callS am_hT (mX11_unitAt l hfl N) ⟨by decide +kernel, by decide +kernel, by decide +kernel⟩ q638 q639 q628 q640 (by decide) (by decide) dX11_ofUnit_6 ?_
  refine av_iaload dX11_ofUnit_9 ?_
  exact av_ireturn am_hi dX11_ofUnit_10
theorem mX11_ofUnit (l : Launch) (hfl : l.stackTraces = false) (N : Nat) : am_M l yX11_ofUnit cX11_ofUnit 3 (some .int) 2 81 (fX11_ofUnit N) := av_meth hfl (by decide +kernel) rfl (vX11_ofUnit_0 l hfl N)
/-! MessengerBoardModel.orderAt(II)I -/
noncomputable def kX11_orderAt_0 (N : Nat) : am_K := c_live [0, 1] <|
  c_i (64) <|
  c_i (10) <|
  c_ild 0 <|
  c_ii (fun x y => x * y) <|
  c_ii (fun x y => x + y) <|
  c_ild 1 <|
  c_ii (fun x y => x + y) <|
  c_iret
noncomputable def fX11_orderAt (N : Nat) : am_F := am_fn 2 (kX11_orderAt_0 N)
set_option maxRecDepth 20000 in
theorem vX11_orderAt_0 (l : Launch) (hfl : l.stackTraces = false) (N : Nat)  : am_V l cX11_orderAt 2 RX11 (am_E (some .int) yX11_orderAt.name) 1 60 0 (kX11_orderAt_0 N) := by
  refine av_live ?_
  refine av_bipush (v := 64) dX11_orderAt_0 (by decide) ?_
  refine av_bipush (v := 10) dX11_orderAt_2 (by decide) ?_
  refine av_iload_n dX11_orderAt_4 rfl ?_
  refine av_imul dX11_orderAt_5 ?_
  refine av_iadd dX11_orderAt_6 ?_
  refine av_iload_n dX11_orderAt_7 rfl ?_
  refine av_iadd dX11_orderAt_8 ?_
  exact av_ireturn am_hi dX11_orderAt_9
theorem mX11_orderAt (l : Launch) (hfl : l.stackTraces = false) (N : Nat) : am_M l yX11_orderAt cX11_orderAt 2 (some .int) 1 60 (fX11_orderAt N) := av_meth hfl (by decide +kernel) rfl (vX11_orderAt_0 l hfl N)
/-! MessengerBoardModel.ofOrder(II)I -/
noncomputable def kX11_ofOrder_0 (N : Nat) : am_K := c_live [0, 1, 2] <|
  c_rld 0 <|
  c_getr 11 0 <|
  c_ild 1 <|
  c_ild 2 <|
  c_callS 2 (fX11_orderAt N) <|
  c_ial <|
  c_iret
noncomputable def fX11_ofOrder (N : Nat) : am_F := am_fn 3 (kX11_ofOrder_0 N)
set_option maxRecDepth 20000 in
theorem vX11_ofOrder_0 (l : Launch) (hfl : l.stackTraces = false) (N : Nat)  : am_V l cX11_ofOrder 3 RX11 (am_E (some .int) yX11_ofOrder.name) 2 81 0 (kX11_ofOrder_0 N) := by
  refine av_live ?_
  refine av_aload_n dX11_ofOrder_0 rfl ?_
  refine av_getr am_ci11 (by decide) am_f11_0 q610 dX11_ofOrder_1 ?_
  refine av_iload_n dX11_ofOrder_4 rfl ?_
  refine av_iload_n dX11_ofOrder_5 rfl ?_
  refine av_callS am_hT (mX11_orderAt l hfl N) ⟨by decide +kernel, by decide +kernel, by decide +kernel⟩ q641 q642 q628 q643 (by decide) (by decide) dX11_ofOrder_6 ?_
  refine av_iaload dX11_ofOrder_9 ?_
  exact av_ireturn am_hi dX11_ofOrder_10
theorem mX11_ofOrder (l : Launch) (hfl : l.stackTraces = false) (N : Nat) : am_M l yX11_ofOrder cX11_ofOrder 3 (some .int) 2 81 (fX11_ofOrder N) := av_meth hfl (by decide +kernel) rfl (vX11_ofOrder_0 l hfl N)
/-! MessengerBoardModel.obeyedBy(I)I -/
noncomputable def kX11_obeyedBy_34 (N : Nat) (r2 : am_K) : am_K := c_live [0, 1, 2] <|
  c_inc 2 (1) <|
  c_live [0, 1, 2] r2
noncomputable def bX11_obeyedBy_2 (N : Nat) (r2 : am_K) : am_K :=
  c_ild 2 <|
  c_rld 0 <|
  c_getr 11 0 <|
  c_i (4) <|
  c_ial <|
  c_icge (
  c_i (-1) <|
  c_iret) <|
  c_rld 0 <|
  c_ild 2 <|
  c_i (0) <|
  c_callV 11 2 (fX11_ofOrder N) <|
  c_ild 1 <|
  c_icne (
  kX11_obeyedBy_34 N r2) <|
  c_rld 0 <|
  c_ild 2 <|
  c_i (3) <|
  c_callV 11 2 (fX11_ofOrder N) <|
  c_i (1) <|
  c_icne (
  kX11_obeyedBy_34 N r2) <|
  c_ild 2 <|
  c_iret
noncomputable def kX11_obeyedBy_2 (N : Nat) : am_K := c_live [0, 1, 2] (am_loop (bX11_obeyedBy_2 N) N)
noncomputable def kX11_obeyedBy_0 (N : Nat) : am_K := c_live [0, 1] <|
  c_i (0) <|
  c_ist 2 <|
  kX11_obeyedBy_2 N
noncomputable def fX11_obeyedBy (N : Nat) : am_F := am_fn 3 (kX11_obeyedBy_0 N)
set_option maxRecDepth 20000 in
theorem vX11_obeyedBy_34 (l : Launch) (hfl : l.stackTraces = false) (N : Nat)  {r2 : am_K} (h2 : am_V l cX11_obeyedBy 3 RX11 (am_E (some .int) yX11_obeyedBy.name) 3 103 2 r2) : am_V l cX11_obeyedBy 3 RX11 (am_E (some .int) yX11_obeyedBy.name) 3 103 34 (kX11_obeyedBy_34 N r2) := by
  refine av_live ?_
  refine av_iinc dX11_obeyedBy_34 (by decide) (by decide) ?_
  refine av_goto (tgt := 2) dX11_obeyedBy_37 (by decide) ?_
  exact av_live h2
set_option maxRecDepth 20000 in
theorem vX11_obeyedBy_2 (l : Launch) (hfl : l.stackTraces = false) (N : Nat)  : am_V l cX11_obeyedBy 3 RX11 (am_E (some .int) yX11_obeyedBy.name) 3 103 2 (kX11_obeyedBy_2 N) := by
  refine av_live ?_
  refine av_loop (fun r2 h2 => ?_) N
  refine av_iload_n dX11_obeyedBy_2 rfl ?_
  refine av_aload_n dX11_obeyedBy_3 rfl ?_
  refine av_getr am_ci11 (by decide) am_f11_0 q610 dX11_obeyedBy_4 ?_
  refine av_iconst (v := 4) dX11_obeyedBy_7 (by decide) ?_
  refine av_iaload dX11_obeyedBy_8 ?_
  refine av_icge (tgt := 40) dX11_obeyedBy_9 (by decide) ?_ ?_
  · refine av_iconst (v := -1) dX11_obeyedBy_40 (by decide) ?_
    exact av_ireturn am_hi dX11_obeyedBy_41
  refine av_aload_n dX11_obeyedBy_12 rfl ?_
  refine av_iload_n dX11_obeyedBy_13 rfl ?_
  refine av_iconst (v := 0) dX11_obeyedBy_14 (by decide) ?_
  refine av_callV am_hT (mX11_ofOrder l hfl N) am_ci11 ⟨by decide +kernel, by decide +kernel, by decide +kernel⟩ q644 q645 q628 q646 q647 (by decide) (by decide) dX11_obeyedBy_15 ?_
  refine av_iload_n dX11_obeyedBy_18 rfl ?_
  refine av_icne (tgt := 34) dX11_obeyedBy_19 (by decide) ?_ ?_
  · exact vX11_obeyedBy_34 l hfl N h2
  refine av_aload_n dX11_obeyedBy_22 rfl ?_
  refine av_iload_n dX11_obeyedBy_23 rfl ?_
  refine av_iconst (v := 3) dX11_obeyedBy_24 (by decide) ?_
  refine av_callV am_hT (mX11_ofOrder l hfl N) am_ci11 ⟨by decide +kernel, by decide +kernel, by decide +kernel⟩ q644 q645 q628 q646 q647 (by decide) (by decide) dX11_obeyedBy_25 ?_
  refine av_iconst (v := 1) dX11_obeyedBy_28 (by decide) ?_
  refine av_icne (tgt := 34) dX11_obeyedBy_29 (by decide) ?_ ?_
  · exact vX11_obeyedBy_34 l hfl N h2
  refine av_iload_n dX11_obeyedBy_32 rfl ?_
  exact av_ireturn am_hi dX11_obeyedBy_33
set_option maxRecDepth 20000 in
theorem vX11_obeyedBy_0 (l : Launch) (hfl : l.stackTraces = false) (N : Nat)  : am_V l cX11_obeyedBy 3 RX11 (am_E (some .int) yX11_obeyedBy.name) 3 103 0 (kX11_obeyedBy_0 N) := by
  refine av_live ?_
  refine av_iconst (v := 0) dX11_obeyedBy_0 (by decide) ?_
  refine av_istore_n dX11_obeyedBy_1 rfl (by decide) ?_
  exact vX11_obeyedBy_2 l hfl N
theorem mX11_obeyedBy (l : Launch) (hfl : l.stackTraces = false) (N : Nat) : am_M l yX11_obeyedBy cX11_obeyedBy 3 (some .int) 3 103 (fX11_obeyedBy N) := av_meth hfl (by decide +kernel) rfl (vX11_obeyedBy_0 l hfl N)
/-! MessengerBoardModel.onWayTo(I)I -/
noncomputable def kX11_onWayTo_39 (N : Nat) (r4 : am_K) : am_K := c_live [0, 1, 3] <|
  c_ii (fun x y => x + y) <|
  c_ist 2 <|
  c_inc 3 (1) <|
  c_live [0, 1, 2, 3] r4
noncomputable def kX11_onWayTo_38 (N : Nat) (r4 : am_K) : am_K := c_live [0, 1, 3] <|
  c_i (0) <|
  kX11_onWayTo_39 N r4
noncomputable def bX11_onWayTo_4 (N : Nat) (r4 : am_K) : am_K :=
  c_ild 3 <|
  c_rld 0 <|
  c_getr 11 0 <|
  c_i (4) <|
  c_ial <|
  c_icge (
  c_ild 2 <|
  c_iret) <|
  c_ild 2 <|
  c_rld 0 <|
  c_ild 3 <|
  c_i (0) <|
  c_callV 11 2 (fX11_ofOrder N) <|
  c_ild 1 <|
  c_icne (
  kX11_onWayTo_38 N r4) <|
  c_rld 0 <|
  c_ild 3 <|
  c_i (3) <|
  c_callV 11 2 (fX11_ofOrder N) <|
  c_ifne (
  kX11_onWayTo_38 N r4) <|
  c_i (1) <|
  kX11_onWayTo_39 N r4
noncomputable def kX11_onWayTo_4 (N : Nat) : am_K := c_live [0, 1, 2, 3] (am_loop (bX11_onWayTo_4 N) N)
noncomputable def kX11_onWayTo_0 (N : Nat) : am_K := c_live [0, 1] <|
  c_i (0) <|
  c_ist 2 <|
  c_i (0) <|
  c_ist 3 <|
  kX11_onWayTo_4 N
noncomputable def fX11_onWayTo (N : Nat) : am_F := am_fn 4 (kX11_onWayTo_0 N)
set_option maxRecDepth 20000 in
theorem vX11_onWayTo_39 (l : Launch) (hfl : l.stackTraces = false) (N : Nat)  {r4 : am_K} (h4 : am_V l cX11_onWayTo 4 RX11 (am_E (some .int) yX11_onWayTo.name) 3 103 4 r4) : am_V l cX11_onWayTo 4 RX11 (am_E (some .int) yX11_onWayTo.name) 3 103 39 (kX11_onWayTo_39 N r4) := by
  refine av_live ?_
  refine av_iadd dX11_onWayTo_39 ?_
  refine av_istore_n dX11_onWayTo_40 rfl (by decide) ?_
  refine av_iinc dX11_onWayTo_41 (by decide) (by decide) ?_
  refine av_goto (tgt := 4) dX11_onWayTo_44 (by decide) ?_
  exact av_live h4
set_option maxRecDepth 20000 in
theorem vX11_onWayTo_38 (l : Launch) (hfl : l.stackTraces = false) (N : Nat)  {r4 : am_K} (h4 : am_V l cX11_onWayTo 4 RX11 (am_E (some .int) yX11_onWayTo.name) 3 103 4 r4) : am_V l cX11_onWayTo 4 RX11 (am_E (some .int) yX11_onWayTo.name) 3 103 38 (kX11_onWayTo_38 N r4) := by
  refine av_live ?_
  refine av_iconst (v := 0) dX11_onWayTo_38 (by decide) ?_
  exact vX11_onWayTo_39 l hfl N h4
set_option maxRecDepth 20000 in
theorem vX11_onWayTo_4 (l : Launch) (hfl : l.stackTraces = false) (N : Nat)  : am_V l cX11_onWayTo 4 RX11 (am_E (some .int) yX11_onWayTo.name) 3 103 4 (kX11_onWayTo_4 N) := by
  refine av_live ?_
  refine av_loop (fun r4 h4 => ?_) N
  refine av_iload_n dX11_onWayTo_4 rfl ?_
  refine av_aload_n dX11_onWayTo_5 rfl ?_
  refine av_getr am_ci11 (by decide) am_f11_0 q610 dX11_onWayTo_6 ?_
  refine av_iconst (v := 4) dX11_onWayTo_9 (by decide) ?_
  refine av_iaload dX11_onWayTo_10 ?_
  refine av_icge (tgt := 47) dX11_onWayTo_11 (by decide) ?_ ?_
  · refine av_iload_n dX11_onWayTo_47 rfl ?_
    exact av_ireturn am_hi dX11_onWayTo_48
  refine av_iload_n dX11_onWayTo_14 rfl ?_
  refine av_aload_n dX11_onWayTo_15 rfl ?_
  refine av_iload_n dX11_onWayTo_16 rfl ?_
  refine av_iconst (v := 0) dX11_onWayTo_17 (by decide) ?_
  refine av_callV am_hT (mX11_ofOrder l hfl N) am_ci11 ⟨by decide +kernel, by decide +kernel, by decide +kernel⟩ q644 q645 q628 q646 q647 (by decide) (by decide) dX11_onWayTo_18 ?_
  refine av_iload_n dX11_onWayTo_21 rfl ?_
  refine av_icne (tgt := 38) dX11_onWayTo_22 (by decide) ?_ ?_
  · exact vX11_onWayTo_38 l hfl N h4
  refine av_aload_n dX11_onWayTo_25 rfl ?_
  refine av_iload_n dX11_onWayTo_26 rfl ?_
  refine av_iconst (v := 3) dX11_onWayTo_27 (by decide) ?_
  refine av_callV am_hT (mX11_ofOrder l hfl N) am_ci11 ⟨by decide +kernel, by decide +kernel, by decide +kernel⟩ q644 q645 q628 q646 q647 (by decide) (by decide) dX11_onWayTo_28 ?_
  refine av_ifne (tgt := 38) dX11_onWayTo_31 (by decide) ?_ ?_
  · exact vX11_onWayTo_38 l hfl N h4
  refine av_iconst (v := 1) dX11_onWayTo_34 (by decide) ?_
  refine av_goto (tgt := 39) dX11_onWayTo_35 (by decide) ?_
  exact vX11_onWayTo_39 l hfl N h4
set_option maxRecDepth 20000 in
theorem vX11_onWayTo_0 (l : Launch) (hfl : l.stackTraces = false) (N : Nat)  : am_V l cX11_onWayTo 4 RX11 (am_E (some .int) yX11_onWayTo.name) 3 103 0 (kX11_onWayTo_0 N) := by
  refine av_live ?_
  refine av_iconst (v := 0) dX11_onWayTo_0 (by decide) ?_
  refine av_istore_n dX11_onWayTo_1 rfl (by decide) ?_
  refine av_iconst (v := 0) dX11_onWayTo_2 (by decide) ?_
  refine av_istore_n dX11_onWayTo_3 rfl (by decide) ?_
  exact vX11_onWayTo_4 l hfl N
theorem mX11_onWayTo (l : Launch) (hfl : l.stackTraces = false) (N : Nat) : am_M l yX11_onWayTo cX11_onWayTo 4 (some .int) 3 103 (fX11_onWayTo N) := av_meth hfl (by decide +kernel) rfl (vX11_onWayTo_0 l hfl N)
/-! MessengerBoardModel.unit(II)I -/
noncomputable def kX11_unit_22 (N : Nat) : am_K := c_live [0] <|
  c_rld 0 <|
  c_i (1) <|
  c_callV 11 1 (fX11_raise N) <|
  c_iret
noncomputable def kX11_unit_60 (N : Nat) : am_K := c_live [] <|
  c_iret
noncomputable def kX11_unit_0 (N : Nat) : am_K := c_live [0, 1, 2] <|
  c_rld 0 <|
  c_i (0) <|
  c_puti 11 6 <|
  c_rld 0 <|
  c_ild 1 <|
  c_callV 11 1 (fX11_isUnit N) <|
  c_ifeq (
  kX11_unit_22 N) <|
  c_ild 2 <|
  c_i (0) <|
  c_i (5) <|
  c_callS 3 (fX11_inRange N) <|
  c_ifne (
  c_ild 2 <|
  c_i (4) <|
  c_icge (
  c_ild 2 <|
  c_i (4) <|
  c_icne (
  c_rld 0 <|
  c_ild 1 <|
  c_callV 11 1 (fX11_onWayTo N) <|
  kX11_unit_60 N) <|
  c_rld 0 <|
  c_ild 1 <|
  c_callV 11 1 (fX11_obeyedBy N) <|
  kX11_unit_60 N) <|
  c_rld 0 <|
  c_ild 1 <|
  c_ild 2 <|
  c_callV 11 2 (fX11_ofUnit N) <|
  kX11_unit_60 N) <|
  kX11_unit_22 N
noncomputable def fX11_unit (N : Nat) : am_F := am_fn 3 (kX11_unit_0 N)
set_option maxRecDepth 20000 in
theorem vX11_unit_22 (l : Launch) (hfl : l.stackTraces = false) (N : Nat)  : am_V l cX11_unit 3 RX11 (am_E (some .int) yX11_unit.name) 4 126 22 (kX11_unit_22 N) := by
  refine av_live ?_
  refine av_aload_n dX11_unit_22 rfl ?_
  refine av_iconst (v := 1) dX11_unit_23 (by decide) ?_
  refine av_callV am_hT (mX11_raise l hfl N) am_ci11 ⟨by decide +kernel, by decide +kernel, by decide +kernel⟩ q634 q635 q628 q636 q637 (by decide) (by decide) dX11_unit_24 ?_
  exact av_ireturn am_hi dX11_unit_27
set_option maxRecDepth 20000 in
theorem vX11_unit_60 (l : Launch) (hfl : l.stackTraces = false) (N : Nat)  : am_V l cX11_unit 3 RX11 (am_E (some .int) yX11_unit.name) 4 126 60 (kX11_unit_60 N) := by
  refine av_live ?_
  exact av_ireturn am_hi dX11_unit_60
set_option maxRecDepth 20000 in
theorem vX11_unit_0 (l : Launch) (hfl : l.stackTraces = false) (N : Nat)  : am_V l cX11_unit 3 RX11 (am_E (some .int) yX11_unit.name) 4 126 0 (kX11_unit_0 N) := by
  refine av_live ?_
  refine av_aload_n dX11_unit_0 rfl ?_
  refine av_iconst (v := 0) dX11_unit_1 (by decide) ?_
  refine av_puti am_ci11 (by decide) am_f11_6 q630 (tyX11_ok 6 (by decide)) rfl dX11_unit_2 ?_
  refine av_aload_n dX11_unit_5 rfl ?_
  refine av_iload_n dX11_unit_6 rfl ?_
  refine av_callV am_hT (mX11_isUnit l hfl N) am_ci11 ⟨by decide +kernel, by decide +kernel, by decide +kernel⟩ q648 q649 q628 q650 q651 (by decide) (by decide) dX11_unit_7 ?_
  refine av_ifeq (tgt := 22) dX11_unit_10 (by decide) ?_ ?_
  · exact vX11_unit_22 l hfl N
  refine av_iload_n dX11_unit_13 rfl ?_
  refine av_iconst (v := 0) dX11_unit_14 (by decide) ?_
  refine av_iconst (v := 5) dX11_unit_15 (by decide) ?_
  refine av_callS am_hT (mX11_inRange l hfl N) ⟨by decide +kernel, by decide +kernel, by decide +kernel⟩ q631 q632 q628 q633 (by decide) (by decide) dX11_unit_16 ?_
  refine av_ifne (tgt := 28) dX11_unit_19 (by decide) ?_ ?_
  · refine av_iload_n dX11_unit_28 rfl ?_
    refine av_iconst (v := 4) dX11_unit_29 (by decide) ?_
    refine av_icge (tgt := 42) dX11_unit_30 (by decide) ?_ ?_
    · refine av_iload_n dX11_unit_42 rfl ?_
      refine av_iconst (v := 4) dX11_unit_43 (by decide) ?_
      refine av_icne (tgt := 55) dX11_unit_44 (by decide) ?_ ?_
      · refine av_aload_n dX11_unit_55 rfl ?_
        refine av_iload_n dX11_unit_56 rfl ?_
        refine av_callV am_hT (mX11_onWayTo l hfl N) am_ci11 ⟨by decide +kernel, by decide +kernel, by decide +kernel⟩ q652 q653 q628 q654 q655 (by decide) (by decide) dX11_unit_57 ?_
        exact vX11_unit_60 l hfl N
      refine av_aload_n dX11_unit_47 rfl ?_
      refine av_iload_n dX11_unit_48 rfl ?_
      refine av_callV am_hT (mX11_obeyedBy l hfl N) am_ci11 ⟨by decide +kernel, by decide +kernel, by decide +kernel⟩ q656 q657 q628 q658 q659 (by decide) (by decide) dX11_unit_49 ?_
      refine av_goto (tgt := 60) dX11_unit_52 (by decide) ?_
      exact vX11_unit_60 l hfl N
    refine av_aload_n dX11_unit_33 rfl ?_
    refine av_iload_n dX11_unit_34 rfl ?_
    refine av_iload_n dX11_unit_35 rfl ?_
    refine av_callV am_hT (mX11_ofUnit l hfl N) am_ci11 ⟨by decide +kernel, by decide +kernel, by decide +kernel⟩ q660 q661 q628 q662 q663 (by decide) (by decide) dX11_unit_36 ?_
    refine av_goto (tgt := 60) dX11_unit_39 (by decide) ?_
    exact vX11_unit_60 l hfl N
  exact vX11_unit_22 l hfl N
theorem mX11_unit (l : Launch) (hfl : l.stackTraces = false) (N : Nat) : am_M l yX11_unit cX11_unit 3 (some .int) 4 126 (fX11_unit N) := av_meth hfl (by decide +kernel) rfl (vX11_unit_0 l hfl N)
/-! MessengerBoardModel.isPicket(I)Z -/
noncomputable def kX11_isPicket_0 (N : Nat) : am_K := c_live [0, 1] <|
  c_ild 1 <|
  c_i (0) <|
  c_rld 0 <|
  c_getr 11 0 <|
  c_i (3) <|
  c_ial <|
  c_i (1) <|
  c_ii (fun x y => x - y) <|
  c_callS 3 (fX11_inRange N) <|
  c_zret
noncomputable def fX11_isPicket (N : Nat) : am_F := am_fn 2 (kX11_isPicket_0 N)
set_option maxRecDepth 20000 in
theorem vX11_isPicket_0 (l : Launch) (hfl : l.stackTraces = false) (N : Nat)  : am_V l cX11_isPicket 2 RX11 (am_E (some .boolean) yX11_isPicket.name) 2 82 0 (kX11_isPicket_0 N) := by
  refine av_live ?_
  refine av_iload_n dX11_isPicket_0 rfl ?_
  refine av_iconst (v := 0) dX11_isPicket_1 (by decide) ?_
  refine av_aload_n dX11_isPicket_2 rfl ?_
  refine av_getr am_ci11 (by decide) am_f11_0 q610 dX11_isPicket_3 ?_
  refine av_iconst (v := 3) dX11_isPicket_6 (by decide) ?_
  refine av_iaload dX11_isPicket_7 ?_
  refine av_iconst (v := 1) dX11_isPicket_8 (by decide) ?_
  refine av_isub dX11_isPicket_9 ?_
  refine av_callS am_hT (mX11_inRange l hfl N) ⟨by decide +kernel, by decide +kernel, by decide +kernel⟩ q631 q632 q628 q633 (by decide) (by decide) dX11_isPicket_10 ?_
  exact av_zreturn am_hz dX11_isPicket_13
theorem mX11_isPicket (l : Launch) (hfl : l.stackTraces = false) (N : Nat) : am_M l yX11_isPicket cX11_isPicket 2 (some .boolean) 2 82 (fX11_isPicket N) := av_meth hfl (by decide +kernel) rfl (vX11_isPicket_0 l hfl N)
/-! MessengerBoardModel.turnNow()I -/
noncomputable def kX11_turnNow_0 (N : Nat) : am_K := c_live [0] <|
  c_rld 0 <|
  c_getr 11 0 <|
  c_i (5) <|
  c_ial <|
  c_iret
noncomputable def fX11_turnNow (N : Nat) : am_F := am_fn 1 (kX11_turnNow_0 N)
set_option maxRecDepth 20000 in
theorem vX11_turnNow_0 (l : Launch) (hfl : l.stackTraces = false) (N : Nat)  : am_V l cX11_turnNow 1 RX11 (am_E (some .int) yX11_turnNow.name) 1 60 0 (kX11_turnNow_0 N) := by
  refine av_live ?_
  refine av_aload_n dX11_turnNow_0 rfl ?_
  refine av_getr am_ci11 (by decide) am_f11_0 q610 dX11_turnNow_1 ?_
  refine av_iconst (v := 5) dX11_turnNow_4 (by decide) ?_
  refine av_iaload dX11_turnNow_5 ?_
  exact av_ireturn am_hi dX11_turnNow_6
theorem mX11_turnNow (l : Launch) (hfl : l.stackTraces = false) (N : Nat) : am_M l yX11_turnNow cX11_turnNow 1 (some .int) 1 60 (fX11_turnNow N) := av_meth hfl (by decide +kernel) rfl (vX11_turnNow_0 l hfl N)
/-! MessengerBoardModel.picketAt(II)I -/
noncomputable def kX11_picketAt_0 (N : Nat) : am_K := c_live [0, 1] <|
  c_i (36) <|
  c_i (7) <|
  c_ild 0 <|
  c_ii (fun x y => x * y) <|
  c_ii (fun x y => x + y) <|
  c_ild 1 <|
  c_ii (fun x y => x + y) <|
  c_iret
noncomputable def fX11_picketAt (N : Nat) : am_F := am_fn 2 (kX11_picketAt_0 N)
set_option maxRecDepth 20000 in
theorem vX11_picketAt_0 (l : Launch) (hfl : l.stackTraces = false) (N : Nat)  : am_V l cX11_picketAt 2 RX11 (am_E (some .int) yX11_picketAt.name) 1 60 0 (kX11_picketAt_0 N) := by
  refine av_live ?_
  refine av_bipush (v := 36) dX11_picketAt_0 (by decide) ?_
  refine av_bipush (v := 7) dX11_picketAt_2 (by decide) ?_
  refine av_iload_n dX11_picketAt_4 rfl ?_
  refine av_imul dX11_picketAt_5 ?_
  refine av_iadd dX11_picketAt_6 ?_
  refine av_iload_n dX11_picketAt_7 rfl ?_
  refine av_iadd dX11_picketAt_8 ?_
  exact av_ireturn am_hi dX11_picketAt_9
theorem mX11_picketAt (l : Launch) (hfl : l.stackTraces = false) (N : Nat) : am_M l yX11_picketAt cX11_picketAt 2 (some .int) 1 60 (fX11_picketAt N) := av_meth hfl (by decide +kernel) rfl (vX11_picketAt_0 l hfl N)
/-! MessengerBoardModel.ofPicket(II)I -/
noncomputable def kX11_ofPicket_0 (N : Nat) : am_K := c_live [0, 1, 2] <|
  c_rld 0 <|
  c_getr 11 0 <|
  c_ild 1 <|
  c_ild 2 <|
  c_callS 2 (fX11_picketAt N) <|
  c_ial <|
  c_iret
noncomputable def fX11_ofPicket (N : Nat) : am_F := am_fn 3 (kX11_ofPicket_0 N)
set_option maxRecDepth 20000 in
theorem vX11_ofPicket_0 (l : Launch) (hfl : l.stackTraces = false) (N : Nat)  : am_V l cX11_ofPicket 3 RX11 (am_E (some .int) yX11_ofPicket.name) 2 81 0 (kX11_ofPicket_0 N) := by
  refine av_live ?_
  refine av_aload_n dX11_ofPicket_0 rfl ?_
  refine av_getr am_ci11 (by decide) am_f11_0 q610 dX11_ofPicket_1 ?_
  refine av_iload_n dX11_ofPicket_4 rfl ?_
  refine av_iload_n dX11_ofPicket_5 rfl ?_
  refine av_callS am_hT (mX11_picketAt l hfl N) ⟨by decide +kernel, by decide +kernel, by decide +kernel⟩ q664 q665 q628 q666 (by decide) (by decide) dX11_ofPicket_6 ?_
  refine av_iaload dX11_ofPicket_9 ?_
  exact av_ireturn am_hi dX11_ofPicket_10
theorem mX11_ofPicket (l : Launch) (hfl : l.stackTraces = false) (N : Nat) : am_M l yX11_ofPicket cX11_ofPicket 3 (some .int) 2 81 (fX11_ofPicket N) := av_meth hfl (by decide +kernel) rfl (vX11_ofPicket_0 l hfl N)
/-! MessengerBoardModel.watches(II)Z -/
noncomputable def kX11_watches_0 (N : Nat) : am_K := c_live [0, 1, 2] <|
  c_ild 2 <|
  c_rld 0 <|
  c_ild 1 <|
  c_i (3) <|
  c_callV 11 2 (fX11_ofPicket N) <|
  c_irem <|
  c_rld 0 <|
  c_ild 1 <|
  c_i (4) <|
  c_callV 11 2 (fX11_ofPicket N) <|
  c_rld 0 <|
  c_ild 1 <|
  c_i (5) <|
  c_callV 11 2 (fX11_ofPicket N) <|
  c_callS 3 (fX11_inRange N) <|
  c_zret
noncomputable def fX11_watches (N : Nat) : am_F := am_fn 3 (kX11_watches_0 N)
set_option maxRecDepth 20000 in
theorem vX11_watches_0 (l : Launch) (hfl : l.stackTraces = false) (N : Nat)  : am_V l cX11_watches 3 RX11 (am_E (some .boolean) yX11_watches.name) 3 103 0 (kX11_watches_0 N) := by
  refine av_live ?_
  refine av_iload_n dX11_watches_0 rfl ?_
  refine av_aload_n dX11_watches_1 rfl ?_
  refine av_iload_n dX11_watches_2 rfl ?_
  refine av_iconst (v := 3) dX11_watches_3 (by decide) ?_
  refine av_callV am_hT (mX11_ofPicket l hfl N) am_ci11 ⟨by decide +kernel, by decide +kernel, by decide +kernel⟩ q667 q668 q628 q669 q670 (by decide) (by decide) dX11_watches_4 ?_
  refine av_irem dX11_watches_7 ?_
  refine av_aload_n dX11_watches_8 rfl ?_
  refine av_iload_n dX11_watches_9 rfl ?_
  refine av_iconst (v := 4) dX11_watches_10 (by decide) ?_
  refine av_callV am_hT (mX11_ofPicket l hfl N) am_ci11 ⟨by decide +kernel, by decide +kernel, by decide +kernel⟩ q667 q668 q628 q669 q670 (by decide) (by decide) dX11_watches_11 ?_
  refine av_aload_n dX11_watches_14 rfl ?_
  refine av_iload_n dX11_watches_15 rfl ?_
  refine av_iconst (v := 5) dX11_watches_16 (by decide) ?_
  refine av_callV am_hT (mX11_ofPicket l hfl N) am_ci11 ⟨by decide +kernel, by decide +kernel, by decide +kernel⟩ q667 q668 q628 q669 q670 (by decide) (by decide) dX11_watches_17 ?_
  refine av_callS am_hT (mX11_inRange l hfl N) ⟨by decide +kernel, by decide +kernel, by decide +kernel⟩ q631 q632 q628 q633 (by decide) (by decide) dX11_watches_20 ?_
  exact av_zreturn am_hz dX11_watches_23
theorem mX11_watches (l : Launch) (hfl : l.stackTraces = false) (N : Nat) : am_M l yX11_watches cX11_watches 3 (some .boolean) 3 103 (fX11_watches N) := av_meth hfl (by decide +kernel) rfl (vX11_watches_0 l hfl N)
/-! MessengerBoardModel.picket(II)I -/
noncomputable def kX11_picket_23 (N : Nat) : am_K := c_live [0] <|
  c_rld 0 <|
  c_i (1) <|
  c_callV 11 1 (fX11_raise N) <|
  c_iret
noncomputable def kX11_picket_67 (N : Nat) : am_K := c_live [] <|
  c_callV 11 2 (fX11_ofPicket N) <|
  c_iret
noncomputable def kX11_picket_52 (N : Nat) : am_K := c_live [] <|
  c_iret
noncomputable def kX11_picket_0 (N : Nat) : am_K := c_live [0, 1, 2] <|
  c_rld 0 <|
  c_i (0) <|
  c_puti 11 6 <|
  c_rld 0 <|
  c_ild 1 <|
  c_callV 11 1 (fX11_isPicket N) <|
  c_ifeq (
  kX11_picket_23 N) <|
  c_ild 2 <|
  c_i (0) <|
  c_i (7) <|
  c_callS 3 (fX11_inRange N) <|
  c_ifne (
  c_ild 2 <|
  c_i (6) <|
  c_icne (
  c_rld 0 <|
  c_ild 1 <|
  c_ild 2 <|
  c_i (7) <|
  c_icne (
  c_ild 2 <|
  kX11_picket_67 N) <|
  c_i (6) <|
  kX11_picket_67 N) <|
  c_rld 0 <|
  c_ild 1 <|
  c_rld 0 <|
  c_callV 11 0 (fX11_turnNow N) <|
  c_callV 11 2 (fX11_watches N) <|
  c_ifeq (
  c_i (0) <|
  kX11_picket_52 N) <|
  c_i (1) <|
  kX11_picket_52 N) <|
  kX11_picket_23 N
noncomputable def fX11_picket (N : Nat) : am_F := am_fn 3 (kX11_picket_0 N)
set_option maxRecDepth 20000 in
theorem vX11_picket_23 (l : Launch) (hfl : l.stackTraces = false) (N : Nat)  : am_V l cX11_picket 3 RX11 (am_E (some .int) yX11_picket.name) 4 125 23 (kX11_picket_23 N) := by
  refine av_live ?_
  refine av_aload_n dX11_picket_23 rfl ?_
  refine av_iconst (v := 1) dX11_picket_24 (by decide) ?_
  refine av_callV am_hT (mX11_raise l hfl N) am_ci11 ⟨by decide +kernel, by decide +kernel, by decide +kernel⟩ q634 q635 q628 q636 q637 (by decide) (by decide) dX11_picket_25 ?_
  exact av_ireturn am_hi dX11_picket_28
set_option maxRecDepth 20000 in
theorem vX11_picket_67 (l : Launch) (hfl : l.stackTraces = false) (N : Nat)  : am_V l cX11_picket 3 RX11 (am_E (some .int) yX11_picket.name) 4 125 67 (kX11_picket_67 N) := by
  refine av_live ?_
  refine av_callV am_hT (mX11_ofPicket l hfl N) am_ci11 ⟨by decide +kernel, by decide +kernel, by decide +kernel⟩ q667 q668 q628 q669 q670 (by decide) (by decide) dX11_picket_67 ?_
  exact av_ireturn am_hi dX11_picket_70
set_option maxRecDepth 20000 in
theorem vX11_picket_52 (l : Launch) (hfl : l.stackTraces = false) (N : Nat)  : am_V l cX11_picket 3 RX11 (am_E (some .int) yX11_picket.name) 4 125 52 (kX11_picket_52 N) := by
  refine av_live ?_
  exact av_ireturn am_hi dX11_picket_52
set_option maxRecDepth 20000 in
theorem vX11_picket_0 (l : Launch) (hfl : l.stackTraces = false) (N : Nat)  : am_V l cX11_picket 3 RX11 (am_E (some .int) yX11_picket.name) 4 125 0 (kX11_picket_0 N) := by
  refine av_live ?_
  refine av_aload_n dX11_picket_0 rfl ?_
  refine av_iconst (v := 0) dX11_picket_1 (by decide) ?_
  refine av_puti am_ci11 (by decide) am_f11_6 q630 (tyX11_ok 6 (by decide)) rfl dX11_picket_2 ?_
  refine av_aload_n dX11_picket_5 rfl ?_
  refine av_iload_n dX11_picket_6 rfl ?_
  refine av_callV am_hT (mX11_isPicket l hfl N) am_ci11 ⟨by decide +kernel, by decide +kernel, by decide +kernel⟩ q671 q672 q628 q673 q674 (by decide) (by decide) dX11_picket_7 ?_
  refine av_ifeq (tgt := 23) dX11_picket_10 (by decide) ?_ ?_
  · exact vX11_picket_23 l hfl N
  refine av_iload_n dX11_picket_13 rfl ?_
  refine av_iconst (v := 0) dX11_picket_14 (by decide) ?_
  refine av_bipush (v := 7) dX11_picket_15 (by decide) ?_
  refine av_callS am_hT (mX11_inRange l hfl N) ⟨by decide +kernel, by decide +kernel, by decide +kernel⟩ q631 q632 q628 q633 (by decide) (by decide) dX11_picket_17 ?_
  refine av_ifne (tgt := 29) dX11_picket_20 (by decide) ?_ ?_
  · refine av_iload_n dX11_picket_29 rfl ?_
    refine av_bipush (v := 6) dX11_picket_30 (by decide) ?_
    refine av_icne (tgt := 53) dX11_picket_32 (by decide) ?_ ?_
    · refine av_aload_n dX11_picket_53 rfl ?_
      refine av_iload_n dX11_picket_54 rfl ?_
      refine av_iload_n dX11_picket_55 rfl ?_
      refine av_bipush (v := 7) dX11_picket_56 (by decide) ?_
      refine av_icne (tgt := 66) dX11_picket_58 (by decide) ?_ ?_
      · refine av_iload_n dX11_picket_66 rfl ?_
        exact vX11_picket_67 l hfl N
      refine av_bipush (v := 6) dX11_picket_61 (by decide) ?_
      refine av_goto (tgt := 67) dX11_picket_63 (by decide) ?_
      exact vX11_picket_67 l hfl N
    refine av_aload_n dX11_picket_35 rfl ?_
    refine av_iload_n dX11_picket_36 rfl ?_
    refine av_aload_n dX11_picket_37 rfl ?_
    refine av_callV am_hT (mX11_turnNow l hfl N) am_ci11 ⟨by decide +kernel, by decide +kernel, by decide +kernel⟩ q675 q676 q628 q677 q678 (by decide) (by decide) dX11_picket_38 ?_
    refine av_callV am_hT (mX11_watches l hfl N) am_ci11 ⟨by decide +kernel, by decide +kernel, by decide +kernel⟩ q679 q680 q628 q681 q682 (by decide) (by decide) dX11_picket_41 ?_
    refine av_ifeq (tgt := 51) dX11_picket_44 (by decide) ?_ ?_
    · refine av_iconst (v := 0) dX11_picket_51 (by decide) ?_
      exact vX11_picket_52 l hfl N
    refine av_iconst (v := 1) dX11_picket_47 (by decide) ?_
    refine av_goto (tgt := 52) dX11_picket_48 (by decide) ?_
    exact vX11_picket_52 l hfl N
  exact vX11_picket_23 l hfl N
theorem mX11_picket (l : Launch) (hfl : l.stackTraces = false) (N : Nat) : am_M l yX11_picket cX11_picket 3 (some .int) 4 125 (fX11_picket N) := av_meth hfl (by decide +kernel) rfl (vX11_picket_0 l hfl N)
/-! MessengerBoardModel.isOrder(I)Z -/
noncomputable def kX11_isOrder_0 (N : Nat) : am_K := c_live [0, 1] <|
  c_ild 1 <|
  c_i (0) <|
  c_rld 0 <|
  c_getr 11 0 <|
  c_i (4) <|
  c_ial <|
  c_i (1) <|
  c_ii (fun x y => x - y) <|
  c_callS 3 (fX11_inRange N) <|
  c_zret
noncomputable def fX11_isOrder (N : Nat) : am_F := am_fn 2 (kX11_isOrder_0 N)
set_option maxRecDepth 20000 in
theorem vX11_isOrder_0 (l : Launch) (hfl : l.stackTraces = false) (N : Nat)  : am_V l cX11_isOrder 2 RX11 (am_E (some .boolean) yX11_isOrder.name) 2 82 0 (kX11_isOrder_0 N) := by
  refine av_live ?_
  refine av_iload_n dX11_isOrder_0 rfl ?_
  refine av_iconst (v := 0) dX11_isOrder_1 (by decide) ?_
  refine av_aload_n dX11_isOrder_2 rfl ?_
  refine av_getr am_ci11 (by decide) am_f11_0 q610 dX11_isOrder_3 ?_
  refine av_iconst (v := 4) dX11_isOrder_6 (by decide) ?_
  refine av_iaload dX11_isOrder_7 ?_
  refine av_iconst (v := 1) dX11_isOrder_8 (by decide) ?_
  refine av_isub dX11_isOrder_9 ?_
  refine av_callS am_hT (mX11_inRange l hfl N) ⟨by decide +kernel, by decide +kernel, by decide +kernel⟩ q631 q632 q628 q633 (by decide) (by decide) dX11_isOrder_10 ?_
  exact av_zreturn am_hz dX11_isOrder_13
theorem mX11_isOrder (l : Launch) (hfl : l.stackTraces = false) (N : Nat) : am_M l yX11_isOrder cX11_isOrder 2 (some .boolean) 2 82 (fX11_isOrder N) := av_meth hfl (by decide +kernel) rfl (vX11_isOrder_0 l hfl N)
/-! MessengerBoardModel.order(II)I -/
noncomputable def kX11_order_37 (N : Nat) : am_K := c_live [] <|
  c_iret
noncomputable def kX11_order_32 (N : Nat) : am_K := c_live [0] <|
  c_rld 0 <|
  c_i (1) <|
  c_callV 11 1 (fX11_raise N) <|
  kX11_order_37 N
noncomputable def kX11_order_0 (N : Nat) : am_K := c_live [0, 1, 2] <|
  c_rld 0 <|
  c_i (0) <|
  c_puti 11 6 <|
  c_rld 0 <|
  c_ild 1 <|
  c_callV 11 1 (fX11_isOrder N) <|
  c_ifeq (
  kX11_order_32 N) <|
  c_ild 2 <|
  c_i (0) <|
  c_i (9) <|
  c_callS 3 (fX11_inRange N) <|
  c_ifeq (
  kX11_order_32 N) <|
  c_rld 0 <|
  c_ild 1 <|
  c_ild 2 <|
  c_callV 11 2 (fX11_ofOrder N) <|
  kX11_order_37 N
noncomputable def fX11_order (N : Nat) : am_F := am_fn 3 (kX11_order_0 N)
set_option maxRecDepth 20000 in
theorem vX11_order_37 (l : Launch) (hfl : l.stackTraces = false) (N : Nat)  : am_V l cX11_order 3 RX11 (am_E (some .int) yX11_order.name) 3 103 37 (kX11_order_37 N) := by
  refine av_live ?_
  exact av_ireturn am_hi dX11_order_37
set_option maxRecDepth 20000 in
theorem vX11_order_32 (l : Launch) (hfl : l.stackTraces = false) (N : Nat)  : am_V l cX11_order 3 RX11 (am_E (some .int) yX11_order.name) 3 103 32 (kX11_order_32 N) := by
  refine av_live ?_
  refine av_aload_n dX11_order_32 rfl ?_
  refine av_iconst (v := 1) dX11_order_33 (by decide) ?_
  refine av_callV am_hT (mX11_raise l hfl N) am_ci11 ⟨by decide +kernel, by decide +kernel, by decide +kernel⟩ q634 q635 q628 q636 q637 (by decide) (by decide) dX11_order_34 ?_
  exact vX11_order_37 l hfl N
set_option maxRecDepth 20000 in
theorem vX11_order_0 (l : Launch) (hfl : l.stackTraces = false) (N : Nat)  : am_V l cX11_order 3 RX11 (am_E (some .int) yX11_order.name) 3 103 0 (kX11_order_0 N) := by
  refine av_live ?_
  refine av_aload_n dX11_order_0 rfl ?_
  refine av_iconst (v := 0) dX11_order_1 (by decide) ?_
  refine av_puti am_ci11 (by decide) am_f11_6 q630 (tyX11_ok 6 (by decide)) rfl dX11_order_2 ?_
  refine av_aload_n dX11_order_5 rfl ?_
  refine av_iload_n dX11_order_6 rfl ?_
  refine av_callV am_hT (mX11_isOrder l hfl N) am_ci11 ⟨by decide +kernel, by decide +kernel, by decide +kernel⟩ q683 q684 q628 q685 q686 (by decide) (by decide) dX11_order_7 ?_
  refine av_ifeq (tgt := 32) dX11_order_10 (by decide) ?_ ?_
  · exact vX11_order_32 l hfl N
  refine av_iload_n dX11_order_13 rfl ?_
  refine av_iconst (v := 0) dX11_order_14 (by decide) ?_
  refine av_bipush (v := 9) dX11_order_15 (by decide) ?_
  refine av_callS am_hT (mX11_inRange l hfl N) ⟨by decide +kernel, by decide +kernel, by decide +kernel⟩ q631 q632 q628 q633 (by decide) (by decide) dX11_order_17 ?_
  refine av_ifeq (tgt := 32) dX11_order_20 (by decide) ?_ ?_
  · exact vX11_order_32 l hfl N
  refine av_aload_n dX11_order_23 rfl ?_
  refine av_iload_n dX11_order_24 rfl ?_
  refine av_iload_n dX11_order_25 rfl ?_
  refine av_callV am_hT (mX11_ofOrder l hfl N) am_ci11 ⟨by decide +kernel, by decide +kernel, by decide +kernel⟩ q644 q645 q628 q646 q647 (by decide) (by decide) dX11_order_26 ?_
  refine av_goto (tgt := 37) dX11_order_29 (by decide) ?_
  exact vX11_order_37 l hfl N
theorem mX11_order (l : Launch) (hfl : l.stackTraces = false) (N : Nat) : am_M l yX11_order cX11_order 3 (some .int) 3 103 (fX11_order N) := av_meth hfl (by decide +kernel) rfl (vX11_order_0 l hfl N)
/-! MessengerBoardModel.isPlan(I)Z -/
noncomputable def kX11_isPlan_0 (N : Nat) : am_K := c_live [0, 1] <|
  c_ild 1 <|
  c_i (0) <|
  c_rld 0 <|
  c_getr 11 0 <|
  c_i (8) <|
  c_ial <|
  c_i (1) <|
  c_ii (fun x y => x - y) <|
  c_callS 3 (fX11_inRange N) <|
  c_zret
noncomputable def fX11_isPlan (N : Nat) : am_F := am_fn 2 (kX11_isPlan_0 N)
set_option maxRecDepth 20000 in
theorem vX11_isPlan_0 (l : Launch) (hfl : l.stackTraces = false) (N : Nat)  : am_V l cX11_isPlan 2 RX11 (am_E (some .boolean) yX11_isPlan.name) 2 82 0 (kX11_isPlan_0 N) := by
  refine av_live ?_
  refine av_iload_n dX11_isPlan_0 rfl ?_
  refine av_iconst (v := 0) dX11_isPlan_1 (by decide) ?_
  refine av_aload_n dX11_isPlan_2 rfl ?_
  refine av_getr am_ci11 (by decide) am_f11_0 q610 dX11_isPlan_3 ?_
  refine av_bipush (v := 8) dX11_isPlan_6 (by decide) ?_
  refine av_iaload dX11_isPlan_8 ?_
  refine av_iconst (v := 1) dX11_isPlan_9 (by decide) ?_
  refine av_isub dX11_isPlan_10 ?_
  refine av_callS am_hT (mX11_inRange l hfl N) ⟨by decide +kernel, by decide +kernel, by decide +kernel⟩ q631 q632 q628 q633 (by decide) (by decide) dX11_isPlan_11 ?_
  exact av_zreturn am_hz dX11_isPlan_14
theorem mX11_isPlan (l : Launch) (hfl : l.stackTraces = false) (N : Nat) : am_M l yX11_isPlan cX11_isPlan 2 (some .boolean) 2 82 (fX11_isPlan N) := av_meth hfl (by decide +kernel) rfl (vX11_isPlan_0 l hfl N)
/-! MessengerBoardModel.planAt(II)I -/
noncomputable def kX11_planAt_0 (N : Nat) : am_K := c_live [0, 1] <|
  c_i (464) <|
  c_i (4) <|
  c_ild 0 <|
  c_ii (fun x y => x * y) <|
  c_ii (fun x y => x + y) <|
  c_ild 1 <|
  c_ii (fun x y => x + y) <|
  c_iret
noncomputable def fX11_planAt (N : Nat) : am_F := am_fn 2 (kX11_planAt_0 N)
set_option maxRecDepth 20000 in
theorem vX11_planAt_0 (l : Launch) (hfl : l.stackTraces = false) (N : Nat)  : am_V l cX11_planAt 2 RX11 (am_E (some .int) yX11_planAt.name) 1 60 0 (kX11_planAt_0 N) := by
  refine av_live ?_
  refine av_sipush (v := 464) dX11_planAt_0 (by decide) ?_
  refine av_iconst (v := 4) dX11_planAt_3 (by decide) ?_
  refine av_iload_n dX11_planAt_4 rfl ?_
  refine av_imul dX11_planAt_5 ?_
  refine av_iadd dX11_planAt_6 ?_
  refine av_iload_n dX11_planAt_7 rfl ?_
  refine av_iadd dX11_planAt_8 ?_
  exact av_ireturn am_hi dX11_planAt_9
theorem mX11_planAt (l : Launch) (hfl : l.stackTraces = false) (N : Nat) : am_M l yX11_planAt cX11_planAt 2 (some .int) 1 60 (fX11_planAt N) := av_meth hfl (by decide +kernel) rfl (vX11_planAt_0 l hfl N)
/-! MessengerBoardModel.plan(II)I -/
noncomputable def kX11_plan_40 (N : Nat) : am_K := c_live [] <|
  c_iret
noncomputable def kX11_plan_35 (N : Nat) : am_K := c_live [0] <|
  c_rld 0 <|
  c_i (1) <|
  c_callV 11 1 (fX11_raise N) <|
  kX11_plan_40 N
noncomputable def kX11_plan_0 (N : Nat) : am_K := c_live [0, 1, 2] <|
  c_rld 0 <|
  c_i (0) <|
  c_puti 11 6 <|
  c_rld 0 <|
  c_ild 1 <|
  c_callV 11 1 (fX11_isPlan N) <|
  c_ifeq (
  kX11_plan_35 N) <|
  c_ild 2 <|
  c_i (0) <|
  c_i (3) <|
  c_callS 3 (fX11_inRange N) <|
  c_ifeq (
  kX11_plan_35 N) <|
  c_rld 0 <|
  c_getr 11 0 <|
  c_ild 1 <|
  c_ild 2 <|
  c_callS 2 (fX11_planAt N) <|
  c_ial <|
  kX11_plan_40 N
noncomputable def fX11_plan (N : Nat) : am_F := am_fn 3 (kX11_plan_0 N)
set_option maxRecDepth 20000 in
theorem vX11_plan_40 (l : Launch) (hfl : l.stackTraces = false) (N : Nat)  : am_V l cX11_plan 3 RX11 (am_E (some .int) yX11_plan.name) 3 103 40 (kX11_plan_40 N) := by
  refine av_live ?_
  exact av_ireturn am_hi dX11_plan_40
set_option maxRecDepth 20000 in
theorem vX11_plan_35 (l : Launch) (hfl : l.stackTraces = false) (N : Nat)  : am_V l cX11_plan 3 RX11 (am_E (some .int) yX11_plan.name) 3 103 35 (kX11_plan_35 N) := by
  refine av_live ?_
  refine av_aload_n dX11_plan_35 rfl ?_
  refine av_iconst (v := 1) dX11_plan_36 (by decide) ?_
  refine av_callV am_hT (mX11_raise l hfl N) am_ci11 ⟨by decide +kernel, by decide +kernel, by decide +kernel⟩ q634 q635 q628 q636 q637 (by decide) (by decide) dX11_plan_37 ?_
  exact vX11_plan_40 l hfl N
set_option maxRecDepth 20000 in
theorem vX11_plan_0 (l : Launch) (hfl : l.stackTraces = false) (N : Nat)  : am_V l cX11_plan 3 RX11 (am_E (some .int) yX11_plan.name) 3 103 0 (kX11_plan_0 N) := by
  refine av_live ?_
  refine av_aload_n dX11_plan_0 rfl ?_
  refine av_iconst (v := 0) dX11_plan_1 (by decide) ?_
  refine av_puti am_ci11 (by decide) am_f11_6 q630 (tyX11_ok 6 (by decide)) rfl dX11_plan_2 ?_
  refine av_aload_n dX11_plan_5 rfl ?_
  refine av_iload_n dX11_plan_6 rfl ?_
  refine av_callV am_hT (mX11_isPlan l hfl N) am_ci11 ⟨by decide +kernel, by decide +kernel, by decide +kernel⟩ q687 q688 q628 q689 q690 (by decide) (by decide) dX11_plan_7 ?_
  refine av_ifeq (tgt := 35) dX11_plan_10 (by decide) ?_ ?_
  · exact vX11_plan_35 l hfl N
  refine av_iload_n dX11_plan_13 rfl ?_
  refine av_iconst (v := 0) dX11_plan_14 (by decide) ?_
  refine av_iconst (v := 3) dX11_plan_15 (by decide) ?_
  refine av_callS am_hT (mX11_inRange l hfl N) ⟨by decide +kernel, by decide +kernel, by decide +kernel⟩ q631 q632 q628 q633 (by decide) (by decide) dX11_plan_16 ?_
  refine av_ifeq (tgt := 35) dX11_plan_19 (by decide) ?_ ?_
  · exact vX11_plan_35 l hfl N
  refine av_aload_n dX11_plan_22 rfl ?_
  refine av_getr am_ci11 (by decide) am_f11_0 q610 dX11_plan_23 ?_
  refine av_iload_n dX11_plan_26 rfl ?_
  refine av_iload_n dX11_plan_27 rfl ?_
  refine av_callS am_hT (mX11_planAt l hfl N) ⟨by decide +kernel, by decide +kernel, by decide +kernel⟩ q691 q692 q628 q693 (by decide) (by decide) dX11_plan_28 ?_
  refine av_iaload dX11_plan_31 ?_
  refine av_goto (tgt := 40) dX11_plan_32 (by decide) ?_
  exact vX11_plan_40 l hfl N
theorem mX11_plan (l : Launch) (hfl : l.stackTraces = false) (N : Nat) : am_M l yX11_plan cX11_plan 3 (some .int) 3 103 (fX11_plan N) := av_meth hfl (by decide +kernel) rfl (vX11_plan_0 l hfl N)
/-! MessengerBoardModel.event(II)I -/
noncomputable def kX11_event_63 (N : Nat) : am_K := c_live [] <|
  c_iret
noncomputable def kX11_event_36 (N : Nat) : am_K := c_live [0, 1, 2] <|
  c_ist 3 <|
  c_ild 3 <|
  c_ifeq (
  c_rld 0 <|
  c_i (1) <|
  c_callV 11 1 (fX11_raise N) <|
  kX11_event_63 N) <|
  c_rld 0 <|
  c_getr 11 0 <|
  c_i (544) <|
  c_i (3) <|
  c_ild 1 <|
  c_ii (fun x y => x * y) <|
  c_ii (fun x y => x + y) <|
  c_ild 2 <|
  c_ii (fun x y => x + y) <|
  c_ial <|
  kX11_event_63 N
noncomputable def kX11_event_35 (N : Nat) : am_K := c_live [0, 1, 2] <|
  c_i (0) <|
  kX11_event_36 N
noncomputable def kX11_event_0 (N : Nat) : am_K := c_live [0, 1, 2] <|
  c_rld 0 <|
  c_i (0) <|
  c_puti 11 6 <|
  c_ild 1 <|
  c_i (0) <|
  c_rld 0 <|
  c_getr 11 0 <|
  c_i (7) <|
  c_ial <|
  c_i (1) <|
  c_ii (fun x y => x - y) <|
  c_callS 3 (fX11_inRange N) <|
  c_ifeq (
  kX11_event_35 N) <|
  c_ild 2 <|
  c_i (0) <|
  c_i (2) <|
  c_callS 3 (fX11_inRange N) <|
  c_ifeq (
  kX11_event_35 N) <|
  c_i (1) <|
  kX11_event_36 N
noncomputable def fX11_event (N : Nat) : am_F := am_fn 4 (kX11_event_0 N)
set_option maxRecDepth 20000 in
theorem vX11_event_63 (l : Launch) (hfl : l.stackTraces = false) (N : Nat)  : am_V l cX11_event 4 RX11 (am_E (some .int) yX11_event.name) 2 82 63 (kX11_event_63 N) := by
  refine av_live ?_
  exact av_ireturn am_hi dX11_event_63
set_option maxRecDepth 20000 in
theorem vX11_event_36 (l : Launch) (hfl : l.stackTraces = false) (N : Nat)  : am_V l cX11_event 4 RX11 (am_E (some .int) yX11_event.name) 2 82 36 (kX11_event_36 N) := by
  refine av_live ?_
  refine av_istore_n dX11_event_36 rfl (by decide) ?_
  refine av_iload_n dX11_event_37 rfl ?_
  refine av_ifeq (tgt := 58) dX11_event_38 (by decide) ?_ ?_
  · refine av_aload_n dX11_event_58 rfl ?_
    refine av_iconst (v := 1) dX11_event_59 (by decide) ?_
    refine av_callV am_hT (mX11_raise l hfl N) am_ci11 ⟨by decide +kernel, by decide +kernel, by decide +kernel⟩ q634 q635 q628 q636 q637 (by decide) (by decide) dX11_event_60 ?_
    exact vX11_event_63 l hfl N
  refine av_aload_n dX11_event_41 rfl ?_
  refine av_getr am_ci11 (by decide) am_f11_0 q610 dX11_event_42 ?_
  refine av_sipush (v := 544) dX11_event_45 (by decide) ?_
  refine av_iconst (v := 3) dX11_event_48 (by decide) ?_
  refine av_iload_n dX11_event_49 rfl ?_
  refine av_imul dX11_event_50 ?_
  refine av_iadd dX11_event_51 ?_
  refine av_iload_n dX11_event_52 rfl ?_
  refine av_iadd dX11_event_53 ?_
  refine av_iaload dX11_event_54 ?_
  refine av_goto (tgt := 63) dX11_event_55 (by decide) ?_
  exact vX11_event_63 l hfl N
set_option maxRecDepth 20000 in
theorem vX11_event_35 (l : Launch) (hfl : l.stackTraces = false) (N : Nat)  : am_V l cX11_event 4 RX11 (am_E (some .int) yX11_event.name) 2 82 35 (kX11_event_35 N) := by
  refine av_live ?_
  refine av_iconst (v := 0) dX11_event_35 (by decide) ?_
  exact vX11_event_36 l hfl N
set_option maxRecDepth 20000 in
theorem vX11_event_0 (l : Launch) (hfl : l.stackTraces = false) (N : Nat)  : am_V l cX11_event 4 RX11 (am_E (some .int) yX11_event.name) 2 82 0 (kX11_event_0 N) := by
  refine av_live ?_
  refine av_aload_n dX11_event_0 rfl ?_
  refine av_iconst (v := 0) dX11_event_1 (by decide) ?_
  refine av_puti am_ci11 (by decide) am_f11_6 q630 (tyX11_ok 6 (by decide)) rfl dX11_event_2 ?_
  refine av_iload_n dX11_event_5 rfl ?_
  refine av_iconst (v := 0) dX11_event_6 (by decide) ?_
  refine av_aload_n dX11_event_7 rfl ?_
  refine av_getr am_ci11 (by decide) am_f11_0 q610 dX11_event_8 ?_
  refine av_bipush (v := 7) dX11_event_11 (by decide) ?_
  refine av_iaload dX11_event_13 ?_
  refine av_iconst (v := 1) dX11_event_14 (by decide) ?_
  refine av_isub dX11_event_15 ?_
  refine av_callS am_hT (mX11_inRange l hfl N) ⟨by decide +kernel, by decide +kernel, by decide +kernel⟩ q631 q632 q628 q633 (by decide) (by decide) dX11_event_16 ?_
  refine av_ifeq (tgt := 35) dX11_event_19 (by decide) ?_ ?_
  · exact vX11_event_35 l hfl N
  refine av_iload_n dX11_event_22 rfl ?_
  refine av_iconst (v := 0) dX11_event_23 (by decide) ?_
  refine av_iconst (v := 2) dX11_event_24 (by decide) ?_
  refine av_callS am_hT (mX11_inRange l hfl N) ⟨by decide +kernel, by decide +kernel, by decide +kernel⟩ q631 q632 q628 q633 (by decide) (by decide) dX11_event_25 ?_
  refine av_ifeq (tgt := 35) dX11_event_28 (by decide) ?_ ?_
  · exact vX11_event_35 l hfl N
  refine av_iconst (v := 1) dX11_event_31 (by decide) ?_
  refine av_goto (tgt := 36) dX11_event_32 (by decide) ?_
  exact vX11_event_36 l hfl N
theorem mX11_event (l : Launch) (hfl : l.stackTraces = false) (N : Nat) : am_M l yX11_event cX11_event 4 (some .int) 2 82 (fX11_event N) := av_meth hfl (by decide +kernel) rfl (vX11_event_0 l hfl N)
/-! MessengerBoardModel.ordersIn(I)I -/
noncomputable def kX11_ordersIn_30 (N : Nat) (r4 : am_K) : am_K := c_live [0, 1, 3] <|
  c_ii (fun x y => x + y) <|
  c_ist 2 <|
  c_inc 3 (1) <|
  c_live [0, 1, 2, 3] r4
noncomputable def bX11_ordersIn_4 (N : Nat) (r4 : am_K) : am_K :=
  c_ild 3 <|
  c_rld 0 <|
  c_getr 11 0 <|
  c_i (4) <|
  c_ial <|
  c_icge (
  c_ild 2 <|
  c_iret) <|
  c_ild 2 <|
  c_rld 0 <|
  c_ild 3 <|
  c_i (3) <|
  c_callV 11 2 (fX11_ofOrder N) <|
  c_ild 1 <|
  c_icne (
  c_i (0) <|
  kX11_ordersIn_30 N r4) <|
  c_i (1) <|
  kX11_ordersIn_30 N r4
noncomputable def kX11_ordersIn_4 (N : Nat) : am_K := c_live [0, 1, 2, 3] (am_loop (bX11_ordersIn_4 N) N)
noncomputable def kX11_ordersIn_0 (N : Nat) : am_K := c_live [0, 1] <|
  c_i (0) <|
  c_ist 2 <|
  c_i (0) <|
  c_ist 3 <|
  kX11_ordersIn_4 N
noncomputable def fX11_ordersIn (N : Nat) : am_F := am_fn 4 (kX11_ordersIn_0 N)
set_option maxRecDepth 20000 in
theorem vX11_ordersIn_30 (l : Launch) (hfl : l.stackTraces = false) (N : Nat)  {r4 : am_K} (h4 : am_V l cX11_ordersIn 4 RX11 (am_E (some .int) yX11_ordersIn.name) 3 103 4 r4) : am_V l cX11_ordersIn 4 RX11 (am_E (some .int) yX11_ordersIn.name) 3 103 30 (kX11_ordersIn_30 N r4) := by
  refine av_live ?_
  refine av_iadd dX11_ordersIn_30 ?_
  refine av_istore_n dX11_ordersIn_31 rfl (by decide) ?_
  refine av_iinc dX11_ordersIn_32 (by decide) (by decide) ?_
  refine av_goto (tgt := 4) dX11_ordersIn_35 (by decide) ?_
  exact av_live h4
set_option maxRecDepth 20000 in
theorem vX11_ordersIn_4 (l : Launch) (hfl : l.stackTraces = false) (N : Nat)  : am_V l cX11_ordersIn 4 RX11 (am_E (some .int) yX11_ordersIn.name) 3 103 4 (kX11_ordersIn_4 N) := by
  refine av_live ?_
  refine av_loop (fun r4 h4 => ?_) N
  refine av_iload_n dX11_ordersIn_4 rfl ?_
  refine av_aload_n dX11_ordersIn_5 rfl ?_
  refine av_getr am_ci11 (by decide) am_f11_0 q610 dX11_ordersIn_6 ?_
  refine av_iconst (v := 4) dX11_ordersIn_9 (by decide) ?_
  refine av_iaload dX11_ordersIn_10 ?_
  refine av_icge (tgt := 38) dX11_ordersIn_11 (by decide) ?_ ?_
  · refine av_iload_n dX11_ordersIn_38 rfl ?_
    exact av_ireturn am_hi dX11_ordersIn_39
  refine av_iload_n dX11_ordersIn_14 rfl ?_
  refine av_aload_n dX11_ordersIn_15 rfl ?_
  refine av_iload_n dX11_ordersIn_16 rfl ?_
  refine av_iconst (v := 3) dX11_ordersIn_17 (by decide) ?_
  refine av_callV am_hT (mX11_ofOrder l hfl N) am_ci11 ⟨by decide +kernel, by decide +kernel, by decide +kernel⟩ q644 q645 q628 q646 q647 (by decide) (by decide) dX11_ordersIn_18 ?_
  refine av_iload_n dX11_ordersIn_21 rfl ?_
  refine av_icne (tgt := 29) dX11_ordersIn_22 (by decide) ?_ ?_
  · refine av_iconst (v := 0) dX11_ordersIn_29 (by decide) ?_
    exact vX11_ordersIn_30 l hfl N h4
  refine av_iconst (v := 1) dX11_ordersIn_25 (by decide) ?_
  refine av_goto (tgt := 30) dX11_ordersIn_26 (by decide) ?_
  exact vX11_ordersIn_30 l hfl N h4
set_option maxRecDepth 20000 in
theorem vX11_ordersIn_0 (l : Launch) (hfl : l.stackTraces = false) (N : Nat)  : am_V l cX11_ordersIn 4 RX11 (am_E (some .int) yX11_ordersIn.name) 3 103 0 (kX11_ordersIn_0 N) := by
  refine av_live ?_
  refine av_iconst (v := 0) dX11_ordersIn_0 (by decide) ?_
  refine av_istore_n dX11_ordersIn_1 rfl (by decide) ?_
  refine av_iconst (v := 0) dX11_ordersIn_2 (by decide) ?_
  refine av_istore_n dX11_ordersIn_3 rfl (by decide) ?_
  exact vX11_ordersIn_4 l hfl N
theorem mX11_ordersIn (l : Launch) (hfl : l.stackTraces = false) (N : Nat) : am_M l yX11_ordersIn cX11_ordersIn 4 (some .int) 3 103 (fX11_ordersIn N) := av_meth hfl (by decide +kernel) rfl (vX11_ordersIn_0 l hfl N)
/-! MessengerBoardModel.orders(I)I -/
noncomputable def kX11_orders_28 (N : Nat) : am_K := c_live [] <|
  c_iret
noncomputable def kX11_orders_0 (N : Nat) : am_K := c_live [0, 1] <|
  c_rld 0 <|
  c_i (0) <|
  c_puti 11 6 <|
  c_ild 1 <|
  c_i (0) <|
  c_i (6) <|
  c_callS 3 (fX11_inRange N) <|
  c_ifeq (
  c_rld 0 <|
  c_i (1) <|
  c_callV 11 1 (fX11_raise N) <|
  kX11_orders_28 N) <|
  c_rld 0 <|
  c_ild 1 <|
  c_callV 11 1 (fX11_ordersIn N) <|
  kX11_orders_28 N
noncomputable def fX11_orders (N : Nat) : am_F := am_fn 2 (kX11_orders_0 N)
set_option maxRecDepth 20000 in
theorem vX11_orders_28 (l : Launch) (hfl : l.stackTraces = false) (N : Nat)  : am_V l cX11_orders 2 RX11 (am_E (some .int) yX11_orders.name) 4 126 28 (kX11_orders_28 N) := by
  refine av_live ?_
  exact av_ireturn am_hi dX11_orders_28
set_option maxRecDepth 20000 in
theorem vX11_orders_0 (l : Launch) (hfl : l.stackTraces = false) (N : Nat)  : am_V l cX11_orders 2 RX11 (am_E (some .int) yX11_orders.name) 4 126 0 (kX11_orders_0 N) := by
  refine av_live ?_
  refine av_aload_n dX11_orders_0 rfl ?_
  refine av_iconst (v := 0) dX11_orders_1 (by decide) ?_
  refine av_puti am_ci11 (by decide) am_f11_6 q630 (tyX11_ok 6 (by decide)) rfl dX11_orders_2 ?_
  refine av_iload_n dX11_orders_5 rfl ?_
  refine av_iconst (v := 0) dX11_orders_6 (by decide) ?_
  refine av_bipush (v := 6) dX11_orders_7 (by decide) ?_
  refine av_callS am_hT (mX11_inRange l hfl N) ⟨by decide +kernel, by decide +kernel, by decide +kernel⟩ q631 q632 q628 q633 (by decide) (by decide) dX11_orders_9 ?_
  refine av_ifeq (tgt := 23) dX11_orders_12 (by decide) ?_ ?_
  · refine av_aload_n dX11_orders_23 rfl ?_
    refine av_iconst (v := 1) dX11_orders_24 (by decide) ?_
    refine av_callV am_hT (mX11_raise l hfl N) am_ci11 ⟨by decide +kernel, by decide +kernel, by decide +kernel⟩ q634 q635 q628 q636 q637 (by decide) (by decide) dX11_orders_25 ?_
    exact vX11_orders_28 l hfl N
  refine av_aload_n dX11_orders_15 rfl ?_
  refine av_iload_n dX11_orders_16 rfl ?_
  refine av_callV am_hT (mX11_ordersIn l hfl N) am_ci11 ⟨by decide +kernel, by decide +kernel, by decide +kernel⟩ q694 q695 q628 q696 q697 (by decide) (by decide) dX11_orders_17 ?_
  refine av_goto (tgt := 28) dX11_orders_20 (by decide) ?_
  exact vX11_orders_28 l hfl N
theorem mX11_orders (l : Launch) (hfl : l.stackTraces = false) (N : Nat) : am_M l yX11_orders cX11_orders 2 (some .int) 4 126 (fX11_orders N) := av_meth hfl (by decide +kernel) rfl (vX11_orders_0 l hfl N)
/-! MessengerBoardModel.isCell(II)Z -/
noncomputable def kX11_isCell_37 (N : Nat) : am_K := c_live [] <|
  c_zret
noncomputable def kX11_isCell_36 (N : Nat) : am_K := c_live [] <|
  c_i (0) <|
  kX11_isCell_37 N
noncomputable def kX11_isCell_0 (N : Nat) : am_K := c_live [0, 1, 2] <|
  c_ild 1 <|
  c_i (0) <|
  c_rld 0 <|
  c_getr 11 0 <|
  c_i (0) <|
  c_ial <|
  c_i (1) <|
  c_ii (fun x y => x - y) <|
  c_callS 3 (fX11_inRange N) <|
  c_ifeq (
  kX11_isCell_36 N) <|
  c_ild 2 <|
  c_i (0) <|
  c_rld 0 <|
  c_getr 11 0 <|
  c_i (1) <|
  c_ial <|
  c_i (1) <|
  c_ii (fun x y => x - y) <|
  c_callS 3 (fX11_inRange N) <|
  c_ifeq (
  kX11_isCell_36 N) <|
  c_i (1) <|
  kX11_isCell_37 N
noncomputable def fX11_isCell (N : Nat) : am_F := am_fn 3 (kX11_isCell_0 N)
set_option maxRecDepth 20000 in
theorem vX11_isCell_37 (l : Launch) (hfl : l.stackTraces = false) (N : Nat)  : am_V l cX11_isCell 3 RX11 (am_E (some .boolean) yX11_isCell.name) 2 82 37 (kX11_isCell_37 N) := by
  refine av_live ?_
  exact av_zreturn am_hz dX11_isCell_37
set_option maxRecDepth 20000 in
theorem vX11_isCell_36 (l : Launch) (hfl : l.stackTraces = false) (N : Nat)  : am_V l cX11_isCell 3 RX11 (am_E (some .boolean) yX11_isCell.name) 2 82 36 (kX11_isCell_36 N) := by
  refine av_live ?_
  refine av_iconst (v := 0) dX11_isCell_36 (by decide) ?_
  exact vX11_isCell_37 l hfl N
set_option maxRecDepth 20000 in
theorem vX11_isCell_0 (l : Launch) (hfl : l.stackTraces = false) (N : Nat)  : am_V l cX11_isCell 3 RX11 (am_E (some .boolean) yX11_isCell.name) 2 82 0 (kX11_isCell_0 N) := by
  refine av_live ?_
  refine av_iload_n dX11_isCell_0 rfl ?_
  refine av_iconst (v := 0) dX11_isCell_1 (by decide) ?_
  refine av_aload_n dX11_isCell_2 rfl ?_
  refine av_getr am_ci11 (by decide) am_f11_0 q610 dX11_isCell_3 ?_
  refine av_iconst (v := 0) dX11_isCell_6 (by decide) ?_
  refine av_iaload dX11_isCell_7 ?_
  refine av_iconst (v := 1) dX11_isCell_8 (by decide) ?_
  refine av_isub dX11_isCell_9 ?_
  refine av_callS am_hT (mX11_inRange l hfl N) ⟨by decide +kernel, by decide +kernel, by decide +kernel⟩ q631 q632 q628 q633 (by decide) (by decide) dX11_isCell_10 ?_
  refine av_ifeq (tgt := 36) dX11_isCell_13 (by decide) ?_ ?_
  · exact vX11_isCell_36 l hfl N
  refine av_iload_n dX11_isCell_16 rfl ?_
  refine av_iconst (v := 0) dX11_isCell_17 (by decide) ?_
  refine av_aload_n dX11_isCell_18 rfl ?_
  refine av_getr am_ci11 (by decide) am_f11_0 q610 dX11_isCell_19 ?_
  refine av_iconst (v := 1) dX11_isCell_22 (by decide) ?_
  refine av_iaload dX11_isCell_23 ?_
  refine av_iconst (v := 1) dX11_isCell_24 (by decide) ?_
  refine av_isub dX11_isCell_25 ?_
  refine av_callS am_hT (mX11_inRange l hfl N) ⟨by decide +kernel, by decide +kernel, by decide +kernel⟩ q631 q632 q628 q633 (by decide) (by decide) dX11_isCell_26 ?_
  refine av_ifeq (tgt := 36) dX11_isCell_29 (by decide) ?_ ?_
  · exact vX11_isCell_36 l hfl N
  refine av_iconst (v := 1) dX11_isCell_32 (by decide) ?_
  refine av_goto (tgt := 37) dX11_isCell_33 (by decide) ?_
  exact vX11_isCell_37 l hfl N
theorem mX11_isCell (l : Launch) (hfl : l.stackTraces = false) (N : Nat) : am_M l yX11_isCell cX11_isCell 3 (some .boolean) 2 82 (fX11_isCell N) := av_meth hfl (by decide +kernel) rfl (vX11_isCell_0 l hfl N)
/-! MessengerBoardModel.wallAt(II)I -/
noncomputable def kX11_wallAt_0 (N : Nat) : am_K := c_live [0, 1] <|
  c_i (784) <|
  c_i (12) <|
  c_ild 1 <|
  c_ii (fun x y => x * y) <|
  c_ii (fun x y => x + y) <|
  c_ild 0 <|
  c_ii (fun x y => x + y) <|
  c_iret
noncomputable def fX11_wallAt (N : Nat) : am_F := am_fn 2 (kX11_wallAt_0 N)
set_option maxRecDepth 20000 in
theorem vX11_wallAt_0 (l : Launch) (hfl : l.stackTraces = false) (N : Nat)  : am_V l cX11_wallAt 2 RX11 (am_E (some .int) yX11_wallAt.name) 1 60 0 (kX11_wallAt_0 N) := by
  refine av_live ?_
  refine av_sipush (v := 784) dX11_wallAt_0 (by decide) ?_
  refine av_bipush (v := 12) dX11_wallAt_3 (by decide) ?_
  refine av_iload_n dX11_wallAt_5 rfl ?_
  refine av_imul dX11_wallAt_6 ?_
  refine av_iadd dX11_wallAt_7 ?_
  refine av_iload_n dX11_wallAt_8 rfl ?_
  refine av_iadd dX11_wallAt_9 ?_
  exact av_ireturn am_hi dX11_wallAt_10
theorem mX11_wallAt (l : Launch) (hfl : l.stackTraces = false) (N : Nat) : am_M l yX11_wallAt cX11_wallAt 2 (some .int) 1 60 (fX11_wallAt N) := av_meth hfl (by decide +kernel) rfl (vX11_wallAt_0 l hfl N)
/-! MessengerBoardModel.isFree(II)Z -/
noncomputable def kX11_isFree_27 (N : Nat) : am_K := c_live [] <|
  c_zret
noncomputable def kX11_isFree_26 (N : Nat) : am_K := c_live [] <|
  c_i (0) <|
  kX11_isFree_27 N
noncomputable def kX11_isFree_0 (N : Nat) : am_K := c_live [0, 1, 2] <|
  c_rld 0 <|
  c_ild 1 <|
  c_ild 2 <|
  c_callV 11 2 (fX11_isCell N) <|
  c_ifeq (
  kX11_isFree_26 N) <|
  c_rld 0 <|
  c_getr 11 0 <|
  c_ild 1 <|
  c_ild 2 <|
  c_callS 2 (fX11_wallAt N) <|
  c_ial <|
  c_ifne (
  kX11_isFree_26 N) <|
  c_i (1) <|
  kX11_isFree_27 N
noncomputable def fX11_isFree (N : Nat) : am_F := am_fn 3 (kX11_isFree_0 N)
set_option maxRecDepth 20000 in
theorem vX11_isFree_27 (l : Launch) (hfl : l.stackTraces = false) (N : Nat)  : am_V l cX11_isFree 3 RX11 (am_E (some .boolean) yX11_isFree.name) 3 104 27 (kX11_isFree_27 N) := by
  refine av_live ?_
  exact av_zreturn am_hz dX11_isFree_27
set_option maxRecDepth 20000 in
theorem vX11_isFree_26 (l : Launch) (hfl : l.stackTraces = false) (N : Nat)  : am_V l cX11_isFree 3 RX11 (am_E (some .boolean) yX11_isFree.name) 3 104 26 (kX11_isFree_26 N) := by
  refine av_live ?_
  refine av_iconst (v := 0) dX11_isFree_26 (by decide) ?_
  exact vX11_isFree_27 l hfl N
set_option maxRecDepth 20000 in
theorem vX11_isFree_0 (l : Launch) (hfl : l.stackTraces = false) (N : Nat)  : am_V l cX11_isFree 3 RX11 (am_E (some .boolean) yX11_isFree.name) 3 104 0 (kX11_isFree_0 N) := by
  refine av_live ?_
  refine av_aload_n dX11_isFree_0 rfl ?_
  refine av_iload_n dX11_isFree_1 rfl ?_
  refine av_iload_n dX11_isFree_2 rfl ?_
  refine av_callV am_hT (mX11_isCell l hfl N) am_ci11 ⟨by decide +kernel, by decide +kernel, by decide +kernel⟩ q698 q699 q628 q700 q701 (by decide) (by decide) dX11_isFree_3 ?_
  refine av_ifeq (tgt := 26) dX11_isFree_6 (by decide) ?_ ?_
  · exact vX11_isFree_26 l hfl N
  refine av_aload_n dX11_isFree_9 rfl ?_
  refine av_getr am_ci11 (by decide) am_f11_0 q610 dX11_isFree_10 ?_
  refine av_iload_n dX11_isFree_13 rfl ?_
  refine av_iload_n dX11_isFree_14 rfl ?_
  refine av_callS am_hT (mX11_wallAt l hfl N) ⟨by decide +kernel, by decide +kernel, by decide +kernel⟩ q702 q703 q628 q704 (by decide) (by decide) dX11_isFree_15 ?_
  refine av_iaload dX11_isFree_18 ?_
  refine av_ifne (tgt := 26) dX11_isFree_19 (by decide) ?_ ?_
  · exact vX11_isFree_26 l hfl N
  refine av_iconst (v := 1) dX11_isFree_22 (by decide) ?_
  refine av_goto (tgt := 27) dX11_isFree_23 (by decide) ?_
  exact vX11_isFree_27 l hfl N
theorem mX11_isFree (l : Launch) (hfl : l.stackTraces = false) (N : Nat) : am_M l yX11_isFree cX11_isFree 3 (some .boolean) 3 104 (fX11_isFree N) := av_meth hfl (by decide +kernel) rfl (vX11_isFree_0 l hfl N)
/-! MessengerBoardModel.isWall(II)Z -/
noncomputable def kX11_isWall_39 (N : Nat) : am_K := c_live [] <|
  c_zret
noncomputable def kX11_isWall_38 (N : Nat) : am_K := c_live [] <|
  c_i (0) <|
  kX11_isWall_39 N
noncomputable def kX11_isWall_15 (N : Nat) : am_K := c_live [0, 1, 2] <|
  c_puti 11 6 <|
  c_rld 0 <|
  c_geti 11 6 <|
  c_ifne (
  kX11_isWall_38 N) <|
  c_rld 0 <|
  c_ild 1 <|
  c_ild 2 <|
  c_callV 11 2 (fX11_isFree N) <|
  c_ifne (
  kX11_isWall_38 N) <|
  c_i (1) <|
  kX11_isWall_39 N
noncomputable def kX11_isWall_0 (N : Nat) : am_K := c_live [0, 1, 2] <|
  c_rld 0 <|
  c_rld 0 <|
  c_ild 1 <|
  c_ild 2 <|
  c_callV 11 2 (fX11_isCell N) <|
  c_ifeq (
  c_i (1) <|
  kX11_isWall_15 N) <|
  c_i (0) <|
  kX11_isWall_15 N
noncomputable def fX11_isWall (N : Nat) : am_F := am_fn 3 (kX11_isWall_0 N)
set_option maxRecDepth 20000 in
theorem vX11_isWall_39 (l : Launch) (hfl : l.stackTraces = false) (N : Nat)  : am_V l cX11_isWall 3 RX11 (am_E (some .boolean) yX11_isWall.name) 4 126 39 (kX11_isWall_39 N) := by
  refine av_live ?_
  exact av_zreturn am_hz dX11_isWall_39
set_option maxRecDepth 20000 in
theorem vX11_isWall_38 (l : Launch) (hfl : l.stackTraces = false) (N : Nat)  : am_V l cX11_isWall 3 RX11 (am_E (some .boolean) yX11_isWall.name) 4 126 38 (kX11_isWall_38 N) := by
  refine av_live ?_
  refine av_iconst (v := 0) dX11_isWall_38 (by decide) ?_
  exact vX11_isWall_39 l hfl N
set_option maxRecDepth 20000 in
theorem vX11_isWall_15 (l : Launch) (hfl : l.stackTraces = false) (N : Nat)  : am_V l cX11_isWall 3 RX11 (am_E (some .boolean) yX11_isWall.name) 4 126 15 (kX11_isWall_15 N) := by
  refine av_live ?_
  refine av_puti am_ci11 (by decide) am_f11_6 q630 (tyX11_ok 6 (by decide)) rfl dX11_isWall_15 ?_
  refine av_aload_n dX11_isWall_18 rfl ?_
  refine av_geti am_ci11 (by decide) am_f11_6 q630 dX11_isWall_19 ?_
  refine av_ifne (tgt := 38) dX11_isWall_22 (by decide) ?_ ?_
  · exact vX11_isWall_38 l hfl N
  refine av_aload_n dX11_isWall_25 rfl ?_
  refine av_iload_n dX11_isWall_26 rfl ?_
  refine av_iload_n dX11_isWall_27 rfl ?_
  refine av_callV am_hT (mX11_isFree l hfl N) am_ci11 ⟨by decide +kernel, by decide +kernel, by decide +kernel⟩ q705 q706 q628 q707 q708 (by decide) (by decide) dX11_isWall_28 ?_
  refine av_ifne (tgt := 38) dX11_isWall_31 (by decide) ?_ ?_
  · exact vX11_isWall_38 l hfl N
  refine av_iconst (v := 1) dX11_isWall_34 (by decide) ?_
  refine av_goto (tgt := 39) dX11_isWall_35 (by decide) ?_
  exact vX11_isWall_39 l hfl N
set_option maxRecDepth 20000 in
theorem vX11_isWall_0 (l : Launch) (hfl : l.stackTraces = false) (N : Nat)  : am_V l cX11_isWall 3 RX11 (am_E (some .boolean) yX11_isWall.name) 4 126 0 (kX11_isWall_0 N) := by
  refine av_live ?_
  refine av_aload_n dX11_isWall_0 rfl ?_
  refine av_aload_n dX11_isWall_1 rfl ?_
  refine av_iload_n dX11_isWall_2 rfl ?_
  refine av_iload_n dX11_isWall_3 rfl ?_
  refine av_callV am_hT (mX11_isCell l hfl N) am_ci11 ⟨by decide +kernel, by decide +kernel, by decide +kernel⟩ q698 q699 q628 q700 q701 (by decide) (by decide) dX11_isWall_4 ?_
  refine av_ifeq (tgt := 14) dX11_isWall_7 (by decide) ?_ ?_
  · refine av_iconst (v := 1) dX11_isWall_14 (by decide) ?_
    exact vX11_isWall_15 l hfl N
  refine av_iconst (v := 0) dX11_isWall_10 (by decide) ?_
  refine av_goto (tgt := 15) dX11_isWall_11 (by decide) ?_
  exact vX11_isWall_15 l hfl N
theorem mX11_isWall (l : Launch) (hfl : l.stackTraces = false) (N : Nat) : am_M l yX11_isWall cX11_isWall 3 (some .boolean) 4 126 (fX11_isWall N) := av_meth hfl (by decide +kernel) rfl (vX11_isWall_0 l hfl N)
/-! MessengerBoardModel.isNear(III)Z -/
noncomputable def kX11_isNear_45 (N : Nat) : am_K := c_live [] <|
  c_zret
noncomputable def kX11_isNear_44 (N : Nat) : am_K := c_live [] <|
  c_i (0) <|
  kX11_isNear_45 N
noncomputable def kX11_isNear_0 (N : Nat) : am_K := c_live [0, 1, 2, 3] <|
  c_rld 0 <|
  c_ild 1 <|
  c_i (2) <|
  c_callV 11 2 (fX11_ofPicket N) <|
  c_ist 4 <|
  c_ild 2 <|
  c_rld 0 <|
  c_ild 1 <|
  c_i (0) <|
  c_callV 11 2 (fX11_ofPicket N) <|
  c_ii (fun x y => x - y) <|
  c_abs <|
  c_ild 4 <|
  c_icgt (
  kX11_isNear_44 N) <|
  c_ild 3 <|
  c_rld 0 <|
  c_ild 1 <|
  c_i (1) <|
  c_callV 11 2 (fX11_ofPicket N) <|
  c_ii (fun x y => x - y) <|
  c_abs <|
  c_ild 4 <|
  c_icgt (
  kX11_isNear_44 N) <|
  c_i (1) <|
  kX11_isNear_45 N
noncomputable def fX11_isNear (N : Nat) : am_F := am_fn 5 (kX11_isNear_0 N)
set_option maxRecDepth 20000 in
theorem vX11_isNear_45 (l : Launch) (hfl : l.stackTraces = false) (N : Nat)  : am_V l cX11_isNear 5 RX11 (am_E (some .boolean) yX11_isNear.name) 3 103 45 (kX11_isNear_45 N) := by
  refine av_live ?_
  exact av_zreturn am_hz dX11_isNear_45
set_option maxRecDepth 20000 in
theorem vX11_isNear_44 (l : Launch) (hfl : l.stackTraces = false) (N : Nat)  : am_V l cX11_isNear 5 RX11 (am_E (some .boolean) yX11_isNear.name) 3 103 44 (kX11_isNear_44 N) := by
  refine av_live ?_
  refine av_iconst (v := 0) dX11_isNear_44 (by decide) ?_
  exact vX11_isNear_45 l hfl N
set_option maxRecDepth 20000 in
theorem vX11_isNear_0 (l : Launch) (hfl : l.stackTraces = false) (N : Nat)  : am_V l cX11_isNear 5 RX11 (am_E (some .boolean) yX11_isNear.name) 3 103 0 (kX11_isNear_0 N) := by
  refine av_live ?_
  refine av_aload_n dX11_isNear_0 rfl ?_
  refine av_iload_n dX11_isNear_1 rfl ?_
  refine av_iconst (v := 2) dX11_isNear_2 (by decide) ?_
  refine av_callV am_hT (mX11_ofPicket l hfl N) am_ci11 ⟨by decide +kernel, by decide +kernel, by decide +kernel⟩ q667 q668 q628 q669 q670 (by decide) (by decide) dX11_isNear_3 ?_
  refine av_istore dX11_isNear_6 (by decide) ?_
  refine av_iload_n dX11_isNear_8 rfl ?_
  refine av_aload_n dX11_isNear_9 rfl ?_
  refine av_iload_n dX11_isNear_10 rfl ?_
  refine av_iconst (v := 0) dX11_isNear_11 (by decide) ?_
  refine av_callV am_hT (mX11_ofPicket l hfl N) am_ci11 ⟨by decide +kernel, by decide +kernel, by decide +kernel⟩ q667 q668 q628 q669 q670 (by decide) (by decide) dX11_isNear_12 ?_
  refine av_isub dX11_isNear_15 ?_
  refine av_abs q709 q122 q42 q123 (by decide) (by decide) dX11_isNear_16 ?_
  refine av_iload dX11_isNear_19 ?_
  refine av_icgt (tgt := 44) dX11_isNear_21 (by decide) ?_ ?_
  · exact vX11_isNear_44 l hfl N
  refine av_iload_n dX11_isNear_24 rfl ?_
  refine av_aload_n dX11_isNear_25 rfl ?_
  refine av_iload_n dX11_isNear_26 rfl ?_
  refine av_iconst (v := 1) dX11_isNear_27 (by decide) ?_
  refine av_callV am_hT (mX11_ofPicket l hfl N) am_ci11 ⟨by decide +kernel, by decide +kernel, by decide +kernel⟩ q667 q668 q628 q669 q670 (by decide) (by decide) dX11_isNear_28 ?_
  refine av_isub dX11_isNear_31 ?_
  refine av_abs q709 q122 q42 q123 (by decide) (by decide) dX11_isNear_32 ?_
  refine av_iload dX11_isNear_35 ?_
  refine av_icgt (tgt := 44) dX11_isNear_37 (by decide) ?_ ?_
  · exact vX11_isNear_44 l hfl N
  refine av_iconst (v := 1) dX11_isNear_40 (by decide) ?_
  refine av_goto (tgt := 45) dX11_isNear_41 (by decide) ?_
  exact vX11_isNear_45 l hfl N
theorem mX11_isNear (l : Launch) (hfl : l.stackTraces = false) (N : Nat) : am_M l yX11_isNear cX11_isNear 5 (some .boolean) 3 103 (fX11_isNear N) := av_meth hfl (by decide +kernel) rfl (vX11_isNear_0 l hfl N)
/-! MessengerBoardModel.watcher(III)I -/
noncomputable def kX11_watcher_38 (N : Nat) (r3 : am_K) : am_K := c_live [0, 1, 2, 3, 4] <|
  c_inc 4 (1) <|
  c_live [0, 1, 2, 3, 4] r3
noncomputable def bX11_watcher_3 (N : Nat) (r3 : am_K) : am_K :=
  c_ild 4 <|
  c_rld 0 <|
  c_getr 11 0 <|
  c_i (3) <|
  c_ial <|
  c_icge (
  c_i (-1) <|
  c_iret) <|
  c_rld 0 <|
  c_ild 4 <|
  c_ild 1 <|
  c_ild 2 <|
  c_callV 11 3 (fX11_isNear N) <|
  c_ifeq (
  kX11_watcher_38 N r3) <|
  c_rld 0 <|
  c_ild 4 <|
  c_ild 3 <|
  c_callV 11 2 (fX11_watches N) <|
  c_ifeq (
  kX11_watcher_38 N r3) <|
  c_ild 4 <|
  c_iret
noncomputable def kX11_watcher_3 (N : Nat) : am_K := c_live [0, 1, 2, 3, 4] (am_loop (bX11_watcher_3 N) N)
noncomputable def kX11_watcher_0 (N : Nat) : am_K := c_live [0, 1, 2, 3] <|
  c_i (0) <|
  c_ist 4 <|
  kX11_watcher_3 N
noncomputable def fX11_watcher (N : Nat) : am_F := am_fn 5 (kX11_watcher_0 N)
set_option maxRecDepth 20000 in
theorem vX11_watcher_38 (l : Launch) (hfl : l.stackTraces = false) (N : Nat)  {r3 : am_K} (h3 : am_V l cX11_watcher 5 RX11 (am_E (some .int) yX11_watcher.name) 4 127 3 r3) : am_V l cX11_watcher 5 RX11 (am_E (some .int) yX11_watcher.name) 4 127 38 (kX11_watcher_38 N r3) := by
  refine av_live ?_
  refine av_iinc dX11_watcher_38 (by decide) (by decide) ?_
  refine av_goto (tgt := 3) dX11_watcher_41 (by decide) ?_
  exact av_live h3
set_option maxRecDepth 20000 in
theorem vX11_watcher_3 (l : Launch) (hfl : l.stackTraces = false) (N : Nat)  : am_V l cX11_watcher 5 RX11 (am_E (some .int) yX11_watcher.name) 4 127 3 (kX11_watcher_3 N) := by
  refine av_live ?_
  refine av_loop (fun r3 h3 => ?_) N
  refine av_iload dX11_watcher_3 ?_
  refine av_aload_n dX11_watcher_5 rfl ?_
  refine av_getr am_ci11 (by decide) am_f11_0 q610 dX11_watcher_6 ?_
  refine av_iconst (v := 3) dX11_watcher_9 (by decide) ?_
  refine av_iaload dX11_watcher_10 ?_
  refine av_icge (tgt := 44) dX11_watcher_11 (by decide) ?_ ?_
  · refine av_iconst (v := -1) dX11_watcher_44 (by decide) ?_
    exact av_ireturn am_hi dX11_watcher_45
  refine av_aload_n dX11_watcher_14 rfl ?_
  refine av_iload dX11_watcher_15 ?_
  refine av_iload_n dX11_watcher_17 rfl ?_
  refine av_iload_n dX11_watcher_18 rfl ?_
  refine av_callV am_hT (mX11_isNear l hfl N) am_ci11 ⟨by decide +kernel, by decide +kernel, by decide +kernel⟩ q710 q711 q628 q712 q713 (by decide) (by decide) dX11_watcher_19 ?_
  refine av_ifeq (tgt := 38) dX11_watcher_22 (by decide) ?_ ?_
  · exact vX11_watcher_38 l hfl N h3
  refine av_aload_n dX11_watcher_25 rfl ?_
  refine av_iload dX11_watcher_26 ?_
  refine av_iload_n dX11_watcher_28 rfl ?_
  refine av_callV am_hT (mX11_watches l hfl N) am_ci11 ⟨by decide +kernel, by decide +kernel, by decide +kernel⟩ q679 q680 q628 q681 q682 (by decide) (by decide) dX11_watcher_29 ?_
  refine av_ifeq (tgt := 38) dX11_watcher_32 (by decide) ?_ ?_
  · exact vX11_watcher_38 l hfl N h3
  refine av_iload dX11_watcher_35 ?_
  exact av_ireturn am_hi dX11_watcher_37
set_option maxRecDepth 20000 in
theorem vX11_watcher_0 (l : Launch) (hfl : l.stackTraces = false) (N : Nat)  : am_V l cX11_watcher 5 RX11 (am_E (some .int) yX11_watcher.name) 4 127 0 (kX11_watcher_0 N) := by
  refine av_live ?_
  refine av_iconst (v := 0) dX11_watcher_0 (by decide) ?_
  refine av_istore dX11_watcher_1 (by decide) ?_
  exact vX11_watcher_3 l hfl N
theorem mX11_watcher (l : Launch) (hfl : l.stackTraces = false) (N : Nat) : am_M l yX11_watcher cX11_watcher 5 (some .int) 4 127 (fX11_watcher N) := av_meth hfl (by decide +kernel) rfl (vX11_watcher_0 l hfl N)
/-! MessengerBoardModel.isWatched(III)Z -/
noncomputable def kX11_isWatched_49 (N : Nat) : am_K := c_live [] <|
  c_zret
noncomputable def kX11_isWatched_48 (N : Nat) : am_K := c_live [] <|
  c_i (0) <|
  kX11_isWatched_49 N
noncomputable def kX11_isWatched_23 (N : Nat) : am_K := c_live [0, 1, 2, 3] <|
  c_puti 11 6 <|
  c_rld 0 <|
  c_geti 11 6 <|
  c_ifne (
  kX11_isWatched_48 N) <|
  c_rld 0 <|
  c_ild 1 <|
  c_ild 2 <|
  c_ild 3 <|
  c_callV 11 3 (fX11_watcher N) <|
  c_i (-1) <|
  c_iceq (
  kX11_isWatched_48 N) <|
  c_i (1) <|
  kX11_isWatched_49 N
noncomputable def kX11_isWatched_0 (N : Nat) : am_K := c_live [0, 1, 2, 3] <|
  c_rld 0 <|
  c_rld 0 <|
  c_ild 1 <|
  c_ild 2 <|
  c_callV 11 2 (fX11_isCell N) <|
  c_ifne (
  c_ild 3 <|
  c_iflt (
  c_i (2) <|
  kX11_isWatched_23 N) <|
  c_i (0) <|
  kX11_isWatched_23 N) <|
  c_i (1) <|
  kX11_isWatched_23 N
noncomputable def fX11_isWatched (N : Nat) : am_F := am_fn 4 (kX11_isWatched_0 N)
set_option maxRecDepth 20000 in
theorem vX11_isWatched_49 (l : Launch) (hfl : l.stackTraces = false) (N : Nat)  : am_V l cX11_isWatched 4 RX11 (am_E (some .boolean) yX11_isWatched.name) 5 151 49 (kX11_isWatched_49 N) := by
  refine av_live ?_
  exact av_zreturn am_hz dX11_isWatched_49
set_option maxRecDepth 20000 in
theorem vX11_isWatched_48 (l : Launch) (hfl : l.stackTraces = false) (N : Nat)  : am_V l cX11_isWatched 4 RX11 (am_E (some .boolean) yX11_isWatched.name) 5 151 48 (kX11_isWatched_48 N) := by
  refine av_live ?_
  refine av_iconst (v := 0) dX11_isWatched_48 (by decide) ?_
  exact vX11_isWatched_49 l hfl N
set_option maxRecDepth 20000 in
theorem vX11_isWatched_23 (l : Launch) (hfl : l.stackTraces = false) (N : Nat)  : am_V l cX11_isWatched 4 RX11 (am_E (some .boolean) yX11_isWatched.name) 5 151 23 (kX11_isWatched_23 N) := by
  refine av_live ?_
  refine av_puti am_ci11 (by decide) am_f11_6 q630 (tyX11_ok 6 (by decide)) rfl dX11_isWatched_23 ?_
  refine av_aload_n dX11_isWatched_26 rfl ?_
  refine av_geti am_ci11 (by decide) am_f11_6 q630 dX11_isWatched_27 ?_
  refine av_ifne (tgt := 48) dX11_isWatched_30 (by decide) ?_ ?_
  · exact vX11_isWatched_48 l hfl N
  refine av_aload_n dX11_isWatched_33 rfl ?_
  refine av_iload_n dX11_isWatched_34 rfl ?_
  refine av_iload_n dX11_isWatched_35 rfl ?_
  refine av_iload_n dX11_isWatched_36 rfl ?_
  refine av_callV am_hT (mX11_watcher l hfl N) am_ci11 ⟨by decide +kernel, by decide +kernel, by decide +kernel⟩ q714 q715 q628 q716 q717 (by decide) (by decide) dX11_isWatched_37 ?_
  refine av_iconst (v := -1) dX11_isWatched_40 (by decide) ?_
  refine av_iceq (tgt := 48) dX11_isWatched_41 (by decide) ?_ ?_
  · exact vX11_isWatched_48 l hfl N
  refine av_iconst (v := 1) dX11_isWatched_44 (by decide) ?_
  refine av_goto (tgt := 49) dX11_isWatched_45 (by decide) ?_
  exact vX11_isWatched_49 l hfl N
set_option maxRecDepth 20000 in
theorem vX11_isWatched_0 (l : Launch) (hfl : l.stackTraces = false) (N : Nat)  : am_V l cX11_isWatched 4 RX11 (am_E (some .boolean) yX11_isWatched.name) 5 151 0 (kX11_isWatched_0 N) := by
  refine av_live ?_
  refine av_aload_n dX11_isWatched_0 rfl ?_
  refine av_aload_n dX11_isWatched_1 rfl ?_
  refine av_iload_n dX11_isWatched_2 rfl ?_
  refine av_iload_n dX11_isWatched_3 rfl ?_
  refine av_callV am_hT (mX11_isCell l hfl N) am_ci11 ⟨by decide +kernel, by decide +kernel, by decide +kernel⟩ q698 q699 q628 q700 q701 (by decide) (by decide) dX11_isWatched_4 ?_
  refine av_ifne (tgt := 14) dX11_isWatched_7 (by decide) ?_ ?_
  · refine av_iload_n dX11_isWatched_14 rfl ?_
    refine av_iflt (tgt := 22) dX11_isWatched_15 (by decide) ?_ ?_
    · refine av_iconst (v := 2) dX11_isWatched_22 (by decide) ?_
      exact vX11_isWatched_23 l hfl N
    refine av_iconst (v := 0) dX11_isWatched_18 (by decide) ?_
    refine av_goto (tgt := 23) dX11_isWatched_19 (by decide) ?_
    exact vX11_isWatched_23 l hfl N
  refine av_iconst (v := 1) dX11_isWatched_10 (by decide) ?_
  refine av_goto (tgt := 23) dX11_isWatched_11 (by decide) ?_
  exact vX11_isWatched_23 l hfl N
theorem mX11_isWatched (l : Launch) (hfl : l.stackTraces = false) (N : Nat) : am_M l yX11_isWatched cX11_isWatched 4 (some .boolean) 5 151 (fX11_isWatched N) := av_meth hfl (by decide +kernel) rfl (vX11_isWatched_0 l hfl N)
/-! MessengerBoardModel.beside(IZ)I -/
noncomputable def kX11_beside_42 (N : Nat) : am_K := c_live [] <|
  c_iret
noncomputable def kX11_beside_23 (N : Nat) : am_K := c_live [] <|
  c_iret
noncomputable def kX11_beside_0 (N : Nat) : am_K := c_live [0, 1] <|
  c_ild 1 <|
  c_ifeq (
  c_ild 0 <|
  c_ifne (
  c_ild 0 <|
  c_i (2) <|
  c_icne (
  c_i (0) <|
  kX11_beside_42 N) <|
  c_i (1) <|
  kX11_beside_42 N) <|
  c_i (-1) <|
  kX11_beside_42 N) <|
  c_ild 0 <|
  c_i (1) <|
  c_icne (
  c_ild 0 <|
  c_i (3) <|
  c_icne (
  c_i (0) <|
  kX11_beside_23 N) <|
  c_i (-1) <|
  kX11_beside_23 N) <|
  c_i (1) <|
  kX11_beside_23 N
noncomputable def fX11_beside (N : Nat) : am_F := am_fn 2 (kX11_beside_0 N)
set_option maxRecDepth 20000 in
theorem vX11_beside_42 (l : Launch) (hfl : l.stackTraces = false) (N : Nat)  : am_V l cX11_beside 2 RX11 (am_E (some .int) yX11_beside.name) 1 60 42 (kX11_beside_42 N) := by
  refine av_live ?_
  exact av_ireturn am_hi dX11_beside_42
set_option maxRecDepth 20000 in
theorem vX11_beside_23 (l : Launch) (hfl : l.stackTraces = false) (N : Nat)  : am_V l cX11_beside 2 RX11 (am_E (some .int) yX11_beside.name) 1 60 23 (kX11_beside_23 N) := by
  refine av_live ?_
  exact av_ireturn am_hi dX11_beside_23
set_option maxRecDepth 20000 in
theorem vX11_beside_0 (l : Launch) (hfl : l.stackTraces = false) (N : Nat)  : am_V l cX11_beside 2 RX11 (am_E (some .int) yX11_beside.name) 1 60 0 (kX11_beside_0 N) := by
  refine av_live ?_
  refine av_iload_n dX11_beside_0 rfl ?_
  refine av_ifeq (tgt := 24) dX11_beside_1 (by decide) ?_ ?_
  · refine av_iload_n dX11_beside_24 rfl ?_
    refine av_ifne (tgt := 32) dX11_beside_25 (by decide) ?_ ?_
    · refine av_iload_n dX11_beside_32 rfl ?_
      refine av_iconst (v := 2) dX11_beside_33 (by decide) ?_
      refine av_icne (tgt := 41) dX11_beside_34 (by decide) ?_ ?_
      · refine av_iconst (v := 0) dX11_beside_41 (by decide) ?_
        exact vX11_beside_42 l hfl N
      refine av_iconst (v := 1) dX11_beside_37 (by decide) ?_
      refine av_goto (tgt := 42) dX11_beside_38 (by decide) ?_
      exact vX11_beside_42 l hfl N
    refine av_iconst (v := -1) dX11_beside_28 (by decide) ?_
    refine av_goto (tgt := 42) dX11_beside_29 (by decide) ?_
    exact vX11_beside_42 l hfl N
  refine av_iload_n dX11_beside_4 rfl ?_
  refine av_iconst (v := 1) dX11_beside_5 (by decide) ?_
  refine av_icne (tgt := 13) dX11_beside_6 (by decide) ?_ ?_
  · refine av_iload_n dX11_beside_13 rfl ?_
    refine av_iconst (v := 3) dX11_beside_14 (by decide) ?_
    refine av_icne (tgt := 22) dX11_beside_15 (by decide) ?_ ?_
    · refine av_iconst (v := 0) dX11_beside_22 (by decide) ?_
      exact vX11_beside_23 l hfl N
    refine av_iconst (v := -1) dX11_beside_18 (by decide) ?_
    refine av_goto (tgt := 23) dX11_beside_19 (by decide) ?_
    exact vX11_beside_23 l hfl N
  refine av_iconst (v := 1) dX11_beside_9 (by decide) ?_
  refine av_goto (tgt := 23) dX11_beside_10 (by decide) ?_
  exact vX11_beside_23 l hfl N
theorem mX11_beside (l : Launch) (hfl : l.stackTraces = false) (N : Nat) : am_M l yX11_beside cX11_beside 2 (some .int) 1 60 (fX11_beside N) := av_meth hfl (by decide +kernel) rfl (vX11_beside_0 l hfl N)
/-! MessengerBoardModel.spread(II)I -/
noncomputable def kX11_spread_105 (N : Nat) (r5 : am_K) : am_K := c_live [0, 1, 3, 4] <|
  c_inc 4 (1) <|
  c_live [0, 1, 3, 4] r5
noncomputable def bX11_spread_5 (N : Nat) (r5 : am_K) : am_K :=
  c_ild 4 <|
  c_i (4) <|
  c_icge (
  c_ild 3 <|
  c_iret) <|
  c_ild 1 <|
  c_i (12) <|
  c_irem <|
  c_ild 4 <|
  c_i (1) <|
  c_callS 2 (fX11_beside N) <|
  c_ii (fun x y => x + y) <|
  c_ist 5 <|
  c_ild 1 <|
  c_i (12) <|
  c_idiv <|
  c_ild 4 <|
  c_i (0) <|
  c_callS 2 (fX11_beside N) <|
  c_ii (fun x y => x + y) <|
  c_ist 6 <|
  c_rld 0 <|
  c_ild 5 <|
  c_ild 6 <|
  c_callV 11 2 (fX11_isFree N) <|
  c_ifeq (
  kX11_spread_105 N r5) <|
  c_rld 0 <|
  c_getr 11 8 <|
  c_i (12) <|
  c_ild 6 <|
  c_ii (fun x y => x * y) <|
  c_ild 5 <|
  c_ii (fun x y => x + y) <|
  c_ial <|
  c_i (1000) <|
  c_icne (
  kX11_spread_105 N r5) <|
  c_rld 0 <|
  c_getr 11 8 <|
  c_i (12) <|
  c_ild 6 <|
  c_ii (fun x y => x * y) <|
  c_ild 5 <|
  c_ii (fun x y => x + y) <|
  c_rld 0 <|
  c_getr 11 8 <|
  c_ild 1 <|
  c_ial <|
  c_i (1) <|
  c_ii (fun x y => x + y) <|
  c_ias <|
  c_rld 0 <|
  c_getr 11 9 <|
  c_ild 3 <|
  c_i (12) <|
  c_ild 6 <|
  c_ii (fun x y => x * y) <|
  c_ild 5 <|
  c_ii (fun x y => x + y) <|
  c_ias <|
  c_inc 3 (1) <|
  kX11_spread_105 N r5
noncomputable def kX11_spread_5 (N : Nat) : am_K := c_live [0, 1, 3, 4] (am_loop (bX11_spread_5 N) N)
noncomputable def kX11_spread_0 (N : Nat) : am_K := c_live [0, 1, 2] <|
  c_ild 2 <|
  c_ist 3 <|
  c_i (0) <|
  c_ist 4 <|
  kX11_spread_5 N
noncomputable def fX11_spread (N : Nat) : am_F := am_fn 7 (kX11_spread_0 N)
set_option maxRecDepth 20000 in
theorem vX11_spread_105 (l : Launch) (hfl : l.stackTraces = false) (N : Nat)  {r5 : am_K} (h5 : am_V l cX11_spread 7 RX11 (am_E (some .int) yX11_spread.name) 4 126 5 r5) : am_V l cX11_spread 7 RX11 (am_E (some .int) yX11_spread.name) 4 126 105 (kX11_spread_105 N r5) := by
  refine av_live ?_
  refine av_iinc dX11_spread_105 (by decide) (by decide) ?_
  refine av_goto (tgt := 5) dX11_spread_108 (by decide) ?_
  exact av_live h5
set_option maxRecDepth 20000 in
theorem vX11_spread_5 (l : Launch) (hfl : l.stackTraces = false) (N : Nat)  : am_V l cX11_spread 7 RX11 (am_E (some .int) yX11_spread.name) 4 126 5 (kX11_spread_5 N) := by
  refine av_live ?_
  refine av_loop (fun r5 h5 => ?_) N
  refine av_iload dX11_spread_5 ?_
  refine av_iconst (v := 4) dX11_spread_7 (by decide) ?_
  refine av_icge (tgt := 111) dX11_spread_8 (by decide) ?_ ?_
  · refine av_iload_n dX11_spread_111 rfl ?_
    exact av_ireturn am_hi dX11_spread_112
  refine av_iload_n dX11_spread_11 rfl ?_
  refine av_bipush (v := 12) dX11_spread_12 (by decide) ?_
  refine av_irem dX11_spread_14 ?_
  refine av_iload dX11_spread_15 ?_
  refine av_iconst (v := 1) dX11_spread_17 (by decide) ?_
  refine av_callS am_hT (mX11_beside l hfl N) ⟨by decide +kernel, by decide +kernel, by decide +kernel⟩ q718 q719 q628 q720 (by decide) (by decide) dX11_spread_18 ?_
  refine av_iadd dX11_spread_21 ?_
  refine av_istore dX11_spread_22 (by decide) ?_
  refine av_iload_n dX11_spread_24 rfl ?_
  refine av_bipush (v := 12) dX11_spread_25 (by decide) ?_
  refine av_idiv dX11_spread_27 ?_
  refine av_iload dX11_spread_28 ?_
  refine av_iconst (v := 0) dX11_spread_30 (by decide) ?_
  refine av_callS am_hT (mX11_beside l hfl N) ⟨by decide +kernel, by decide +kernel, by decide +kernel⟩ q718 q719 q628 q720 (by decide) (by decide) dX11_spread_31 ?_
  refine av_iadd dX11_spread_34 ?_
  refine av_istore dX11_spread_35 (by decide) ?_
  refine av_aload_n dX11_spread_37 rfl ?_
  refine av_iload dX11_spread_38 ?_
  refine av_iload dX11_spread_40 ?_
  refine av_callV am_hT (mX11_isFree l hfl N) am_ci11 ⟨by decide +kernel, by decide +kernel, by decide +kernel⟩ q705 q706 q628 q707 q708 (by decide) (by decide) dX11_spread_42 ?_
  refine av_ifeq (tgt := 105) dX11_spread_45 (by decide) ?_ ?_
  · exact vX11_spread_105 l hfl N h5
  refine av_aload_n dX11_spread_48 rfl ?_
  refine av_getr am_ci11 (by decide) am_f11_8 q616 dX11_spread_49 ?_
  refine av_bipush (v := 12) dX11_spread_52 (by decide) ?_
  refine av_iload dX11_spread_54 ?_
  refine av_imul dX11_spread_56 ?_
  refine av_iload dX11_spread_57 ?_
  refine av_iadd dX11_spread_59 ?_
  refine av_iaload dX11_spread_60 ?_
  refine av_sipush (v := 1000) dX11_spread_61 (by decide) ?_
  refine av_icne (tgt := 105) dX11_spread_64 (by decide) ?_ ?_
  · exact vX11_spread_105 l hfl N h5
  refine av_aload_n dX11_spread_67 rfl ?_
  refine av_getr am_ci11 (by decide) am_f11_8 q616 dX11_spread_68 ?_
  refine av_bipush (v := 12) dX11_spread_71 (by decide) ?_
  refine av_iload dX11_spread_73 ?_
  refine av_imul dX11_spread_75 ?_
  refine av_iload dX11_spread_76 ?_
  refine av_iadd dX11_spread_78 ?_
  refine av_aload_n dX11_spread_79 rfl ?_
  refine av_getr am_ci11 (by decide) am_f11_8 q616 dX11_spread_80 ?_
  refine av_iload_n dX11_spread_83 rfl ?_
  refine av_iaload dX11_spread_84 ?_
  refine av_iconst (v := 1) dX11_spread_85 (by decide) ?_
  refine av_iadd dX11_spread_86 ?_
  refine av_iastore dX11_spread_87 ?_
  refine av_aload_n dX11_spread_88 rfl ?_
  refine av_getr am_ci11 (by decide) am_f11_9 q617 dX11_spread_89 ?_
  refine av_iload_n dX11_spread_92 rfl ?_
  refine av_bipush (v := 12) dX11_spread_93 (by decide) ?_
  refine av_iload dX11_spread_95 ?_
  refine av_imul dX11_spread_97 ?_
  refine av_iload dX11_spread_98 ?_
  refine av_iadd dX11_spread_100 ?_
  refine av_iastore dX11_spread_101 ?_
  refine av_iinc dX11_spread_102 (by decide) (by decide) ?_
  exact vX11_spread_105 l hfl N h5
set_option maxRecDepth 20000 in
theorem vX11_spread_0 (l : Launch) (hfl : l.stackTraces = false) (N : Nat)  : am_V l cX11_spread 7 RX11 (am_E (some .int) yX11_spread.name) 4 126 0 (kX11_spread_0 N) := by
  refine av_live ?_
  refine av_iload_n dX11_spread_0 rfl ?_
  refine av_istore_n dX11_spread_1 rfl (by decide) ?_
  refine av_iconst (v := 0) dX11_spread_2 (by decide) ?_
  refine av_istore dX11_spread_3 (by decide) ?_
  exact vX11_spread_5 l hfl N
theorem mX11_spread (l : Launch) (hfl : l.stackTraces = false) (N : Nat) : am_M l yX11_spread cX11_spread 7 (some .int) 4 126 (fX11_spread N) := av_meth hfl (by decide +kernel) rfl (vX11_spread_0 l hfl N)
/-! MessengerBoardModel.layFar(II)V -/
noncomputable def bX11_layFar_63 (N : Nat) (r63 : am_K) : am_K :=
  c_ild 4 <|
  c_ild 3 <|
  c_icge (
  c_vret) <|
  c_rld 0 <|
  c_rld 0 <|
  c_getr 11 9 <|
  c_ild 4 <|
  c_ial <|
  c_ild 3 <|
  c_callV 11 2 (fX11_spread N) <|
  c_ist 3 <|
  c_inc 4 (1) <|
  c_live [0, 3, 4] r63
noncomputable def kX11_layFar_63 (N : Nat) : am_K := c_live [0, 3, 4] (am_loop (bX11_layFar_63 N) N)
noncomputable def bX11_layFar_2 (N : Nat) (r2 : am_K) : am_K :=
  c_ild 3 <|
  c_i (144) <|
  c_icge (
  c_rld 0 <|
  c_ild 1 <|
  c_ild 2 <|
  c_callV 11 2 (fX11_isFree N) <|
  c_ifne (
  c_rld 0 <|
  c_getr 11 8 <|
  c_i (12) <|
  c_ild 2 <|
  c_ii (fun x y => x * y) <|
  c_ild 1 <|
  c_ii (fun x y => x + y) <|
  c_i (0) <|
  c_ias <|
  c_rld 0 <|
  c_getr 11 9 <|
  c_i (0) <|
  c_i (12) <|
  c_ild 2 <|
  c_ii (fun x y => x * y) <|
  c_ild 1 <|
  c_ii (fun x y => x + y) <|
  c_ias <|
  c_i (1) <|
  c_ist 3 <|
  c_i (0) <|
  c_ist 4 <|
  kX11_layFar_63 N) <|
  c_vret) <|
  c_rld 0 <|
  c_getr 11 8 <|
  c_ild 3 <|
  c_i (1000) <|
  c_ias <|
  c_inc 3 (1) <|
  c_live [0, 1, 2, 3] r2
noncomputable def kX11_layFar_2 (N : Nat) : am_K := c_live [0, 1, 2, 3] (am_loop (bX11_layFar_2 N) N)
noncomputable def kX11_layFar_0 (N : Nat) : am_K := c_live [0, 1, 2] <|
  c_i (0) <|
  c_ist 3 <|
  kX11_layFar_2 N
noncomputable def fX11_layFar (N : Nat) : am_F := am_fn 5 (kX11_layFar_0 N)
set_option maxRecDepth 20000 in
theorem vX11_layFar_63 (l : Launch) (hfl : l.stackTraces = false) (N : Nat)  : am_V l cX11_layFar 5 RX11 (am_E none yX11_layFar.name) 5 152 63 (kX11_layFar_63 N) := by
  refine av_live ?_
  refine av_loop (fun r63 h63 => ?_) N
  refine av_iload dX11_layFar_63 ?_
  refine av_iload_n dX11_layFar_65 rfl ?_
  refine av_icge (tgt := 88) dX11_layFar_66 (by decide) ?_ ?_
  · exact av_return_ am_hv dX11_layFar_88
  refine av_aload_n dX11_layFar_69 rfl ?_
  refine av_aload_n dX11_layFar_70 rfl ?_
  refine av_getr am_ci11 (by decide) am_f11_9 q617 dX11_layFar_71 ?_
  refine av_iload dX11_layFar_74 ?_
  refine av_iaload dX11_layFar_76 ?_
  refine av_iload_n dX11_layFar_77 rfl ?_
  refine av_callV am_hT (mX11_spread l hfl N) am_ci11 ⟨by decide +kernel, by decide +kernel, by decide +kernel⟩ q721 q722 q628 q723 q724 (by decide) (by decide) dX11_layFar_78 ?_
  refine av_istore_n dX11_layFar_81 rfl (by decide) ?_
  refine av_iinc dX11_layFar_82 (by decide) (by decide) ?_
  refine av_goto (tgt := 63) dX11_layFar_85 (by decide) ?_
  exact av_live h63
set_option maxRecDepth 20000 in
theorem vX11_layFar_2 (l : Launch) (hfl : l.stackTraces = false) (N : Nat)  : am_V l cX11_layFar 5 RX11 (am_E none yX11_layFar.name) 5 152 2 (kX11_layFar_2 N) := by
  refine av_live ?_
  refine av_loop (fun r2 h2 => ?_) N
  refine av_iload_n dX11_layFar_2 rfl ?_
  refine av_sipush (v := 144) dX11_layFar_3 (by decide) ?_
  refine av_icge (tgt := 24) dX11_layFar_6 (by decide) ?_ ?_
  · refine av_aload_n dX11_layFar_24 rfl ?_
    refine av_iload_n dX11_layFar_25 rfl ?_
    refine av_iload_n dX11_layFar_26 rfl ?_
    refine av_callV am_hT (mX11_isFree l hfl N) am_ci11 ⟨by decide +kernel, by decide +kernel, by decide +kernel⟩ q705 q706 q628 q707 q708 (by decide) (by decide) dX11_layFar_27 ?_
    refine av_ifne (tgt := 34) dX11_layFar_30 (by decide) ?_ ?_
    · refine av_aload_n dX11_layFar_34 rfl ?_
      refine av_getr am_ci11 (by decide) am_f11_8 q616 dX11_layFar_35 ?_
      refine av_bipush (v := 12) dX11_layFar_38 (by decide) ?_
      refine av_iload_n dX11_layFar_40 rfl ?_
      refine av_imul dX11_layFar_41 ?_
      refine av_iload_n dX11_layFar_42 rfl ?_
      refine av_iadd dX11_layFar_43 ?_
      refine av_iconst (v := 0) dX11_layFar_44 (by decide) ?_
      refine av_iastore dX11_layFar_45 ?_
      refine av_aload_n dX11_layFar_46 rfl ?_
      refine av_getr am_ci11 (by decide) am_f11_9 q617 dX11_layFar_47 ?_
      refine av_iconst (v := 0) dX11_layFar_50 (by decide) ?_
      refine av_bipush (v := 12) dX11_layFar_51 (by decide) ?_
      refine av_iload_n dX11_layFar_53 rfl ?_
      refine av_imul dX11_layFar_54 ?_
      refine av_iload_n dX11_layFar_55 rfl ?_
      refine av_iadd dX11_layFar_56 ?_
      refine av_iastore dX11_layFar_57 ?_
      refine av_iconst (v := 1) dX11_layFar_58 (by decide) ?_
      refine av_istore_n dX11_layFar_59 rfl (by decide) ?_
      refine av_iconst (v := 0) dX11_layFar_60 (by decide) ?_
      refine av_istore dX11_layFar_61 (by decide) ?_
      exact vX11_layFar_63 l hfl N
    exact av_return_ am_hv dX11_layFar_33
  refine av_aload_n dX11_layFar_9 rfl ?_
  refine av_getr am_ci11 (by decide) am_f11_8 q616 dX11_layFar_10 ?_
  refine av_iload_n dX11_layFar_13 rfl ?_
  refine av_sipush (v := 1000) dX11_layFar_14 (by decide) ?_
  refine av_iastore dX11_layFar_17 ?_
  refine av_iinc dX11_layFar_18 (by decide) (by decide) ?_
  refine av_goto (tgt := 2) dX11_layFar_21 (by decide) ?_
  exact av_live h2
set_option maxRecDepth 20000 in
theorem vX11_layFar_0 (l : Launch) (hfl : l.stackTraces = false) (N : Nat)  : am_V l cX11_layFar 5 RX11 (am_E none yX11_layFar.name) 5 152 0 (kX11_layFar_0 N) := by
  refine av_live ?_
  refine av_iconst (v := 0) dX11_layFar_0 (by decide) ?_
  refine av_istore_n dX11_layFar_1 rfl (by decide) ?_
  exact vX11_layFar_2 l hfl N
theorem mX11_layFar (l : Launch) (hfl : l.stackTraces = false) (N : Nat) : am_M l yX11_layFar cX11_layFar 5 none 5 152 (fX11_layFar N) := av_meth hfl (by decide +kernel) rfl (vX11_layFar_0 l hfl N)
/-! MessengerBoardModel.distance(IIII)I -/
noncomputable def kX11_distance_24 (N : Nat) : am_K := c_live [0] <|
  c_rld 0 <|
  c_i (1) <|
  c_callV 11 1 (fX11_raise N) <|
  c_iret
noncomputable def kX11_distance_69 (N : Nat) : am_K := c_live [] <|
  c_iret
noncomputable def kX11_distance_0 (N : Nat) : am_K := c_live [0, 1, 2, 3, 4] <|
  c_rld 0 <|
  c_i (0) <|
  c_puti 11 6 <|
  c_rld 0 <|
  c_ild 1 <|
  c_ild 2 <|
  c_callV 11 2 (fX11_isCell N) <|
  c_ifeq (
  kX11_distance_24 N) <|
  c_rld 0 <|
  c_ild 3 <|
  c_ild 4 <|
  c_callV 11 2 (fX11_isCell N) <|
  c_ifne (
  c_rld 0 <|
  c_ild 3 <|
  c_ild 4 <|
  c_callV 11 2 (fX11_layFar N) <|
  c_rld 0 <|
  c_getr 11 8 <|
  c_i (12) <|
  c_ild 2 <|
  c_ii (fun x y => x * y) <|
  c_ild 1 <|
  c_ii (fun x y => x + y) <|
  c_ial <|
  c_i (1000) <|
  c_icne (
  c_rld 0 <|
  c_getr 11 8 <|
  c_i (12) <|
  c_ild 2 <|
  c_ii (fun x y => x * y) <|
  c_ild 1 <|
  c_ii (fun x y => x + y) <|
  c_ial <|
  kX11_distance_69 N) <|
  c_i (-1) <|
  kX11_distance_69 N) <|
  kX11_distance_24 N
noncomputable def fX11_distance (N : Nat) : am_F := am_fn 5 (kX11_distance_0 N)
set_option maxRecDepth 20000 in
theorem vX11_distance_24 (l : Launch) (hfl : l.stackTraces = false) (N : Nat)  : am_V l cX11_distance 5 RX11 (am_E (some .int) yX11_distance.name) 6 176 24 (kX11_distance_24 N) := by
  refine av_live ?_
  refine av_aload_n dX11_distance_24 rfl ?_
  refine av_iconst (v := 1) dX11_distance_25 (by decide) ?_
  refine av_callV am_hT (mX11_raise l hfl N) am_ci11 ⟨by decide +kernel, by decide +kernel, by decide +kernel⟩ q634 q635 q628 q636 q637 (by decide) (by decide) dX11_distance_26 ?_
  exact av_ireturn am_hi dX11_distance_29
set_option maxRecDepth 20000 in
theorem vX11_distance_69 (l : Launch) (hfl : l.stackTraces = false) (N : Nat)  : am_V l cX11_distance 5 RX11 (am_E (some .int) yX11_distance.name) 6 176 69 (kX11_distance_69 N) := by
  refine av_live ?_
  exact av_ireturn am_hi dX11_distance_69
set_option maxRecDepth 20000 in
theorem vX11_distance_0 (l : Launch) (hfl : l.stackTraces = false) (N : Nat)  : am_V l cX11_distance 5 RX11 (am_E (some .int) yX11_distance.name) 6 176 0 (kX11_distance_0 N) := by
  refine av_live ?_
  refine av_aload_n dX11_distance_0 rfl ?_
  refine av_iconst (v := 0) dX11_distance_1 (by decide) ?_
  refine av_puti am_ci11 (by decide) am_f11_6 q630 (tyX11_ok 6 (by decide)) rfl dX11_distance_2 ?_
  refine av_aload_n dX11_distance_5 rfl ?_
  refine av_iload_n dX11_distance_6 rfl ?_
  refine av_iload_n dX11_distance_7 rfl ?_
  refine av_callV am_hT (mX11_isCell l hfl N) am_ci11 ⟨by decide +kernel, by decide +kernel, by decide +kernel⟩ q698 q699 q628 q700 q701 (by decide) (by decide) dX11_distance_8 ?_
  refine av_ifeq (tgt := 24) dX11_distance_11 (by decide) ?_ ?_
  · exact vX11_distance_24 l hfl N
  refine av_aload_n dX11_distance_14 rfl ?_
  refine av_iload_n dX11_distance_15 rfl ?_
  refine av_iload dX11_distance_16 ?_
  refine av_callV am_hT (mX11_isCell l hfl N) am_ci11 ⟨by decide +kernel, by decide +kernel, by decide +kernel⟩ q698 q699 q628 q700 q701 (by decide) (by decide) dX11_distance_18 ?_
  refine av_ifne (tgt := 30) dX11_distance_21 (by decide) ?_ ?_
  · refine av_aload_n dX11_distance_30 rfl ?_
    refine av_iload_n dX11_distance_31 rfl ?_
    refine av_iload dX11_distance_32 ?_
    refine av_callV am_hT (mX11_layFar l hfl N) am_ci11 ⟨by decide +kernel, by decide +kernel, by decide +kernel⟩ q725 q726 q628 q727 q728 (by decide) (by decide) dX11_distance_34 ?_
    refine av_aload_n dX11_distance_37 rfl ?_
    refine av_getr am_ci11 (by decide) am_f11_8 q616 dX11_distance_38 ?_
    refine av_bipush (v := 12) dX11_distance_41 (by decide) ?_
    refine av_iload_n dX11_distance_43 rfl ?_
    refine av_imul dX11_distance_44 ?_
    refine av_iload_n dX11_distance_45 rfl ?_
    refine av_iadd dX11_distance_46 ?_
    refine av_iaload dX11_distance_47 ?_
    refine av_sipush (v := 1000) dX11_distance_48 (by decide) ?_
    refine av_icne (tgt := 58) dX11_distance_51 (by decide) ?_ ?_
    · refine av_aload_n dX11_distance_58 rfl ?_
      refine av_getr am_ci11 (by decide) am_f11_8 q616 dX11_distance_59 ?_
      refine av_bipush (v := 12) dX11_distance_62 (by decide) ?_
      refine av_iload_n dX11_distance_64 rfl ?_
      refine av_imul dX11_distance_65 ?_
      refine av_iload_n dX11_distance_66 rfl ?_
      refine av_iadd dX11_distance_67 ?_
      refine av_iaload dX11_distance_68 ?_
      exact vX11_distance_69 l hfl N
    refine av_iconst (v := -1) dX11_distance_54 (by decide) ?_
    refine av_goto (tgt := 69) dX11_distance_55 (by decide) ?_
    exact vX11_distance_69 l hfl N
  exact vX11_distance_24 l hfl N
theorem mX11_distance (l : Launch) (hfl : l.stackTraces = false) (N : Nat) : am_M l yX11_distance cX11_distance 5 (some .int) 6 176 (fX11_distance N) := av_meth hfl (by decide +kernel) rfl (vX11_distance_0 l hfl N)
/-! MessengerBoardModel.stepFrom(II)I -/
noncomputable def kX11_stepFrom_65 (N : Nat) (r2 : am_K) : am_K := c_live [0, 1, 2, 3] <|
  c_inc 3 (1) <|
  c_live [0, 1, 2, 3] r2
noncomputable def bX11_stepFrom_2 (N : Nat) (r2 : am_K) : am_K :=
  c_ild 3 <|
  c_i (4) <|
  c_icge (
  c_i (-1) <|
  c_iret) <|
  c_ild 1 <|
  c_ild 3 <|
  c_i (1) <|
  c_callS 2 (fX11_beside N) <|
  c_ii (fun x y => x + y) <|
  c_ist 4 <|
  c_ild 2 <|
  c_ild 3 <|
  c_i (0) <|
  c_callS 2 (fX11_beside N) <|
  c_ii (fun x y => x + y) <|
  c_ist 5 <|
  c_rld 0 <|
  c_ild 4 <|
  c_ild 5 <|
  c_callV 11 2 (fX11_isFree N) <|
  c_ifeq (
  kX11_stepFrom_65 N r2) <|
  c_rld 0 <|
  c_getr 11 8 <|
  c_i (12) <|
  c_ild 5 <|
  c_ii (fun x y => x * y) <|
  c_ild 4 <|
  c_ii (fun x y => x + y) <|
  c_ial <|
  c_rld 0 <|
  c_getr 11 8 <|
  c_i (12) <|
  c_ild 2 <|
  c_ii (fun x y => x * y) <|
  c_ild 1 <|
  c_ii (fun x y => x + y) <|
  c_ial <|
  c_icge (
  kX11_stepFrom_65 N r2) <|
  c_ild 3 <|
  c_iret
noncomputable def kX11_stepFrom_2 (N : Nat) : am_K := c_live [0, 1, 2, 3] (am_loop (bX11_stepFrom_2 N) N)
noncomputable def kX11_stepFrom_0 (N : Nat) : am_K := c_live [0, 1, 2] <|
  c_i (0) <|
  c_ist 3 <|
  kX11_stepFrom_2 N
noncomputable def fX11_stepFrom (N : Nat) : am_F := am_fn 6 (kX11_stepFrom_0 N)
set_option maxRecDepth 20000 in
theorem vX11_stepFrom_65 (l : Launch) (hfl : l.stackTraces = false) (N : Nat)  {r2 : am_K} (h2 : am_V l cX11_stepFrom 6 RX11 (am_E (some .int) yX11_stepFrom.name) 4 126 2 r2) : am_V l cX11_stepFrom 6 RX11 (am_E (some .int) yX11_stepFrom.name) 4 126 65 (kX11_stepFrom_65 N r2) := by
  refine av_live ?_
  refine av_iinc dX11_stepFrom_65 (by decide) (by decide) ?_
  refine av_goto (tgt := 2) dX11_stepFrom_68 (by decide) ?_
  exact av_live h2
set_option maxRecDepth 20000 in
theorem vX11_stepFrom_2 (l : Launch) (hfl : l.stackTraces = false) (N : Nat)  : am_V l cX11_stepFrom 6 RX11 (am_E (some .int) yX11_stepFrom.name) 4 126 2 (kX11_stepFrom_2 N) := by
  refine av_live ?_
  refine av_loop (fun r2 h2 => ?_) N
  refine av_iload_n dX11_stepFrom_2 rfl ?_
  refine av_iconst (v := 4) dX11_stepFrom_3 (by decide) ?_
  refine av_icge (tgt := 71) dX11_stepFrom_4 (by decide) ?_ ?_
  · refine av_iconst (v := -1) dX11_stepFrom_71 (by decide) ?_
    exact av_ireturn am_hi dX11_stepFrom_72
  refine av_iload_n dX11_stepFrom_7 rfl ?_
  refine av_iload_n dX11_stepFrom_8 rfl ?_
  refine av_iconst (v := 1) dX11_stepFrom_9 (by decide) ?_
  refine av_callS am_hT (mX11_beside l hfl N) ⟨by decide +kernel, by decide +kernel, by decide +kernel⟩ q718 q719 q628 q720 (by decide) (by decide) dX11_stepFrom_10 ?_
  refine av_iadd dX11_stepFrom_13 ?_
  refine av_istore dX11_stepFrom_14 (by decide) ?_
  refine av_iload_n dX11_stepFrom_16 rfl ?_
  refine av_iload_n dX11_stepFrom_17 rfl ?_
  refine av_iconst (v := 0) dX11_stepFrom_18 (by decide) ?_
  refine av_callS am_hT (mX11_beside l hfl N) ⟨by decide +kernel, by decide +kernel, by decide +kernel⟩ q718 q719 q628 q720 (by decide) (by decide) dX11_stepFrom_19 ?_
  refine av_iadd dX11_stepFrom_22 ?_
  refine av_istore dX11_stepFrom_23 (by decide) ?_
  refine av_aload_n dX11_stepFrom_25 rfl ?_
  refine av_iload dX11_stepFrom_26 ?_
  refine av_iload dX11_stepFrom_28 ?_
  refine av_callV am_hT (mX11_isFree l hfl N) am_ci11 ⟨by decide +kernel, by decide +kernel, by decide +kernel⟩ q705 q706 q628 q707 q708 (by decide) (by decide) dX11_stepFrom_30 ?_
  refine av_ifeq (tgt := 65) dX11_stepFrom_33 (by decide) ?_ ?_
  · exact vX11_stepFrom_65 l hfl N h2
  refine av_aload_n dX11_stepFrom_36 rfl ?_
  refine av_getr am_ci11 (by decide) am_f11_8 q616 dX11_stepFrom_37 ?_
  refine av_bipush (v := 12) dX11_stepFrom_40 (by decide) ?_
  refine av_iload dX11_stepFrom_42 ?_
  refine av_imul dX11_stepFrom_44 ?_
  refine av_iload dX11_stepFrom_45 ?_
  refine av_iadd dX11_stepFrom_47 ?_
  refine av_iaload dX11_stepFrom_48 ?_
  refine av_aload_n dX11_stepFrom_49 rfl ?_
  refine av_getr am_ci11 (by decide) am_f11_8 q616 dX11_stepFrom_50 ?_
  refine av_bipush (v := 12) dX11_stepFrom_53 (by decide) ?_
  refine av_iload_n dX11_stepFrom_55 rfl ?_
  refine av_imul dX11_stepFrom_56 ?_
  refine av_iload_n dX11_stepFrom_57 rfl ?_
  refine av_iadd dX11_stepFrom_58 ?_
  refine av_iaload dX11_stepFrom_59 ?_
  refine av_icge (tgt := 65) dX11_stepFrom_60 (by decide) ?_ ?_
  · exact vX11_stepFrom_65 l hfl N h2
  refine av_iload_n dX11_stepFrom_63 rfl ?_
  exact av_ireturn am_hi dX11_stepFrom_64
set_option maxRecDepth 20000 in
theorem vX11_stepFrom_0 (l : Launch) (hfl : l.stackTraces = false) (N : Nat)  : am_V l cX11_stepFrom 6 RX11 (am_E (some .int) yX11_stepFrom.name) 4 126 0 (kX11_stepFrom_0 N) := by
  refine av_live ?_
  refine av_iconst (v := 0) dX11_stepFrom_0 (by decide) ?_
  refine av_istore_n dX11_stepFrom_1 rfl (by decide) ?_
  exact vX11_stepFrom_2 l hfl N
theorem mX11_stepFrom (l : Launch) (hfl : l.stackTraces = false) (N : Nat) : am_M l yX11_stepFrom cX11_stepFrom 6 (some .int) 4 126 (fX11_stepFrom N) := av_meth hfl (by decide +kernel) rfl (vX11_stepFrom_0 l hfl N)
/-! MessengerBoardModel.step(IIII)I -/
noncomputable def kX11_step_24 (N : Nat) : am_K := c_live [0] <|
  c_rld 0 <|
  c_i (1) <|
  c_callV 11 1 (fX11_raise N) <|
  c_iret
noncomputable def kX11_step_49 (N : Nat) : am_K := c_live [] <|
  c_i (-1) <|
  c_iret
noncomputable def kX11_step_117 (N : Nat) : am_K := c_live [] <|
  c_iret
noncomputable def kX11_step_0 (N : Nat) : am_K := c_live [0, 1, 2, 3, 4] <|
  c_rld 0 <|
  c_i (0) <|
  c_puti 11 6 <|
  c_rld 0 <|
  c_ild 1 <|
  c_ild 2 <|
  c_callV 11 2 (fX11_isCell N) <|
  c_ifeq (
  kX11_step_24 N) <|
  c_rld 0 <|
  c_ild 3 <|
  c_ild 4 <|
  c_callV 11 2 (fX11_isCell N) <|
  c_ifne (
  c_rld 0 <|
  c_ild 1 <|
  c_ild 2 <|
  c_callV 11 2 (fX11_isFree N) <|
  c_ifeq (
  kX11_step_49 N) <|
  c_rld 0 <|
  c_ild 3 <|
  c_ild 4 <|
  c_callV 11 2 (fX11_isFree N) <|
  c_ifne (
  c_rld 0 <|
  c_ild 3 <|
  c_ild 4 <|
  c_callV 11 2 (fX11_layFar N) <|
  c_rld 0 <|
  c_getr 11 8 <|
  c_i (12) <|
  c_ild 2 <|
  c_ii (fun x y => x * y) <|
  c_ild 1 <|
  c_ii (fun x y => x + y) <|
  c_ial <|
  c_ifne (
  c_rld 0 <|
  c_ild 1 <|
  c_ild 2 <|
  c_callV 11 2 (fX11_stepFrom N) <|
  c_ist 5 <|
  c_ild 5 <|
  c_i (-1) <|
  c_icne (
  c_i (100) <|
  c_ild 2 <|
  c_ild 5 <|
  c_i (0) <|
  c_callS 2 (fX11_beside N) <|
  c_ii (fun x y => x + y) <|
  c_ii (fun x y => x * y) <|
  c_ild 1 <|
  c_ii (fun x y => x + y) <|
  c_ild 5 <|
  c_i (1) <|
  c_callS 2 (fX11_beside N) <|
  c_ii (fun x y => x + y) <|
  kX11_step_117 N) <|
  c_i (-1) <|
  kX11_step_117 N) <|
  c_i (100) <|
  c_ild 2 <|
  c_ii (fun x y => x * y) <|
  c_ild 1 <|
  c_ii (fun x y => x + y) <|
  c_iret) <|
  kX11_step_49 N) <|
  kX11_step_24 N
noncomputable def fX11_step (N : Nat) : am_F := am_fn 6 (kX11_step_0 N)
set_option maxRecDepth 20000 in
theorem vX11_step_24 (l : Launch) (hfl : l.stackTraces = false) (N : Nat)  : am_V l cX11_step 6 RX11 (am_E (some .int) yX11_step.name) 6 176 24 (kX11_step_24 N) := by
  refine av_live ?_
  refine av_aload_n dX11_step_24 rfl ?_
  refine av_iconst (v := 1) dX11_step_25 (by decide) ?_
  refine av_callV am_hT (mX11_raise l hfl N) am_ci11 ⟨by decide +kernel, by decide +kernel, by decide +kernel⟩ q634 q635 q628 q636 q637 (by decide) (by decide) dX11_step_26 ?_
  exact av_ireturn am_hi dX11_step_29
set_option maxRecDepth 20000 in
theorem vX11_step_49 (l : Launch) (hfl : l.stackTraces = false) (N : Nat)  : am_V l cX11_step 6 RX11 (am_E (some .int) yX11_step.name) 6 176 49 (kX11_step_49 N) := by
  refine av_live ?_
  refine av_iconst (v := -1) dX11_step_49 (by decide) ?_
  exact av_ireturn am_hi dX11_step_50
set_option maxRecDepth 20000 in
theorem vX11_step_117 (l : Launch) (hfl : l.stackTraces = false) (N : Nat)  : am_V l cX11_step 6 RX11 (am_E (some .int) yX11_step.name) 6 176 117 (kX11_step_117 N) := by
  refine av_live ?_
  exact av_ireturn am_hi dX11_step_117
set_option maxRecDepth 20000 in
theorem vX11_step_0 (l : Launch) (hfl : l.stackTraces = false) (N : Nat)  : am_V l cX11_step 6 RX11 (am_E (some .int) yX11_step.name) 6 176 0 (kX11_step_0 N) := by
  refine av_live ?_
  refine av_aload_n dX11_step_0 rfl ?_
  refine av_iconst (v := 0) dX11_step_1 (by decide) ?_
  refine av_puti am_ci11 (by decide) am_f11_6 q630 (tyX11_ok 6 (by decide)) rfl dX11_step_2 ?_
  refine av_aload_n dX11_step_5 rfl ?_
  refine av_iload_n dX11_step_6 rfl ?_
  refine av_iload_n dX11_step_7 rfl ?_
  refine av_callV am_hT (mX11_isCell l hfl N) am_ci11 ⟨by decide +kernel, by decide +kernel, by decide +kernel⟩ q698 q699 q628 q700 q701 (by decide) (by decide) dX11_step_8 ?_
  refine av_ifeq (tgt := 24) dX11_step_11 (by decide) ?_ ?_
  · exact vX11_step_24 l hfl N
  refine av_aload_n dX11_step_14 rfl ?_
  refine av_iload_n dX11_step_15 rfl ?_
  refine av_iload dX11_step_16 ?_
  refine av_callV am_hT (mX11_isCell l hfl N) am_ci11 ⟨by decide +kernel, by decide +kernel, by decide +kernel⟩ q698 q699 q628 q700 q701 (by decide) (by decide) dX11_step_18 ?_
  refine av_ifne (tgt := 30) dX11_step_21 (by decide) ?_ ?_
  · refine av_aload_n dX11_step_30 rfl ?_
    refine av_iload_n dX11_step_31 rfl ?_
    refine av_iload_n dX11_step_32 rfl ?_
    refine av_callV am_hT (mX11_isFree l hfl N) am_ci11 ⟨by decide +kernel, by decide +kernel, by decide +kernel⟩ q705 q706 q628 q707 q708 (by decide) (by decide) dX11_step_33 ?_
    refine av_ifeq (tgt := 49) dX11_step_36 (by decide) ?_ ?_
    · exact vX11_step_49 l hfl N
    refine av_aload_n dX11_step_39 rfl ?_
    refine av_iload_n dX11_step_40 rfl ?_
    refine av_iload dX11_step_41 ?_
    refine av_callV am_hT (mX11_isFree l hfl N) am_ci11 ⟨by decide +kernel, by decide +kernel, by decide +kernel⟩ q705 q706 q628 q707 q708 (by decide) (by decide) dX11_step_43 ?_
    refine av_ifne (tgt := 51) dX11_step_46 (by decide) ?_ ?_
    · refine av_aload_n dX11_step_51 rfl ?_
      refine av_iload_n dX11_step_52 rfl ?_
      refine av_iload dX11_step_53 ?_
      refine av_callV am_hT (mX11_layFar l hfl N) am_ci11 ⟨by decide +kernel, by decide +kernel, by decide +kernel⟩ q725 q726 q628 q727 q728 (by decide) (by decide) dX11_step_55 ?_
      refine av_aload_n dX11_step_58 rfl ?_
      refine av_getr am_ci11 (by decide) am_f11_8 q616 dX11_step_59 ?_
      refine av_bipush (v := 12) dX11_step_62 (by decide) ?_
      refine av_iload_n dX11_step_64 rfl ?_
      refine av_imul dX11_step_65 ?_
      refine av_iload_n dX11_step_66 rfl ?_
      refine av_iadd dX11_step_67 ?_
      refine av_iaload dX11_step_68 ?_
      refine av_ifne (tgt := 79) dX11_step_69 (by decide) ?_ ?_
      · refine av_aload_n dX11_step_79 rfl ?_
        refine av_iload_n dX11_step_80 rfl ?_
        refine av_iload_n dX11_step_81 rfl ?_
        refine av_callV am_hT (mX11_stepFrom l hfl N) am_ci11 ⟨by decide +kernel, by decide +kernel, by decide +kernel⟩ q729 q730 q628 q731 q732 (by decide) (by decide) dX11_step_82 ?_
        refine av_istore dX11_step_85 (by decide) ?_
        refine av_iload dX11_step_87 ?_
        refine av_iconst (v := -1) dX11_step_89 (by decide) ?_
        refine av_icne (tgt := 97) dX11_step_90 (by decide) ?_ ?_
        · refine av_bipush (v := 100) dX11_step_97 (by decide) ?_
          refine av_iload_n dX11_step_99 rfl ?_
          refine av_iload dX11_step_100 ?_
          refine av_iconst (v := 0) dX11_step_102 (by decide) ?_
          refine av_callS am_hT (mX11_beside l hfl N) ⟨by decide +kernel, by decide +kernel, by decide +kernel⟩ q718 q719 q628 q720 (by decide) (by decide) dX11_step_103 ?_
          refine av_iadd dX11_step_106 ?_
          refine av_imul dX11_step_107 ?_
          refine av_iload_n dX11_step_108 rfl ?_
          refine av_iadd dX11_step_109 ?_
          refine av_iload dX11_step_110 ?_
          refine av_iconst (v := 1) dX11_step_112 (by decide) ?_
          refine av_callS am_hT (mX11_beside l hfl N) ⟨by decide +kernel, by decide +kernel, by decide +kernel⟩ q718 q719 q628 q720 (by decide) (by decide) dX11_step_113 ?_
          refine av_iadd dX11_step_116 ?_
          exact vX11_step_117 l hfl N
        refine av_iconst (v := -1) dX11_step_93 (by decide) ?_
        refine av_goto (tgt := 117) dX11_step_94 (by decide) ?_
        exact vX11_step_117 l hfl N
      refine av_bipush (v := 100) dX11_step_72 (by decide) ?_
      refine av_iload_n dX11_step_74 rfl ?_
      refine av_imul dX11_step_75 ?_
      refine av_iload_n dX11_step_76 rfl ?_
      refine av_iadd dX11_step_77 ?_
      exact av_ireturn am_hi dX11_step_78
    exact vX11_step_49 l hfl N
  exact vX11_step_24 l hfl N
theorem mX11_step (l : Launch) (hfl : l.stackTraces = false) (N : Nat) : am_M l yX11_step cX11_step 6 (some .int) 6 176 (fX11_step N) := av_meth hfl (by decide +kernel) rfl (vX11_step_0 l hfl N)
/-! MessengerBoardModel.wasSlot(II)I -/
noncomputable def kX11_wasSlot_0 (N : Nat) : am_K := c_live [0, 1] <|
  c_i (928) <|
  c_i (501) <|
  c_ild 0 <|
  c_ii (fun x y => x * y) <|
  c_ii (fun x y => x + y) <|
  c_ild 1 <|
  c_ii (fun x y => x + y) <|
  c_iret
noncomputable def fX11_wasSlot (N : Nat) : am_F := am_fn 2 (kX11_wasSlot_0 N)
set_option maxRecDepth 20000 in
theorem vX11_wasSlot_0 (l : Launch) (hfl : l.stackTraces = false) (N : Nat)  : am_V l cX11_wasSlot 2 RX11 (am_E (some .int) yX11_wasSlot.name) 1 60 0 (kX11_wasSlot_0 N) := by
  refine av_live ?_
  refine av_sipush (v := 928) dX11_wasSlot_0 (by decide) ?_
  refine av_sipush (v := 501) dX11_wasSlot_3 (by decide) ?_
  refine av_iload_n dX11_wasSlot_6 rfl ?_
  refine av_imul dX11_wasSlot_7 ?_
  refine av_iadd dX11_wasSlot_8 ?_
  refine av_iload_n dX11_wasSlot_9 rfl ?_
  refine av_iadd dX11_wasSlot_10 ?_
  exact av_ireturn am_hi dX11_wasSlot_11
theorem mX11_wasSlot (l : Launch) (hfl : l.stackTraces = false) (N : Nat) : am_M l yX11_wasSlot cX11_wasSlot 2 (some .int) 1 60 (fX11_wasSlot N) := av_meth hfl (by decide +kernel) rfl (vX11_wasSlot_0 l hfl N)
/-! MessengerBoardModel.wasAt(II)I -/
noncomputable def kX11_wasAt_54 (N : Nat) : am_K := c_live [] <|
  c_iret
noncomputable def kX11_wasAt_30 (N : Nat) : am_K := c_live [0, 1, 2] <|
  c_puti 11 6 <|
  c_rld 0 <|
  c_geti 11 6 <|
  c_ifne (
  c_i (0) <|
  kX11_wasAt_54 N) <|
  c_rld 0 <|
  c_getr 11 0 <|
  c_ild 1 <|
  c_ild 2 <|
  c_callS 2 (fX11_wasSlot N) <|
  c_ial <|
  kX11_wasAt_54 N
noncomputable def kX11_wasAt_0 (N : Nat) : am_K := c_live [0, 1, 2] <|
  c_rld 0 <|
  c_rld 0 <|
  c_ild 1 <|
  c_callV 11 1 (fX11_isUnit N) <|
  c_ifne (
  c_ild 2 <|
  c_i (0) <|
  c_rld 0 <|
  c_callV 11 0 (fX11_turnNow N) <|
  c_callS 3 (fX11_inRange N) <|
  c_ifeq (
  c_i (2) <|
  kX11_wasAt_30 N) <|
  c_i (0) <|
  kX11_wasAt_30 N) <|
  c_i (1) <|
  kX11_wasAt_30 N
noncomputable def fX11_wasAt (N : Nat) : am_F := am_fn 3 (kX11_wasAt_0 N)
set_option maxRecDepth 20000 in
theorem vX11_wasAt_54 (l : Launch) (hfl : l.stackTraces = false) (N : Nat)  : am_V l cX11_wasAt 3 RX11 (am_E (some .int) yX11_wasAt.name) 3 103 54 (kX11_wasAt_54 N) := by
  refine av_live ?_
  exact av_ireturn am_hi dX11_wasAt_54
set_option maxRecDepth 20000 in
theorem vX11_wasAt_30 (l : Launch) (hfl : l.stackTraces = false) (N : Nat)  : am_V l cX11_wasAt 3 RX11 (am_E (some .int) yX11_wasAt.name) 3 103 30 (kX11_wasAt_30 N) := by
  refine av_live ?_
  refine av_puti am_ci11 (by decide) am_f11_6 q630 (tyX11_ok 6 (by decide)) rfl dX11_wasAt_30 ?_
  refine av_aload_n dX11_wasAt_33 rfl ?_
  refine av_geti am_ci11 (by decide) am_f11_6 q630 dX11_wasAt_34 ?_
  refine av_ifne (tgt := 53) dX11_wasAt_37 (by decide) ?_ ?_
  · refine av_iconst (v := 0) dX11_wasAt_53 (by decide) ?_
    exact vX11_wasAt_54 l hfl N
  refine av_aload_n dX11_wasAt_40 rfl ?_
  refine av_getr am_ci11 (by decide) am_f11_0 q610 dX11_wasAt_41 ?_
  refine av_iload_n dX11_wasAt_44 rfl ?_
  refine av_iload_n dX11_wasAt_45 rfl ?_
  refine av_callS am_hT (mX11_wasSlot l hfl N) ⟨by decide +kernel, by decide +kernel, by decide +kernel⟩ q733 q734 q628 q735 (by decide) (by decide) dX11_wasAt_46 ?_
  refine av_iaload dX11_wasAt_49 ?_
  refine av_goto (tgt := 54) dX11_wasAt_50 (by decide) ?_
  exact vX11_wasAt_54 l hfl N
set_option maxRecDepth 20000 in
theorem vX11_wasAt_0 (l : Launch) (hfl : l.stackTraces = false) (N : Nat)  : am_V l cX11_wasAt 3 RX11 (am_E (some .int) yX11_wasAt.name) 3 103 0 (kX11_wasAt_0 N) := by
  refine av_live ?_
  refine av_aload_n dX11_wasAt_0 rfl ?_
  refine av_aload_n dX11_wasAt_1 rfl ?_
  refine av_iload_n dX11_wasAt_2 rfl ?_
  refine av_callV am_hT (mX11_isUnit l hfl N) am_ci11 ⟨by decide +kernel, by decide +kernel, by decide +kernel⟩ q648 q649 q628 q650 q651 (by decide) (by decide) dX11_wasAt_3 ?_
  refine av_ifne (tgt := 13) dX11_wasAt_6 (by decide) ?_ ?_
  · refine av_iload_n dX11_wasAt_13 rfl ?_
    refine av_iconst (v := 0) dX11_wasAt_14 (by decide) ?_
    refine av_aload_n dX11_wasAt_15 rfl ?_
    refine av_callV am_hT (mX11_turnNow l hfl N) am_ci11 ⟨by decide +kernel, by decide +kernel, by decide +kernel⟩ q675 q676 q628 q677 q678 (by decide) (by decide) dX11_wasAt_16 ?_
    refine av_callS am_hT (mX11_inRange l hfl N) ⟨by decide +kernel, by decide +kernel, by decide +kernel⟩ q631 q632 q628 q633 (by decide) (by decide) dX11_wasAt_19 ?_
    refine av_ifeq (tgt := 29) dX11_wasAt_22 (by decide) ?_ ?_
    · refine av_iconst (v := 2) dX11_wasAt_29 (by decide) ?_
      exact vX11_wasAt_30 l hfl N
    refine av_iconst (v := 0) dX11_wasAt_25 (by decide) ?_
    refine av_goto (tgt := 30) dX11_wasAt_26 (by decide) ?_
    exact vX11_wasAt_30 l hfl N
  refine av_iconst (v := 1) dX11_wasAt_9 (by decide) ?_
  refine av_goto (tgt := 30) dX11_wasAt_10 (by decide) ?_
  exact vX11_wasAt_30 l hfl N
theorem mX11_wasAt (l : Launch) (hfl : l.stackTraces = false) (N : Nat) : am_M l yX11_wasAt cX11_wasAt 3 (some .int) 3 103 (fX11_wasAt N) := av_meth hfl (by decide +kernel) rfl (vX11_wasAt_0 l hfl N)
/-! MessengerBoardModel.stateAt(II)I -/
noncomputable def kX11_stateAt_120 (N : Nat) (r61 : am_K) : am_K := c_live [0, 1, 2, 4] <|
  c_ist 3 <|
  c_inc 4 (1) <|
  c_live [0, 1, 2, 3, 4] r61
noncomputable def kX11_stateAt_119 (N : Nat) (r61 : am_K) : am_K := c_live [0, 1, 2, 3, 4] <|
  c_ild 3 <|
  kX11_stateAt_120 N r61
noncomputable def bX11_stateAt_61 (N : Nat) (r61 : am_K) : am_K :=
  c_ild 4 <|
  c_rld 0 <|
  c_getr 11 0 <|
  c_i (7) <|
  c_ial <|
  c_icge (
  c_ild 3 <|
  c_iret) <|
  c_i (544) <|
  c_i (3) <|
  c_ild 4 <|
  c_ii (fun x y => x * y) <|
  c_ii (fun x y => x + y) <|
  c_ist 5 <|
  c_rld 0 <|
  c_getr 11 0 <|
  c_ild 5 <|
  c_i (1) <|
  c_ii (fun x y => x + y) <|
  c_ial <|
  c_ild 1 <|
  c_icne (
  kX11_stateAt_119 N r61) <|
  c_rld 0 <|
  c_getr 11 0 <|
  c_ild 5 <|
  c_ial <|
  c_ild 2 <|
  c_icge (
  kX11_stateAt_119 N r61) <|
  c_rld 0 <|
  c_getr 11 0 <|
  c_ild 5 <|
  c_i (2) <|
  c_ii (fun x y => x + y) <|
  c_ial <|
  kX11_stateAt_120 N r61
noncomputable def kX11_stateAt_61 (N : Nat) : am_K := c_live [0, 1, 2, 3, 4] (am_loop (bX11_stateAt_61 N) N)
noncomputable def kX11_stateAt_57 (N : Nat) : am_K := c_live [0, 1, 2] <|
  c_ist 3 <|
  c_i (0) <|
  c_ist 4 <|
  kX11_stateAt_61 N
noncomputable def kX11_stateAt_30 (N : Nat) : am_K := c_live [0, 1, 2] <|
  c_puti 11 6 <|
  c_rld 0 <|
  c_geti 11 6 <|
  c_ifeq (
  c_ild 2 <|
  c_rld 0 <|
  c_ild 1 <|
  c_i (4) <|
  c_callV 11 2 (fX11_ofOrder N) <|
  c_icle (
  c_i (-1) <|
  kX11_stateAt_57 N) <|
  c_i (0) <|
  kX11_stateAt_57 N) <|
  c_i (0) <|
  c_iret
noncomputable def kX11_stateAt_0 (N : Nat) : am_K := c_live [0, 1, 2] <|
  c_rld 0 <|
  c_rld 0 <|
  c_ild 1 <|
  c_callV 11 1 (fX11_isOrder N) <|
  c_ifne (
  c_ild 2 <|
  c_i (0) <|
  c_rld 0 <|
  c_callV 11 0 (fX11_turnNow N) <|
  c_callS 3 (fX11_inRange N) <|
  c_ifeq (
  c_i (2) <|
  kX11_stateAt_30 N) <|
  c_i (0) <|
  kX11_stateAt_30 N) <|
  c_i (1) <|
  kX11_stateAt_30 N
noncomputable def fX11_stateAt (N : Nat) : am_F := am_fn 6 (kX11_stateAt_0 N)
set_option maxRecDepth 20000 in
theorem vX11_stateAt_120 (l : Launch) (hfl : l.stackTraces = false) (N : Nat)  {r61 : am_K} (h61 : am_V l cX11_stateAt 6 RX11 (am_E (some .int) yX11_stateAt.name) 3 103 61 r61) : am_V l cX11_stateAt 6 RX11 (am_E (some .int) yX11_stateAt.name) 3 103 120 (kX11_stateAt_120 N r61) := by
  refine av_live ?_
  refine av_istore_n dX11_stateAt_120 rfl (by decide) ?_
  refine av_iinc dX11_stateAt_121 (by decide) (by decide) ?_
  refine av_goto (tgt := 61) dX11_stateAt_124 (by decide) ?_
  exact av_live h61
set_option maxRecDepth 20000 in
theorem vX11_stateAt_119 (l : Launch) (hfl : l.stackTraces = false) (N : Nat)  {r61 : am_K} (h61 : am_V l cX11_stateAt 6 RX11 (am_E (some .int) yX11_stateAt.name) 3 103 61 r61) : am_V l cX11_stateAt 6 RX11 (am_E (some .int) yX11_stateAt.name) 3 103 119 (kX11_stateAt_119 N r61) := by
  refine av_live ?_
  refine av_iload_n dX11_stateAt_119 rfl ?_
  exact vX11_stateAt_120 l hfl N h61
set_option maxRecDepth 20000 in
theorem vX11_stateAt_61 (l : Launch) (hfl : l.stackTraces = false) (N : Nat)  : am_V l cX11_stateAt 6 RX11 (am_E (some .int) yX11_stateAt.name) 3 103 61 (kX11_stateAt_61 N) := by
  refine av_live ?_
  refine av_loop (fun r61 h61 => ?_) N
  refine av_iload dX11_stateAt_61 ?_
  refine av_aload_n dX11_stateAt_63 rfl ?_
  refine av_getr am_ci11 (by decide) am_f11_0 q610 dX11_stateAt_64 ?_
  refine av_bipush (v := 7) dX11_stateAt_67 (by decide) ?_
  refine av_iaload dX11_stateAt_69 ?_
  refine av_icge (tgt := 127) dX11_stateAt_70 (by decide) ?_ ?_
  · refine av_iload_n dX11_stateAt_127 rfl ?_
    exact av_ireturn am_hi dX11_stateAt_128
  refine av_sipush (v := 544) dX11_stateAt_73 (by decide) ?_
  refine av_iconst (v := 3) dX11_stateAt_76 (by decide) ?_
  refine av_iload dX11_stateAt_77 ?_
  refine av_imul dX11_stateAt_79 ?_
  refine av_iadd dX11_stateAt_80 ?_
  refine av_istore dX11_stateAt_81 (by decide) ?_
  refine av_aload_n dX11_stateAt_83 rfl ?_
  refine av_getr am_ci11 (by decide) am_f11_0 q610 dX11_stateAt_84 ?_
  refine av_iload dX11_stateAt_87 ?_
  refine av_iconst (v := 1) dX11_stateAt_89 (by decide) ?_
  refine av_iadd dX11_stateAt_90 ?_
  refine av_iaload dX11_stateAt_91 ?_
  refine av_iload_n dX11_stateAt_92 rfl ?_
  refine av_icne (tgt := 119) dX11_stateAt_93 (by decide) ?_ ?_
  · exact vX11_stateAt_119 l hfl N h61
  refine av_aload_n dX11_stateAt_96 rfl ?_
  refine av_getr am_ci11 (by decide) am_f11_0 q610 dX11_stateAt_97 ?_
  refine av_iload dX11_stateAt_100 ?_
  refine av_iaload dX11_stateAt_102 ?_
  refine av_iload_n dX11_stateAt_103 rfl ?_
  refine av_icge (tgt := 119) dX11_stateAt_104 (by decide) ?_ ?_
  · exact vX11_stateAt_119 l hfl N h61
  refine av_aload_n dX11_stateAt_107 rfl ?_
  refine av_getr am_ci11 (by decide) am_f11_0 q610 dX11_stateAt_108 ?_
  refine av_iload dX11_stateAt_111 ?_
  refine av_iconst (v := 2) dX11_stateAt_113 (by decide) ?_
  refine av_iadd dX11_stateAt_114 ?_
  refine av_iaload dX11_stateAt_115 ?_
  refine av_goto (tgt := 120) dX11_stateAt_116 (by decide) ?_
  exact vX11_stateAt_120 l hfl N h61
set_option maxRecDepth 20000 in
theorem vX11_stateAt_57 (l : Launch) (hfl : l.stackTraces = false) (N : Nat)  : am_V l cX11_stateAt 6 RX11 (am_E (some .int) yX11_stateAt.name) 3 103 57 (kX11_stateAt_57 N) := by
  refine av_live ?_
  refine av_istore_n dX11_stateAt_57 rfl (by decide) ?_
  refine av_iconst (v := 0) dX11_stateAt_58 (by decide) ?_
  refine av_istore dX11_stateAt_59 (by decide) ?_
  exact vX11_stateAt_61 l hfl N
set_option maxRecDepth 20000 in
theorem vX11_stateAt_30 (l : Launch) (hfl : l.stackTraces = false) (N : Nat)  : am_V l cX11_stateAt 6 RX11 (am_E (some .int) yX11_stateAt.name) 3 103 30 (kX11_stateAt_30 N) := by
  refine av_live ?_
  refine av_puti am_ci11 (by decide) am_f11_6 q630 (tyX11_ok 6 (by decide)) rfl dX11_stateAt_30 ?_
  refine av_aload_n dX11_stateAt_33 rfl ?_
  refine av_geti am_ci11 (by decide) am_f11_6 q630 dX11_stateAt_34 ?_
  refine av_ifeq (tgt := 42) dX11_stateAt_37 (by decide) ?_ ?_
  · refine av_iload_n dX11_stateAt_42 rfl ?_
    refine av_aload_n dX11_stateAt_43 rfl ?_
    refine av_iload_n dX11_stateAt_44 rfl ?_
    refine av_iconst (v := 4) dX11_stateAt_45 (by decide) ?_
    refine av_callV am_hT (mX11_ofOrder l hfl N) am_ci11 ⟨by decide +kernel, by decide +kernel, by decide +kernel⟩ q644 q645 q628 q646 q647 (by decide) (by decide) dX11_stateAt_46 ?_
    refine av_icle (tgt := 56) dX11_stateAt_49 (by decide) ?_ ?_
    · refine av_iconst (v := -1) dX11_stateAt_56 (by decide) ?_
      exact vX11_stateAt_57 l hfl N
    refine av_iconst (v := 0) dX11_stateAt_52 (by decide) ?_
    refine av_goto (tgt := 57) dX11_stateAt_53 (by decide) ?_
    exact vX11_stateAt_57 l hfl N
  refine av_iconst (v := 0) dX11_stateAt_40 (by decide) ?_
  exact av_ireturn am_hi dX11_stateAt_41
set_option maxRecDepth 20000 in
theorem vX11_stateAt_0 (l : Launch) (hfl : l.stackTraces = false) (N : Nat)  : am_V l cX11_stateAt 6 RX11 (am_E (some .int) yX11_stateAt.name) 3 103 0 (kX11_stateAt_0 N) := by
  refine av_live ?_
  refine av_aload_n dX11_stateAt_0 rfl ?_
  refine av_aload_n dX11_stateAt_1 rfl ?_
  refine av_iload_n dX11_stateAt_2 rfl ?_
  refine av_callV am_hT (mX11_isOrder l hfl N) am_ci11 ⟨by decide +kernel, by decide +kernel, by decide +kernel⟩ q683 q684 q628 q685 q686 (by decide) (by decide) dX11_stateAt_3 ?_
  refine av_ifne (tgt := 13) dX11_stateAt_6 (by decide) ?_ ?_
  · refine av_iload_n dX11_stateAt_13 rfl ?_
    refine av_iconst (v := 0) dX11_stateAt_14 (by decide) ?_
    refine av_aload_n dX11_stateAt_15 rfl ?_
    refine av_callV am_hT (mX11_turnNow l hfl N) am_ci11 ⟨by decide +kernel, by decide +kernel, by decide +kernel⟩ q675 q676 q628 q677 q678 (by decide) (by decide) dX11_stateAt_16 ?_
    refine av_callS am_hT (mX11_inRange l hfl N) ⟨by decide +kernel, by decide +kernel, by decide +kernel⟩ q631 q632 q628 q633 (by decide) (by decide) dX11_stateAt_19 ?_
    refine av_ifeq (tgt := 29) dX11_stateAt_22 (by decide) ?_ ?_
    · refine av_iconst (v := 2) dX11_stateAt_29 (by decide) ?_
      exact vX11_stateAt_30 l hfl N
    refine av_iconst (v := 0) dX11_stateAt_25 (by decide) ?_
    refine av_goto (tgt := 30) dX11_stateAt_26 (by decide) ?_
    exact vX11_stateAt_30 l hfl N
  refine av_iconst (v := 1) dX11_stateAt_9 (by decide) ?_
  refine av_goto (tgt := 30) dX11_stateAt_10 (by decide) ?_
  exact vX11_stateAt_30 l hfl N
theorem mX11_stateAt (l : Launch) (hfl : l.stackTraces = false) (N : Nat) : am_M l yX11_stateAt cX11_stateAt 6 (some .int) 3 103 (fX11_stateAt N) := av_meth hfl (by decide +kernel) rfl (vX11_stateAt_0 l hfl N)
/-! MessengerBoardModel.crossed()I -/
noncomputable def kX11_crossed_113 (N : Nat) (r9 : am_K) (r23 : am_K) : am_K := c_live [0, 2, 3] <|
  c_ii (fun x y => x + y) <|
  c_ist 1 <|
  c_inc 3 (1) <|
  c_live [0, 1, 2, 3] r23
noncomputable def kX11_crossed_112 (N : Nat) (r9 : am_K) (r23 : am_K) : am_K := c_live [0, 2, 3] <|
  c_i (0) <|
  kX11_crossed_113 N r9 r23
noncomputable def kX11_crossed_80 (N : Nat) (r9 : am_K) (r23 : am_K) : am_K := c_live [0, 1, 2, 3, 4] <|
  c_ist 5 <|
  c_ild 1 <|
  c_ild 4 <|
  c_ifeq (
  kX11_crossed_112 N r9 r23) <|
  c_ild 5 <|
  c_ifeq (
  kX11_crossed_112 N r9 r23) <|
  c_rld 0 <|
  c_ild 3 <|
  c_i (5) <|
  c_callV 11 2 (fX11_ofOrder N) <|
  c_rld 0 <|
  c_ild 2 <|
  c_i (5) <|
  c_callV 11 2 (fX11_ofOrder N) <|
  c_icge (
  kX11_crossed_112 N r9 r23) <|
  c_i (1) <|
  kX11_crossed_113 N r9 r23
noncomputable def kX11_crossed_58 (N : Nat) (r9 : am_K) (r23 : am_K) : am_K := c_live [0, 1, 2, 3] <|
  c_ist 4 <|
  c_rld 0 <|
  c_ild 2 <|
  c_i (0) <|
  c_callV 11 2 (fX11_ofOrder N) <|
  c_rld 0 <|
  c_ild 3 <|
  c_i (0) <|
  c_callV 11 2 (fX11_ofOrder N) <|
  c_icne (
  c_i (0) <|
  kX11_crossed_80 N r9 r23) <|
  c_i (1) <|
  kX11_crossed_80 N r9 r23
noncomputable def kX11_crossed_57 (N : Nat) (r9 : am_K) (r23 : am_K) : am_K := c_live [0, 1, 2, 3] <|
  c_i (0) <|
  kX11_crossed_58 N r9 r23
noncomputable def bX11_crossed_23 (N : Nat) (r9 : am_K) (r23 : am_K) : am_K :=
  c_ild 3 <|
  c_rld 0 <|
  c_getr 11 0 <|
  c_i (4) <|
  c_ial <|
  c_icge (
  c_inc 2 (1) <|
  c_live [0, 1, 2] r9) <|
  c_rld 0 <|
  c_ild 2 <|
  c_i (5) <|
  c_callV 11 2 (fX11_ofOrder N) <|
  c_i (-1) <|
  c_iceq (
  kX11_crossed_57 N r9 r23) <|
  c_rld 0 <|
  c_ild 3 <|
  c_i (5) <|
  c_callV 11 2 (fX11_ofOrder N) <|
  c_i (-1) <|
  c_iceq (
  kX11_crossed_57 N r9 r23) <|
  c_i (1) <|
  kX11_crossed_58 N r9 r23
noncomputable def kX11_crossed_23 (N : Nat) (r9 : am_K) : am_K := c_live [0, 1, 2, 3] (am_loop (bX11_crossed_23 N r9) N)
noncomputable def bX11_crossed_9 (N : Nat) (r9 : am_K) : am_K :=
  c_ild 2 <|
  c_rld 0 <|
  c_getr 11 0 <|
  c_i (4) <|
  c_ial <|
  c_icge (
  c_ild 1 <|
  c_iret) <|
  c_ild 2 <|
  c_i (1) <|
  c_ii (fun x y => x + y) <|
  c_ist 3 <|
  kX11_crossed_23 N r9
noncomputable def kX11_crossed_9 (N : Nat) : am_K := c_live [0, 1, 2] (am_loop (bX11_crossed_9 N) N)
noncomputable def kX11_crossed_0 (N : Nat) : am_K := c_live [0] <|
  c_rld 0 <|
  c_i (0) <|
  c_puti 11 6 <|
  c_i (0) <|
  c_ist 1 <|
  c_i (0) <|
  c_ist 2 <|
  kX11_crossed_9 N
noncomputable def fX11_crossed (N : Nat) : am_F := am_fn 6 (kX11_crossed_0 N)
set_option maxRecDepth 20000 in
theorem vX11_crossed_113 (l : Launch) (hfl : l.stackTraces = false) (N : Nat)  {r9 : am_K} (h9 : am_V l cX11_crossed 6 RX11 (am_E (some .int) yX11_crossed.name) 3 103 9 r9) {r23 : am_K} (h23 : am_V l cX11_crossed 6 RX11 (am_E (some .int) yX11_crossed.name) 3 103 23 r23) : am_V l cX11_crossed 6 RX11 (am_E (some .int) yX11_crossed.name) 3 103 113 (kX11_crossed_113 N r9 r23) := by
  refine av_live ?_
  refine av_iadd dX11_crossed_113 ?_
  refine av_istore_n dX11_crossed_114 rfl (by decide) ?_
  refine av_iinc dX11_crossed_115 (by decide) (by decide) ?_
  refine av_goto (tgt := 23) dX11_crossed_118 (by decide) ?_
  exact av_live h23
set_option maxRecDepth 20000 in
theorem vX11_crossed_112 (l : Launch) (hfl : l.stackTraces = false) (N : Nat)  {r9 : am_K} (h9 : am_V l cX11_crossed 6 RX11 (am_E (some .int) yX11_crossed.name) 3 103 9 r9) {r23 : am_K} (h23 : am_V l cX11_crossed 6 RX11 (am_E (some .int) yX11_crossed.name) 3 103 23 r23) : am_V l cX11_crossed 6 RX11 (am_E (some .int) yX11_crossed.name) 3 103 112 (kX11_crossed_112 N r9 r23) := by
  refine av_live ?_
  refine av_iconst (v := 0) dX11_crossed_112 (by decide) ?_
  exact vX11_crossed_113 l hfl N h9 h23
set_option maxRecDepth 20000 in
theorem vX11_crossed_80 (l : Launch) (hfl : l.stackTraces = false) (N : Nat)  {r9 : am_K} (h9 : am_V l cX11_crossed 6 RX11 (am_E (some .int) yX11_crossed.name) 3 103 9 r9) {r23 : am_K} (h23 : am_V l cX11_crossed 6 RX11 (am_E (some .int) yX11_crossed.name) 3 103 23 r23) : am_V l cX11_crossed 6 RX11 (am_E (some .int) yX11_crossed.name) 3 103 80 (kX11_crossed_80 N r9 r23) := by
  refine av_live ?_
  refine av_istore dX11_crossed_80 (by decide) ?_
  refine av_iload_n dX11_crossed_82 rfl ?_
  refine av_iload dX11_crossed_83 ?_
  refine av_ifeq (tgt := 112) dX11_crossed_85 (by decide) ?_ ?_
  · exact vX11_crossed_112 l hfl N h9 h23
  refine av_iload dX11_crossed_88 ?_
  refine av_ifeq (tgt := 112) dX11_crossed_90 (by decide) ?_ ?_
  · exact vX11_crossed_112 l hfl N h9 h23
  refine av_aload_n dX11_crossed_93 rfl ?_
  refine av_iload_n dX11_crossed_94 rfl ?_
  refine av_iconst (v := 5) dX11_crossed_95 (by decide) ?_
  refine av_callV am_hT (mX11_ofOrder l hfl N) am_ci11 ⟨by decide +kernel, by decide +kernel, by decide +kernel⟩ q644 q645 q628 q646 q647 (by decide) (by decide) dX11_crossed_96 ?_
  refine av_aload_n dX11_crossed_99 rfl ?_
  refine av_iload_n dX11_crossed_100 rfl ?_
  refine av_iconst (v := 5) dX11_crossed_101 (by decide) ?_
  refine av_callV am_hT (mX11_ofOrder l hfl N) am_ci11 ⟨by decide +kernel, by decide +kernel, by decide +kernel⟩ q644 q645 q628 q646 q647 (by decide) (by decide) dX11_crossed_102 ?_
  refine av_icge (tgt := 112) dX11_crossed_105 (by decide) ?_ ?_
  · exact vX11_crossed_112 l hfl N h9 h23
  refine av_iconst (v := 1) dX11_crossed_108 (by decide) ?_
  refine av_goto (tgt := 113) dX11_crossed_109 (by decide) ?_
  exact vX11_crossed_113 l hfl N h9 h23
set_option maxRecDepth 20000 in
theorem vX11_crossed_58 (l : Launch) (hfl : l.stackTraces = false) (N : Nat)  {r9 : am_K} (h9 : am_V l cX11_crossed 6 RX11 (am_E (some .int) yX11_crossed.name) 3 103 9 r9) {r23 : am_K} (h23 : am_V l cX11_crossed 6 RX11 (am_E (some .int) yX11_crossed.name) 3 103 23 r23) : am_V l cX11_crossed 6 RX11 (am_E (some .int) yX11_crossed.name) 3 103 58 (kX11_crossed_58 N r9 r23) := by
  refine av_live ?_
  refine av_istore dX11_crossed_58 (by decide) ?_
  refine av_aload_n dX11_crossed_60 rfl ?_
  refine av_iload_n dX11_crossed_61 rfl ?_
  refine av_iconst (v := 0) dX11_crossed_62 (by decide) ?_
  refine av_callV am_hT (mX11_ofOrder l hfl N) am_ci11 ⟨by decide +kernel, by decide +kernel, by decide +kernel⟩ q644 q645 q628 q646 q647 (by decide) (by decide) dX11_crossed_63 ?_
  refine av_aload_n dX11_crossed_66 rfl ?_
  refine av_iload_n dX11_crossed_67 rfl ?_
  refine av_iconst (v := 0) dX11_crossed_68 (by decide) ?_
  refine av_callV am_hT (mX11_ofOrder l hfl N) am_ci11 ⟨by decide +kernel, by decide +kernel, by decide +kernel⟩ q644 q645 q628 q646 q647 (by decide) (by decide) dX11_crossed_69 ?_
  refine av_icne (tgt := 79) dX11_crossed_72 (by decide) ?_ ?_
  · refine av_iconst (v := 0) dX11_crossed_79 (by decide) ?_
    exact vX11_crossed_80 l hfl N h9 h23
  refine av_iconst (v := 1) dX11_crossed_75 (by decide) ?_
  refine av_goto (tgt := 80) dX11_crossed_76 (by decide) ?_
  exact vX11_crossed_80 l hfl N h9 h23
set_option maxRecDepth 20000 in
theorem vX11_crossed_57 (l : Launch) (hfl : l.stackTraces = false) (N : Nat)  {r9 : am_K} (h9 : am_V l cX11_crossed 6 RX11 (am_E (some .int) yX11_crossed.name) 3 103 9 r9) {r23 : am_K} (h23 : am_V l cX11_crossed 6 RX11 (am_E (some .int) yX11_crossed.name) 3 103 23 r23) : am_V l cX11_crossed 6 RX11 (am_E (some .int) yX11_crossed.name) 3 103 57 (kX11_crossed_57 N r9 r23) := by
  refine av_live ?_
  refine av_iconst (v := 0) dX11_crossed_57 (by decide) ?_
  exact vX11_crossed_58 l hfl N h9 h23
set_option maxRecDepth 20000 in
theorem vX11_crossed_23 (l : Launch) (hfl : l.stackTraces = false) (N : Nat)  {r9 : am_K} (h9 : am_V l cX11_crossed 6 RX11 (am_E (some .int) yX11_crossed.name) 3 103 9 r9) : am_V l cX11_crossed 6 RX11 (am_E (some .int) yX11_crossed.name) 3 103 23 (kX11_crossed_23 N r9) := by
  refine av_live ?_
  refine av_loop (fun r23 h23 => ?_) N
  refine av_iload_n dX11_crossed_23 rfl ?_
  refine av_aload_n dX11_crossed_24 rfl ?_
  refine av_getr am_ci11 (by decide) am_f11_0 q610 dX11_crossed_25 ?_
  refine av_iconst (v := 4) dX11_crossed_28 (by decide) ?_
  refine av_iaload dX11_crossed_29 ?_
  refine av_icge (tgt := 121) dX11_crossed_30 (by decide) ?_ ?_
  · refine av_iinc dX11_crossed_121 (by decide) (by decide) ?_
    refine av_goto (tgt := 9) dX11_crossed_124 (by decide) ?_
    exact av_live h9
  refine av_aload_n dX11_crossed_33 rfl ?_
  refine av_iload_n dX11_crossed_34 rfl ?_
  refine av_iconst (v := 5) dX11_crossed_35 (by decide) ?_
  refine av_callV am_hT (mX11_ofOrder l hfl N) am_ci11 ⟨by decide +kernel, by decide +kernel, by decide +kernel⟩ q644 q645 q628 q646 q647 (by decide) (by decide) dX11_crossed_36 ?_
  refine av_iconst (v := -1) dX11_crossed_39 (by decide) ?_
  refine av_iceq (tgt := 57) dX11_crossed_40 (by decide) ?_ ?_
  · exact vX11_crossed_57 l hfl N h9 h23
  refine av_aload_n dX11_crossed_43 rfl ?_
  refine av_iload_n dX11_crossed_44 rfl ?_
  refine av_iconst (v := 5) dX11_crossed_45 (by decide) ?_
  refine av_callV am_hT (mX11_ofOrder l hfl N) am_ci11 ⟨by decide +kernel, by decide +kernel, by decide +kernel⟩ q644 q645 q628 q646 q647 (by decide) (by decide) dX11_crossed_46 ?_
  refine av_iconst (v := -1) dX11_crossed_49 (by decide) ?_
  refine av_iceq (tgt := 57) dX11_crossed_50 (by decide) ?_ ?_
  · exact vX11_crossed_57 l hfl N h9 h23
  refine av_iconst (v := 1) dX11_crossed_53 (by decide) ?_
  refine av_goto (tgt := 58) dX11_crossed_54 (by decide) ?_
  exact vX11_crossed_58 l hfl N h9 h23
set_option maxRecDepth 20000 in
theorem vX11_crossed_9 (l : Launch) (hfl : l.stackTraces = false) (N : Nat)  : am_V l cX11_crossed 6 RX11 (am_E (some .int) yX11_crossed.name) 3 103 9 (kX11_crossed_9 N) := by
  refine av_live ?_
  refine av_loop (fun r9 h9 => ?_) N
  refine av_iload_n dX11_crossed_9 rfl ?_
  refine av_aload_n dX11_crossed_10 rfl ?_
  refine av_getr am_ci11 (by decide) am_f11_0 q610 dX11_crossed_11 ?_
  refine av_iconst (v := 4) dX11_crossed_14 (by decide) ?_
  refine av_iaload dX11_crossed_15 ?_
  refine av_icge (tgt := 127) dX11_crossed_16 (by decide) ?_ ?_
  · refine av_iload_n dX11_crossed_127 rfl ?_
    exact av_ireturn am_hi dX11_crossed_128
  refine av_iload_n dX11_crossed_19 rfl ?_
  refine av_iconst (v := 1) dX11_crossed_20 (by decide) ?_
  refine av_iadd dX11_crossed_21 ?_
  refine av_istore_n dX11_crossed_22 rfl (by decide) ?_
  exact vX11_crossed_23 l hfl N h9
set_option maxRecDepth 20000 in
theorem vX11_crossed_0 (l : Launch) (hfl : l.stackTraces = false) (N : Nat)  : am_V l cX11_crossed 6 RX11 (am_E (some .int) yX11_crossed.name) 3 103 0 (kX11_crossed_0 N) := by
  refine av_live ?_
  refine av_aload_n dX11_crossed_0 rfl ?_
  refine av_iconst (v := 0) dX11_crossed_1 (by decide) ?_
  refine av_puti am_ci11 (by decide) am_f11_6 q630 (tyX11_ok 6 (by decide)) rfl dX11_crossed_2 ?_
  refine av_iconst (v := 0) dX11_crossed_5 (by decide) ?_
  refine av_istore_n dX11_crossed_6 rfl (by decide) ?_
  refine av_iconst (v := 0) dX11_crossed_7 (by decide) ?_
  refine av_istore_n dX11_crossed_8 rfl (by decide) ?_
  exact vX11_crossed_9 l hfl N
theorem mX11_crossed (l : Launch) (hfl : l.stackTraces = false) (N : Nat) : am_M l yX11_crossed cX11_crossed 6 (some .int) 3 103 (fX11_crossed N) := av_meth hfl (by decide +kernel) rfl (vX11_crossed_0 l hfl N)
/-! MessengerBoardModel.isTarget(III)Z -/
noncomputable def kX11_isTarget_51 (N : Nat) : am_K := c_live [] <|
  c_zret
noncomputable def kX11_isTarget_36 (N : Nat) : am_K := c_live [0] <|
  c_puti 11 6 <|
  c_rld 0 <|
  c_geti 11 6 <|
  c_ifne (
  c_i (0) <|
  kX11_isTarget_51 N) <|
  c_i (1) <|
  kX11_isTarget_51 N
noncomputable def kX11_isTarget_18 (N : Nat) : am_K := c_live [0] <|
  c_i (1) <|
  kX11_isTarget_36 N
noncomputable def kX11_isTarget_0 (N : Nat) : am_K := c_live [0, 1, 2, 3] <|
  c_rld 0 <|
  c_rld 0 <|
  c_ild 1 <|
  c_callV 11 1 (fX11_isUnit N) <|
  c_ifeq (
  kX11_isTarget_18 N) <|
  c_rld 0 <|
  c_ild 2 <|
  c_ild 3 <|
  c_callV 11 2 (fX11_isCell N) <|
  c_ifne (
  c_rld 0 <|
  c_ild 2 <|
  c_ild 3 <|
  c_callV 11 2 (fX11_isFree N) <|
  c_ifeq (
  c_i (2) <|
  kX11_isTarget_36 N) <|
  c_i (0) <|
  kX11_isTarget_36 N) <|
  kX11_isTarget_18 N
noncomputable def fX11_isTarget (N : Nat) : am_F := am_fn 4 (kX11_isTarget_0 N)
set_option maxRecDepth 20000 in
theorem vX11_isTarget_51 (l : Launch) (hfl : l.stackTraces = false) (N : Nat)  : am_V l cX11_isTarget 4 RX11 (am_E (some .boolean) yX11_isTarget.name) 4 126 51 (kX11_isTarget_51 N) := by
  refine av_live ?_
  exact av_zreturn am_hz dX11_isTarget_51
set_option maxRecDepth 20000 in
theorem vX11_isTarget_36 (l : Launch) (hfl : l.stackTraces = false) (N : Nat)  : am_V l cX11_isTarget 4 RX11 (am_E (some .boolean) yX11_isTarget.name) 4 126 36 (kX11_isTarget_36 N) := by
  refine av_live ?_
  refine av_puti am_ci11 (by decide) am_f11_6 q630 (tyX11_ok 6 (by decide)) rfl dX11_isTarget_36 ?_
  refine av_aload_n dX11_isTarget_39 rfl ?_
  refine av_geti am_ci11 (by decide) am_f11_6 q630 dX11_isTarget_40 ?_
  refine av_ifne (tgt := 50) dX11_isTarget_43 (by decide) ?_ ?_
  · refine av_iconst (v := 0) dX11_isTarget_50 (by decide) ?_
    exact vX11_isTarget_51 l hfl N
  refine av_iconst (v := 1) dX11_isTarget_46 (by decide) ?_
  refine av_goto (tgt := 51) dX11_isTarget_47 (by decide) ?_
  exact vX11_isTarget_51 l hfl N
set_option maxRecDepth 20000 in
theorem vX11_isTarget_18 (l : Launch) (hfl : l.stackTraces = false) (N : Nat)  : am_V l cX11_isTarget 4 RX11 (am_E (some .boolean) yX11_isTarget.name) 4 126 18 (kX11_isTarget_18 N) := by
  refine av_live ?_
  refine av_iconst (v := 1) dX11_isTarget_18 (by decide) ?_
  refine av_goto (tgt := 36) dX11_isTarget_19 (by decide) ?_
  exact vX11_isTarget_36 l hfl N
set_option maxRecDepth 20000 in
theorem vX11_isTarget_0 (l : Launch) (hfl : l.stackTraces = false) (N : Nat)  : am_V l cX11_isTarget 4 RX11 (am_E (some .boolean) yX11_isTarget.name) 4 126 0 (kX11_isTarget_0 N) := by
  refine av_live ?_
  refine av_aload_n dX11_isTarget_0 rfl ?_
  refine av_aload_n dX11_isTarget_1 rfl ?_
  refine av_iload_n dX11_isTarget_2 rfl ?_
  refine av_callV am_hT (mX11_isUnit l hfl N) am_ci11 ⟨by decide +kernel, by decide +kernel, by decide +kernel⟩ q648 q649 q628 q650 q651 (by decide) (by decide) dX11_isTarget_3 ?_
  refine av_ifeq (tgt := 18) dX11_isTarget_6 (by decide) ?_ ?_
  · exact vX11_isTarget_18 l hfl N
  refine av_aload_n dX11_isTarget_9 rfl ?_
  refine av_iload_n dX11_isTarget_10 rfl ?_
  refine av_iload_n dX11_isTarget_11 rfl ?_
  refine av_callV am_hT (mX11_isCell l hfl N) am_ci11 ⟨by decide +kernel, by decide +kernel, by decide +kernel⟩ q698 q699 q628 q700 q701 (by decide) (by decide) dX11_isTarget_12 ?_
  refine av_ifne (tgt := 22) dX11_isTarget_15 (by decide) ?_ ?_
  · refine av_aload_n dX11_isTarget_22 rfl ?_
    refine av_iload_n dX11_isTarget_23 rfl ?_
    refine av_iload_n dX11_isTarget_24 rfl ?_
    refine av_callV am_hT (mX11_isFree l hfl N) am_ci11 ⟨by decide +kernel, by decide +kernel, by decide +kernel⟩ q705 q706 q628 q707 q708 (by decide) (by decide) dX11_isTarget_25 ?_
    refine av_ifeq (tgt := 35) dX11_isTarget_28 (by decide) ?_ ?_
    · refine av_iconst (v := 2) dX11_isTarget_35 (by decide) ?_
      exact vX11_isTarget_36 l hfl N
    refine av_iconst (v := 0) dX11_isTarget_31 (by decide) ?_
    refine av_goto (tgt := 36) dX11_isTarget_32 (by decide) ?_
    exact vX11_isTarget_36 l hfl N
  exact vX11_isTarget_18 l hfl N
theorem mX11_isTarget (l : Launch) (hfl : l.stackTraces = false) (N : Nat) : am_M l yX11_isTarget cX11_isTarget 4 (some .boolean) 4 126 (fX11_isTarget N) := av_meth hfl (by decide +kernel) rfl (vX11_isTarget_0 l hfl N)
/-! MessengerBoardModel.copy([II[II)V -/
noncomputable def bX11_copy_3 (N : Nat) (r3 : am_K) : am_K :=
  c_ild 4 <|
  c_i (3934) <|
  c_icge (
  c_vret) <|
  c_rld 2 <|
  c_i (3934) <|
  c_ild 3 <|
  c_ii (fun x y => x * y) <|
  c_ild 4 <|
  c_ii (fun x y => x + y) <|
  c_rld 0 <|
  c_i (3934) <|
  c_ild 1 <|
  c_ii (fun x y => x * y) <|
  c_ild 4 <|
  c_ii (fun x y => x + y) <|
  c_ial <|
  c_ias <|
  c_inc 4 (1) <|
  c_live [0, 1, 2, 3, 4] r3
noncomputable def kX11_copy_3 (N : Nat) : am_K := c_live [0, 1, 2, 3, 4] (am_loop (bX11_copy_3 N) N)
noncomputable def kX11_copy_0 (N : Nat) : am_K := c_live [0, 1, 2, 3] <|
  c_i (0) <|
  c_ist 4 <|
  kX11_copy_3 N
noncomputable def fX11_copy (N : Nat) : am_F := am_fn 5 (kX11_copy_0 N)
set_option maxRecDepth 20000 in
theorem vX11_copy_3 (l : Launch) (hfl : l.stackTraces = false) (N : Nat)  : am_V l cX11_copy 5 RX11 (am_E none yX11_copy.name) 1 60 3 (kX11_copy_3 N) := by
  refine av_live ?_
  refine av_loop (fun r3 h3 => ?_) N
  refine av_iload dX11_copy_3 ?_
  refine av_sipush (v := 3934) dX11_copy_5 (by decide) ?_
  refine av_icge (tgt := 37) dX11_copy_8 (by decide) ?_ ?_
  · exact av_return_ am_hv dX11_copy_37
  refine av_aload_n dX11_copy_11 rfl ?_
  refine av_sipush (v := 3934) dX11_copy_12 (by decide) ?_
  refine av_iload_n dX11_copy_15 rfl ?_
  refine av_imul dX11_copy_16 ?_
  refine av_iload dX11_copy_17 ?_
  refine av_iadd dX11_copy_19 ?_
  refine av_aload_n dX11_copy_20 rfl ?_
  refine av_sipush (v := 3934) dX11_copy_21 (by decide) ?_
  refine av_iload_n dX11_copy_24 rfl ?_
  refine av_imul dX11_copy_25 ?_
  refine av_iload dX11_copy_26 ?_
  refine av_iadd dX11_copy_28 ?_
  refine av_iaload dX11_copy_29 ?_
  refine av_iastore dX11_copy_30 ?_
  refine av_iinc dX11_copy_31 (by decide) (by decide) ?_
  refine av_goto (tgt := 3) dX11_copy_34 (by decide) ?_
  exact av_live h3
set_option maxRecDepth 20000 in
theorem vX11_copy_0 (l : Launch) (hfl : l.stackTraces = false) (N : Nat)  : am_V l cX11_copy 5 RX11 (am_E none yX11_copy.name) 1 60 0 (kX11_copy_0 N) := by
  refine av_live ?_
  refine av_iconst (v := 0) dX11_copy_0 (by decide) ?_
  refine av_istore dX11_copy_1 (by decide) ?_
  exact vX11_copy_3 l hfl N
theorem mX11_copy (l : Launch) (hfl : l.stackTraces = false) (N : Nat) : am_M l yX11_copy cX11_copy 5 none 1 60 (fX11_copy N) := av_meth hfl (by decide +kernel) rfl (vX11_copy_0 l hfl N)
/-! MessengerBoardModel.begin()V -/
noncomputable def kX11_begin_0 (N : Nat) : am_K := c_live [0] <|
  c_rld 0 <|
  c_getr 11 0 <|
  c_i (0) <|
  c_rld 0 <|
  c_getr 11 2 <|
  c_i (0) <|
  c_callS 4 (fX11_copy N) <|
  c_vret
noncomputable def fX11_begin (N : Nat) : am_F := am_fn 1 (kX11_begin_0 N)
set_option maxRecDepth 20000 in
theorem vX11_begin_0 (l : Launch) (hfl : l.stackTraces = false) (N : Nat)  : am_V l cX11_begin 1 RX11 (am_E none yX11_begin.name) 2 84 0 (kX11_begin_0 N) := by
  refine av_live ?_
  refine av_aload_n dX11_begin_0 rfl ?_
  refine av_getr am_ci11 (by decide) am_f11_0 q610 dX11_begin_1 ?_
  refine av_iconst (v := 0) dX11_begin_4 (by decide) ?_
  refine av_aload_n dX11_begin_5 rfl ?_
  refine av_getr am_ci11 (by decide) am_f11_2 q612 dX11_begin_6 ?_
  refine av_iconst (v := 0) dX11_begin_9 (by decide) ?_
  refine av_callS am_hT (mX11_copy l hfl N) ⟨by decide +kernel, by decide +kernel, by decide +kernel⟩ q736 q737 q628 q738 (by decide) (by decide) dX11_begin_10 ?_
  exact av_return_ am_hv dX11_begin_13
theorem mX11_begin (l : Launch) (hfl : l.stackTraces = false) (N : Nat) : am_M l yX11_begin cX11_begin 1 none 2 84 (fX11_begin N) := av_meth hfl (by decide +kernel) rfl (vX11_begin_0 l hfl N)
/-! MessengerBoardModel.dispatch(III)V -/
noncomputable def kX11_dispatch_0 (N : Nat) : am_K := c_live [0, 1, 2, 3] <|
  c_rld 0 <|
  c_getr 11 0 <|
  c_i (4) <|
  c_ial <|
  c_ist 4 <|
  c_rld 0 <|
  c_getr 11 0 <|
  c_ild 4 <|
  c_i (0) <|
  c_callS 2 (fX11_orderAt N) <|
  c_ild 1 <|
  c_ias <|
  c_rld 0 <|
  c_getr 11 0 <|
  c_ild 4 <|
  c_i (1) <|
  c_callS 2 (fX11_orderAt N) <|
  c_ild 2 <|
  c_ias <|
  c_rld 0 <|
  c_getr 11 0 <|
  c_ild 4 <|
  c_i (2) <|
  c_callS 2 (fX11_orderAt N) <|
  c_ild 3 <|
  c_ias <|
  c_rld 0 <|
  c_getr 11 0 <|
  c_ild 4 <|
  c_i (3) <|
  c_callS 2 (fX11_orderAt N) <|
  c_i (0) <|
  c_ias <|
  c_rld 0 <|
  c_getr 11 0 <|
  c_ild 4 <|
  c_i (4) <|
  c_callS 2 (fX11_orderAt N) <|
  c_rld 0 <|
  c_callV 11 0 (fX11_turnNow N) <|
  c_ias <|
  c_rld 0 <|
  c_getr 11 0 <|
  c_ild 4 <|
  c_i (5) <|
  c_callS 2 (fX11_orderAt N) <|
  c_i (-1) <|
  c_ias <|
  c_rld 0 <|
  c_getr 11 0 <|
  c_ild 4 <|
  c_i (6) <|
  c_callS 2 (fX11_orderAt N) <|
  c_i (-1) <|
  c_ias <|
  c_rld 0 <|
  c_getr 11 0 <|
  c_ild 4 <|
  c_i (7) <|
  c_callS 2 (fX11_orderAt N) <|
  c_rld 0 <|
  c_getr 11 0 <|
  c_i (10) <|
  c_ial <|
  c_ias <|
  c_rld 0 <|
  c_getr 11 0 <|
  c_ild 4 <|
  c_i (8) <|
  c_callS 2 (fX11_orderAt N) <|
  c_rld 0 <|
  c_getr 11 0 <|
  c_i (11) <|
  c_ial <|
  c_ias <|
  c_rld 0 <|
  c_getr 11 0 <|
  c_ild 4 <|
  c_i (9) <|
  c_callS 2 (fX11_orderAt N) <|
  c_i (0) <|
  c_ias <|
  c_rld 0 <|
  c_getr 11 0 <|
  c_i (4) <|
  c_dup2 <|
  c_ial <|
  c_i (1) <|
  c_ii (fun x y => x + y) <|
  c_ias <|
  c_vret
noncomputable def fX11_dispatch (N : Nat) : am_F := am_fn 5 (kX11_dispatch_0 N)
set_option maxRecDepth 20000 in
theorem vX11_dispatch_0 (l : Launch) (hfl : l.stackTraces = false) (N : Nat)  : am_V l cX11_dispatch 5 RX11 (am_E none yX11_dispatch.name) 2 81 0 (kX11_dispatch_0 N) := by
  refine av_live ?_
  refine av_aload_n dX11_dispatch_0 rfl ?_
  refine av_getr am_ci11 (by decide) am_f11_0 q610 dX11_dispatch_1 ?_
  refine av_iconst (v := 4) dX11_dispatch_4 (by decide) ?_
  refine av_iaload dX11_dispatch_5 ?_
  refine av_istore dX11_dispatch_6 (by decide) ?_
  refine av_aload_n dX11_dispatch_8 rfl ?_
  refine av_getr am_ci11 (by decide) am_f11_0 q610 dX11_dispatch_9 ?_
  refine av_iload dX11_dispatch_12 ?_
  refine av_iconst (v := 0) dX11_dispatch_14 (by decide) ?_
  refine av_callS am_hT (mX11_orderAt l hfl N) ⟨by decide +kernel, by decide +kernel, by decide +kernel⟩ q641 q642 q628 q643 (by decide) (by decide) dX11_dispatch_15 ?_
  refine av_iload_n dX11_dispatch_18 rfl ?_
  refine av_iastore dX11_dispatch_19 ?_
  refine av_aload_n dX11_dispatch_20 rfl ?_
  refine av_getr am_ci11 (by decide) am_f11_0 q610 dX11_dispatch_21 ?_
  refine av_iload dX11_dispatch_24 ?_
  refine av_iconst (v := 1) dX11_dispatch_26 (by decide) ?_
  refine av_callS am_hT (mX11_orderAt l hfl N) ⟨by decide +kernel, by decide +kernel, by decide +kernel⟩ q641 q642 q628 q643 (by decide) (by decide) dX11_dispatch_27 ?_
  refine av_iload_n dX11_dispatch_30 rfl ?_
  refine av_iastore dX11_dispatch_31 ?_
  refine av_aload_n dX11_dispatch_32 rfl ?_
  refine av_getr am_ci11 (by decide) am_f11_0 q610 dX11_dispatch_33 ?_
  refine av_iload dX11_dispatch_36 ?_
  refine av_iconst (v := 2) dX11_dispatch_38 (by decide) ?_
  refine av_callS am_hT (mX11_orderAt l hfl N) ⟨by decide +kernel, by decide +kernel, by decide +kernel⟩ q641 q642 q628 q643 (by decide) (by decide) dX11_dispatch_39 ?_
  refine av_iload_n dX11_dispatch_42 rfl ?_
  refine av_iastore dX11_dispatch_43 ?_
  refine av_aload_n dX11_dispatch_44 rfl ?_
  refine av_getr am_ci11 (by decide) am_f11_0 q610 dX11_dispatch_45 ?_
  refine av_iload dX11_dispatch_48 ?_
  refine av_iconst (v := 3) dX11_dispatch_50 (by decide) ?_
  refine av_callS am_hT (mX11_orderAt l hfl N) ⟨by decide +kernel, by decide +kernel, by decide +kernel⟩ q641 q642 q628 q643 (by decide) (by decide) dX11_dispatch_51 ?_
  refine av_iconst (v := 0) dX11_dispatch_54 (by decide) ?_
  refine av_iastore dX11_dispatch_55 ?_
  refine av_aload_n dX11_dispatch_56 rfl ?_
  refine av_getr am_ci11 (by decide) am_f11_0 q610 dX11_dispatch_57 ?_
  refine av_iload dX11_dispatch_60 ?_
  refine av_iconst (v := 4) dX11_dispatch_62 (by decide) ?_
  refine av_callS am_hT (mX11_orderAt l hfl N) ⟨by decide +kernel, by decide +kernel, by decide +kernel⟩ q641 q642 q628 q643 (by decide) (by decide) dX11_dispatch_63 ?_
  refine av_aload_n dX11_dispatch_66 rfl ?_
  refine av_callV am_hT (mX11_turnNow l hfl N) am_ci11 ⟨by decide +kernel, by decide +kernel, by decide +kernel⟩ q675 q676 q628 q677 q678 (by decide) (by decide) dX11_dispatch_67 ?_
  refine av_iastore dX11_dispatch_70 ?_
  refine av_aload_n dX11_dispatch_71 rfl ?_
  refine av_getr am_ci11 (by decide) am_f11_0 q610 dX11_dispatch_72 ?_
  refine av_iload dX11_dispatch_75 ?_
  refine av_iconst (v := 5) dX11_dispatch_77 (by decide) ?_
  refine av_callS am_hT (mX11_orderAt l hfl N) ⟨by decide +kernel, by decide +kernel, by decide +kernel⟩ q641 q642 q628 q643 (by decide) (by decide) dX11_dispatch_78 ?_
  refine av_iconst (v := -1) dX11_dispatch_81 (by decide) ?_
  refine av_iastore dX11_dispatch_82 ?_
  refine av_aload_n dX11_dispatch_83 rfl ?_
  refine av_getr am_ci11 (by decide) am_f11_0 q610 dX11_dispatch_84 ?_
  refine av_iload dX11_dispatch_87 ?_
  refine av_bipush (v := 6) dX11_dispatch_89 (by decide) ?_
  refine av_callS am_hT (mX11_orderAt l hfl N) ⟨by decide +kernel, by decide +kernel, by decide +kernel⟩ q641 q642 q628 q643 (by decide) (by decide) dX11_dispatch_91 ?_
  refine av_iconst (v := -1) dX11_dispatch_94 (by decide) ?_
  refine av_iastore dX11_dispatch_95 ?_
  refine av_aload_n dX11_dispatch_96 rfl ?_
  refine av_getr am_ci11 (by decide) am_f11_0 q610 dX11_dispatch_97 ?_
  refine av_iload dX11_dispatch_100 ?_
  refine av_bipush (v := 7) dX11_dispatch_102 (by decide) ?_
  refine av_callS am_hT (mX11_orderAt l hfl N) ⟨by decide +kernel, by decide +kernel, by decide +kernel⟩ q641 q642 q628 q643 (by decide) (by decide) dX11_dispatch_104 ?_
  refine av_aload_n dX11_dispatch_107 rfl ?_
  refine av_getr am_ci11 (by decide) am_f11_0 q610 dX11_dispatch_108 ?_
  refine av_bipush (v := 10) dX11_dispatch_111 (by decide) ?_
  refine av_iaload dX11_dispatch_113 ?_
  refine av_iastore dX11_dispatch_114 ?_
  refine av_aload_n dX11_dispatch_115 rfl ?_
  refine av_getr am_ci11 (by decide) am_f11_0 q610 dX11_dispatch_116 ?_
  refine av_iload dX11_dispatch_119 ?_
  refine av_bipush (v := 8) dX11_dispatch_121 (by decide) ?_
  refine av_callS am_hT (mX11_orderAt l hfl N) ⟨by decide +kernel, by decide +kernel, by decide +kernel⟩ q641 q642 q628 q643 (by decide) (by decide) dX11_dispatch_123 ?_
  refine av_aload_n dX11_dispatch_126 rfl ?_
  refine av_getr am_ci11 (by decide) am_f11_0 q610 dX11_dispatch_127 ?_
  refine av_bipush (v := 11) dX11_dispatch_130 (by decide) ?_
  refine av_iaload dX11_dispatch_132 ?_
  refine av_iastore dX11_dispatch_133 ?_
  refine av_aload_n dX11_dispatch_134 rfl ?_
  refine av_getr am_ci11 (by decide) am_f11_0 q610 dX11_dispatch_135 ?_
  refine av_iload dX11_dispatch_138 ?_
  refine av_bipush (v := 9) dX11_dispatch_140 (by decide) ?_
  refine av_callS am_hT (mX11_orderAt l hfl N) ⟨by decide +kernel, by decide +kernel, by decide +kernel⟩ q641 q642 q628 q643 (by decide) (by decide) dX11_dispatch_142 ?_
  refine av_iconst (v := 0) dX11_dispatch_145 (by decide) ?_
  refine av_iastore dX11_dispatch_146 ?_
  refine av_aload_n dX11_dispatch_147 rfl ?_
  refine av_getr am_ci11 (by decide) am_f11_0 q610 dX11_dispatch_148 ?_
  refine av_iconst (v := 4) dX11_dispatch_151 (by decide) ?_
  refine av_dup2 dX11_dispatch_152 ?_
  refine av_iaload dX11_dispatch_153 ?_
  refine av_iconst (v := 1) dX11_dispatch_154 (by decide) ?_
  refine av_iadd dX11_dispatch_155 ?_
  refine av_iastore dX11_dispatch_156 ?_
  exact av_return_ am_hv dX11_dispatch_157
theorem mX11_dispatch (l : Launch) (hfl : l.stackTraces = false) (N : Nat) : am_M l yX11_dispatch cX11_dispatch 5 none 2 81 (fX11_dispatch N) := av_meth hfl (by decide +kernel) rfl (vX11_dispatch_0 l hfl N)
/-! MessengerBoardModel.sendPlanned()V -/
noncomputable def kX11_sendPlanned_75 (N : Nat) (r2 : am_K) : am_K := c_live [0, 1] <|
  c_inc 1 (1) <|
  c_live [0, 1] r2
noncomputable def bX11_sendPlanned_2 (N : Nat) (r2 : am_K) : am_K :=
  c_ild 1 <|
  c_rld 0 <|
  c_getr 11 0 <|
  c_i (8) <|
  c_ial <|
  c_icge (
  c_vret) <|
  c_rld 0 <|
  c_getr 11 0 <|
  c_ild 1 <|
  c_i (3) <|
  c_callS 2 (fX11_planAt N) <|
  c_ial <|
  c_rld 0 <|
  c_callV 11 0 (fX11_turnNow N) <|
  c_icne (
  kX11_sendPlanned_75 N r2) <|
  c_rld 0 <|
  c_getr 11 0 <|
  c_i (4) <|
  c_ial <|
  c_i (40) <|
  c_icge (
  kX11_sendPlanned_75 N r2) <|
  c_rld 0 <|
  c_rld 0 <|
  c_getr 11 0 <|
  c_ild 1 <|
  c_i (0) <|
  c_callS 2 (fX11_planAt N) <|
  c_ial <|
  c_rld 0 <|
  c_getr 11 0 <|
  c_ild 1 <|
  c_i (1) <|
  c_callS 2 (fX11_planAt N) <|
  c_ial <|
  c_rld 0 <|
  c_getr 11 0 <|
  c_ild 1 <|
  c_i (2) <|
  c_callS 2 (fX11_planAt N) <|
  c_ial <|
  c_callV 11 3 (fX11_dispatch N) <|
  kX11_sendPlanned_75 N r2
noncomputable def kX11_sendPlanned_2 (N : Nat) : am_K := c_live [0, 1] (am_loop (bX11_sendPlanned_2 N) N)
noncomputable def kX11_sendPlanned_0 (N : Nat) : am_K := c_live [0] <|
  c_i (0) <|
  c_ist 1 <|
  kX11_sendPlanned_2 N
noncomputable def fX11_sendPlanned (N : Nat) : am_F := am_fn 2 (kX11_sendPlanned_0 N)
set_option maxRecDepth 20000 in
theorem vX11_sendPlanned_75 (l : Launch) (hfl : l.stackTraces = false) (N : Nat)  {r2 : am_K} (h2 : am_V l cX11_sendPlanned 2 RX11 (am_E none yX11_sendPlanned.name) 3 105 2 r2) : am_V l cX11_sendPlanned 2 RX11 (am_E none yX11_sendPlanned.name) 3 105 75 (kX11_sendPlanned_75 N r2) := by
  refine av_live ?_
  refine av_iinc dX11_sendPlanned_75 (by decide) (by decide) ?_
  refine av_goto (tgt := 2) dX11_sendPlanned_78 (by decide) ?_
  exact av_live h2
set_option maxRecDepth 20000 in
theorem vX11_sendPlanned_2 (l : Launch) (hfl : l.stackTraces = false) (N : Nat)  : am_V l cX11_sendPlanned 2 RX11 (am_E none yX11_sendPlanned.name) 3 105 2 (kX11_sendPlanned_2 N) := by
  refine av_live ?_
  refine av_loop (fun r2 h2 => ?_) N
  refine av_iload_n dX11_sendPlanned_2 rfl ?_
  refine av_aload_n dX11_sendPlanned_3 rfl ?_
  refine av_getr am_ci11 (by decide) am_f11_0 q610 dX11_sendPlanned_4 ?_
  refine av_bipush (v := 8) dX11_sendPlanned_7 (by decide) ?_
  refine av_iaload dX11_sendPlanned_9 ?_
  refine av_icge (tgt := 81) dX11_sendPlanned_10 (by decide) ?_ ?_
  · exact av_return_ am_hv dX11_sendPlanned_81
  refine av_aload_n dX11_sendPlanned_13 rfl ?_
  refine av_getr am_ci11 (by decide) am_f11_0 q610 dX11_sendPlanned_14 ?_
  refine av_iload_n dX11_sendPlanned_17 rfl ?_
  refine av_iconst (v := 3) dX11_sendPlanned_18 (by decide) ?_
  refine av_callS am_hT (mX11_planAt l hfl N) ⟨by decide +kernel, by decide +kernel, by decide +kernel⟩ q691 q692 q628 q693 (by decide) (by decide) dX11_sendPlanned_19 ?_
  refine av_iaload dX11_sendPlanned_22 ?_
  refine av_aload_n dX11_sendPlanned_23 rfl ?_
  refine av_callV am_hT (mX11_turnNow l hfl N) am_ci11 ⟨by decide +kernel, by decide +kernel, by decide +kernel⟩ q675 q676 q628 q677 q678 (by decide) (by decide) dX11_sendPlanned_24 ?_
  refine av_icne (tgt := 75) dX11_sendPlanned_27 (by decide) ?_ ?_
  · exact vX11_sendPlanned_75 l hfl N h2
  refine av_aload_n dX11_sendPlanned_30 rfl ?_
  refine av_getr am_ci11 (by decide) am_f11_0 q610 dX11_sendPlanned_31 ?_
  refine av_iconst (v := 4) dX11_sendPlanned_34 (by decide) ?_
  refine av_iaload dX11_sendPlanned_35 ?_
  refine av_bipush (v := 40) dX11_sendPlanned_36 (by decide) ?_
  refine av_icge (tgt := 75) dX11_sendPlanned_38 (by decide) ?_ ?_
  · exact vX11_sendPlanned_75 l hfl N h2
  refine av_aload_n dX11_sendPlanned_41 rfl ?_
  refine av_aload_n dX11_sendPlanned_42 rfl ?_
  refine av_getr am_ci11 (by decide) am_f11_0 q610 dX11_sendPlanned_43 ?_
  refine av_iload_n dX11_sendPlanned_46 rfl ?_
  refine av_iconst (v := 0) dX11_sendPlanned_47 (by decide) ?_
  refine av_callS am_hT (mX11_planAt l hfl N) ⟨by decide +kernel, by decide +kernel, by decide +kernel⟩ q691 q692 q628 q693 (by decide) (by decide) dX11_sendPlanned_48 ?_
  refine av_iaload dX11_sendPlanned_51 ?_
  refine av_aload_n dX11_sendPlanned_52 rfl ?_
  refine av_getr am_ci11 (by decide) am_f11_0 q610 dX11_sendPlanned_53 ?_
  refine av_iload_n dX11_sendPlanned_56 rfl ?_
  refine av_iconst (v := 1) dX11_sendPlanned_57 (by decide) ?_
  refine av_callS am_hT (mX11_planAt l hfl N) ⟨by decide +kernel, by decide +kernel, by decide +kernel⟩ q691 q692 q628 q693 (by decide) (by decide) dX11_sendPlanned_58 ?_
  refine av_iaload dX11_sendPlanned_61 ?_
  refine av_aload_n dX11_sendPlanned_62 rfl ?_
  refine av_getr am_ci11 (by decide) am_f11_0 q610 dX11_sendPlanned_63 ?_
  refine av_iload_n dX11_sendPlanned_66 rfl ?_
  refine av_iconst (v := 2) dX11_sendPlanned_67 (by decide) ?_
  refine av_callS am_hT (mX11_planAt l hfl N) ⟨by decide +kernel, by decide +kernel, by decide +kernel⟩ q691 q692 q628 q693 (by decide) (by decide) dX11_sendPlanned_68 ?_
  refine av_iaload dX11_sendPlanned_71 ?_
  refine av_callV am_hT (mX11_dispatch l hfl N) am_ci11 ⟨by decide +kernel, by decide +kernel, by decide +kernel⟩ q739 q740 q628 q741 q742 (by decide) (by decide) dX11_sendPlanned_72 ?_
  exact vX11_sendPlanned_75 l hfl N h2
set_option maxRecDepth 20000 in
theorem vX11_sendPlanned_0 (l : Launch) (hfl : l.stackTraces = false) (N : Nat)  : am_V l cX11_sendPlanned 2 RX11 (am_E none yX11_sendPlanned.name) 3 105 0 (kX11_sendPlanned_0 N) := by
  refine av_live ?_
  refine av_iconst (v := 0) dX11_sendPlanned_0 (by decide) ?_
  refine av_istore_n dX11_sendPlanned_1 rfl (by decide) ?_
  exact vX11_sendPlanned_2 l hfl N
theorem mX11_sendPlanned (l : Launch) (hfl : l.stackTraces = false) (N : Nat) : am_M l yX11_sendPlanned cX11_sendPlanned 2 none 3 105 (fX11_sendPlanned N) := av_meth hfl (by decide +kernel) rfl (vX11_sendPlanned_0 l hfl N)
/-! MessengerBoardModel.isThere(I)Z -/
noncomputable def kX11_isThere_44 (N : Nat) : am_K := c_live [] <|
  c_zret
noncomputable def kX11_isThere_43 (N : Nat) : am_K := c_live [] <|
  c_i (0) <|
  kX11_isThere_44 N
noncomputable def kX11_isThere_0 (N : Nat) : am_K := c_live [0, 1] <|
  c_rld 0 <|
  c_ild 1 <|
  c_i (0) <|
  c_callV 11 2 (fX11_ofOrder N) <|
  c_ist 2 <|
  c_rld 0 <|
  c_ild 1 <|
  c_i (7) <|
  c_callV 11 2 (fX11_ofOrder N) <|
  c_rld 0 <|
  c_ild 2 <|
  c_i (0) <|
  c_callV 11 2 (fX11_ofUnit N) <|
  c_icne (
  kX11_isThere_43 N) <|
  c_rld 0 <|
  c_ild 1 <|
  c_i (8) <|
  c_callV 11 2 (fX11_ofOrder N) <|
  c_rld 0 <|
  c_ild 2 <|
  c_i (1) <|
  c_callV 11 2 (fX11_ofUnit N) <|
  c_icne (
  kX11_isThere_43 N) <|
  c_i (1) <|
  kX11_isThere_44 N
noncomputable def fX11_isThere (N : Nat) : am_F := am_fn 3 (kX11_isThere_0 N)
set_option maxRecDepth 20000 in
theorem vX11_isThere_44 (l : Launch) (hfl : l.stackTraces = false) (N : Nat)  : am_V l cX11_isThere 3 RX11 (am_E (some .boolean) yX11_isThere.name) 3 103 44 (kX11_isThere_44 N) := by
  refine av_live ?_
  exact av_zreturn am_hz dX11_isThere_44
set_option maxRecDepth 20000 in
theorem vX11_isThere_43 (l : Launch) (hfl : l.stackTraces = false) (N : Nat)  : am_V l cX11_isThere 3 RX11 (am_E (some .boolean) yX11_isThere.name) 3 103 43 (kX11_isThere_43 N) := by
  refine av_live ?_
  refine av_iconst (v := 0) dX11_isThere_43 (by decide) ?_
  exact vX11_isThere_44 l hfl N
set_option maxRecDepth 20000 in
theorem vX11_isThere_0 (l : Launch) (hfl : l.stackTraces = false) (N : Nat)  : am_V l cX11_isThere 3 RX11 (am_E (some .boolean) yX11_isThere.name) 3 103 0 (kX11_isThere_0 N) := by
  refine av_live ?_
  refine av_aload_n dX11_isThere_0 rfl ?_
  refine av_iload_n dX11_isThere_1 rfl ?_
  refine av_iconst (v := 0) dX11_isThere_2 (by decide) ?_
  refine av_callV am_hT (mX11_ofOrder l hfl N) am_ci11 ⟨by decide +kernel, by decide +kernel, by decide +kernel⟩ q644 q645 q628 q646 q647 (by decide) (by decide) dX11_isThere_3 ?_
  refine av_istore_n dX11_isThere_6 rfl (by decide) ?_
  refine av_aload_n dX11_isThere_7 rfl ?_
  refine av_iload_n dX11_isThere_8 rfl ?_
  refine av_bipush (v := 7) dX11_isThere_9 (by decide) ?_
  refine av_callV am_hT (mX11_ofOrder l hfl N) am_ci11 ⟨by decide +kernel, by decide +kernel, by decide +kernel⟩ q644 q645 q628 q646 q647 (by decide) (by decide) dX11_isThere_11 ?_
  refine av_aload_n dX11_isThere_14 rfl ?_
  refine av_iload_n dX11_isThere_15 rfl ?_
  refine av_iconst (v := 0) dX11_isThere_16 (by decide) ?_
  refine av_callV am_hT (mX11_ofUnit l hfl N) am_ci11 ⟨by decide +kernel, by decide +kernel, by decide +kernel⟩ q660 q661 q628 q662 q663 (by decide) (by decide) dX11_isThere_17 ?_
  refine av_icne (tgt := 43) dX11_isThere_20 (by decide) ?_ ?_
  · exact vX11_isThere_43 l hfl N
  refine av_aload_n dX11_isThere_23 rfl ?_
  refine av_iload_n dX11_isThere_24 rfl ?_
  refine av_bipush (v := 8) dX11_isThere_25 (by decide) ?_
  refine av_callV am_hT (mX11_ofOrder l hfl N) am_ci11 ⟨by decide +kernel, by decide +kernel, by decide +kernel⟩ q644 q645 q628 q646 q647 (by decide) (by decide) dX11_isThere_27 ?_
  refine av_aload_n dX11_isThere_30 rfl ?_
  refine av_iload_n dX11_isThere_31 rfl ?_
  refine av_iconst (v := 1) dX11_isThere_32 (by decide) ?_
  refine av_callV am_hT (mX11_ofUnit l hfl N) am_ci11 ⟨by decide +kernel, by decide +kernel, by decide +kernel⟩ q660 q661 q628 q662 q663 (by decide) (by decide) dX11_isThere_33 ?_
  refine av_icne (tgt := 43) dX11_isThere_36 (by decide) ?_ ?_
  · exact vX11_isThere_43 l hfl N
  refine av_iconst (v := 1) dX11_isThere_39 (by decide) ?_
  refine av_goto (tgt := 44) dX11_isThere_40 (by decide) ?_
  exact vX11_isThere_44 l hfl N
theorem mX11_isThere (l : Launch) (hfl : l.stackTraces = false) (N : Nat) : am_M l yX11_isThere cX11_isThere 3 (some .boolean) 3 103 (fX11_isThere N) := av_meth hfl (by decide +kernel) rfl (vX11_isThere_0 l hfl N)
/-! MessengerBoardModel.become(II)V -/
noncomputable def kX11_become_87 (N : Nat) : am_K := c_live [] <|
  c_ias <|
  c_vret
noncomputable def kX11_become_0 (N : Nat) : am_K := c_live [0, 1, 2] <|
  c_i (544) <|
  c_i (3) <|
  c_rld 0 <|
  c_getr 11 0 <|
  c_i (7) <|
  c_ial <|
  c_ii (fun x y => x * y) <|
  c_ii (fun x y => x + y) <|
  c_ist 3 <|
  c_rld 0 <|
  c_getr 11 0 <|
  c_ild 3 <|
  c_rld 0 <|
  c_callV 11 0 (fX11_turnNow N) <|
  c_ias <|
  c_rld 0 <|
  c_getr 11 0 <|
  c_ild 3 <|
  c_i (1) <|
  c_ii (fun x y => x + y) <|
  c_ild 1 <|
  c_ias <|
  c_rld 0 <|
  c_getr 11 0 <|
  c_ild 3 <|
  c_i (2) <|
  c_ii (fun x y => x + y) <|
  c_ild 2 <|
  c_ias <|
  c_rld 0 <|
  c_getr 11 0 <|
  c_i (7) <|
  c_dup2 <|
  c_ial <|
  c_i (1) <|
  c_ii (fun x y => x + y) <|
  c_ias <|
  c_rld 0 <|
  c_getr 11 0 <|
  c_ild 1 <|
  c_i (3) <|
  c_callS 2 (fX11_orderAt N) <|
  c_ild 2 <|
  c_ias <|
  c_rld 0 <|
  c_getr 11 0 <|
  c_ild 1 <|
  c_i (6) <|
  c_callS 2 (fX11_orderAt N) <|
  c_ild 2 <|
  c_i (1) <|
  c_icne (
  c_rld 0 <|
  c_callV 11 0 (fX11_turnNow N) <|
  kX11_become_87 N) <|
  c_i (-1) <|
  kX11_become_87 N
noncomputable def fX11_become (N : Nat) : am_F := am_fn 4 (kX11_become_0 N)
set_option maxRecDepth 20000 in
theorem vX11_become_87 (l : Launch) (hfl : l.stackTraces = false) (N : Nat)  : am_V l cX11_become 4 RX11 (am_E none yX11_become.name) 2 81 87 (kX11_become_87 N) := by
  refine av_live ?_
  refine av_iastore dX11_become_87 ?_
  exact av_return_ am_hv dX11_become_88
set_option maxRecDepth 20000 in
theorem vX11_become_0 (l : Launch) (hfl : l.stackTraces = false) (N : Nat)  : am_V l cX11_become 4 RX11 (am_E none yX11_become.name) 2 81 0 (kX11_become_0 N) := by
  refine av_live ?_
  refine av_sipush (v := 544) dX11_become_0 (by decide) ?_
  refine av_iconst (v := 3) dX11_become_3 (by decide) ?_
  refine av_aload_n dX11_become_4 rfl ?_
  refine av_getr am_ci11 (by decide) am_f11_0 q610 dX11_become_5 ?_
  refine av_bipush (v := 7) dX11_become_8 (by decide) ?_
  refine av_iaload dX11_become_10 ?_
  refine av_imul dX11_become_11 ?_
  refine av_iadd dX11_become_12 ?_
  refine av_istore_n dX11_become_13 rfl (by decide) ?_
  refine av_aload_n dX11_become_14 rfl ?_
  refine av_getr am_ci11 (by decide) am_f11_0 q610 dX11_become_15 ?_
  refine av_iload_n dX11_become_18 rfl ?_
  refine av_aload_n dX11_become_19 rfl ?_
  refine av_callV am_hT (mX11_turnNow l hfl N) am_ci11 ⟨by decide +kernel, by decide +kernel, by decide +kernel⟩ q675 q676 q628 q677 q678 (by decide) (by decide) dX11_become_20 ?_
  refine av_iastore dX11_become_23 ?_
  refine av_aload_n dX11_become_24 rfl ?_
  refine av_getr am_ci11 (by decide) am_f11_0 q610 dX11_become_25 ?_
  refine av_iload_n dX11_become_28 rfl ?_
  refine av_iconst (v := 1) dX11_become_29 (by decide) ?_
  refine av_iadd dX11_become_30 ?_
  refine av_iload_n dX11_become_31 rfl ?_
  refine av_iastore dX11_become_32 ?_
  refine av_aload_n dX11_become_33 rfl ?_
  refine av_getr am_ci11 (by decide) am_f11_0 q610 dX11_become_34 ?_
  refine av_iload_n dX11_become_37 rfl ?_
  refine av_iconst (v := 2) dX11_become_38 (by decide) ?_
  refine av_iadd dX11_become_39 ?_
  refine av_iload_n dX11_become_40 rfl ?_
  refine av_iastore dX11_become_41 ?_
  refine av_aload_n dX11_become_42 rfl ?_
  refine av_getr am_ci11 (by decide) am_f11_0 q610 dX11_become_43 ?_
  refine av_bipush (v := 7) dX11_become_46 (by decide) ?_
  refine av_dup2 dX11_become_48 ?_
  refine av_iaload dX11_become_49 ?_
  refine av_iconst (v := 1) dX11_become_50 (by decide) ?_
  refine av_iadd dX11_become_51 ?_
  refine av_iastore dX11_become_52 ?_
  refine av_aload_n dX11_become_53 rfl ?_
  refine av_getr am_ci11 (by decide) am_f11_0 q610 dX11_become_54 ?_
  refine av_iload_n dX11_become_57 rfl ?_
  refine av_iconst (v := 3) dX11_become_58 (by decide) ?_
  refine av_callS am_hT (mX11_orderAt l hfl N) ⟨by decide +kernel, by decide +kernel, by decide +kernel⟩ q641 q642 q628 q643 (by decide) (by decide) dX11_become_59 ?_
  refine av_iload_n dX11_become_62 rfl ?_
  refine av_iastore dX11_become_63 ?_
  refine av_aload_n dX11_become_64 rfl ?_
  refine av_getr am_ci11 (by decide) am_f11_0 q610 dX11_become_65 ?_
  refine av_iload_n dX11_become_68 rfl ?_
  refine av_bipush (v := 6) dX11_become_69 (by decide) ?_
  refine av_callS am_hT (mX11_orderAt l hfl N) ⟨by decide +kernel, by decide +kernel, by decide +kernel⟩ q641 q642 q628 q643 (by decide) (by decide) dX11_become_71 ?_
  refine av_iload_n dX11_become_74 rfl ?_
  refine av_iconst (v := 1) dX11_become_75 (by decide) ?_
  refine av_icne (tgt := 83) dX11_become_76 (by decide) ?_ ?_
  · refine av_aload_n dX11_become_83 rfl ?_
    refine av_callV am_hT (mX11_turnNow l hfl N) am_ci11 ⟨by decide +kernel, by decide +kernel, by decide +kernel⟩ q675 q676 q628 q677 q678 (by decide) (by decide) dX11_become_84 ?_
    exact vX11_become_87 l hfl N
  refine av_iconst (v := -1) dX11_become_79 (by decide) ?_
  refine av_goto (tgt := 87) dX11_become_80 (by decide) ?_
  exact vX11_become_87 l hfl N
theorem mX11_become (l : Launch) (hfl : l.stackTraces = false) (N : Nat) : am_M l yX11_become cX11_become 4 none 2 81 (fX11_become N) := av_meth hfl (by decide +kernel) rfl (vX11_become_0 l hfl N)
/-! MessengerBoardModel.arrive(I)V -/
noncomputable def kX11_arrive_56 (N : Nat) : am_K := c_live [0, 1, 2] <|
  c_rld 0 <|
  c_ild 1 <|
  c_i (1) <|
  c_callV 11 2 (fX11_become N) <|
  c_rld 0 <|
  c_getr 11 0 <|
  c_ild 2 <|
  c_i (3) <|
  c_callS 2 (fX11_unitAt N) <|
  c_ild 1 <|
  c_ias <|
  c_vret
noncomputable def kX11_arrive_0 (N : Nat) : am_K := c_live [0, 1] <|
  c_rld 0 <|
  c_ild 1 <|
  c_i (0) <|
  c_callV 11 2 (fX11_ofOrder N) <|
  c_ist 2 <|
  c_rld 0 <|
  c_getr 11 0 <|
  c_ild 1 <|
  c_i (5) <|
  c_callS 2 (fX11_orderAt N) <|
  c_rld 0 <|
  c_callV 11 0 (fX11_turnNow N) <|
  c_ias <|
  c_rld 0 <|
  c_ild 2 <|
  c_i (3) <|
  c_callV 11 2 (fX11_ofUnit N) <|
  c_ild 1 <|
  c_icle (
  c_rld 0 <|
  c_ild 2 <|
  c_callV 11 1 (fX11_obeyedBy N) <|
  c_ist 3 <|
  c_ild 3 <|
  c_i (-1) <|
  c_iceq (
  kX11_arrive_56 N) <|
  c_rld 0 <|
  c_ild 3 <|
  c_i (6) <|
  c_callV 11 2 (fX11_become N) <|
  kX11_arrive_56 N) <|
  c_rld 0 <|
  c_ild 1 <|
  c_i (3) <|
  c_callV 11 2 (fX11_become N) <|
  c_vret
noncomputable def fX11_arrive (N : Nat) : am_F := am_fn 4 (kX11_arrive_0 N)
set_option maxRecDepth 20000 in
theorem vX11_arrive_56 (l : Launch) (hfl : l.stackTraces = false) (N : Nat)  : am_V l cX11_arrive 4 RX11 (am_E none yX11_arrive.name) 4 125 56 (kX11_arrive_56 N) := by
  refine av_live ?_
  refine av_aload_n dX11_arrive_56 rfl ?_
  refine av_iload_n dX11_arrive_57 rfl ?_
  refine av_iconst (v := 1) dX11_arrive_58 (by decide) ?_
  refine av_callV am_hT (mX11_become l hfl N) am_ci11 ⟨by decide +kernel, by decide +kernel, by decide +kernel⟩ q743 q744 q628 q745 q746 (by decide) (by decide) dX11_arrive_59 ?_
  refine av_aload_n dX11_arrive_62 rfl ?_
  refine av_getr am_ci11 (by decide) am_f11_0 q610 dX11_arrive_63 ?_
  refine av_iload_n dX11_arrive_66 rfl ?_
  refine av_iconst (v := 3) dX11_arrive_67 (by decide) ?_
  refine av_callS am_hT (mX11_unitAt l hfl N) ⟨by decide +kernel, by decide +kernel, by decide +kernel⟩ q638 q639 q628 q640 (by decide) (by decide) dX11_arrive_68 ?_
  refine av_iload_n dX11_arrive_71 rfl ?_
  refine av_iastore dX11_arrive_72 ?_
  exact av_return_ am_hv dX11_arrive_73
set_option maxRecDepth 20000 in
theorem vX11_arrive_0 (l : Launch) (hfl : l.stackTraces = false) (N : Nat)  : am_V l cX11_arrive 4 RX11 (am_E none yX11_arrive.name) 4 125 0 (kX11_arrive_0 N) := by
  refine av_live ?_
  refine av_aload_n dX11_arrive_0 rfl ?_
  refine av_iload_n dX11_arrive_1 rfl ?_
  refine av_iconst (v := 0) dX11_arrive_2 (by decide) ?_
  refine av_callV am_hT (mX11_ofOrder l hfl N) am_ci11 ⟨by decide +kernel, by decide +kernel, by decide +kernel⟩ q644 q645 q628 q646 q647 (by decide) (by decide) dX11_arrive_3 ?_
  refine av_istore_n dX11_arrive_6 rfl (by decide) ?_
  refine av_aload_n dX11_arrive_7 rfl ?_
  refine av_getr am_ci11 (by decide) am_f11_0 q610 dX11_arrive_8 ?_
  refine av_iload_n dX11_arrive_11 rfl ?_
  refine av_iconst (v := 5) dX11_arrive_12 (by decide) ?_
  refine av_callS am_hT (mX11_orderAt l hfl N) ⟨by decide +kernel, by decide +kernel, by decide +kernel⟩ q641 q642 q628 q643 (by decide) (by decide) dX11_arrive_13 ?_
  refine av_aload_n dX11_arrive_16 rfl ?_
  refine av_callV am_hT (mX11_turnNow l hfl N) am_ci11 ⟨by decide +kernel, by decide +kernel, by decide +kernel⟩ q675 q676 q628 q677 q678 (by decide) (by decide) dX11_arrive_17 ?_
  refine av_iastore dX11_arrive_20 ?_
  refine av_aload_n dX11_arrive_21 rfl ?_
  refine av_iload_n dX11_arrive_22 rfl ?_
  refine av_iconst (v := 3) dX11_arrive_23 (by decide) ?_
  refine av_callV am_hT (mX11_ofUnit l hfl N) am_ci11 ⟨by decide +kernel, by decide +kernel, by decide +kernel⟩ q660 q661 q628 q662 q663 (by decide) (by decide) dX11_arrive_24 ?_
  refine av_iload_n dX11_arrive_27 rfl ?_
  refine av_icle (tgt := 38) dX11_arrive_28 (by decide) ?_ ?_
  · refine av_aload_n dX11_arrive_38 rfl ?_
    refine av_iload_n dX11_arrive_39 rfl ?_
    refine av_callV am_hT (mX11_obeyedBy l hfl N) am_ci11 ⟨by decide +kernel, by decide +kernel, by decide +kernel⟩ q656 q657 q628 q658 q659 (by decide) (by decide) dX11_arrive_40 ?_
    refine av_istore_n dX11_arrive_43 rfl (by decide) ?_
    refine av_iload_n dX11_arrive_44 rfl ?_
    refine av_iconst (v := -1) dX11_arrive_45 (by decide) ?_
    refine av_iceq (tgt := 56) dX11_arrive_46 (by decide) ?_ ?_
    · exact vX11_arrive_56 l hfl N
    refine av_aload_n dX11_arrive_49 rfl ?_
    refine av_iload_n dX11_arrive_50 rfl ?_
    refine av_bipush (v := 6) dX11_arrive_51 (by decide) ?_
    refine av_callV am_hT (mX11_become l hfl N) am_ci11 ⟨by decide +kernel, by decide +kernel, by decide +kernel⟩ q743 q744 q628 q745 q746 (by decide) (by decide) dX11_arrive_53 ?_
    exact vX11_arrive_56 l hfl N
  refine av_aload_n dX11_arrive_31 rfl ?_
  refine av_iload_n dX11_arrive_32 rfl ?_
  refine av_iconst (v := 3) dX11_arrive_33 (by decide) ?_
  refine av_callV am_hT (mX11_become l hfl N) am_ci11 ⟨by decide +kernel, by decide +kernel, by decide +kernel⟩ q743 q744 q628 q745 q746 (by decide) (by decide) dX11_arrive_34 ?_
  exact av_return_ am_hv dX11_arrive_37
theorem mX11_arrive (l : Launch) (hfl : l.stackTraces = false) (N : Nat) : am_M l yX11_arrive cX11_arrive 4 none 4 125 (fX11_arrive N) := av_meth hfl (by decide +kernel) rfl (vX11_arrive_0 l hfl N)
/-! MessengerBoardModel.ride(I)Z -/
noncomputable def kX11_ride_158 (N : Nat) : am_K := c_live [] <|
  c_zret
noncomputable def kX11_ride_144 (N : Nat) : am_K := c_live [0, 1] <|
  c_rld 0 <|
  c_ild 1 <|
  c_i (3) <|
  c_callV 11 2 (fX11_ofOrder N) <|
  c_ifne (
  c_i (0) <|
  kX11_ride_158 N) <|
  c_i (1) <|
  kX11_ride_158 N
noncomputable def kX11_ride_0 (N : Nat) : am_K := c_live [0, 1] <|
  c_rld 0 <|
  c_rld 0 <|
  c_ild 1 <|
  c_i (7) <|
  c_callV 11 2 (fX11_ofOrder N) <|
  c_rld 0 <|
  c_ild 1 <|
  c_i (8) <|
  c_callV 11 2 (fX11_ofOrder N) <|
  c_callV 11 2 (fX11_stepFrom N) <|
  c_ist 2 <|
  c_ild 2 <|
  c_i (-1) <|
  c_icne (
  c_rld 0 <|
  c_getr 11 0 <|
  c_ild 1 <|
  c_i (7) <|
  c_callS 2 (fX11_orderAt N) <|
  c_dup2 <|
  c_ial <|
  c_ild 2 <|
  c_i (1) <|
  c_callS 2 (fX11_beside N) <|
  c_ii (fun x y => x + y) <|
  c_ias <|
  c_rld 0 <|
  c_getr 11 0 <|
  c_ild 1 <|
  c_i (8) <|
  c_callS 2 (fX11_orderAt N) <|
  c_dup2 <|
  c_ial <|
  c_ild 2 <|
  c_i (0) <|
  c_callS 2 (fX11_beside N) <|
  c_ii (fun x y => x + y) <|
  c_ias <|
  c_rld 0 <|
  c_getr 11 0 <|
  c_ild 1 <|
  c_i (9) <|
  c_callS 2 (fX11_orderAt N) <|
  c_dup2 <|
  c_ial <|
  c_i (1) <|
  c_ii (fun x y => x + y) <|
  c_ias <|
  c_rld 0 <|
  c_rld 0 <|
  c_ild 1 <|
  c_i (7) <|
  c_callV 11 2 (fX11_ofOrder N) <|
  c_rld 0 <|
  c_ild 1 <|
  c_i (8) <|
  c_callV 11 2 (fX11_ofOrder N) <|
  c_rld 0 <|
  c_callV 11 0 (fX11_turnNow N) <|
  c_callV 11 3 (fX11_watcher N) <|
  c_ist 3 <|
  c_ild 3 <|
  c_i (-1) <|
  c_iceq (
  c_rld 0 <|
  c_ild 1 <|
  c_callV 11 1 (fX11_isThere N) <|
  c_ifeq (
  kX11_ride_144 N) <|
  c_rld 0 <|
  c_ild 1 <|
  c_callV 11 1 (fX11_arrive N) <|
  kX11_ride_144 N) <|
  c_rld 0 <|
  c_getr 11 0 <|
  c_ild 3 <|
  c_i (6) <|
  c_callS 2 (fX11_picketAt N) <|
  c_dup2 <|
  c_ial <|
  c_i (1) <|
  c_ii (fun x y => x + y) <|
  c_ias <|
  c_rld 0 <|
  c_ild 1 <|
  c_i (5) <|
  c_callV 11 2 (fX11_become N) <|
  kX11_ride_144 N) <|
  c_i (0) <|
  c_zret
noncomputable def fX11_ride (N : Nat) : am_F := am_fn 4 (kX11_ride_0 N)
set_option maxRecDepth 20000 in
theorem vX11_ride_158 (l : Launch) (hfl : l.stackTraces = false) (N : Nat)  : am_V l cX11_ride 4 RX11 (am_E (some .boolean) yX11_ride.name) 5 151 158 (kX11_ride_158 N) := by
  refine av_live ?_
  exact av_zreturn am_hz dX11_ride_158
set_option maxRecDepth 20000 in
theorem vX11_ride_144 (l : Launch) (hfl : l.stackTraces = false) (N : Nat)  : am_V l cX11_ride 4 RX11 (am_E (some .boolean) yX11_ride.name) 5 151 144 (kX11_ride_144 N) := by
  refine av_live ?_
  refine av_aload_n dX11_ride_144 rfl ?_
  refine av_iload_n dX11_ride_145 rfl ?_
  refine av_iconst (v := 3) dX11_ride_146 (by decide) ?_
  refine av_callV am_hT (mX11_ofOrder l hfl N) am_ci11 ⟨by decide +kernel, by decide +kernel, by decide +kernel⟩ q644 q645 q628 q646 q647 (by decide) (by decide) dX11_ride_147 ?_
  refine av_ifne (tgt := 157) dX11_ride_150 (by decide) ?_ ?_
  · refine av_iconst (v := 0) dX11_ride_157 (by decide) ?_
    exact vX11_ride_158 l hfl N
  refine av_iconst (v := 1) dX11_ride_153 (by decide) ?_
  refine av_goto (tgt := 158) dX11_ride_154 (by decide) ?_
  exact vX11_ride_158 l hfl N
set_option maxRecDepth 20000 in
theorem vX11_ride_0 (l : Launch) (hfl : l.stackTraces = false) (N : Nat)  : am_V l cX11_ride 4 RX11 (am_E (some .boolean) yX11_ride.name) 5 151 0 (kX11_ride_0 N) := by
  refine av_live ?_
  refine av_aload_n dX11_ride_0 rfl ?_
  refine av_aload_n dX11_ride_1 rfl ?_
  refine av_iload_n dX11_ride_2 rfl ?_
  refine av_bipush (v := 7) dX11_ride_3 (by decide) ?_
  refine av_callV am_hT (mX11_ofOrder l hfl N) am_ci11 ⟨by decide +kernel, by decide +kernel, by decide +kernel⟩ q644 q645 q628 q646 q647 (by decide) (by decide) dX11_ride_5 ?_
  refine av_aload_n dX11_ride_8 rfl ?_
  refine av_iload_n dX11_ride_9 rfl ?_
  refine av_bipush (v := 8) dX11_ride_10 (by decide) ?_
  refine av_callV am_hT (mX11_ofOrder l hfl N) am_ci11 ⟨by decide +kernel, by decide +kernel, by decide +kernel⟩ q644 q645 q628 q646 q647 (by decide) (by decide) dX11_ride_12 ?_
  refine av_callV am_hT (mX11_stepFrom l hfl N) am_ci11 ⟨by decide +kernel, by decide +kernel, by decide +kernel⟩ q729 q730 q628 q731 q732 (by decide) (by decide) dX11_ride_15 ?_
  refine av_istore_n dX11_ride_18 rfl (by decide) ?_
  refine av_iload_n dX11_ride_19 rfl ?_
  refine av_iconst (v := -1) dX11_ride_20 (by decide) ?_
  refine av_icne (tgt := 26) dX11_ride_21 (by decide) ?_ ?_
  · refine av_aload_n dX11_ride_26 rfl ?_
    refine av_getr am_ci11 (by decide) am_f11_0 q610 dX11_ride_27 ?_
    refine av_iload_n dX11_ride_30 rfl ?_
    refine av_bipush (v := 7) dX11_ride_31 (by decide) ?_
    refine av_callS am_hT (mX11_orderAt l hfl N) ⟨by decide +kernel, by decide +kernel, by decide +kernel⟩ q641 q642 q628 q643 (by decide) (by decide) dX11_ride_33 ?_
    refine av_dup2 dX11_ride_36 ?_
    refine av_iaload dX11_ride_37 ?_
    refine av_iload_n dX11_ride_38 rfl ?_
    refine av_iconst (v := 1) dX11_ride_39 (by decide) ?_
    refine av_callS am_hT (mX11_beside l hfl N) ⟨by decide +kernel, by decide +kernel, by decide +kernel⟩ q718 q719 q628 q720 (by decide) (by decide) dX11_ride_40 ?_
    refine av_iadd dX11_ride_43 ?_
    refine av_iastore dX11_ride_44 ?_
    refine av_aload_n dX11_ride_45 rfl ?_
    refine av_getr am_ci11 (by decide) am_f11_0 q610 dX11_ride_46 ?_
    refine av_iload_n dX11_ride_49 rfl ?_
    refine av_bipush (v := 8) dX11_ride_50 (by decide) ?_
    refine av_callS am_hT (mX11_orderAt l hfl N) ⟨by decide +kernel, by decide +kernel, by decide +kernel⟩ q641 q642 q628 q643 (by decide) (by decide) dX11_ride_52 ?_
    refine av_dup2 dX11_ride_55 ?_
    refine av_iaload dX11_ride_56 ?_
    refine av_iload_n dX11_ride_57 rfl ?_
    refine av_iconst (v := 0) dX11_ride_58 (by decide) ?_
    refine av_callS am_hT (mX11_beside l hfl N) ⟨by decide +kernel, by decide +kernel, by decide +kernel⟩ q718 q719 q628 q720 (by decide) (by decide) dX11_ride_59 ?_
    refine av_iadd dX11_ride_62 ?_
    refine av_iastore dX11_ride_63 ?_
    refine av_aload_n dX11_ride_64 rfl ?_
    refine av_getr am_ci11 (by decide) am_f11_0 q610 dX11_ride_65 ?_
    refine av_iload_n dX11_ride_68 rfl ?_
    refine av_bipush (v := 9) dX11_ride_69 (by decide) ?_
    refine av_callS am_hT (mX11_orderAt l hfl N) ⟨by decide +kernel, by decide +kernel, by decide +kernel⟩ q641 q642 q628 q643 (by decide) (by decide) dX11_ride_71 ?_
    refine av_dup2 dX11_ride_74 ?_
    refine av_iaload dX11_ride_75 ?_
    refine av_iconst (v := 1) dX11_ride_76 (by decide) ?_
    refine av_iadd dX11_ride_77 ?_
    refine av_iastore dX11_ride_78 ?_
    refine av_aload_n dX11_ride_79 rfl ?_
    refine av_aload_n dX11_ride_80 rfl ?_
    refine av_iload_n dX11_ride_81 rfl ?_
    refine av_bipush (v := 7) dX11_ride_82 (by decide) ?_
    refine av_callV am_hT (mX11_ofOrder l hfl N) am_ci11 ⟨by decide +kernel, by decide +kernel, by decide +kernel⟩ q644 q645 q628 q646 q647 (by decide) (by decide) dX11_ride_84 ?_
    refine av_aload_n dX11_ride_87 rfl ?_
    refine av_iload_n dX11_ride_88 rfl ?_
    refine av_bipush (v := 8) dX11_ride_89 (by decide) ?_
    refine av_callV am_hT (mX11_ofOrder l hfl N) am_ci11 ⟨by decide +kernel, by decide +kernel, by decide +kernel⟩ q644 q645 q628 q646 q647 (by decide) (by decide) dX11_ride_91 ?_
    refine av_aload_n dX11_ride_94 rfl ?_
    refine av_callV am_hT (mX11_turnNow l hfl N) am_ci11 ⟨by decide +kernel, by decide +kernel, by decide +kernel⟩ q675 q676 q628 q677 q678 (by decide) (by decide) dX11_ride_95 ?_
    refine av_callV am_hT (mX11_watcher l hfl N) am_ci11 ⟨by decide +kernel, by decide +kernel, by decide +kernel⟩ q714 q715 q628 q716 q717 (by decide) (by decide) dX11_ride_98 ?_
    refine av_istore_n dX11_ride_101 rfl (by decide) ?_
    refine av_iload_n dX11_ride_102 rfl ?_
    refine av_iconst (v := -1) dX11_ride_103 (by decide) ?_
    refine av_iceq (tgt := 131) dX11_ride_104 (by decide) ?_ ?_
    · refine av_aload_n dX11_ride_131 rfl ?_
      refine av_iload_n dX11_ride_132 rfl ?_
      refine av_callV am_hT (mX11_isThere l hfl N) am_ci11 ⟨by decide +kernel, by decide +kernel, by decide +kernel⟩ q747 q748 q628 q749 q750 (by decide) (by decide) dX11_ride_133 ?_
      refine av_ifeq (tgt := 144) dX11_ride_136 (by decide) ?_ ?_
      · exact vX11_ride_144 l hfl N
      refine av_aload_n dX11_ride_139 rfl ?_
      refine av_iload_n dX11_ride_140 rfl ?_
      refine av_callV am_hT (mX11_arrive l hfl N) am_ci11 ⟨by decide +kernel, by decide +kernel, by decide +kernel⟩ q751 q752 q628 q753 q754 (by decide) (by decide) dX11_ride_141 ?_
      exact vX11_ride_144 l hfl N
    refine av_aload_n dX11_ride_107 rfl ?_
    refine av_getr am_ci11 (by decide) am_f11_0 q610 dX11_ride_108 ?_
    refine av_iload_n dX11_ride_111 rfl ?_
    refine av_bipush (v := 6) dX11_ride_112 (by decide) ?_
    refine av_callS am_hT (mX11_picketAt l hfl N) ⟨by decide +kernel, by decide +kernel, by decide +kernel⟩ q664 q665 q628 q666 (by decide) (by decide) dX11_ride_114 ?_
    refine av_dup2 dX11_ride_117 ?_
    refine av_iaload dX11_ride_118 ?_
    refine av_iconst (v := 1) dX11_ride_119 (by decide) ?_
    refine av_iadd dX11_ride_120 ?_
    refine av_iastore dX11_ride_121 ?_
    refine av_aload_n dX11_ride_122 rfl ?_
    refine av_iload_n dX11_ride_123 rfl ?_
    refine av_iconst (v := 5) dX11_ride_124 (by decide) ?_
    refine av_callV am_hT (mX11_become l hfl N) am_ci11 ⟨by decide +kernel, by decide +kernel, by decide +kernel⟩ q743 q744 q628 q745 q746 (by decide) (by decide) dX11_ride_125 ?_
    refine av_goto (tgt := 144) dX11_ride_128 (by decide) ?_
    exact vX11_ride_144 l hfl N
  refine av_iconst (v := 0) dX11_ride_24 (by decide) ?_
  exact av_zreturn am_hz dX11_ride_25
theorem mX11_ride (l : Launch) (hfl : l.stackTraces = false) (N : Nat) : am_M l yX11_ride cX11_ride 4 (some .boolean) 5 151 (fX11_ride N) := av_meth hfl (by decide +kernel) rfl (vX11_ride_0 l hfl N)
/-! MessengerBoardModel.carry(I)V -/
noncomputable def kX11_carry_51 (N : Nat) : am_K := c_live [] <|
  c_vret
noncomputable def kX11_carry_0 (N : Nat) : am_K := c_live [0, 1] <|
  c_rld 0 <|
  c_ild 1 <|
  c_callV 11 1 (fX11_isThere N) <|
  c_ifeq (
  c_rld 0 <|
  c_ild 1 <|
  c_i (0) <|
  c_callV 11 2 (fX11_ofOrder N) <|
  c_ist 2 <|
  c_rld 0 <|
  c_rld 0 <|
  c_ild 2 <|
  c_i (0) <|
  c_callV 11 2 (fX11_ofUnit N) <|
  c_rld 0 <|
  c_ild 2 <|
  c_i (1) <|
  c_callV 11 2 (fX11_ofUnit N) <|
  c_callV 11 2 (fX11_layFar N) <|
  c_rld 0 <|
  c_ild 1 <|
  c_callV 11 1 (fX11_ride N) <|
  c_ifeq (
  kX11_carry_51 N) <|
  c_rld 0 <|
  c_ild 1 <|
  c_callV 11 1 (fX11_ride N) <|
  c_pop <|
  kX11_carry_51 N) <|
  c_rld 0 <|
  c_ild 1 <|
  c_callV 11 1 (fX11_arrive N) <|
  c_vret
noncomputable def fX11_carry (N : Nat) : am_F := am_fn 3 (kX11_carry_0 N)
set_option maxRecDepth 20000 in
theorem vX11_carry_51 (l : Launch) (hfl : l.stackTraces = false) (N : Nat)  : am_V l cX11_carry 3 RX11 (am_E none yX11_carry.name) 6 176 51 (kX11_carry_51 N) := by
  refine av_live ?_
  exact av_return_ am_hv dX11_carry_51
set_option maxRecDepth 20000 in
theorem vX11_carry_0 (l : Launch) (hfl : l.stackTraces = false) (N : Nat)  : am_V l cX11_carry 3 RX11 (am_E none yX11_carry.name) 6 176 0 (kX11_carry_0 N) := by
  refine av_live ?_
  refine av_aload_n dX11_carry_0 rfl ?_
  refine av_iload_n dX11_carry_1 rfl ?_
  refine av_callV am_hT (mX11_isThere l hfl N) am_ci11 ⟨by decide +kernel, by decide +kernel, by decide +kernel⟩ q747 q748 q628 q749 q750 (by decide) (by decide) dX11_carry_2 ?_
  refine av_ifeq (tgt := 14) dX11_carry_5 (by decide) ?_ ?_
  · refine av_aload_n dX11_carry_14 rfl ?_
    refine av_iload_n dX11_carry_15 rfl ?_
    refine av_iconst (v := 0) dX11_carry_16 (by decide) ?_
    refine av_callV am_hT (mX11_ofOrder l hfl N) am_ci11 ⟨by decide +kernel, by decide +kernel, by decide +kernel⟩ q644 q645 q628 q646 q647 (by decide) (by decide) dX11_carry_17 ?_
    refine av_istore_n dX11_carry_20 rfl (by decide) ?_
    refine av_aload_n dX11_carry_21 rfl ?_
    refine av_aload_n dX11_carry_22 rfl ?_
    refine av_iload_n dX11_carry_23 rfl ?_
    refine av_iconst (v := 0) dX11_carry_24 (by decide) ?_
    refine av_callV am_hT (mX11_ofUnit l hfl N) am_ci11 ⟨by decide +kernel, by decide +kernel, by decide +kernel⟩ q660 q661 q628 q662 q663 (by decide) (by decide) dX11_carry_25 ?_
    refine av_aload_n dX11_carry_28 rfl ?_
    refine av_iload_n dX11_carry_29 rfl ?_
    refine av_iconst (v := 1) dX11_carry_30 (by decide) ?_
    refine av_callV am_hT (mX11_ofUnit l hfl N) am_ci11 ⟨by decide +kernel, by decide +kernel, by decide +kernel⟩ q660 q661 q628 q662 q663 (by decide) (by decide) dX11_carry_31 ?_
    refine av_callV am_hT (mX11_layFar l hfl N) am_ci11 ⟨by decide +kernel, by decide +kernel, by decide +kernel⟩ q725 q726 q628 q727 q728 (by decide) (by decide) dX11_carry_34 ?_
    refine av_aload_n dX11_carry_37 rfl ?_
    refine av_iload_n dX11_carry_38 rfl ?_
    refine av_callV am_hT (mX11_ride l hfl N) am_ci11 ⟨by decide +kernel, by decide +kernel, by decide +kernel⟩ q755 q756 q628 q757 q758 (by decide) (by decide) dX11_carry_39 ?_
    refine av_ifeq (tgt := 51) dX11_carry_42 (by decide) ?_ ?_
    · exact vX11_carry_51 l hfl N
    refine av_aload_n dX11_carry_45 rfl ?_
    refine av_iload_n dX11_carry_46 rfl ?_
    refine av_callV am_hT (mX11_ride l hfl N) am_ci11 ⟨by decide +kernel, by decide +kernel, by decide +kernel⟩ q755 q756 q628 q757 q758 (by decide) (by decide) dX11_carry_47 ?_
    refine av_pop dX11_carry_50 ?_
    exact vX11_carry_51 l hfl N
  refine av_aload_n dX11_carry_8 rfl ?_
  refine av_iload_n dX11_carry_9 rfl ?_
  refine av_callV am_hT (mX11_arrive l hfl N) am_ci11 ⟨by decide +kernel, by decide +kernel, by decide +kernel⟩ q751 q752 q628 q753 q754 (by decide) (by decide) dX11_carry_10 ?_
  exact av_return_ am_hv dX11_carry_13
theorem mX11_carry (l : Launch) (hfl : l.stackTraces = false) (N : Nat) : am_M l yX11_carry cX11_carry 3 none 6 176 (fX11_carry N) := av_meth hfl (by decide +kernel) rfl (vX11_carry_0 l hfl N)
/-! MessengerBoardModel.isInGoal(II)Z -/
noncomputable def kX11_isInGoal_35 (N : Nat) : am_K := c_live [] <|
  c_zret
noncomputable def kX11_isInGoal_34 (N : Nat) : am_K := c_live [] <|
  c_i (0) <|
  kX11_isInGoal_35 N
noncomputable def kX11_isInGoal_0 (N : Nat) : am_K := c_live [0, 1, 2] <|
  c_rld 0 <|
  c_ild 1 <|
  c_i (0) <|
  c_callV 11 2 (fX11_ofUnit N) <|
  c_rld 0 <|
  c_ild 2 <|
  c_i (1) <|
  c_callV 11 2 (fX11_ofOrder N) <|
  c_icne (
  kX11_isInGoal_34 N) <|
  c_rld 0 <|
  c_ild 1 <|
  c_i (1) <|
  c_callV 11 2 (fX11_ofUnit N) <|
  c_rld 0 <|
  c_ild 2 <|
  c_i (2) <|
  c_callV 11 2 (fX11_ofOrder N) <|
  c_icne (
  kX11_isInGoal_34 N) <|
  c_i (1) <|
  kX11_isInGoal_35 N
noncomputable def fX11_isInGoal (N : Nat) : am_F := am_fn 3 (kX11_isInGoal_0 N)
set_option maxRecDepth 20000 in
theorem vX11_isInGoal_35 (l : Launch) (hfl : l.stackTraces = false) (N : Nat)  : am_V l cX11_isInGoal 3 RX11 (am_E (some .boolean) yX11_isInGoal.name) 3 103 35 (kX11_isInGoal_35 N) := by
  refine av_live ?_
  exact av_zreturn am_hz dX11_isInGoal_35
set_option maxRecDepth 20000 in
theorem vX11_isInGoal_34 (l : Launch) (hfl : l.stackTraces = false) (N : Nat)  : am_V l cX11_isInGoal 3 RX11 (am_E (some .boolean) yX11_isInGoal.name) 3 103 34 (kX11_isInGoal_34 N) := by
  refine av_live ?_
  refine av_iconst (v := 0) dX11_isInGoal_34 (by decide) ?_
  exact vX11_isInGoal_35 l hfl N
set_option maxRecDepth 20000 in
theorem vX11_isInGoal_0 (l : Launch) (hfl : l.stackTraces = false) (N : Nat)  : am_V l cX11_isInGoal 3 RX11 (am_E (some .boolean) yX11_isInGoal.name) 3 103 0 (kX11_isInGoal_0 N) := by
  refine av_live ?_
  refine av_aload_n dX11_isInGoal_0 rfl ?_
  refine av_iload_n dX11_isInGoal_1 rfl ?_
  refine av_iconst (v := 0) dX11_isInGoal_2 (by decide) ?_
  refine av_callV am_hT (mX11_ofUnit l hfl N) am_ci11 ⟨by decide +kernel, by decide +kernel, by decide +kernel⟩ q660 q661 q628 q662 q663 (by decide) (by decide) dX11_isInGoal_3 ?_
  refine av_aload_n dX11_isInGoal_6 rfl ?_
  refine av_iload_n dX11_isInGoal_7 rfl ?_
  refine av_iconst (v := 1) dX11_isInGoal_8 (by decide) ?_
  refine av_callV am_hT (mX11_ofOrder l hfl N) am_ci11 ⟨by decide +kernel, by decide +kernel, by decide +kernel⟩ q644 q645 q628 q646 q647 (by decide) (by decide) dX11_isInGoal_9 ?_
  refine av_icne (tgt := 34) dX11_isInGoal_12 (by decide) ?_ ?_
  · exact vX11_isInGoal_34 l hfl N
  refine av_aload_n dX11_isInGoal_15 rfl ?_
  refine av_iload_n dX11_isInGoal_16 rfl ?_
  refine av_iconst (v := 1) dX11_isInGoal_17 (by decide) ?_
  refine av_callV am_hT (mX11_ofUnit l hfl N) am_ci11 ⟨by decide +kernel, by decide +kernel, by decide +kernel⟩ q660 q661 q628 q662 q663 (by decide) (by decide) dX11_isInGoal_18 ?_
  refine av_aload_n dX11_isInGoal_21 rfl ?_
  refine av_iload_n dX11_isInGoal_22 rfl ?_
  refine av_iconst (v := 2) dX11_isInGoal_23 (by decide) ?_
  refine av_callV am_hT (mX11_ofOrder l hfl N) am_ci11 ⟨by decide +kernel, by decide +kernel, by decide +kernel⟩ q644 q645 q628 q646 q647 (by decide) (by decide) dX11_isInGoal_24 ?_
  refine av_icne (tgt := 34) dX11_isInGoal_27 (by decide) ?_ ?_
  · exact vX11_isInGoal_34 l hfl N
  refine av_iconst (v := 1) dX11_isInGoal_30 (by decide) ?_
  refine av_goto (tgt := 35) dX11_isInGoal_31 (by decide) ?_
  exact vX11_isInGoal_35 l hfl N
theorem mX11_isInGoal (l : Launch) (hfl : l.stackTraces = false) (N : Nat) : am_M l yX11_isInGoal cX11_isInGoal 3 (some .boolean) 3 103 (fX11_isInGoal N) := av_meth hfl (by decide +kernel) rfl (vX11_isInGoal_0 l hfl N)
/-! MessengerBoardModel.walk(II)V -/
noncomputable def kX11_walk_74 (N : Nat) : am_K := c_live [] <|
  c_vret
noncomputable def kX11_walk_0 (N : Nat) : am_K := c_live [0, 1, 2] <|
  c_rld 0 <|
  c_rld 0 <|
  c_ild 2 <|
  c_i (1) <|
  c_callV 11 2 (fX11_ofOrder N) <|
  c_rld 0 <|
  c_ild 2 <|
  c_i (2) <|
  c_callV 11 2 (fX11_ofOrder N) <|
  c_callV 11 2 (fX11_layFar N) <|
  c_rld 0 <|
  c_rld 0 <|
  c_ild 1 <|
  c_i (0) <|
  c_callV 11 2 (fX11_ofUnit N) <|
  c_rld 0 <|
  c_ild 1 <|
  c_i (1) <|
  c_callV 11 2 (fX11_ofUnit N) <|
  c_callV 11 2 (fX11_stepFrom N) <|
  c_ist 3 <|
  c_ild 3 <|
  c_i (-1) <|
  c_iceq (
  kX11_walk_74 N) <|
  c_rld 0 <|
  c_getr 11 0 <|
  c_ild 1 <|
  c_i (0) <|
  c_callS 2 (fX11_unitAt N) <|
  c_dup2 <|
  c_ial <|
  c_ild 3 <|
  c_i (1) <|
  c_callS 2 (fX11_beside N) <|
  c_ii (fun x y => x + y) <|
  c_ias <|
  c_rld 0 <|
  c_getr 11 0 <|
  c_ild 1 <|
  c_i (1) <|
  c_callS 2 (fX11_unitAt N) <|
  c_dup2 <|
  c_ial <|
  c_ild 3 <|
  c_i (0) <|
  c_callS 2 (fX11_beside N) <|
  c_ii (fun x y => x + y) <|
  c_ias <|
  kX11_walk_74 N
noncomputable def fX11_walk (N : Nat) : am_F := am_fn 4 (kX11_walk_0 N)
set_option maxRecDepth 20000 in
theorem vX11_walk_74 (l : Launch) (hfl : l.stackTraces = false) (N : Nat)  : am_V l cX11_walk 4 RX11 (am_E none yX11_walk.name) 6 176 74 (kX11_walk_74 N) := by
  refine av_live ?_
  exact av_return_ am_hv dX11_walk_74
set_option maxRecDepth 20000 in
theorem vX11_walk_0 (l : Launch) (hfl : l.stackTraces = false) (N : Nat)  : am_V l cX11_walk 4 RX11 (am_E none yX11_walk.name) 6 176 0 (kX11_walk_0 N) := by
  refine av_live ?_
  refine av_aload_n dX11_walk_0 rfl ?_
  refine av_aload_n dX11_walk_1 rfl ?_
  refine av_iload_n dX11_walk_2 rfl ?_
  refine av_iconst (v := 1) dX11_walk_3 (by decide) ?_
  refine av_callV am_hT (mX11_ofOrder l hfl N) am_ci11 ⟨by decide +kernel, by decide +kernel, by decide +kernel⟩ q644 q645 q628 q646 q647 (by decide) (by decide) dX11_walk_4 ?_
  refine av_aload_n dX11_walk_7 rfl ?_
  refine av_iload_n dX11_walk_8 rfl ?_
  refine av_iconst (v := 2) dX11_walk_9 (by decide) ?_
  refine av_callV am_hT (mX11_ofOrder l hfl N) am_ci11 ⟨by decide +kernel, by decide +kernel, by decide +kernel⟩ q644 q645 q628 q646 q647 (by decide) (by decide) dX11_walk_10 ?_
  refine av_callV am_hT (mX11_layFar l hfl N) am_ci11 ⟨by decide +kernel, by decide +kernel, by decide +kernel⟩ q725 q726 q628 q727 q728 (by decide) (by decide) dX11_walk_13 ?_
  refine av_aload_n dX11_walk_16 rfl ?_
  refine av_aload_n dX11_walk_17 rfl ?_
  refine av_iload_n dX11_walk_18 rfl ?_
  refine av_iconst (v := 0) dX11_walk_19 (by decide) ?_
  refine av_callV am_hT (mX11_ofUnit l hfl N) am_ci11 ⟨by decide +kernel, by decide +kernel, by decide +kernel⟩ q660 q661 q628 q662 q663 (by decide) (by decide) dX11_walk_20 ?_
  refine av_aload_n dX11_walk_23 rfl ?_
  refine av_iload_n dX11_walk_24 rfl ?_
  refine av_iconst (v := 1) dX11_walk_25 (by decide) ?_
  refine av_callV am_hT (mX11_ofUnit l hfl N) am_ci11 ⟨by decide +kernel, by decide +kernel, by decide +kernel⟩ q660 q661 q628 q662 q663 (by decide) (by decide) dX11_walk_26 ?_
  refine av_callV am_hT (mX11_stepFrom l hfl N) am_ci11 ⟨by decide +kernel, by decide +kernel, by decide +kernel⟩ q729 q730 q628 q731 q732 (by decide) (by decide) dX11_walk_29 ?_
  refine av_istore_n dX11_walk_32 rfl (by decide) ?_
  refine av_iload_n dX11_walk_33 rfl ?_
  refine av_iconst (v := -1) dX11_walk_34 (by decide) ?_
  refine av_iceq (tgt := 74) dX11_walk_35 (by decide) ?_ ?_
  · exact vX11_walk_74 l hfl N
  refine av_aload_n dX11_walk_38 rfl ?_
  refine av_getr am_ci11 (by decide) am_f11_0 q610 dX11_walk_39 ?_
  refine av_iload_n dX11_walk_42 rfl ?_
  refine av_iconst (v := 0) dX11_walk_43 (by decide) ?_
  refine av_callS am_hT (mX11_unitAt l hfl N) ⟨by decide +kernel, by decide +kernel, by decide +kernel⟩ q638 q639 q628 q640 (by decide) (by decide) dX11_walk_44 ?_
  refine av_dup2 dX11_walk_47 ?_
  refine av_iaload dX11_walk_48 ?_
  refine av_iload_n dX11_walk_49 rfl ?_
  refine av_iconst (v := 1) dX11_walk_50 (by decide) ?_
  refine av_callS am_hT (mX11_beside l hfl N) ⟨by decide +kernel, by decide +kernel, by decide +kernel⟩ q718 q719 q628 q720 (by decide) (by decide) dX11_walk_51 ?_
  refine av_iadd dX11_walk_54 ?_
  refine av_iastore dX11_walk_55 ?_
  refine av_aload_n dX11_walk_56 rfl ?_
  refine av_getr am_ci11 (by decide) am_f11_0 q610 dX11_walk_57 ?_
  refine av_iload_n dX11_walk_60 rfl ?_
  refine av_iconst (v := 1) dX11_walk_61 (by decide) ?_
  refine av_callS am_hT (mX11_unitAt l hfl N) ⟨by decide +kernel, by decide +kernel, by decide +kernel⟩ q638 q639 q628 q640 (by decide) (by decide) dX11_walk_62 ?_
  refine av_dup2 dX11_walk_65 ?_
  refine av_iaload dX11_walk_66 ?_
  refine av_iload_n dX11_walk_67 rfl ?_
  refine av_iconst (v := 0) dX11_walk_68 (by decide) ?_
  refine av_callS am_hT (mX11_beside l hfl N) ⟨by decide +kernel, by decide +kernel, by decide +kernel⟩ q718 q719 q628 q720 (by decide) (by decide) dX11_walk_69 ?_
  refine av_iadd dX11_walk_72 ?_
  refine av_iastore dX11_walk_73 ?_
  exact vX11_walk_74 l hfl N
theorem mX11_walk (l : Launch) (hfl : l.stackTraces = false) (N : Nat) : am_M l yX11_walk cX11_walk 4 none 6 176 (fX11_walk N) := av_meth hfl (by decide +kernel) rfl (vX11_walk_0 l hfl N)
/-! MessengerBoardModel.move(I)V -/
noncomputable def kX11_move_56 (N : Nat) : am_K := c_live [] <|
  c_vret
noncomputable def kX11_move_41 (N : Nat) : am_K := c_live [0, 1, 2] <|
  c_rld 0 <|
  c_ild 1 <|
  c_ild 2 <|
  c_callV 11 2 (fX11_isInGoal N) <|
  c_ifeq (
  kX11_move_56 N) <|
  c_rld 0 <|
  c_ild 2 <|
  c_i (2) <|
  c_callV 11 2 (fX11_become N) <|
  kX11_move_56 N
noncomputable def kX11_move_0 (N : Nat) : am_K := c_live [0, 1] <|
  c_rld 0 <|
  c_ild 1 <|
  c_callV 11 1 (fX11_obeyedBy N) <|
  c_ist 2 <|
  c_ild 2 <|
  c_i (-1) <|
  c_icne (
  c_rld 0 <|
  c_ild 1 <|
  c_ild 2 <|
  c_callV 11 2 (fX11_isInGoal N) <|
  c_ifne (
  kX11_move_41 N) <|
  c_rld 0 <|
  c_callV 11 0 (fX11_turnNow N) <|
  c_rld 0 <|
  c_ild 1 <|
  c_i (2) <|
  c_callV 11 2 (fX11_ofUnit N) <|
  c_irem <|
  c_ifne (
  kX11_move_41 N) <|
  c_rld 0 <|
  c_ild 1 <|
  c_ild 2 <|
  c_callV 11 2 (fX11_walk N) <|
  kX11_move_41 N) <|
  c_vret
noncomputable def fX11_move (N : Nat) : am_F := am_fn 3 (kX11_move_0 N)
set_option maxRecDepth 20000 in
theorem vX11_move_56 (l : Launch) (hfl : l.stackTraces = false) (N : Nat)  : am_V l cX11_move 3 RX11 (am_E none yX11_move.name) 7 199 56 (kX11_move_56 N) := by
  refine av_live ?_
  exact av_return_ am_hv dX11_move_56
set_option maxRecDepth 20000 in
theorem vX11_move_41 (l : Launch) (hfl : l.stackTraces = false) (N : Nat)  : am_V l cX11_move 3 RX11 (am_E none yX11_move.name) 7 199 41 (kX11_move_41 N) := by
  refine av_live ?_
  refine av_aload_n dX11_move_41 rfl ?_
  refine av_iload_n dX11_move_42 rfl ?_
  refine av_iload_n dX11_move_43 rfl ?_
  refine av_callV am_hT (mX11_isInGoal l hfl N) am_ci11 ⟨by decide +kernel, by decide +kernel, by decide +kernel⟩ q759 q760 q628 q761 q762 (by decide) (by decide) dX11_move_44 ?_
  refine av_ifeq (tgt := 56) dX11_move_47 (by decide) ?_ ?_
  · exact vX11_move_56 l hfl N
  refine av_aload_n dX11_move_50 rfl ?_
  refine av_iload_n dX11_move_51 rfl ?_
  refine av_iconst (v := 2) dX11_move_52 (by decide) ?_
  refine av_callV am_hT (mX11_become l hfl N) am_ci11 ⟨by decide +kernel, by decide +kernel, by decide +kernel⟩ q743 q744 q628 q745 q746 (by decide) (by decide) dX11_move_53 ?_
  exact vX11_move_56 l hfl N
set_option maxRecDepth 20000 in
theorem vX11_move_0 (l : Launch) (hfl : l.stackTraces = false) (N : Nat)  : am_V l cX11_move 3 RX11 (am_E none yX11_move.name) 7 199 0 (kX11_move_0 N) := by
  refine av_live ?_
  refine av_aload_n dX11_move_0 rfl ?_
  refine av_iload_n dX11_move_1 rfl ?_
  refine av_callV am_hT (mX11_obeyedBy l hfl N) am_ci11 ⟨by decide +kernel, by decide +kernel, by decide +kernel⟩ q656 q657 q628 q658 q659 (by decide) (by decide) dX11_move_2 ?_
  refine av_istore_n dX11_move_5 rfl (by decide) ?_
  refine av_iload_n dX11_move_6 rfl ?_
  refine av_iconst (v := -1) dX11_move_7 (by decide) ?_
  refine av_icne (tgt := 12) dX11_move_8 (by decide) ?_ ?_
  · refine av_aload_n dX11_move_12 rfl ?_
    refine av_iload_n dX11_move_13 rfl ?_
    refine av_iload_n dX11_move_14 rfl ?_
    refine av_callV am_hT (mX11_isInGoal l hfl N) am_ci11 ⟨by decide +kernel, by decide +kernel, by decide +kernel⟩ q759 q760 q628 q761 q762 (by decide) (by decide) dX11_move_15 ?_
    refine av_ifne (tgt := 41) dX11_move_18 (by decide) ?_ ?_
    · exact vX11_move_41 l hfl N
    refine av_aload_n dX11_move_21 rfl ?_
    refine av_callV am_hT (mX11_turnNow l hfl N) am_ci11 ⟨by decide +kernel, by decide +kernel, by decide +kernel⟩ q675 q676 q628 q677 q678 (by decide) (by decide) dX11_move_22 ?_
    refine av_aload_n dX11_move_25 rfl ?_
    refine av_iload_n dX11_move_26 rfl ?_
    refine av_iconst (v := 2) dX11_move_27 (by decide) ?_
    refine av_callV am_hT (mX11_ofUnit l hfl N) am_ci11 ⟨by decide +kernel, by decide +kernel, by decide +kernel⟩ q660 q661 q628 q662 q663 (by decide) (by decide) dX11_move_28 ?_
    refine av_irem dX11_move_31 ?_
    refine av_ifne (tgt := 41) dX11_move_32 (by decide) ?_ ?_
    · exact vX11_move_41 l hfl N
    refine av_aload_n dX11_move_35 rfl ?_
    refine av_iload_n dX11_move_36 rfl ?_
    refine av_iload_n dX11_move_37 rfl ?_
    refine av_callV am_hT (mX11_walk l hfl N) am_ci11 ⟨by decide +kernel, by decide +kernel, by decide +kernel⟩ q763 q764 q628 q765 q766 (by decide) (by decide) dX11_move_38 ?_
    exact vX11_move_41 l hfl N
  exact av_return_ am_hv dX11_move_11
theorem mX11_move (l : Launch) (hfl : l.stackTraces = false) (N : Nat) : am_M l yX11_move cX11_move 3 none 7 199 (fX11_move N) := av_meth hfl (by decide +kernel) rfl (vX11_move_0 l hfl N)
/-! MessengerBoardModel.remember()V -/
noncomputable def kX11_remember_57 (N : Nat) : am_K := c_live [] <|
  c_vret
noncomputable def bX11_remember_2 (N : Nat) (r2 : am_K) : am_K :=
  c_ild 1 <|
  c_rld 0 <|
  c_getr 11 0 <|
  c_i (2) <|
  c_ial <|
  c_icge (
  kX11_remember_57 N) <|
  c_rld 0 <|
  c_callV 11 0 (fX11_turnNow N) <|
  c_i (500) <|
  c_icgt (
  kX11_remember_57 N) <|
  c_rld 0 <|
  c_getr 11 0 <|
  c_ild 1 <|
  c_rld 0 <|
  c_callV 11 0 (fX11_turnNow N) <|
  c_callS 2 (fX11_wasSlot N) <|
  c_i (100) <|
  c_rld 0 <|
  c_ild 1 <|
  c_i (1) <|
  c_callV 11 2 (fX11_ofUnit N) <|
  c_ii (fun x y => x * y) <|
  c_rld 0 <|
  c_ild 1 <|
  c_i (0) <|
  c_callV 11 2 (fX11_ofUnit N) <|
  c_ii (fun x y => x + y) <|
  c_ias <|
  c_inc 1 (1) <|
  c_live [0, 1] r2
noncomputable def kX11_remember_2 (N : Nat) : am_K := c_live [0, 1] (am_loop (bX11_remember_2 N) N)
noncomputable def kX11_remember_0 (N : Nat) : am_K := c_live [0] <|
  c_i (0) <|
  c_ist 1 <|
  kX11_remember_2 N
noncomputable def fX11_remember (N : Nat) : am_F := am_fn 2 (kX11_remember_0 N)
set_option maxRecDepth 20000 in
theorem vX11_remember_57 (l : Launch) (hfl : l.stackTraces = false) (N : Nat)  : am_V l cX11_remember 2 RX11 (am_E none yX11_remember.name) 3 103 57 (kX11_remember_57 N) := by
  refine av_live ?_
  exact av_return_ am_hv dX11_remember_57
set_option maxRecDepth 20000 in
theorem vX11_remember_2 (l : Launch) (hfl : l.stackTraces = false) (N : Nat)  : am_V l cX11_remember 2 RX11 (am_E none yX11_remember.name) 3 103 2 (kX11_remember_2 N) := by
  refine av_live ?_
  refine av_loop (fun r2 h2 => ?_) N
  refine av_iload_n dX11_remember_2 rfl ?_
  refine av_aload_n dX11_remember_3 rfl ?_
  refine av_getr am_ci11 (by decide) am_f11_0 q610 dX11_remember_4 ?_
  refine av_iconst (v := 2) dX11_remember_7 (by decide) ?_
  refine av_iaload dX11_remember_8 ?_
  refine av_icge (tgt := 57) dX11_remember_9 (by decide) ?_ ?_
  · exact vX11_remember_57 l hfl N
  refine av_aload_n dX11_remember_12 rfl ?_
  refine av_callV am_hT (mX11_turnNow l hfl N) am_ci11 ⟨by decide +kernel, by decide +kernel, by decide +kernel⟩ q675 q676 q628 q677 q678 (by decide) (by decide) dX11_remember_13 ?_
  refine av_sipush (v := 500) dX11_remember_16 (by decide) ?_
  refine av_icgt (tgt := 57) dX11_remember_19 (by decide) ?_ ?_
  · exact vX11_remember_57 l hfl N
  refine av_aload_n dX11_remember_22 rfl ?_
  refine av_getr am_ci11 (by decide) am_f11_0 q610 dX11_remember_23 ?_
  refine av_iload_n dX11_remember_26 rfl ?_
  refine av_aload_n dX11_remember_27 rfl ?_
  refine av_callV am_hT (mX11_turnNow l hfl N) am_ci11 ⟨by decide +kernel, by decide +kernel, by decide +kernel⟩ q675 q676 q628 q677 q678 (by decide) (by decide) dX11_remember_28 ?_
  refine av_callS am_hT (mX11_wasSlot l hfl N) ⟨by decide +kernel, by decide +kernel, by decide +kernel⟩ q733 q734 q628 q735 (by decide) (by decide) dX11_remember_31 ?_
  refine av_bipush (v := 100) dX11_remember_34 (by decide) ?_
  refine av_aload_n dX11_remember_36 rfl ?_
  refine av_iload_n dX11_remember_37 rfl ?_
  refine av_iconst (v := 1) dX11_remember_38 (by decide) ?_
  refine av_callV am_hT (mX11_ofUnit l hfl N) am_ci11 ⟨by decide +kernel, by decide +kernel, by decide +kernel⟩ q660 q661 q628 q662 q663 (by decide) (by decide) dX11_remember_39 ?_
  refine av_imul dX11_remember_42 ?_
  refine av_aload_n dX11_remember_43 rfl ?_
  refine av_iload_n dX11_remember_44 rfl ?_
  refine av_iconst (v := 0) dX11_remember_45 (by decide) ?_
  refine av_callV am_hT (mX11_ofUnit l hfl N) am_ci11 ⟨by decide +kernel, by decide +kernel, by decide +kernel⟩ q660 q661 q628 q662 q663 (by decide) (by decide) dX11_remember_46 ?_
  refine av_iadd dX11_remember_49 ?_
  refine av_iastore dX11_remember_50 ?_
  refine av_iinc dX11_remember_51 (by decide) (by decide) ?_
  refine av_goto (tgt := 2) dX11_remember_54 (by decide) ?_
  exact av_live h2
set_option maxRecDepth 20000 in
theorem vX11_remember_0 (l : Launch) (hfl : l.stackTraces = false) (N : Nat)  : am_V l cX11_remember 2 RX11 (am_E none yX11_remember.name) 3 103 0 (kX11_remember_0 N) := by
  refine av_live ?_
  refine av_iconst (v := 0) dX11_remember_0 (by decide) ?_
  refine av_istore_n dX11_remember_1 rfl (by decide) ?_
  exact vX11_remember_2 l hfl N
theorem mX11_remember (l : Launch) (hfl : l.stackTraces = false) (N : Nat) : am_M l yX11_remember cX11_remember 2 none 3 103 (fX11_remember N) := av_meth hfl (by decide +kernel) rfl (vX11_remember_0 l hfl N)
/-! MessengerBoardModel.passTurn()V -/
noncomputable def bX11_passTurn_89 (N : Nat) (r89 : am_K) : am_K :=
  c_ild 2 <|
  c_rld 0 <|
  c_getr 11 0 <|
  c_i (2) <|
  c_ial <|
  c_icge (
  c_rld 0 <|
  c_getr 11 0 <|
  c_i (5) <|
  c_dup2 <|
  c_ial <|
  c_i (1) <|
  c_ii (fun x y => x + y) <|
  c_ias <|
  c_rld 0 <|
  c_callV 11 0 (fX11_remember N) <|
  c_vret) <|
  c_rld 0 <|
  c_ild 2 <|
  c_callV 11 1 (fX11_move N) <|
  c_inc 2 (1) <|
  c_live [0, 2] r89
noncomputable def kX11_passTurn_89 (N : Nat) : am_K := c_live [0, 2] (am_loop (bX11_passTurn_89 N) N)
noncomputable def kX11_passTurn_81 (N : Nat) (r40 : am_K) : am_K := c_live [0, 1, 2] <|
  c_inc 2 (1) <|
  c_live [0, 1, 2] r40
noncomputable def bX11_passTurn_40 (N : Nat) (r40 : am_K) : am_K :=
  c_ild 2 <|
  c_ild 1 <|
  c_icge (
  c_i (0) <|
  c_ist 2 <|
  kX11_passTurn_89 N) <|
  c_rld 0 <|
  c_ild 2 <|
  c_i (3) <|
  c_callV 11 2 (fX11_ofOrder N) <|
  c_ifne (
  kX11_passTurn_81 N r40) <|
  c_rld 0 <|
  c_callV 11 0 (fX11_turnNow N) <|
  c_rld 0 <|
  c_ild 2 <|
  c_i (4) <|
  c_callV 11 2 (fX11_ofOrder N) <|
  c_ii (fun x y => x - y) <|
  c_rld 0 <|
  c_getr 11 0 <|
  c_i (9) <|
  c_ial <|
  c_iclt (
  kX11_passTurn_81 N r40) <|
  c_rld 0 <|
  c_ild 2 <|
  c_i (4) <|
  c_callV 11 2 (fX11_become N) <|
  kX11_passTurn_81 N r40
noncomputable def kX11_passTurn_40 (N : Nat) : am_K := c_live [0, 1, 2] (am_loop (bX11_passTurn_40 N) N)
noncomputable def kX11_passTurn_32 (N : Nat) (r13 : am_K) : am_K := c_live [0, 1, 2] <|
  c_inc 2 (1) <|
  c_live [0, 1, 2] r13
noncomputable def bX11_passTurn_13 (N : Nat) (r13 : am_K) : am_K :=
  c_ild 2 <|
  c_ild 1 <|
  c_icge (
  c_i (0) <|
  c_ist 2 <|
  kX11_passTurn_40 N) <|
  c_rld 0 <|
  c_ild 2 <|
  c_i (3) <|
  c_callV 11 2 (fX11_ofOrder N) <|
  c_ifne (
  kX11_passTurn_32 N r13) <|
  c_rld 0 <|
  c_ild 2 <|
  c_callV 11 1 (fX11_carry N) <|
  kX11_passTurn_32 N r13
noncomputable def kX11_passTurn_13 (N : Nat) : am_K := c_live [0, 1, 2] (am_loop (bX11_passTurn_13 N) N)
noncomputable def kX11_passTurn_0 (N : Nat) : am_K := c_live [0] <|
  c_rld 0 <|
  c_callV 11 0 (fX11_sendPlanned N) <|
  c_rld 0 <|
  c_getr 11 0 <|
  c_i (4) <|
  c_ial <|
  c_ist 1 <|
  c_i (0) <|
  c_ist 2 <|
  kX11_passTurn_13 N
noncomputable def fX11_passTurn (N : Nat) : am_F := am_fn 3 (kX11_passTurn_0 N)
set_option maxRecDepth 20000 in
theorem vX11_passTurn_89 (l : Launch) (hfl : l.stackTraces = false) (N : Nat)  : am_V l cX11_passTurn 3 RX11 (am_E none yX11_passTurn.name) 8 221 89 (kX11_passTurn_89 N) := by
  refine av_live ?_
  refine av_loop (fun r89 h89 => ?_) N
  refine av_iload_n dX11_passTurn_89 rfl ?_
  refine av_aload_n dX11_passTurn_90 rfl ?_
  refine av_getr am_ci11 (by decide) am_f11_0 q610 dX11_passTurn_91 ?_
  refine av_iconst (v := 2) dX11_passTurn_94 (by decide) ?_
  refine av_iaload dX11_passTurn_95 ?_
  refine av_icge (tgt := 110) dX11_passTurn_96 (by decide) ?_ ?_
  · refine av_aload_n dX11_passTurn_110 rfl ?_
    refine av_getr am_ci11 (by decide) am_f11_0 q610 dX11_passTurn_111 ?_
    refine av_iconst (v := 5) dX11_passTurn_114 (by decide) ?_
    refine av_dup2 dX11_passTurn_115 ?_
    refine av_iaload dX11_passTurn_116 ?_
    refine av_iconst (v := 1) dX11_passTurn_117 (by decide) ?_
    refine av_iadd dX11_passTurn_118 ?_
    refine av_iastore dX11_passTurn_119 ?_
    refine av_aload_n dX11_passTurn_120 rfl ?_
    refine av_callV am_hT (mX11_remember l hfl N) am_ci11 ⟨by decide +kernel, by decide +kernel, by decide +kernel⟩ q771 q772 q628 q773 q774 (by decide) (by decide) dX11_passTurn_121 ?_
    exact av_return_ am_hv dX11_passTurn_124
  refine av_aload_n dX11_passTurn_99 rfl ?_
  refine av_iload_n dX11_passTurn_100 rfl ?_
  refine av_callV am_hT (mX11_move l hfl N) am_ci11 ⟨by decide +kernel, by decide +kernel, by decide +kernel⟩ q775 q776 q628 q777 q778 (by decide) (by decide) dX11_passTurn_101 ?_
  refine av_iinc dX11_passTurn_104 (by decide) (by decide) ?_
  refine av_goto (tgt := 89) dX11_passTurn_107 (by decide) ?_
  exact av_live h89
set_option maxRecDepth 20000 in
theorem vX11_passTurn_81 (l : Launch) (hfl : l.stackTraces = false) (N : Nat)  {r40 : am_K} (h40 : am_V l cX11_passTurn 3 RX11 (am_E none yX11_passTurn.name) 8 221 40 r40) : am_V l cX11_passTurn 3 RX11 (am_E none yX11_passTurn.name) 8 221 81 (kX11_passTurn_81 N r40) := by
  refine av_live ?_
  refine av_iinc dX11_passTurn_81 (by decide) (by decide) ?_
  refine av_goto (tgt := 40) dX11_passTurn_84 (by decide) ?_
  exact av_live h40
set_option maxRecDepth 20000 in
theorem vX11_passTurn_40 (l : Launch) (hfl : l.stackTraces = false) (N : Nat)  : am_V l cX11_passTurn 3 RX11 (am_E none yX11_passTurn.name) 8 221 40 (kX11_passTurn_40 N) := by
  refine av_live ?_
  refine av_loop (fun r40 h40 => ?_) N
  refine av_iload_n dX11_passTurn_40 rfl ?_
  refine av_iload_n dX11_passTurn_41 rfl ?_
  refine av_icge (tgt := 87) dX11_passTurn_42 (by decide) ?_ ?_
  · refine av_iconst (v := 0) dX11_passTurn_87 (by decide) ?_
    refine av_istore_n dX11_passTurn_88 rfl (by decide) ?_
    exact vX11_passTurn_89 l hfl N
  refine av_aload_n dX11_passTurn_45 rfl ?_
  refine av_iload_n dX11_passTurn_46 rfl ?_
  refine av_iconst (v := 3) dX11_passTurn_47 (by decide) ?_
  refine av_callV am_hT (mX11_ofOrder l hfl N) am_ci11 ⟨by decide +kernel, by decide +kernel, by decide +kernel⟩ q644 q645 q628 q646 q647 (by decide) (by decide) dX11_passTurn_48 ?_
  refine av_ifne (tgt := 81) dX11_passTurn_51 (by decide) ?_ ?_
  · exact vX11_passTurn_81 l hfl N h40
  refine av_aload_n dX11_passTurn_54 rfl ?_
  refine av_callV am_hT (mX11_turnNow l hfl N) am_ci11 ⟨by decide +kernel, by decide +kernel, by decide +kernel⟩ q675 q676 q628 q677 q678 (by decide) (by decide) dX11_passTurn_55 ?_
  refine av_aload_n dX11_passTurn_58 rfl ?_
  refine av_iload_n dX11_passTurn_59 rfl ?_
  refine av_iconst (v := 4) dX11_passTurn_60 (by decide) ?_
  refine av_callV am_hT (mX11_ofOrder l hfl N) am_ci11 ⟨by decide +kernel, by decide +kernel, by decide +kernel⟩ q644 q645 q628 q646 q647 (by decide) (by decide) dX11_passTurn_61 ?_
  refine av_isub dX11_passTurn_64 ?_
  refine av_aload_n dX11_passTurn_65 rfl ?_
  refine av_getr am_ci11 (by decide) am_f11_0 q610 dX11_passTurn_66 ?_
  refine av_bipush (v := 9) dX11_passTurn_69 (by decide) ?_
  refine av_iaload dX11_passTurn_71 ?_
  refine av_iclt (tgt := 81) dX11_passTurn_72 (by decide) ?_ ?_
  · exact vX11_passTurn_81 l hfl N h40
  refine av_aload_n dX11_passTurn_75 rfl ?_
  refine av_iload_n dX11_passTurn_76 rfl ?_
  refine av_iconst (v := 4) dX11_passTurn_77 (by decide) ?_
  refine av_callV am_hT (mX11_become l hfl N) am_ci11 ⟨by decide +kernel, by decide +kernel, by decide +kernel⟩ q743 q744 q628 q745 q746 (by decide) (by decide) dX11_passTurn_78 ?_
  exact vX11_passTurn_81 l hfl N h40
set_option maxRecDepth 20000 in
theorem vX11_passTurn_32 (l : Launch) (hfl : l.stackTraces = false) (N : Nat)  {r13 : am_K} (h13 : am_V l cX11_passTurn 3 RX11 (am_E none yX11_passTurn.name) 8 221 13 r13) : am_V l cX11_passTurn 3 RX11 (am_E none yX11_passTurn.name) 8 221 32 (kX11_passTurn_32 N r13) := by
  refine av_live ?_
  refine av_iinc dX11_passTurn_32 (by decide) (by decide) ?_
  refine av_goto (tgt := 13) dX11_passTurn_35 (by decide) ?_
  exact av_live h13
set_option maxRecDepth 20000 in
theorem vX11_passTurn_13 (l : Launch) (hfl : l.stackTraces = false) (N : Nat)  : am_V l cX11_passTurn 3 RX11 (am_E none yX11_passTurn.name) 8 221 13 (kX11_passTurn_13 N) := by
  refine av_live ?_
  refine av_loop (fun r13 h13 => ?_) N
  refine av_iload_n dX11_passTurn_13 rfl ?_
  refine av_iload_n dX11_passTurn_14 rfl ?_
  refine av_icge (tgt := 38) dX11_passTurn_15 (by decide) ?_ ?_
  · refine av_iconst (v := 0) dX11_passTurn_38 (by decide) ?_
    refine av_istore_n dX11_passTurn_39 rfl (by decide) ?_
    exact vX11_passTurn_40 l hfl N
  refine av_aload_n dX11_passTurn_18 rfl ?_
  refine av_iload_n dX11_passTurn_19 rfl ?_
  refine av_iconst (v := 3) dX11_passTurn_20 (by decide) ?_
  refine av_callV am_hT (mX11_ofOrder l hfl N) am_ci11 ⟨by decide +kernel, by decide +kernel, by decide +kernel⟩ q644 q645 q628 q646 q647 (by decide) (by decide) dX11_passTurn_21 ?_
  refine av_ifne (tgt := 32) dX11_passTurn_24 (by decide) ?_ ?_
  · exact vX11_passTurn_32 l hfl N h13
  refine av_aload_n dX11_passTurn_27 rfl ?_
  refine av_iload_n dX11_passTurn_28 rfl ?_
  refine av_callV am_hT (mX11_carry l hfl N) am_ci11 ⟨by decide +kernel, by decide +kernel, by decide +kernel⟩ q779 q780 q628 q781 q782 (by decide) (by decide) dX11_passTurn_29 ?_
  exact vX11_passTurn_32 l hfl N h13
set_option maxRecDepth 20000 in
theorem vX11_passTurn_0 (l : Launch) (hfl : l.stackTraces = false) (N : Nat)  : am_V l cX11_passTurn 3 RX11 (am_E none yX11_passTurn.name) 8 221 0 (kX11_passTurn_0 N) := by
  refine av_live ?_
  refine av_aload_n dX11_passTurn_0 rfl ?_
  refine av_callV am_hT (mX11_sendPlanned l hfl N) am_ci11 ⟨by decide +kernel, by decide +kernel, by decide +kernel⟩ q767 q768 q628 q769 q770 (by decide) (by decide) dX11_passTurn_1 ?_
  refine av_aload_n dX11_passTurn_4 rfl ?_
  refine av_getr am_ci11 (by decide) am_f11_0 q610 dX11_passTurn_5 ?_
  refine av_iconst (v := 4) dX11_passTurn_8 (by decide) ?_
  refine av_iaload dX11_passTurn_9 ?_
  refine av_istore_n dX11_passTurn_10 rfl (by decide) ?_
  refine av_iconst (v := 0) dX11_passTurn_11 (by decide) ?_
  refine av_istore_n dX11_passTurn_12 rfl (by decide) ?_
  exact vX11_passTurn_13 l hfl N
theorem mX11_passTurn (l : Launch) (hfl : l.stackTraces = false) (N : Nat) : am_M l yX11_passTurn cX11_passTurn 3 none 8 221 (fX11_passTurn N) := av_meth hfl (by decide +kernel) rfl (vX11_passTurn_0 l hfl N)
/-! MessengerBoardModel.end()V -/
noncomputable def kX11_end_0 (N : Nat) : am_K := c_live [0] <|
  c_rld 0 <|
  c_getr 11 2 <|
  c_i (0) <|
  c_rld 0 <|
  c_getr 11 0 <|
  c_i (0) <|
  c_callS 4 (fX11_copy N) <|
  c_vret
noncomputable def fX11_end (N : Nat) : am_F := am_fn 1 (kX11_end_0 N)
set_option maxRecDepth 20000 in
theorem vX11_end_0 (l : Launch) (hfl : l.stackTraces = false) (N : Nat)  : am_V l cX11_end 1 RX11 (am_E none yX11_end.name) 2 84 0 (kX11_end_0 N) := by
  refine av_live ?_
  refine av_aload_n dX11_end_0 rfl ?_
  refine av_getr am_ci11 (by decide) am_f11_2 q612 dX11_end_1 ?_
  refine av_iconst (v := 0) dX11_end_4 (by decide) ?_
  refine av_aload_n dX11_end_5 rfl ?_
  refine av_getr am_ci11 (by decide) am_f11_0 q610 dX11_end_6 ?_
  refine av_iconst (v := 0) dX11_end_9 (by decide) ?_
  refine av_callS am_hT (mX11_copy l hfl N) ⟨by decide +kernel, by decide +kernel, by decide +kernel⟩ q736 q737 q628 q738 (by decide) (by decide) dX11_end_10 ?_
  exact av_return_ am_hv dX11_end_13
theorem mX11_end (l : Launch) (hfl : l.stackTraces = false) (N : Nat) : am_M l yX11_end cX11_end 1 none 2 84 (fX11_end N) := av_meth hfl (by decide +kernel) rfl (vX11_end_0 l hfl N)
/-! MessengerBoardModel.wouldBe(IIII)I -/
noncomputable def bX11_wouldBe_77 (N : Nat) (r77 : am_K) : am_K :=
  c_ild 7 <|
  c_ild 4 <|
  c_icge (
  c_rld 0 <|
  c_ild 6 <|
  c_i (3) <|
  c_callV 11 2 (fX11_ofOrder N) <|
  c_ist 7 <|
  c_rld 0 <|
  c_callV 11 0 (fX11_end N) <|
  c_ild 7 <|
  c_iret) <|
  c_rld 0 <|
  c_callV 11 0 (fX11_passTurn N) <|
  c_inc 7 (1) <|
  c_live [0, 4, 6, 7] r77
noncomputable def kX11_wouldBe_77 (N : Nat) : am_K := c_live [0, 4, 6, 7] (am_loop (bX11_wouldBe_77 N) N)
noncomputable def kX11_wouldBe_34 (N : Nat) : am_K := c_live [0, 1, 2, 3, 4] <|
  c_puti 11 6 <|
  c_rld 0 <|
  c_geti 11 6 <|
  c_ifeq (
  c_rld 0 <|
  c_getr 11 0 <|
  c_i (4) <|
  c_ial <|
  c_ist 6 <|
  c_ild 6 <|
  c_i (40) <|
  c_icne (
  c_rld 0 <|
  c_callV 11 0 (fX11_begin N) <|
  c_rld 0 <|
  c_ild 1 <|
  c_ild 2 <|
  c_ild 3 <|
  c_callV 11 3 (fX11_dispatch N) <|
  c_i (0) <|
  c_ist 7 <|
  kX11_wouldBe_77 N) <|
  c_i (-1) <|
  c_iret) <|
  c_i (0) <|
  c_iret
noncomputable def kX11_wouldBe_30 (N : Nat) : am_K := c_live [0, 1, 2, 3, 4] <|
  c_rld 0 <|
  c_geti 11 6 <|
  kX11_wouldBe_34 N
noncomputable def kX11_wouldBe_0 (N : Nat) : am_K := c_live [0, 1, 2, 3, 4] <|
  c_rld 0 <|
  c_ild 1 <|
  c_ild 2 <|
  c_ild 3 <|
  c_callV 11 3 (fX11_isTarget N) <|
  c_ist 5 <|
  c_rld 0 <|
  c_ild 5 <|
  c_ifeq (
  kX11_wouldBe_30 N) <|
  c_ild 4 <|
  c_i (0) <|
  c_i (60) <|
  c_callS 3 (fX11_inRange N) <|
  c_ifne (
  kX11_wouldBe_30 N) <|
  c_i (2) <|
  kX11_wouldBe_34 N
noncomputable def fX11_wouldBe (N : Nat) : am_F := am_fn 8 (kX11_wouldBe_0 N)
set_option maxRecDepth 20000 in
theorem vX11_wouldBe_77 (l : Launch) (hfl : l.stackTraces = false) (N : Nat)  : am_V l cX11_wouldBe 8 RX11 (am_E (some .int) yX11_wouldBe.name) 9 243 77 (kX11_wouldBe_77 N) := by
  refine av_live ?_
  refine av_loop (fun r77 h77 => ?_) N
  refine av_iload dX11_wouldBe_77 ?_
  refine av_iload dX11_wouldBe_79 ?_
  refine av_icge (tgt := 94) dX11_wouldBe_81 (by decide) ?_ ?_
  · refine av_aload_n dX11_wouldBe_94 rfl ?_
    refine av_iload dX11_wouldBe_95 ?_
    refine av_iconst (v := 3) dX11_wouldBe_97 (by decide) ?_
    refine av_callV am_hT (mX11_ofOrder l hfl N) am_ci11 ⟨by decide +kernel, by decide +kernel, by decide +kernel⟩ q644 q645 q628 q646 q647 (by decide) (by decide) dX11_wouldBe_98 ?_
    refine av_istore dX11_wouldBe_101 (by decide) ?_
    refine av_aload_n dX11_wouldBe_103 rfl ?_
    refine av_callV am_hT (mX11_end l hfl N) am_ci11 ⟨by decide +kernel, by decide +kernel, by decide +kernel⟩ q791 q792 q628 q793 q794 (by decide) (by decide) dX11_wouldBe_104 ?_
    refine av_iload dX11_wouldBe_107 ?_
    exact av_ireturn am_hi dX11_wouldBe_109
  refine av_aload_n dX11_wouldBe_84 rfl ?_
  refine av_callV am_hT (mX11_passTurn l hfl N) am_ci11 ⟨by decide +kernel, by decide +kernel, by decide +kernel⟩ q795 q796 q628 q797 q798 (by decide) (by decide) dX11_wouldBe_85 ?_
  refine av_iinc dX11_wouldBe_88 (by decide) (by decide) ?_
  refine av_goto (tgt := 77) dX11_wouldBe_91 (by decide) ?_
  exact av_live h77
set_option maxRecDepth 20000 in
theorem vX11_wouldBe_34 (l : Launch) (hfl : l.stackTraces = false) (N : Nat)  : am_V l cX11_wouldBe 8 RX11 (am_E (some .int) yX11_wouldBe.name) 9 243 34 (kX11_wouldBe_34 N) := by
  refine av_live ?_
  refine av_puti am_ci11 (by decide) am_f11_6 q630 (tyX11_ok 6 (by decide)) rfl dX11_wouldBe_34 ?_
  refine av_aload_n dX11_wouldBe_37 rfl ?_
  refine av_geti am_ci11 (by decide) am_f11_6 q630 dX11_wouldBe_38 ?_
  refine av_ifeq (tgt := 46) dX11_wouldBe_41 (by decide) ?_ ?_
  · refine av_aload_n dX11_wouldBe_46 rfl ?_
    refine av_getr am_ci11 (by decide) am_f11_0 q610 dX11_wouldBe_47 ?_
    refine av_iconst (v := 4) dX11_wouldBe_50 (by decide) ?_
    refine av_iaload dX11_wouldBe_51 ?_
    refine av_istore dX11_wouldBe_52 (by decide) ?_
    refine av_iload dX11_wouldBe_54 ?_
    refine av_bipush (v := 40) dX11_wouldBe_56 (by decide) ?_
    refine av_icne (tgt := 63) dX11_wouldBe_58 (by decide) ?_ ?_
    · refine av_aload_n dX11_wouldBe_63 rfl ?_
      refine av_callV am_hT (mX11_begin l hfl N) am_ci11 ⟨by decide +kernel, by decide +kernel, by decide +kernel⟩ q787 q788 q628 q789 q790 (by decide) (by decide) dX11_wouldBe_64 ?_
      refine av_aload_n dX11_wouldBe_67 rfl ?_
      refine av_iload_n dX11_wouldBe_68 rfl ?_
      refine av_iload_n dX11_wouldBe_69 rfl ?_
      refine av_iload_n dX11_wouldBe_70 rfl ?_
      refine av_callV am_hT (mX11_dispatch l hfl N) am_ci11 ⟨by decide +kernel, by decide +kernel, by decide +kernel⟩ q739 q740 q628 q741 q742 (by decide) (by decide) dX11_wouldBe_71 ?_
      refine av_iconst (v := 0) dX11_wouldBe_74 (by decide) ?_
      refine av_istore dX11_wouldBe_75 (by decide) ?_
      exact vX11_wouldBe_77 l hfl N
    refine av_iconst (v := -1) dX11_wouldBe_61 (by decide) ?_
    exact av_ireturn am_hi dX11_wouldBe_62
  refine av_iconst (v := 0) dX11_wouldBe_44 (by decide) ?_
  exact av_ireturn am_hi dX11_wouldBe_45
set_option maxRecDepth 20000 in
theorem vX11_wouldBe_30 (l : Launch) (hfl : l.stackTraces = false) (N : Nat)  : am_V l cX11_wouldBe 8 RX11 (am_E (some .int) yX11_wouldBe.name) 9 243 30 (kX11_wouldBe_30 N) := by
  refine av_live ?_
  refine av_aload_n dX11_wouldBe_30 rfl ?_
  refine av_geti am_ci11 (by decide) am_f11_6 q630 dX11_wouldBe_31 ?_
  exact vX11_wouldBe_34 l hfl N
set_option maxRecDepth 20000 in
theorem vX11_wouldBe_0 (l : Launch) (hfl : l.stackTraces = false) (N : Nat)  : am_V l cX11_wouldBe 8 RX11 (am_E (some .int) yX11_wouldBe.name) 9 243 0 (kX11_wouldBe_0 N) := by
  refine av_live ?_
  refine av_aload_n dX11_wouldBe_0 rfl ?_
  refine av_iload_n dX11_wouldBe_1 rfl ?_
  refine av_iload_n dX11_wouldBe_2 rfl ?_
  refine av_iload_n dX11_wouldBe_3 rfl ?_
  refine av_callV am_hT (mX11_isTarget l hfl N) am_ci11 ⟨by decide +kernel, by decide +kernel, by decide +kernel⟩ q783 q784 q628 q785 q786 (by decide) (by decide) dX11_wouldBe_4 ?_
  refine av_istore dX11_wouldBe_7 (by decide) ?_
  refine av_aload_n dX11_wouldBe_9 rfl ?_
  refine av_iload dX11_wouldBe_10 ?_
  refine av_ifeq (tgt := 30) dX11_wouldBe_12 (by decide) ?_ ?_
  · exact vX11_wouldBe_30 l hfl N
  refine av_iload dX11_wouldBe_15 ?_
  refine av_iconst (v := 0) dX11_wouldBe_17 (by decide) ?_
  refine av_bipush (v := 60) dX11_wouldBe_18 (by decide) ?_
  refine av_callS am_hT (mX11_inRange l hfl N) ⟨by decide +kernel, by decide +kernel, by decide +kernel⟩ q631 q632 q628 q633 (by decide) (by decide) dX11_wouldBe_20 ?_
  refine av_ifne (tgt := 30) dX11_wouldBe_23 (by decide) ?_ ?_
  · exact vX11_wouldBe_30 l hfl N
  refine av_iconst (v := 2) dX11_wouldBe_26 (by decide) ?_
  refine av_goto (tgt := 34) dX11_wouldBe_27 (by decide) ?_
  exact vX11_wouldBe_34 l hfl N
theorem mX11_wouldBe (l : Launch) (hfl : l.stackTraces = false) (N : Nat) : am_M l yX11_wouldBe cX11_wouldBe 8 (some .int) 9 243 (fX11_wouldBe N) := av_meth hfl (by decide +kernel) rfl (vX11_wouldBe_0 l hfl N)
/-! MessengerBoardModel.arrivalOf(III)I -/
noncomputable def bX11_arrivalOf_24 (N : Nat) (r24 : am_K) : am_K :=
  c_rld 0 <|
  c_ild 4 <|
  c_i (3) <|
  c_callV 11 2 (fX11_ofOrder N) <|
  c_ifne (
  c_rld 0 <|
  c_ild 4 <|
  c_i (5) <|
  c_callV 11 2 (fX11_ofOrder N) <|
  c_iret) <|
  c_rld 0 <|
  c_callV 11 0 (fX11_passTurn N) <|
  c_live [0, 4] r24
noncomputable def kX11_arrivalOf_24 (N : Nat) : am_K := c_live [0, 4] (am_loop (bX11_arrivalOf_24 N) N)
noncomputable def kX11_arrivalOf_0 (N : Nat) : am_K := c_live [0, 1, 2, 3] <|
  c_rld 0 <|
  c_getr 11 0 <|
  c_i (4) <|
  c_ial <|
  c_ist 4 <|
  c_ild 4 <|
  c_i (40) <|
  c_icne (
  c_rld 0 <|
  c_ild 1 <|
  c_ild 2 <|
  c_ild 3 <|
  c_callV 11 3 (fX11_dispatch N) <|
  kX11_arrivalOf_24 N) <|
  c_i (-1) <|
  c_iret
noncomputable def fX11_arrivalOf (N : Nat) : am_F := am_fn 5 (kX11_arrivalOf_0 N)
set_option maxRecDepth 20000 in
theorem vX11_arrivalOf_24 (l : Launch) (hfl : l.stackTraces = false) (N : Nat)  : am_V l cX11_arrivalOf 5 RX11 (am_E (some .int) yX11_arrivalOf.name) 9 243 24 (kX11_arrivalOf_24 N) := by
  refine av_live ?_
  refine av_loop (fun r24 h24 => ?_) N
  refine av_aload_n dX11_arrivalOf_24 rfl ?_
  refine av_iload dX11_arrivalOf_25 ?_
  refine av_iconst (v := 3) dX11_arrivalOf_27 (by decide) ?_
  refine av_callV am_hT (mX11_ofOrder l hfl N) am_ci11 ⟨by decide +kernel, by decide +kernel, by decide +kernel⟩ q644 q645 q628 q646 q647 (by decide) (by decide) dX11_arrivalOf_28 ?_
  refine av_ifne (tgt := 41) dX11_arrivalOf_31 (by decide) ?_ ?_
  · refine av_aload_n dX11_arrivalOf_41 rfl ?_
    refine av_iload dX11_arrivalOf_42 ?_
    refine av_iconst (v := 5) dX11_arrivalOf_44 (by decide) ?_
    refine av_callV am_hT (mX11_ofOrder l hfl N) am_ci11 ⟨by decide +kernel, by decide +kernel, by decide +kernel⟩ q644 q645 q628 q646 q647 (by decide) (by decide) dX11_arrivalOf_45 ?_
    exact av_ireturn am_hi dX11_arrivalOf_48
  refine av_aload_n dX11_arrivalOf_34 rfl ?_
  refine av_callV am_hT (mX11_passTurn l hfl N) am_ci11 ⟨by decide +kernel, by decide +kernel, by decide +kernel⟩ q795 q796 q628 q797 q798 (by decide) (by decide) dX11_arrivalOf_35 ?_
  refine av_goto (tgt := 24) dX11_arrivalOf_38 (by decide) ?_
  exact av_live h24
set_option maxRecDepth 20000 in
theorem vX11_arrivalOf_0 (l : Launch) (hfl : l.stackTraces = false) (N : Nat)  : am_V l cX11_arrivalOf 5 RX11 (am_E (some .int) yX11_arrivalOf.name) 9 243 0 (kX11_arrivalOf_0 N) := by
  refine av_live ?_
  refine av_aload_n dX11_arrivalOf_0 rfl ?_
  refine av_getr am_ci11 (by decide) am_f11_0 q610 dX11_arrivalOf_1 ?_
  refine av_iconst (v := 4) dX11_arrivalOf_4 (by decide) ?_
  refine av_iaload dX11_arrivalOf_5 ?_
  refine av_istore dX11_arrivalOf_6 (by decide) ?_
  refine av_iload dX11_arrivalOf_8 ?_
  refine av_bipush (v := 40) dX11_arrivalOf_10 (by decide) ?_
  refine av_icne (tgt := 17) dX11_arrivalOf_12 (by decide) ?_ ?_
  · refine av_aload_n dX11_arrivalOf_17 rfl ?_
    refine av_iload_n dX11_arrivalOf_18 rfl ?_
    refine av_iload_n dX11_arrivalOf_19 rfl ?_
    refine av_iload_n dX11_arrivalOf_20 rfl ?_
    refine av_callV am_hT (mX11_dispatch l hfl N) am_ci11 ⟨by decide +kernel, by decide +kernel, by decide +kernel⟩ q739 q740 q628 q741 q742 (by decide) (by decide) dX11_arrivalOf_21 ?_
    exact vX11_arrivalOf_24 l hfl N
  refine av_iconst (v := -1) dX11_arrivalOf_15 (by decide) ?_
  exact av_ireturn am_hi dX11_arrivalOf_16
theorem mX11_arrivalOf (l : Launch) (hfl : l.stackTraces = false) (N : Nat) : am_M l yX11_arrivalOf cX11_arrivalOf 5 (some .int) 9 243 (fX11_arrivalOf N) := av_meth hfl (by decide +kernel) rfl (vX11_arrivalOf_0 l hfl N)
/-! MessengerBoardModel.wouldArrive(III)I -/
noncomputable def kX11_wouldArrive_0 (N : Nat) : am_K := c_live [0, 1, 2, 3] <|
  c_rld 0 <|
  c_ild 1 <|
  c_ild 2 <|
  c_ild 3 <|
  c_callV 11 3 (fX11_isTarget N) <|
  c_ifne (
  c_rld 0 <|
  c_callV 11 0 (fX11_begin N) <|
  c_rld 0 <|
  c_ild 1 <|
  c_ild 2 <|
  c_ild 3 <|
  c_callV 11 3 (fX11_arrivalOf N) <|
  c_ist 4 <|
  c_rld 0 <|
  c_callV 11 0 (fX11_end N) <|
  c_ild 4 <|
  c_iret) <|
  c_i (0) <|
  c_iret
noncomputable def fX11_wouldArrive (N : Nat) : am_F := am_fn 5 (kX11_wouldArrive_0 N)
set_option maxRecDepth 20000 in
theorem vX11_wouldArrive_0 (l : Launch) (hfl : l.stackTraces = false) (N : Nat)  : am_V l cX11_wouldArrive 5 RX11 (am_E (some .int) yX11_wouldArrive.name) 10 267 0 (kX11_wouldArrive_0 N) := by
  refine av_live ?_
  refine av_aload_n dX11_wouldArrive_0 rfl ?_
  refine av_iload_n dX11_wouldArrive_1 rfl ?_
  refine av_iload_n dX11_wouldArrive_2 rfl ?_
  refine av_iload_n dX11_wouldArrive_3 rfl ?_
  refine av_callV am_hT (mX11_isTarget l hfl N) am_ci11 ⟨by decide +kernel, by decide +kernel, by decide +kernel⟩ q783 q784 q628 q785 q786 (by decide) (by decide) dX11_wouldArrive_4 ?_
  refine av_ifne (tgt := 12) dX11_wouldArrive_7 (by decide) ?_ ?_
  · refine av_aload_n dX11_wouldArrive_12 rfl ?_
    refine av_callV am_hT (mX11_begin l hfl N) am_ci11 ⟨by decide +kernel, by decide +kernel, by decide +kernel⟩ q787 q788 q628 q789 q790 (by decide) (by decide) dX11_wouldArrive_13 ?_
    refine av_aload_n dX11_wouldArrive_16 rfl ?_
    refine av_iload_n dX11_wouldArrive_17 rfl ?_
    refine av_iload_n dX11_wouldArrive_18 rfl ?_
    refine av_iload_n dX11_wouldArrive_19 rfl ?_
    refine av_callV am_hT (mX11_arrivalOf l hfl N) am_ci11 ⟨by decide +kernel, by decide +kernel, by decide +kernel⟩ q799 q800 q628 q801 q802 (by decide) (by decide) dX11_wouldArrive_20 ?_
    refine av_istore dX11_wouldArrive_23 (by decide) ?_
    refine av_aload_n dX11_wouldArrive_25 rfl ?_
    refine av_callV am_hT (mX11_end l hfl N) am_ci11 ⟨by decide +kernel, by decide +kernel, by decide +kernel⟩ q791 q792 q628 q793 q794 (by decide) (by decide) dX11_wouldArrive_26 ?_
    refine av_iload dX11_wouldArrive_29 ?_
    exact av_ireturn am_hi dX11_wouldArrive_31
  refine av_iconst (v := 0) dX11_wouldArrive_10 (by decide) ?_
  exact av_ireturn am_hi dX11_wouldArrive_11
theorem mX11_wouldArrive (l : Launch) (hfl : l.stackTraces = false) (N : Nat) : am_M l yX11_wouldArrive cX11_wouldArrive 5 (some .int) 10 267 (fX11_wouldArrive N) := av_meth hfl (by decide +kernel) rfl (vX11_wouldArrive_0 l hfl N)
/-! MessengerBoardModel.bestDelay(III)I -/
noncomputable def bX11_bestDelay_29 (N : Nat) (r15 : am_K) (r29 : am_K) : am_K :=
  c_ild 5 <|
  c_ild 4 <|
  c_icge (
  c_rld 0 <|
  c_ild 1 <|
  c_ild 2 <|
  c_ild 3 <|
  c_callV 11 3 (fX11_arrivalOf N) <|
  c_ist 5 <|
  c_rld 0 <|
  c_callV 11 0 (fX11_end N) <|
  c_ild 5 <|
  c_i (-1) <|
  c_iceq (
  c_inc 4 (1) <|
  c_live [0, 1, 2, 3, 4] r15) <|
  c_ild 4 <|
  c_iret) <|
  c_rld 0 <|
  c_callV 11 0 (fX11_passTurn N) <|
  c_inc 5 (1) <|
  c_live [0, 1, 2, 3, 4, 5] r29
noncomputable def kX11_bestDelay_29 (N : Nat) (r15 : am_K) : am_K := c_live [0, 1, 2, 3, 4, 5] (am_loop (bX11_bestDelay_29 N r15) N)
noncomputable def bX11_bestDelay_15 (N : Nat) (r15 : am_K) : am_K :=
  c_ild 4 <|
  c_i (15) <|
  c_icgt (
  c_i (-1) <|
  c_iret) <|
  c_rld 0 <|
  c_callV 11 0 (fX11_begin N) <|
  c_i (0) <|
  c_ist 5 <|
  kX11_bestDelay_29 N r15
noncomputable def kX11_bestDelay_15 (N : Nat) : am_K := c_live [0, 1, 2, 3, 4] (am_loop (bX11_bestDelay_15 N) N)
noncomputable def kX11_bestDelay_0 (N : Nat) : am_K := c_live [0, 1, 2, 3] <|
  c_rld 0 <|
  c_ild 1 <|
  c_ild 2 <|
  c_ild 3 <|
  c_callV 11 3 (fX11_isTarget N) <|
  c_ifne (
  c_i (0) <|
  c_ist 4 <|
  kX11_bestDelay_15 N) <|
  c_i (0) <|
  c_iret
noncomputable def fX11_bestDelay (N : Nat) : am_F := am_fn 6 (kX11_bestDelay_0 N)
set_option maxRecDepth 20000 in
theorem vX11_bestDelay_29 (l : Launch) (hfl : l.stackTraces = false) (N : Nat)  {r15 : am_K} (h15 : am_V l cX11_bestDelay 6 RX11 (am_E (some .int) yX11_bestDelay.name) 10 267 15 r15) : am_V l cX11_bestDelay 6 RX11 (am_E (some .int) yX11_bestDelay.name) 10 267 29 (kX11_bestDelay_29 N r15) := by
  refine av_live ?_
  refine av_loop (fun r29 h29 => ?_) N
  refine av_iload dX11_bestDelay_29 ?_
  refine av_iload dX11_bestDelay_31 ?_
  refine av_icge (tgt := 46) dX11_bestDelay_33 (by decide) ?_ ?_
  · refine av_aload_n dX11_bestDelay_46 rfl ?_
    refine av_iload_n dX11_bestDelay_47 rfl ?_
    refine av_iload_n dX11_bestDelay_48 rfl ?_
    refine av_iload_n dX11_bestDelay_49 rfl ?_
    refine av_callV am_hT (mX11_arrivalOf l hfl N) am_ci11 ⟨by decide +kernel, by decide +kernel, by decide +kernel⟩ q799 q800 q628 q801 q802 (by decide) (by decide) dX11_bestDelay_50 ?_
    refine av_istore dX11_bestDelay_53 (by decide) ?_
    refine av_aload_n dX11_bestDelay_55 rfl ?_
    refine av_callV am_hT (mX11_end l hfl N) am_ci11 ⟨by decide +kernel, by decide +kernel, by decide +kernel⟩ q791 q792 q628 q793 q794 (by decide) (by decide) dX11_bestDelay_56 ?_
    refine av_iload dX11_bestDelay_59 ?_
    refine av_iconst (v := -1) dX11_bestDelay_61 (by decide) ?_
    refine av_iceq (tgt := 68) dX11_bestDelay_62 (by decide) ?_ ?_
    · refine av_iinc dX11_bestDelay_68 (by decide) (by decide) ?_
      refine av_goto (tgt := 15) dX11_bestDelay_71 (by decide) ?_
      exact av_live h15
    refine av_iload dX11_bestDelay_65 ?_
    exact av_ireturn am_hi dX11_bestDelay_67
  refine av_aload_n dX11_bestDelay_36 rfl ?_
  refine av_callV am_hT (mX11_passTurn l hfl N) am_ci11 ⟨by decide +kernel, by decide +kernel, by decide +kernel⟩ q795 q796 q628 q797 q798 (by decide) (by decide) dX11_bestDelay_37 ?_
  refine av_iinc dX11_bestDelay_40 (by decide) (by decide) ?_
  refine av_goto (tgt := 29) dX11_bestDelay_43 (by decide) ?_
  exact av_live h29
set_option maxRecDepth 20000 in
theorem vX11_bestDelay_15 (l : Launch) (hfl : l.stackTraces = false) (N : Nat)  : am_V l cX11_bestDelay 6 RX11 (am_E (some .int) yX11_bestDelay.name) 10 267 15 (kX11_bestDelay_15 N) := by
  refine av_live ?_
  refine av_loop (fun r15 h15 => ?_) N
  refine av_iload dX11_bestDelay_15 ?_
  refine av_bipush (v := 15) dX11_bestDelay_17 (by decide) ?_
  refine av_icgt (tgt := 74) dX11_bestDelay_19 (by decide) ?_ ?_
  · refine av_iconst (v := -1) dX11_bestDelay_74 (by decide) ?_
    exact av_ireturn am_hi dX11_bestDelay_75
  refine av_aload_n dX11_bestDelay_22 rfl ?_
  refine av_callV am_hT (mX11_begin l hfl N) am_ci11 ⟨by decide +kernel, by decide +kernel, by decide +kernel⟩ q787 q788 q628 q789 q790 (by decide) (by decide) dX11_bestDelay_23 ?_
  refine av_iconst (v := 0) dX11_bestDelay_26 (by decide) ?_
  refine av_istore dX11_bestDelay_27 (by decide) ?_
  exact vX11_bestDelay_29 l hfl N h15
set_option maxRecDepth 20000 in
theorem vX11_bestDelay_0 (l : Launch) (hfl : l.stackTraces = false) (N : Nat)  : am_V l cX11_bestDelay 6 RX11 (am_E (some .int) yX11_bestDelay.name) 10 267 0 (kX11_bestDelay_0 N) := by
  refine av_live ?_
  refine av_aload_n dX11_bestDelay_0 rfl ?_
  refine av_iload_n dX11_bestDelay_1 rfl ?_
  refine av_iload_n dX11_bestDelay_2 rfl ?_
  refine av_iload_n dX11_bestDelay_3 rfl ?_
  refine av_callV am_hT (mX11_isTarget l hfl N) am_ci11 ⟨by decide +kernel, by decide +kernel, by decide +kernel⟩ q783 q784 q628 q785 q786 (by decide) (by decide) dX11_bestDelay_4 ?_
  refine av_ifne (tgt := 12) dX11_bestDelay_7 (by decide) ?_ ?_
  · refine av_iconst (v := 0) dX11_bestDelay_12 (by decide) ?_
    refine av_istore dX11_bestDelay_13 (by decide) ?_
    exact vX11_bestDelay_15 l hfl N
  refine av_iconst (v := 0) dX11_bestDelay_10 (by decide) ?_
  exact av_ireturn am_hi dX11_bestDelay_11
theorem mX11_bestDelay (l : Launch) (hfl : l.stackTraces = false) (N : Nat) : am_M l yX11_bestDelay cX11_bestDelay 6 (some .int) 10 267 (fX11_bestDelay N) := av_meth hfl (by decide +kernel) rfl (vX11_bestDelay_0 l hfl N)
/-! MessengerBoardModel.failing(I)I -/
noncomputable def kX11_failing_102 (N : Nat) (r53 : am_K) : am_K := c_live [0, 3] <|
  c_ii (fun x y => x + y) <|
  c_ist 2 <|
  c_inc 3 (1) <|
  c_live [0, 2, 3] r53
noncomputable def kX11_failing_101 (N : Nat) (r53 : am_K) : am_K := c_live [0, 3] <|
  c_i (0) <|
  kX11_failing_102 N r53
noncomputable def kX11_failing_97 (N : Nat) (r53 : am_K) : am_K := c_live [0, 3] <|
  c_i (1) <|
  kX11_failing_102 N r53
noncomputable def bX11_failing_53 (N : Nat) (r53 : am_K) : am_K :=
  c_ild 3 <|
  c_rld 0 <|
  c_getr 11 2 <|
  c_i (4) <|
  c_ial <|
  c_icge (
  c_rld 0 <|
  c_callV 11 0 (fX11_end N) <|
  c_ild 2 <|
  c_iret) <|
  c_rld 0 <|
  c_ild 3 <|
  c_i (3) <|
  c_callV 11 2 (fX11_ofOrder N) <|
  c_ist 4 <|
  c_ild 2 <|
  c_rld 0 <|
  c_getr 11 2 <|
  c_ild 3 <|
  c_i (3) <|
  c_callS 2 (fX11_orderAt N) <|
  c_ial <|
  c_ifne (
  kX11_failing_101 N r53) <|
  c_ild 4 <|
  c_i (4) <|
  c_iceq (
  kX11_failing_97 N r53) <|
  c_ild 4 <|
  c_i (5) <|
  c_icne (
  kX11_failing_101 N r53) <|
  kX11_failing_97 N r53
noncomputable def kX11_failing_53 (N : Nat) : am_K := c_live [0, 2, 3] (am_loop (bX11_failing_53 N) N)
noncomputable def bX11_failing_34 (N : Nat) (r34 : am_K) : am_K :=
  c_ild 2 <|
  c_ild 1 <|
  c_icge (
  c_i (0) <|
  c_ist 2 <|
  c_i (0) <|
  c_ist 3 <|
  kX11_failing_53 N) <|
  c_rld 0 <|
  c_callV 11 0 (fX11_passTurn N) <|
  c_inc 2 (1) <|
  c_live [0, 1, 2] r34
noncomputable def kX11_failing_34 (N : Nat) : am_K := c_live [0, 1, 2] (am_loop (bX11_failing_34 N) N)
noncomputable def kX11_failing_16 (N : Nat) : am_K := c_live [0, 1] <|
  c_puti 11 6 <|
  c_rld 0 <|
  c_geti 11 6 <|
  c_ifeq (
  c_rld 0 <|
  c_callV 11 0 (fX11_begin N) <|
  c_i (0) <|
  c_ist 2 <|
  kX11_failing_34 N) <|
  c_i (0) <|
  c_iret
noncomputable def kX11_failing_0 (N : Nat) : am_K := c_live [0, 1] <|
  c_rld 0 <|
  c_ild 1 <|
  c_i (0) <|
  c_i (60) <|
  c_callS 3 (fX11_inRange N) <|
  c_ifeq (
  c_i (1) <|
  kX11_failing_16 N) <|
  c_i (0) <|
  kX11_failing_16 N
noncomputable def fX11_failing (N : Nat) : am_F := am_fn 5 (kX11_failing_0 N)
set_option maxRecDepth 20000 in
theorem vX11_failing_102 (l : Launch) (hfl : l.stackTraces = false) (N : Nat)  {r53 : am_K} (h53 : am_V l cX11_failing 5 RX11 (am_E (some .int) yX11_failing.name) 9 243 53 r53) : am_V l cX11_failing 5 RX11 (am_E (some .int) yX11_failing.name) 9 243 102 (kX11_failing_102 N r53) := by
  refine av_live ?_
  refine av_iadd dX11_failing_102 ?_
  refine av_istore_n dX11_failing_103 rfl (by decide) ?_
  refine av_iinc dX11_failing_104 (by decide) (by decide) ?_
  refine av_goto (tgt := 53) dX11_failing_107 (by decide) ?_
  exact av_live h53
set_option maxRecDepth 20000 in
theorem vX11_failing_101 (l : Launch) (hfl : l.stackTraces = false) (N : Nat)  {r53 : am_K} (h53 : am_V l cX11_failing 5 RX11 (am_E (some .int) yX11_failing.name) 9 243 53 r53) : am_V l cX11_failing 5 RX11 (am_E (some .int) yX11_failing.name) 9 243 101 (kX11_failing_101 N r53) := by
  refine av_live ?_
  refine av_iconst (v := 0) dX11_failing_101 (by decide) ?_
  exact vX11_failing_102 l hfl N h53
set_option maxRecDepth 20000 in
theorem vX11_failing_97 (l : Launch) (hfl : l.stackTraces = false) (N : Nat)  {r53 : am_K} (h53 : am_V l cX11_failing 5 RX11 (am_E (some .int) yX11_failing.name) 9 243 53 r53) : am_V l cX11_failing 5 RX11 (am_E (some .int) yX11_failing.name) 9 243 97 (kX11_failing_97 N r53) := by
  refine av_live ?_
  refine av_iconst (v := 1) dX11_failing_97 (by decide) ?_
  refine av_goto (tgt := 102) dX11_failing_98 (by decide) ?_
  exact vX11_failing_102 l hfl N h53
set_option maxRecDepth 20000 in
theorem vX11_failing_53 (l : Launch) (hfl : l.stackTraces = false) (N : Nat)  : am_V l cX11_failing 5 RX11 (am_E (some .int) yX11_failing.name) 9 243 53 (kX11_failing_53 N) := by
  refine av_live ?_
  refine av_loop (fun r53 h53 => ?_) N
  refine av_iload_n dX11_failing_53 rfl ?_
  refine av_aload_n dX11_failing_54 rfl ?_
  refine av_getr am_ci11 (by decide) am_f11_2 q612 dX11_failing_55 ?_
  refine av_iconst (v := 4) dX11_failing_58 (by decide) ?_
  refine av_iaload dX11_failing_59 ?_
  refine av_icge (tgt := 110) dX11_failing_60 (by decide) ?_ ?_
  · refine av_aload_n dX11_failing_110 rfl ?_
    refine av_callV am_hT (mX11_end l hfl N) am_ci11 ⟨by decide +kernel, by decide +kernel, by decide +kernel⟩ q791 q792 q628 q793 q794 (by decide) (by decide) dX11_failing_111 ?_
    refine av_iload_n dX11_failing_114 rfl ?_
    exact av_ireturn am_hi dX11_failing_115
  refine av_aload_n dX11_failing_63 rfl ?_
  refine av_iload_n dX11_failing_64 rfl ?_
  refine av_iconst (v := 3) dX11_failing_65 (by decide) ?_
  refine av_callV am_hT (mX11_ofOrder l hfl N) am_ci11 ⟨by decide +kernel, by decide +kernel, by decide +kernel⟩ q644 q645 q628 q646 q647 (by decide) (by decide) dX11_failing_66 ?_
  refine av_istore dX11_failing_69 (by decide) ?_
  refine av_iload_n dX11_failing_71 rfl ?_
  refine av_aload_n dX11_failing_72 rfl ?_
  refine av_getr am_ci11 (by decide) am_f11_2 q612 dX11_failing_73 ?_
  refine av_iload_n dX11_failing_76 rfl ?_
  refine av_iconst (v := 3) dX11_failing_77 (by decide) ?_
  refine av_callS am_hT (mX11_orderAt l hfl N) ⟨by decide +kernel, by decide +kernel, by decide +kernel⟩ q641 q642 q628 q643 (by decide) (by decide) dX11_failing_78 ?_
  refine av_iaload dX11_failing_81 ?_
  refine av_ifne (tgt := 101) dX11_failing_82 (by decide) ?_ ?_
  · exact vX11_failing_101 l hfl N h53
  refine av_iload dX11_failing_85 ?_
  refine av_iconst (v := 4) dX11_failing_87 (by decide) ?_
  refine av_iceq (tgt := 97) dX11_failing_88 (by decide) ?_ ?_
  · exact vX11_failing_97 l hfl N h53
  refine av_iload dX11_failing_91 ?_
  refine av_iconst (v := 5) dX11_failing_93 (by decide) ?_
  refine av_icne (tgt := 101) dX11_failing_94 (by decide) ?_ ?_
  · exact vX11_failing_101 l hfl N h53
  exact vX11_failing_97 l hfl N h53
set_option maxRecDepth 20000 in
theorem vX11_failing_34 (l : Launch) (hfl : l.stackTraces = false) (N : Nat)  : am_V l cX11_failing 5 RX11 (am_E (some .int) yX11_failing.name) 9 243 34 (kX11_failing_34 N) := by
  refine av_live ?_
  refine av_loop (fun r34 h34 => ?_) N
  refine av_iload_n dX11_failing_34 rfl ?_
  refine av_iload_n dX11_failing_35 rfl ?_
  refine av_icge (tgt := 49) dX11_failing_36 (by decide) ?_ ?_
  · refine av_iconst (v := 0) dX11_failing_49 (by decide) ?_
    refine av_istore_n dX11_failing_50 rfl (by decide) ?_
    refine av_iconst (v := 0) dX11_failing_51 (by decide) ?_
    refine av_istore_n dX11_failing_52 rfl (by decide) ?_
    exact vX11_failing_53 l hfl N
  refine av_aload_n dX11_failing_39 rfl ?_
  refine av_callV am_hT (mX11_passTurn l hfl N) am_ci11 ⟨by decide +kernel, by decide +kernel, by decide +kernel⟩ q795 q796 q628 q797 q798 (by decide) (by decide) dX11_failing_40 ?_
  refine av_iinc dX11_failing_43 (by decide) (by decide) ?_
  refine av_goto (tgt := 34) dX11_failing_46 (by decide) ?_
  exact av_live h34
set_option maxRecDepth 20000 in
theorem vX11_failing_16 (l : Launch) (hfl : l.stackTraces = false) (N : Nat)  : am_V l cX11_failing 5 RX11 (am_E (some .int) yX11_failing.name) 9 243 16 (kX11_failing_16 N) := by
  refine av_live ?_
  refine av_puti am_ci11 (by decide) am_f11_6 q630 (tyX11_ok 6 (by decide)) rfl dX11_failing_16 ?_
  refine av_aload_n dX11_failing_19 rfl ?_
  refine av_geti am_ci11 (by decide) am_f11_6 q630 dX11_failing_20 ?_
  refine av_ifeq (tgt := 28) dX11_failing_23 (by decide) ?_ ?_
  · refine av_aload_n dX11_failing_28 rfl ?_
    refine av_callV am_hT (mX11_begin l hfl N) am_ci11 ⟨by decide +kernel, by decide +kernel, by decide +kernel⟩ q787 q788 q628 q789 q790 (by decide) (by decide) dX11_failing_29 ?_
    refine av_iconst (v := 0) dX11_failing_32 (by decide) ?_
    refine av_istore_n dX11_failing_33 rfl (by decide) ?_
    exact vX11_failing_34 l hfl N
  refine av_iconst (v := 0) dX11_failing_26 (by decide) ?_
  exact av_ireturn am_hi dX11_failing_27
set_option maxRecDepth 20000 in
theorem vX11_failing_0 (l : Launch) (hfl : l.stackTraces = false) (N : Nat)  : am_V l cX11_failing 5 RX11 (am_E (some .int) yX11_failing.name) 9 243 0 (kX11_failing_0 N) := by
  refine av_live ?_
  refine av_aload_n dX11_failing_0 rfl ?_
  refine av_iload_n dX11_failing_1 rfl ?_
  refine av_iconst (v := 0) dX11_failing_2 (by decide) ?_
  refine av_bipush (v := 60) dX11_failing_3 (by decide) ?_
  refine av_callS am_hT (mX11_inRange l hfl N) ⟨by decide +kernel, by decide +kernel, by decide +kernel⟩ q631 q632 q628 q633 (by decide) (by decide) dX11_failing_5 ?_
  refine av_ifeq (tgt := 15) dX11_failing_8 (by decide) ?_ ?_
  · refine av_iconst (v := 1) dX11_failing_15 (by decide) ?_
    exact vX11_failing_16 l hfl N
  refine av_iconst (v := 0) dX11_failing_11 (by decide) ?_
  refine av_goto (tgt := 16) dX11_failing_12 (by decide) ?_
  exact vX11_failing_16 l hfl N
theorem mX11_failing (l : Launch) (hfl : l.stackTraces = false) (N : Nat) : am_M l yX11_failing cX11_failing 5 (some .int) 9 243 (fX11_failing N) := av_meth hfl (by decide +kernel) rfl (vX11_failing_0 l hfl N)
/-! MessengerBoardModel.meanDelay()D -/
noncomputable def kX11_meanDelay_95 (N : Nat) : am_K := c_live [] <|
  c_dret
noncomputable def kX11_meanDelay_74 (N : Nat) (r11 : am_K) : am_K := c_live [0, 1, 3] <|
  c_ii (fun x y => x + y) <|
  c_ist 2 <|
  c_inc 3 (1) <|
  c_live [0, 1, 2, 3] r11
noncomputable def kX11_meanDelay_61 (N : Nat) (r11 : am_K) : am_K := c_live [0, 2, 3, 4] <|
  c_ii (fun x y => x + y) <|
  c_ist 1 <|
  c_ild 2 <|
  c_ild 4 <|
  c_ifeq (
  c_i (0) <|
  kX11_meanDelay_74 N r11) <|
  c_i (1) <|
  kX11_meanDelay_74 N r11
noncomputable def kX11_meanDelay_36 (N : Nat) (r11 : am_K) : am_K := c_live [0, 1, 2, 3] <|
  c_ist 4 <|
  c_ild 1 <|
  c_ild 4 <|
  c_ifeq (
  c_i (0) <|
  kX11_meanDelay_61 N r11) <|
  c_rld 0 <|
  c_ild 3 <|
  c_i (5) <|
  c_callV 11 2 (fX11_ofOrder N) <|
  c_rld 0 <|
  c_ild 3 <|
  c_i (4) <|
  c_callV 11 2 (fX11_ofOrder N) <|
  c_ii (fun x y => x - y) <|
  kX11_meanDelay_61 N r11
noncomputable def bX11_meanDelay_11 (N : Nat) (r11 : am_K) : am_K :=
  c_ild 3 <|
  c_rld 0 <|
  c_getr 11 0 <|
  c_i (4) <|
  c_ial <|
  c_icge (
  c_ild 2 <|
  c_ifne (
  c_ild 1 <|
  c_itd (fun x => FP.i2d x) <|
  c_ild 2 <|
  c_itd (fun x => FP.i2d x) <|
  c_ddiv <|
  kX11_meanDelay_95 N) <|
  c_d FP.dconst0 <|
  kX11_meanDelay_95 N) <|
  c_rld 0 <|
  c_ild 3 <|
  c_i (5) <|
  c_callV 11 2 (fX11_ofOrder N) <|
  c_i (-1) <|
  c_iceq (
  c_i (0) <|
  kX11_meanDelay_36 N r11) <|
  c_i (1) <|
  kX11_meanDelay_36 N r11
noncomputable def kX11_meanDelay_11 (N : Nat) : am_K := c_live [0, 1, 2, 3] (am_loop (bX11_meanDelay_11 N) N)
noncomputable def kX11_meanDelay_0 (N : Nat) : am_K := c_live [0] <|
  c_rld 0 <|
  c_i (0) <|
  c_puti 11 6 <|
  c_i (0) <|
  c_ist 1 <|
  c_i (0) <|
  c_ist 2 <|
  c_i (0) <|
  c_ist 3 <|
  kX11_meanDelay_11 N
noncomputable def fX11_meanDelay (N : Nat) : am_F := am_fn 5 (kX11_meanDelay_0 N)
set_option maxRecDepth 20000 in
theorem vX11_meanDelay_95 (l : Launch) (hfl : l.stackTraces = false) (N : Nat)  : am_V l cX11_meanDelay 5 RX11 (am_E (some .double) yX11_meanDelay.name) 3 103 95 (kX11_meanDelay_95 N) := by
  refine av_live ?_
  exact av_dreturn am_hd dX11_meanDelay_95
set_option maxRecDepth 20000 in
theorem vX11_meanDelay_74 (l : Launch) (hfl : l.stackTraces = false) (N : Nat)  {r11 : am_K} (h11 : am_V l cX11_meanDelay 5 RX11 (am_E (some .double) yX11_meanDelay.name) 3 103 11 r11) : am_V l cX11_meanDelay 5 RX11 (am_E (some .double) yX11_meanDelay.name) 3 103 74 (kX11_meanDelay_74 N r11) := by
  refine av_live ?_
  refine av_iadd dX11_meanDelay_74 ?_
  refine av_istore_n dX11_meanDelay_75 rfl (by decide) ?_
  refine av_iinc dX11_meanDelay_76 (by decide) (by decide) ?_
  refine av_goto (tgt := 11) dX11_meanDelay_79 (by decide) ?_
  exact av_live h11
set_option maxRecDepth 20000 in
theorem vX11_meanDelay_61 (l : Launch) (hfl : l.stackTraces = false) (N : Nat)  {r11 : am_K} (h11 : am_V l cX11_meanDelay 5 RX11 (am_E (some .double) yX11_meanDelay.name) 3 103 11 r11) : am_V l cX11_meanDelay 5 RX11 (am_E (some .double) yX11_meanDelay.name) 3 103 61 (kX11_meanDelay_61 N r11) := by
  refine av_live ?_
  refine av_iadd dX11_meanDelay_61 ?_
  refine av_istore_n dX11_meanDelay_62 rfl (by decide) ?_
  refine av_iload_n dX11_meanDelay_63 rfl ?_
  refine av_iload dX11_meanDelay_64 ?_
  refine av_ifeq (tgt := 73) dX11_meanDelay_66 (by decide) ?_ ?_
  · refine av_iconst (v := 0) dX11_meanDelay_73 (by decide) ?_
    exact vX11_meanDelay_74 l hfl N h11
  refine av_iconst (v := 1) dX11_meanDelay_69 (by decide) ?_
  refine av_goto (tgt := 74) dX11_meanDelay_70 (by decide) ?_
  exact vX11_meanDelay_74 l hfl N h11
set_option maxRecDepth 20000 in
theorem vX11_meanDelay_36 (l : Launch) (hfl : l.stackTraces = false) (N : Nat)  {r11 : am_K} (h11 : am_V l cX11_meanDelay 5 RX11 (am_E (some .double) yX11_meanDelay.name) 3 103 11 r11) : am_V l cX11_meanDelay 5 RX11 (am_E (some .double) yX11_meanDelay.name) 3 103 36 (kX11_meanDelay_36 N r11) := by
  refine av_live ?_
  refine av_istore dX11_meanDelay_36 (by decide) ?_
  refine av_iload_n dX11_meanDelay_38 rfl ?_
  refine av_iload dX11_meanDelay_39 ?_
  refine av_ifeq (tgt := 60) dX11_meanDelay_41 (by decide) ?_ ?_
  · refine av_iconst (v := 0) dX11_meanDelay_60 (by decide) ?_
    exact vX11_meanDelay_61 l hfl N h11
  refine av_aload_n dX11_meanDelay_44 rfl ?_
  refine av_iload_n dX11_meanDelay_45 rfl ?_
  refine av_iconst (v := 5) dX11_meanDelay_46 (by decide) ?_
  refine av_callV am_hT (mX11_ofOrder l hfl N) am_ci11 ⟨by decide +kernel, by decide +kernel, by decide +kernel⟩ q644 q645 q628 q646 q647 (by decide) (by decide) dX11_meanDelay_47 ?_
  refine av_aload_n dX11_meanDelay_50 rfl ?_
  refine av_iload_n dX11_meanDelay_51 rfl ?_
  refine av_iconst (v := 4) dX11_meanDelay_52 (by decide) ?_
  refine av_callV am_hT (mX11_ofOrder l hfl N) am_ci11 ⟨by decide +kernel, by decide +kernel, by decide +kernel⟩ q644 q645 q628 q646 q647 (by decide) (by decide) dX11_meanDelay_53 ?_
  refine av_isub dX11_meanDelay_56 ?_
  refine av_goto (tgt := 61) dX11_meanDelay_57 (by decide) ?_
  exact vX11_meanDelay_61 l hfl N h11
set_option maxRecDepth 20000 in
theorem vX11_meanDelay_11 (l : Launch) (hfl : l.stackTraces = false) (N : Nat)  : am_V l cX11_meanDelay 5 RX11 (am_E (some .double) yX11_meanDelay.name) 3 103 11 (kX11_meanDelay_11 N) := by
  refine av_live ?_
  refine av_loop (fun r11 h11 => ?_) N
  refine av_iload_n dX11_meanDelay_11 rfl ?_
  refine av_aload_n dX11_meanDelay_12 rfl ?_
  refine av_getr am_ci11 (by decide) am_f11_0 q610 dX11_meanDelay_13 ?_
  refine av_iconst (v := 4) dX11_meanDelay_16 (by decide) ?_
  refine av_iaload dX11_meanDelay_17 ?_
  refine av_icge (tgt := 82) dX11_meanDelay_18 (by decide) ?_ ?_
  · refine av_iload_n dX11_meanDelay_82 rfl ?_
    refine av_ifne (tgt := 90) dX11_meanDelay_83 (by decide) ?_ ?_
    · refine av_iload_n dX11_meanDelay_90 rfl ?_
      refine av_i2d dX11_meanDelay_91 ?_
      refine av_iload_n dX11_meanDelay_92 rfl ?_
      refine av_i2d dX11_meanDelay_93 ?_
      refine av_ddiv dX11_meanDelay_94 ?_
      exact vX11_meanDelay_95 l hfl N
    refine av_dconst0 dX11_meanDelay_86 ?_
    refine av_goto (tgt := 95) dX11_meanDelay_87 (by decide) ?_
    exact vX11_meanDelay_95 l hfl N
  refine av_aload_n dX11_meanDelay_21 rfl ?_
  refine av_iload_n dX11_meanDelay_22 rfl ?_
  refine av_iconst (v := 5) dX11_meanDelay_23 (by decide) ?_
  refine av_callV am_hT (mX11_ofOrder l hfl N) am_ci11 ⟨by decide +kernel, by decide +kernel, by decide +kernel⟩ q644 q645 q628 q646 q647 (by decide) (by decide) dX11_meanDelay_24 ?_
  refine av_iconst (v := -1) dX11_meanDelay_27 (by decide) ?_
  refine av_iceq (tgt := 35) dX11_meanDelay_28 (by decide) ?_ ?_
  · refine av_iconst (v := 0) dX11_meanDelay_35 (by decide) ?_
    exact vX11_meanDelay_36 l hfl N h11
  refine av_iconst (v := 1) dX11_meanDelay_31 (by decide) ?_
  refine av_goto (tgt := 36) dX11_meanDelay_32 (by decide) ?_
  exact vX11_meanDelay_36 l hfl N h11
set_option maxRecDepth 20000 in
theorem vX11_meanDelay_0 (l : Launch) (hfl : l.stackTraces = false) (N : Nat)  : am_V l cX11_meanDelay 5 RX11 (am_E (some .double) yX11_meanDelay.name) 3 103 0 (kX11_meanDelay_0 N) := by
  refine av_live ?_
  refine av_aload_n dX11_meanDelay_0 rfl ?_
  refine av_iconst (v := 0) dX11_meanDelay_1 (by decide) ?_
  refine av_puti am_ci11 (by decide) am_f11_6 q630 (tyX11_ok 6 (by decide)) rfl dX11_meanDelay_2 ?_
  refine av_iconst (v := 0) dX11_meanDelay_5 (by decide) ?_
  refine av_istore_n dX11_meanDelay_6 rfl (by decide) ?_
  refine av_iconst (v := 0) dX11_meanDelay_7 (by decide) ?_
  refine av_istore_n dX11_meanDelay_8 rfl (by decide) ?_
  refine av_iconst (v := 0) dX11_meanDelay_9 (by decide) ?_
  refine av_istore_n dX11_meanDelay_10 rfl (by decide) ?_
  exact vX11_meanDelay_11 l hfl N
theorem mX11_meanDelay (l : Launch) (hfl : l.stackTraces = false) (N : Nat) : am_M l yX11_meanDelay cX11_meanDelay 5 (some .double) 3 103 (fX11_meanDelay N) := av_meth hfl (by decide +kernel) rfl (vX11_meanDelay_0 l hfl N)
/-! MessengerBoardModel.success()F -/
noncomputable def kX11_success_32 (N : Nat) : am_K := c_live [] <|
  c_fret
noncomputable def kX11_success_0 (N : Nat) : am_K := c_live [0] <|
  c_rld 0 <|
  c_i (0) <|
  c_puti 11 6 <|
  c_rld 0 <|
  c_getr 11 0 <|
  c_i (4) <|
  c_ial <|
  c_ifne (
  c_rld 0 <|
  c_i (2) <|
  c_callV 11 1 (fX11_ordersIn N) <|
  c_itf (fun x => FP.i2f x) <|
  c_rld 0 <|
  c_getr 11 0 <|
  c_i (4) <|
  c_ial <|
  c_itf (fun x => FP.i2f x) <|
  c_fdiv <|
  kX11_success_32 N) <|
  c_f FP.fconst0 <|
  kX11_success_32 N
noncomputable def fX11_success (N : Nat) : am_F := am_fn 1 (kX11_success_0 N)
set_option maxRecDepth 20000 in
theorem vX11_success_32 (l : Launch) (hfl : l.stackTraces = false) (N : Nat)  : am_V l cX11_success 1 RX11 (am_E (some .float) yX11_success.name) 4 126 32 (kX11_success_32 N) := by
  refine av_live ?_
  exact av_freturn am_hf dX11_success_32
set_option maxRecDepth 20000 in
theorem vX11_success_0 (l : Launch) (hfl : l.stackTraces = false) (N : Nat)  : am_V l cX11_success 1 RX11 (am_E (some .float) yX11_success.name) 4 126 0 (kX11_success_0 N) := by
  refine av_live ?_
  refine av_aload_n dX11_success_0 rfl ?_
  refine av_iconst (v := 0) dX11_success_1 (by decide) ?_
  refine av_puti am_ci11 (by decide) am_f11_6 q630 (tyX11_ok 6 (by decide)) rfl dX11_success_2 ?_
  refine av_aload_n dX11_success_5 rfl ?_
  refine av_getr am_ci11 (by decide) am_f11_0 q610 dX11_success_6 ?_
  refine av_iconst (v := 4) dX11_success_9 (by decide) ?_
  refine av_iaload dX11_success_10 ?_
  refine av_ifne (tgt := 18) dX11_success_11 (by decide) ?_ ?_
  · refine av_aload_n dX11_success_18 rfl ?_
    refine av_iconst (v := 2) dX11_success_19 (by decide) ?_
    refine av_callV am_hT (mX11_ordersIn l hfl N) am_ci11 ⟨by decide +kernel, by decide +kernel, by decide +kernel⟩ q694 q695 q628 q696 q697 (by decide) (by decide) dX11_success_20 ?_
    refine av_i2f dX11_success_23 ?_
    refine av_aload_n dX11_success_24 rfl ?_
    refine av_getr am_ci11 (by decide) am_f11_0 q610 dX11_success_25 ?_
    refine av_iconst (v := 4) dX11_success_28 (by decide) ?_
    refine av_iaload dX11_success_29 ?_
    refine av_i2f dX11_success_30 ?_
    refine av_fdiv dX11_success_31 ?_
    exact vX11_success_32 l hfl N
  refine av_fconst0 dX11_success_14 ?_
  refine av_goto (tgt := 32) dX11_success_15 (by decide) ?_
  exact vX11_success_32 l hfl N
theorem mX11_success (l : Launch) (hfl : l.stackTraces = false) (N : Nat) : am_M l yX11_success cX11_success 1 (some .float) 4 126 (fX11_success N) := av_meth hfl (by decide +kernel) rfl (vX11_success_0 l hfl N)
/-! MessengerBoardModel.record()V -/
noncomputable def kX11_record_48 (N : Nat) : am_K := c_live [0] <|
  c_rld 0 <|
  c_getr 11 0 <|
  c_i (0) <|
  c_rld 0 <|
  c_getr 11 4 <|
  c_rld 0 <|
  c_geti 11 5 <|
  c_callS 4 (fX11_copy N) <|
  c_rld 0 <|
  c_dup <|
  c_geti 11 5 <|
  c_i (1) <|
  c_ii (fun x y => x + y) <|
  c_puti 11 5 <|
  c_vret
noncomputable def bX11_record_11 (N : Nat) (r11 : am_K) : am_K :=
  c_ild 1 <|
  c_i (10) <|
  c_icge (
  c_rld 0 <|
  c_dup <|
  c_geti 11 5 <|
  c_i (1) <|
  c_ii (fun x y => x - y) <|
  c_puti 11 5 <|
  kX11_record_48 N) <|
  c_rld 0 <|
  c_getr 11 4 <|
  c_ild 1 <|
  c_rld 0 <|
  c_getr 11 4 <|
  c_ild 1 <|
  c_i (1) <|
  c_ii (fun x y => x - y) <|
  c_callS 4 (fX11_copy N) <|
  c_inc 1 (1) <|
  c_live [0, 1] r11
noncomputable def kX11_record_11 (N : Nat) : am_K := c_live [0, 1] (am_loop (bX11_record_11 N) N)
noncomputable def kX11_record_0 (N : Nat) : am_K := c_live [0] <|
  c_rld 0 <|
  c_geti 11 5 <|
  c_i (10) <|
  c_icne (
  kX11_record_48 N) <|
  c_i (1) <|
  c_ist 1 <|
  kX11_record_11 N
noncomputable def fX11_record (N : Nat) : am_F := am_fn 2 (kX11_record_0 N)
set_option maxRecDepth 20000 in
theorem vX11_record_48 (l : Launch) (hfl : l.stackTraces = false) (N : Nat)  : am_V l cX11_record 2 RX11 (am_E none yX11_record.name) 2 84 48 (kX11_record_48 N) := by
  refine av_live ?_
  refine av_aload_n dX11_record_48 rfl ?_
  refine av_getr am_ci11 (by decide) am_f11_0 q610 dX11_record_49 ?_
  refine av_iconst (v := 0) dX11_record_52 (by decide) ?_
  refine av_aload_n dX11_record_53 rfl ?_
  refine av_getr am_ci11 (by decide) am_f11_4 q615 dX11_record_54 ?_
  refine av_aload_n dX11_record_57 rfl ?_
  refine av_geti am_ci11 (by decide) am_f11_5 q803 dX11_record_58 ?_
  refine av_callS am_hT (mX11_copy l hfl N) ⟨by decide +kernel, by decide +kernel, by decide +kernel⟩ q736 q737 q628 q738 (by decide) (by decide) dX11_record_61 ?_
  refine av_aload_n dX11_record_64 rfl ?_
  refine av_dup dX11_record_65 ?_
  refine av_geti am_ci11 (by decide) am_f11_5 q803 dX11_record_66 ?_
  refine av_iconst (v := 1) dX11_record_69 (by decide) ?_
  refine av_iadd dX11_record_70 ?_
  refine av_puti am_ci11 (by decide) am_f11_5 q803 (tyX11_ok 5 (by decide)) rfl dX11_record_71 ?_
  exact av_return_ am_hv dX11_record_74
set_option maxRecDepth 20000 in
theorem vX11_record_11 (l : Launch) (hfl : l.stackTraces = false) (N : Nat)  : am_V l cX11_record 2 RX11 (am_E none yX11_record.name) 2 84 11 (kX11_record_11 N) := by
  refine av_live ?_
  refine av_loop (fun r11 h11 => ?_) N
  refine av_iload_n dX11_record_11 rfl ?_
  refine av_bipush (v := 10) dX11_record_12 (by decide) ?_
  refine av_icge (tgt := 38) dX11_record_14 (by decide) ?_ ?_
  · refine av_aload_n dX11_record_38 rfl ?_
    refine av_dup dX11_record_39 ?_
    refine av_geti am_ci11 (by decide) am_f11_5 q803 dX11_record_40 ?_
    refine av_iconst (v := 1) dX11_record_43 (by decide) ?_
    refine av_isub dX11_record_44 ?_
    refine av_puti am_ci11 (by decide) am_f11_5 q803 (tyX11_ok 5 (by decide)) rfl dX11_record_45 ?_
    exact vX11_record_48 l hfl N
  refine av_aload_n dX11_record_17 rfl ?_
  refine av_getr am_ci11 (by decide) am_f11_4 q615 dX11_record_18 ?_
  refine av_iload_n dX11_record_21 rfl ?_
  refine av_aload_n dX11_record_22 rfl ?_
  refine av_getr am_ci11 (by decide) am_f11_4 q615 dX11_record_23 ?_
  refine av_iload_n dX11_record_26 rfl ?_
  refine av_iconst (v := 1) dX11_record_27 (by decide) ?_
  refine av_isub dX11_record_28 ?_
  refine av_callS am_hT (mX11_copy l hfl N) ⟨by decide +kernel, by decide +kernel, by decide +kernel⟩ q736 q737 q628 q738 (by decide) (by decide) dX11_record_29 ?_
  refine av_iinc dX11_record_32 (by decide) (by decide) ?_
  refine av_goto (tgt := 11) dX11_record_35 (by decide) ?_
  exact av_live h11
set_option maxRecDepth 20000 in
theorem vX11_record_0 (l : Launch) (hfl : l.stackTraces = false) (N : Nat)  : am_V l cX11_record 2 RX11 (am_E none yX11_record.name) 2 84 0 (kX11_record_0 N) := by
  refine av_live ?_
  refine av_aload_n dX11_record_0 rfl ?_
  refine av_geti am_ci11 (by decide) am_f11_5 q803 dX11_record_1 ?_
  refine av_bipush (v := 10) dX11_record_4 (by decide) ?_
  refine av_icne (tgt := 48) dX11_record_6 (by decide) ?_ ?_
  · exact vX11_record_48 l hfl N
  refine av_iconst (v := 1) dX11_record_9 (by decide) ?_
  refine av_istore_n dX11_record_10 rfl (by decide) ?_
  exact vX11_record_11 l hfl N
theorem mX11_record (l : Launch) (hfl : l.stackTraces = false) (N : Nat) : am_M l yX11_record cX11_record 2 none 2 84 (fX11_record N) := av_meth hfl (by decide +kernel) rfl (vX11_record_0 l hfl N)
/-! MessengerBoardModel.pass(I)I -/
noncomputable def bX11_pass_50 (N : Nat) (r50 : am_K) : am_K :=
  c_ild 3 <|
  c_ild 1 <|
  c_icge (
  c_rld 0 <|
  c_getr 11 0 <|
  c_i (7) <|
  c_ial <|
  c_ild 2 <|
  c_ii (fun x y => x - y) <|
  c_iret) <|
  c_rld 0 <|
  c_callV 11 0 (fX11_passTurn N) <|
  c_inc 3 (1) <|
  c_live [0, 1, 2, 3] r50
noncomputable def kX11_pass_50 (N : Nat) : am_K := c_live [0, 1, 2, 3] (am_loop (bX11_pass_50 N) N)
noncomputable def kX11_pass_0 (N : Nat) : am_K := c_live [0, 1] <|
  c_rld 0 <|
  c_i (0) <|
  c_puti 11 6 <|
  c_ild 1 <|
  c_i (1) <|
  c_i (60) <|
  c_callS 3 (fX11_inRange N) <|
  c_ifne (
  c_rld 0 <|
  c_callV 11 0 (fX11_turnNow N) <|
  c_ild 1 <|
  c_ii (fun x y => x + y) <|
  c_i (500) <|
  c_icle (
  c_rld 0 <|
  c_callV 11 0 (fX11_record N) <|
  c_rld 0 <|
  c_getr 11 0 <|
  c_i (7) <|
  c_ial <|
  c_ist 2 <|
  c_i (0) <|
  c_ist 3 <|
  kX11_pass_50 N) <|
  c_i (-2) <|
  c_iret) <|
  c_rld 0 <|
  c_i (1) <|
  c_callV 11 1 (fX11_raise N) <|
  c_iret
noncomputable def fX11_pass (N : Nat) : am_F := am_fn 4 (kX11_pass_0 N)
set_option maxRecDepth 20000 in
theorem vX11_pass_50 (l : Launch) (hfl : l.stackTraces = false) (N : Nat)  : am_V l cX11_pass 4 RX11 (am_E (some .int) yX11_pass.name) 9 243 50 (kX11_pass_50 N) := by
  refine av_live ?_
  refine av_loop (fun r50 h50 => ?_) N
  refine av_iload_n dX11_pass_50 rfl ?_
  refine av_iload_n dX11_pass_51 rfl ?_
  refine av_icge (tgt := 65) dX11_pass_52 (by decide) ?_ ?_
  · refine av_aload_n dX11_pass_65 rfl ?_
    refine av_getr am_ci11 (by decide) am_f11_0 q610 dX11_pass_66 ?_
    refine av_bipush (v := 7) dX11_pass_69 (by decide) ?_
    refine av_iaload dX11_pass_71 ?_
    refine av_iload_n dX11_pass_72 rfl ?_
    refine av_isub dX11_pass_73 ?_
    exact av_ireturn am_hi dX11_pass_74
  refine av_aload_n dX11_pass_55 rfl ?_
  refine av_callV am_hT (mX11_passTurn l hfl N) am_ci11 ⟨by decide +kernel, by decide +kernel, by decide +kernel⟩ q795 q796 q628 q797 q798 (by decide) (by decide) dX11_pass_56 ?_
  refine av_iinc dX11_pass_59 (by decide) (by decide) ?_
  refine av_goto (tgt := 50) dX11_pass_62 (by decide) ?_
  exact av_live h50
set_option maxRecDepth 20000 in
theorem vX11_pass_0 (l : Launch) (hfl : l.stackTraces = false) (N : Nat)  : am_V l cX11_pass 4 RX11 (am_E (some .int) yX11_pass.name) 9 243 0 (kX11_pass_0 N) := by
  refine av_live ?_
  refine av_aload_n dX11_pass_0 rfl ?_
  refine av_iconst (v := 0) dX11_pass_1 (by decide) ?_
  refine av_puti am_ci11 (by decide) am_f11_6 q630 (tyX11_ok 6 (by decide)) rfl dX11_pass_2 ?_
  refine av_iload_n dX11_pass_5 rfl ?_
  refine av_iconst (v := 1) dX11_pass_6 (by decide) ?_
  refine av_bipush (v := 60) dX11_pass_7 (by decide) ?_
  refine av_callS am_hT (mX11_inRange l hfl N) ⟨by decide +kernel, by decide +kernel, by decide +kernel⟩ q631 q632 q628 q633 (by decide) (by decide) dX11_pass_9 ?_
  refine av_ifne (tgt := 21) dX11_pass_12 (by decide) ?_ ?_
  · refine av_aload_n dX11_pass_21 rfl ?_
    refine av_callV am_hT (mX11_turnNow l hfl N) am_ci11 ⟨by decide +kernel, by decide +kernel, by decide +kernel⟩ q675 q676 q628 q677 q678 (by decide) (by decide) dX11_pass_22 ?_
    refine av_iload_n dX11_pass_25 rfl ?_
    refine av_iadd dX11_pass_26 ?_
    refine av_sipush (v := 500) dX11_pass_27 (by decide) ?_
    refine av_icle (tgt := 36) dX11_pass_30 (by decide) ?_ ?_
    · refine av_aload_n dX11_pass_36 rfl ?_
      refine av_callV am_hT (mX11_record l hfl N) am_ci11 ⟨by decide +kernel, by decide +kernel, by decide +kernel⟩ q804 q805 q628 q806 q807 (by decide) (by decide) dX11_pass_37 ?_
      refine av_aload_n dX11_pass_40 rfl ?_
      refine av_getr am_ci11 (by decide) am_f11_0 q610 dX11_pass_41 ?_
      refine av_bipush (v := 7) dX11_pass_44 (by decide) ?_
      refine av_iaload dX11_pass_46 ?_
      refine av_istore_n dX11_pass_47 rfl (by decide) ?_
      refine av_iconst (v := 0) dX11_pass_48 (by decide) ?_
      refine av_istore_n dX11_pass_49 rfl (by decide) ?_
      exact vX11_pass_50 l hfl N
    refine av_bipush (v := -2) dX11_pass_33 (by decide) ?_
    exact av_ireturn am_hi dX11_pass_35
  refine av_aload_n dX11_pass_15 rfl ?_
  refine av_iconst (v := 1) dX11_pass_16 (by decide) ?_
  refine av_callV am_hT (mX11_raise l hfl N) am_ci11 ⟨by decide +kernel, by decide +kernel, by decide +kernel⟩ q634 q635 q628 q636 q637 (by decide) (by decide) dX11_pass_17 ?_
  exact av_ireturn am_hi dX11_pass_20
theorem mX11_pass (l : Launch) (hfl : l.stackTraces = false) (N : Nat) : am_M l yX11_pass cX11_pass 4 (some .int) 9 243 (fX11_pass N) := av_meth hfl (by decide +kernel) rfl (vX11_pass_0 l hfl N)
/-! MessengerBoardModel.send(III)I -/
noncomputable def kX11_send_0 (N : Nat) : am_K := c_live [0, 1, 2, 3] <|
  c_rld 0 <|
  c_ild 1 <|
  c_ild 2 <|
  c_ild 3 <|
  c_callV 11 3 (fX11_isTarget N) <|
  c_ifne (
  c_rld 0 <|
  c_getr 11 0 <|
  c_i (4) <|
  c_ial <|
  c_i (40) <|
  c_icne (
  c_rld 0 <|
  c_callV 11 0 (fX11_record N) <|
  c_rld 0 <|
  c_ild 1 <|
  c_ild 2 <|
  c_ild 3 <|
  c_callV 11 3 (fX11_dispatch N) <|
  c_rld 0 <|
  c_getr 11 0 <|
  c_i (4) <|
  c_ial <|
  c_i (1) <|
  c_ii (fun x y => x - y) <|
  c_iret) <|
  c_i (-3) <|
  c_iret) <|
  c_i (0) <|
  c_iret
noncomputable def fX11_send (N : Nat) : am_F := am_fn 4 (kX11_send_0 N)
set_option maxRecDepth 20000 in
theorem vX11_send_0 (l : Launch) (hfl : l.stackTraces = false) (N : Nat)  : am_V l cX11_send 4 RX11 (am_E (some .int) yX11_send.name) 5 149 0 (kX11_send_0 N) := by
  refine av_live ?_
  refine av_aload_n dX11_send_0 rfl ?_
  refine av_iload_n dX11_send_1 rfl ?_
  refine av_iload_n dX11_send_2 rfl ?_
  refine av_iload_n dX11_send_3 rfl ?_
  refine av_callV am_hT (mX11_isTarget l hfl N) am_ci11 ⟨by decide +kernel, by decide +kernel, by decide +kernel⟩ q783 q784 q628 q785 q786 (by decide) (by decide) dX11_send_4 ?_
  refine av_ifne (tgt := 12) dX11_send_7 (by decide) ?_ ?_
  · refine av_aload_n dX11_send_12 rfl ?_
    refine av_getr am_ci11 (by decide) am_f11_0 q610 dX11_send_13 ?_
    refine av_iconst (v := 4) dX11_send_16 (by decide) ?_
    refine av_iaload dX11_send_17 ?_
    refine av_bipush (v := 40) dX11_send_18 (by decide) ?_
    refine av_icne (tgt := 26) dX11_send_20 (by decide) ?_ ?_
    · refine av_aload_n dX11_send_26 rfl ?_
      refine av_callV am_hT (mX11_record l hfl N) am_ci11 ⟨by decide +kernel, by decide +kernel, by decide +kernel⟩ q804 q805 q628 q806 q807 (by decide) (by decide) dX11_send_27 ?_
      refine av_aload_n dX11_send_30 rfl ?_
      refine av_iload_n dX11_send_31 rfl ?_
      refine av_iload_n dX11_send_32 rfl ?_
      refine av_iload_n dX11_send_33 rfl ?_
      refine av_callV am_hT (mX11_dispatch l hfl N) am_ci11 ⟨by decide +kernel, by decide +kernel, by decide +kernel⟩ q739 q740 q628 q741 q742 (by decide) (by decide) dX11_send_34 ?_
      refine av_aload_n dX11_send_37 rfl ?_
      refine av_getr am_ci11 (by decide) am_f11_0 q610 dX11_send_38 ?_
      refine av_iconst (v := 4) dX11_send_41 (by decide) ?_
      refine av_iaload dX11_send_42 ?_
      refine av_iconst (v := 1) dX11_send_43 (by decide) ?_
      refine av_isub dX11_send_44 ?_
      exact av_ireturn am_hi dX11_send_45
    refine av_bipush (v := -3) dX11_send_23 (by decide) ?_
    exact av_ireturn am_hi dX11_send_25
  refine av_iconst (v := 0) dX11_send_10 (by decide) ?_
  exact av_ireturn am_hi dX11_send_11
theorem mX11_send (l : Launch) (hfl : l.stackTraces = false) (N : Nat) : am_M l yX11_send cX11_send 4 (some .int) 5 149 (fX11_send N) := av_meth hfl (by decide +kernel) rfl (vX11_send_0 l hfl N)
/-! MessengerBoardModel.isHeld(II)Z -/
noncomputable def kX11_isHeld_132 (N : Nat) (r81 : am_K) : am_K := c_live [0, 1, 2, 4] <|
  c_ii (fun x y => x ||| y) <|
  c_ist 3 <|
  c_inc 4 (1) <|
  c_live [0, 1, 2, 3, 4] r81
noncomputable def kX11_isHeld_131 (N : Nat) (r81 : am_K) : am_K := c_live [0, 1, 2, 4] <|
  c_i (0) <|
  kX11_isHeld_132 N r81
noncomputable def bX11_isHeld_81 (N : Nat) (r81 : am_K) : am_K :=
  c_ild 4 <|
  c_rld 0 <|
  c_getr 11 0 <|
  c_i (4) <|
  c_ial <|
  c_icge (
  c_ild 3 <|
  c_zret) <|
  c_ild 3 <|
  c_rld 0 <|
  c_ild 4 <|
  c_i (3) <|
  c_callV 11 2 (fX11_ofOrder N) <|
  c_ifne (
  kX11_isHeld_131 N r81) <|
  c_rld 0 <|
  c_ild 4 <|
  c_i (7) <|
  c_callV 11 2 (fX11_ofOrder N) <|
  c_ild 1 <|
  c_icne (
  kX11_isHeld_131 N r81) <|
  c_rld 0 <|
  c_ild 4 <|
  c_i (8) <|
  c_callV 11 2 (fX11_ofOrder N) <|
  c_ild 2 <|
  c_icne (
  kX11_isHeld_131 N r81) <|
  c_i (1) <|
  kX11_isHeld_132 N r81
noncomputable def kX11_isHeld_81 (N : Nat) : am_K := c_live [0, 1, 2, 3, 4] (am_loop (bX11_isHeld_81 N) N)
noncomputable def kX11_isHeld_70 (N : Nat) (r31 : am_K) : am_K := c_live [0, 1, 2, 4] <|
  c_ii (fun x y => x ||| y) <|
  c_ist 3 <|
  c_inc 4 (1) <|
  c_live [0, 1, 2, 3, 4] r31
noncomputable def kX11_isHeld_69 (N : Nat) (r31 : am_K) : am_K := c_live [0, 1, 2, 4] <|
  c_i (0) <|
  kX11_isHeld_70 N r31
noncomputable def bX11_isHeld_31 (N : Nat) (r31 : am_K) : am_K :=
  c_ild 4 <|
  c_rld 0 <|
  c_getr 11 0 <|
  c_i (2) <|
  c_ial <|
  c_icge (
  c_i (0) <|
  c_ist 4 <|
  kX11_isHeld_81 N) <|
  c_ild 3 <|
  c_rld 0 <|
  c_ild 4 <|
  c_i (0) <|
  c_callV 11 2 (fX11_ofUnit N) <|
  c_ild 1 <|
  c_icne (
  kX11_isHeld_69 N r31) <|
  c_rld 0 <|
  c_ild 4 <|
  c_i (1) <|
  c_callV 11 2 (fX11_ofUnit N) <|
  c_ild 2 <|
  c_icne (
  kX11_isHeld_69 N r31) <|
  c_i (1) <|
  kX11_isHeld_70 N r31
noncomputable def kX11_isHeld_31 (N : Nat) : am_K := c_live [0, 1, 2, 3, 4] (am_loop (bX11_isHeld_31 N) N)
noncomputable def kX11_isHeld_27 (N : Nat) : am_K := c_live [0, 1, 2] <|
  c_ist 3 <|
  c_i (0) <|
  c_ist 4 <|
  kX11_isHeld_31 N
noncomputable def kX11_isHeld_26 (N : Nat) : am_K := c_live [0, 1, 2] <|
  c_i (0) <|
  kX11_isHeld_27 N
noncomputable def kX11_isHeld_0 (N : Nat) : am_K := c_live [0, 1, 2] <|
  c_rld 0 <|
  c_getr 11 0 <|
  c_i (10) <|
  c_ial <|
  c_ild 1 <|
  c_icne (
  kX11_isHeld_26 N) <|
  c_rld 0 <|
  c_getr 11 0 <|
  c_i (11) <|
  c_ial <|
  c_ild 2 <|
  c_icne (
  kX11_isHeld_26 N) <|
  c_i (1) <|
  kX11_isHeld_27 N
noncomputable def fX11_isHeld (N : Nat) : am_F := am_fn 5 (kX11_isHeld_0 N)
set_option maxRecDepth 20000 in
theorem vX11_isHeld_132 (l : Launch) (hfl : l.stackTraces = false) (N : Nat)  {r81 : am_K} (h81 : am_V l cX11_isHeld 5 RX11 (am_E (some .boolean) yX11_isHeld.name) 3 103 81 r81) : am_V l cX11_isHeld 5 RX11 (am_E (some .boolean) yX11_isHeld.name) 3 103 132 (kX11_isHeld_132 N r81) := by
  refine av_live ?_
  refine av_ior dX11_isHeld_132 ?_
  refine av_istore_n dX11_isHeld_133 rfl (by decide) ?_
  refine av_iinc dX11_isHeld_134 (by decide) (by decide) ?_
  refine av_goto (tgt := 81) dX11_isHeld_137 (by decide) ?_
  exact av_live h81
set_option maxRecDepth 20000 in
theorem vX11_isHeld_131 (l : Launch) (hfl : l.stackTraces = false) (N : Nat)  {r81 : am_K} (h81 : am_V l cX11_isHeld 5 RX11 (am_E (some .boolean) yX11_isHeld.name) 3 103 81 r81) : am_V l cX11_isHeld 5 RX11 (am_E (some .boolean) yX11_isHeld.name) 3 103 131 (kX11_isHeld_131 N r81) := by
  refine av_live ?_
  refine av_iconst (v := 0) dX11_isHeld_131 (by decide) ?_
  exact vX11_isHeld_132 l hfl N h81
set_option maxRecDepth 20000 in
theorem vX11_isHeld_81 (l : Launch) (hfl : l.stackTraces = false) (N : Nat)  : am_V l cX11_isHeld 5 RX11 (am_E (some .boolean) yX11_isHeld.name) 3 103 81 (kX11_isHeld_81 N) := by
  refine av_live ?_
  refine av_loop (fun r81 h81 => ?_) N
  refine av_iload dX11_isHeld_81 ?_
  refine av_aload_n dX11_isHeld_83 rfl ?_
  refine av_getr am_ci11 (by decide) am_f11_0 q610 dX11_isHeld_84 ?_
  refine av_iconst (v := 4) dX11_isHeld_87 (by decide) ?_
  refine av_iaload dX11_isHeld_88 ?_
  refine av_icge (tgt := 140) dX11_isHeld_89 (by decide) ?_ ?_
  · refine av_iload_n dX11_isHeld_140 rfl ?_
    exact av_zreturn am_hz dX11_isHeld_141
  refine av_iload_n dX11_isHeld_92 rfl ?_
  refine av_aload_n dX11_isHeld_93 rfl ?_
  refine av_iload dX11_isHeld_94 ?_
  refine av_iconst (v := 3) dX11_isHeld_96 (by decide) ?_
  refine av_callV am_hT (mX11_ofOrder l hfl N) am_ci11 ⟨by decide +kernel, by decide +kernel, by decide +kernel⟩ q644 q645 q628 q646 q647 (by decide) (by decide) dX11_isHeld_97 ?_
  refine av_ifne (tgt := 131) dX11_isHeld_100 (by decide) ?_ ?_
  · exact vX11_isHeld_131 l hfl N h81
  refine av_aload_n dX11_isHeld_103 rfl ?_
  refine av_iload dX11_isHeld_104 ?_
  refine av_bipush (v := 7) dX11_isHeld_106 (by decide) ?_
  refine av_callV am_hT (mX11_ofOrder l hfl N) am_ci11 ⟨by decide +kernel, by decide +kernel, by decide +kernel⟩ q644 q645 q628 q646 q647 (by decide) (by decide) dX11_isHeld_108 ?_
  refine av_iload_n dX11_isHeld_111 rfl ?_
  refine av_icne (tgt := 131) dX11_isHeld_112 (by decide) ?_ ?_
  · exact vX11_isHeld_131 l hfl N h81
  refine av_aload_n dX11_isHeld_115 rfl ?_
  refine av_iload dX11_isHeld_116 ?_
  refine av_bipush (v := 8) dX11_isHeld_118 (by decide) ?_
  refine av_callV am_hT (mX11_ofOrder l hfl N) am_ci11 ⟨by decide +kernel, by decide +kernel, by decide +kernel⟩ q644 q645 q628 q646 q647 (by decide) (by decide) dX11_isHeld_120 ?_
  refine av_iload_n dX11_isHeld_123 rfl ?_
  refine av_icne (tgt := 131) dX11_isHeld_124 (by decide) ?_ ?_
  · exact vX11_isHeld_131 l hfl N h81
  refine av_iconst (v := 1) dX11_isHeld_127 (by decide) ?_
  refine av_goto (tgt := 132) dX11_isHeld_128 (by decide) ?_
  exact vX11_isHeld_132 l hfl N h81
set_option maxRecDepth 20000 in
theorem vX11_isHeld_70 (l : Launch) (hfl : l.stackTraces = false) (N : Nat)  {r31 : am_K} (h31 : am_V l cX11_isHeld 5 RX11 (am_E (some .boolean) yX11_isHeld.name) 3 103 31 r31) : am_V l cX11_isHeld 5 RX11 (am_E (some .boolean) yX11_isHeld.name) 3 103 70 (kX11_isHeld_70 N r31) := by
  refine av_live ?_
  refine av_ior dX11_isHeld_70 ?_
  refine av_istore_n dX11_isHeld_71 rfl (by decide) ?_
  refine av_iinc dX11_isHeld_72 (by decide) (by decide) ?_
  refine av_goto (tgt := 31) dX11_isHeld_75 (by decide) ?_
  exact av_live h31
set_option maxRecDepth 20000 in
theorem vX11_isHeld_69 (l : Launch) (hfl : l.stackTraces = false) (N : Nat)  {r31 : am_K} (h31 : am_V l cX11_isHeld 5 RX11 (am_E (some .boolean) yX11_isHeld.name) 3 103 31 r31) : am_V l cX11_isHeld 5 RX11 (am_E (some .boolean) yX11_isHeld.name) 3 103 69 (kX11_isHeld_69 N r31) := by
  refine av_live ?_
  refine av_iconst (v := 0) dX11_isHeld_69 (by decide) ?_
  exact vX11_isHeld_70 l hfl N h31
set_option maxRecDepth 20000 in
theorem vX11_isHeld_31 (l : Launch) (hfl : l.stackTraces = false) (N : Nat)  : am_V l cX11_isHeld 5 RX11 (am_E (some .boolean) yX11_isHeld.name) 3 103 31 (kX11_isHeld_31 N) := by
  refine av_live ?_
  refine av_loop (fun r31 h31 => ?_) N
  refine av_iload dX11_isHeld_31 ?_
  refine av_aload_n dX11_isHeld_33 rfl ?_
  refine av_getr am_ci11 (by decide) am_f11_0 q610 dX11_isHeld_34 ?_
  refine av_iconst (v := 2) dX11_isHeld_37 (by decide) ?_
  refine av_iaload dX11_isHeld_38 ?_
  refine av_icge (tgt := 78) dX11_isHeld_39 (by decide) ?_ ?_
  · refine av_iconst (v := 0) dX11_isHeld_78 (by decide) ?_
    refine av_istore dX11_isHeld_79 (by decide) ?_
    exact vX11_isHeld_81 l hfl N
  refine av_iload_n dX11_isHeld_42 rfl ?_
  refine av_aload_n dX11_isHeld_43 rfl ?_
  refine av_iload dX11_isHeld_44 ?_
  refine av_iconst (v := 0) dX11_isHeld_46 (by decide) ?_
  refine av_callV am_hT (mX11_ofUnit l hfl N) am_ci11 ⟨by decide +kernel, by decide +kernel, by decide +kernel⟩ q660 q661 q628 q662 q663 (by decide) (by decide) dX11_isHeld_47 ?_
  refine av_iload_n dX11_isHeld_50 rfl ?_
  refine av_icne (tgt := 69) dX11_isHeld_51 (by decide) ?_ ?_
  · exact vX11_isHeld_69 l hfl N h31
  refine av_aload_n dX11_isHeld_54 rfl ?_
  refine av_iload dX11_isHeld_55 ?_
  refine av_iconst (v := 1) dX11_isHeld_57 (by decide) ?_
  refine av_callV am_hT (mX11_ofUnit l hfl N) am_ci11 ⟨by decide +kernel, by decide +kernel, by decide +kernel⟩ q660 q661 q628 q662 q663 (by decide) (by decide) dX11_isHeld_58 ?_
  refine av_iload_n dX11_isHeld_61 rfl ?_
  refine av_icne (tgt := 69) dX11_isHeld_62 (by decide) ?_ ?_
  · exact vX11_isHeld_69 l hfl N h31
  refine av_iconst (v := 1) dX11_isHeld_65 (by decide) ?_
  refine av_goto (tgt := 70) dX11_isHeld_66 (by decide) ?_
  exact vX11_isHeld_70 l hfl N h31
set_option maxRecDepth 20000 in
theorem vX11_isHeld_27 (l : Launch) (hfl : l.stackTraces = false) (N : Nat)  : am_V l cX11_isHeld 5 RX11 (am_E (some .boolean) yX11_isHeld.name) 3 103 27 (kX11_isHeld_27 N) := by
  refine av_live ?_
  refine av_istore_n dX11_isHeld_27 rfl (by decide) ?_
  refine av_iconst (v := 0) dX11_isHeld_28 (by decide) ?_
  refine av_istore dX11_isHeld_29 (by decide) ?_
  exact vX11_isHeld_31 l hfl N
set_option maxRecDepth 20000 in
theorem vX11_isHeld_26 (l : Launch) (hfl : l.stackTraces = false) (N : Nat)  : am_V l cX11_isHeld 5 RX11 (am_E (some .boolean) yX11_isHeld.name) 3 103 26 (kX11_isHeld_26 N) := by
  refine av_live ?_
  refine av_iconst (v := 0) dX11_isHeld_26 (by decide) ?_
  exact vX11_isHeld_27 l hfl N
set_option maxRecDepth 20000 in
theorem vX11_isHeld_0 (l : Launch) (hfl : l.stackTraces = false) (N : Nat)  : am_V l cX11_isHeld 5 RX11 (am_E (some .boolean) yX11_isHeld.name) 3 103 0 (kX11_isHeld_0 N) := by
  refine av_live ?_
  refine av_aload_n dX11_isHeld_0 rfl ?_
  refine av_getr am_ci11 (by decide) am_f11_0 q610 dX11_isHeld_1 ?_
  refine av_bipush (v := 10) dX11_isHeld_4 (by decide) ?_
  refine av_iaload dX11_isHeld_6 ?_
  refine av_iload_n dX11_isHeld_7 rfl ?_
  refine av_icne (tgt := 26) dX11_isHeld_8 (by decide) ?_ ?_
  · exact vX11_isHeld_26 l hfl N
  refine av_aload_n dX11_isHeld_11 rfl ?_
  refine av_getr am_ci11 (by decide) am_f11_0 q610 dX11_isHeld_12 ?_
  refine av_bipush (v := 11) dX11_isHeld_15 (by decide) ?_
  refine av_iaload dX11_isHeld_17 ?_
  refine av_iload_n dX11_isHeld_18 rfl ?_
  refine av_icne (tgt := 26) dX11_isHeld_19 (by decide) ?_ ?_
  · exact vX11_isHeld_26 l hfl N
  refine av_iconst (v := 1) dX11_isHeld_22 (by decide) ?_
  refine av_goto (tgt := 27) dX11_isHeld_23 (by decide) ?_
  exact vX11_isHeld_27 l hfl N
theorem mX11_isHeld (l : Launch) (hfl : l.stackTraces = false) (N : Nat) : am_M l yX11_isHeld cX11_isHeld 5 (some .boolean) 3 103 (fX11_isHeld N) := av_meth hfl (by decide +kernel) rfl (vX11_isHeld_0 l hfl N)
/-! MessengerBoardModel.isGoal(II)Z -/
noncomputable def kX11_isGoal_156 (N : Nat) (r78 : am_K) : am_K := c_live [0, 1, 2, 4] <|
  c_ii (fun x y => x ||| y) <|
  c_ist 3 <|
  c_inc 4 (1) <|
  c_live [0, 1, 2, 3, 4] r78
noncomputable def kX11_isGoal_155 (N : Nat) (r78 : am_K) : am_K := c_live [0, 1, 2, 4] <|
  c_i (0) <|
  kX11_isGoal_156 N r78
noncomputable def kX11_isGoal_113 (N : Nat) (r78 : am_K) : am_K := c_live [0, 1, 2, 3, 4] <|
  c_ist 5 <|
  c_ild 3 <|
  c_ild 5 <|
  c_ifeq (
  kX11_isGoal_155 N r78) <|
  c_rld 0 <|
  c_getr 11 0 <|
  c_ild 4 <|
  c_i (1) <|
  c_callS 2 (fX11_planAt N) <|
  c_ial <|
  c_ild 1 <|
  c_icne (
  kX11_isGoal_155 N r78) <|
  c_rld 0 <|
  c_getr 11 0 <|
  c_ild 4 <|
  c_i (2) <|
  c_callS 2 (fX11_planAt N) <|
  c_ial <|
  c_ild 2 <|
  c_icne (
  kX11_isGoal_155 N r78) <|
  c_i (1) <|
  kX11_isGoal_156 N r78
noncomputable def bX11_isGoal_78 (N : Nat) (r78 : am_K) : am_K :=
  c_ild 4 <|
  c_rld 0 <|
  c_getr 11 0 <|
  c_i (8) <|
  c_ial <|
  c_icge (
  c_ild 3 <|
  c_zret) <|
  c_rld 0 <|
  c_getr 11 0 <|
  c_ild 4 <|
  c_i (3) <|
  c_callS 2 (fX11_planAt N) <|
  c_ial <|
  c_rld 0 <|
  c_callV 11 0 (fX11_turnNow N) <|
  c_iclt (
  c_i (0) <|
  kX11_isGoal_113 N r78) <|
  c_i (1) <|
  kX11_isGoal_113 N r78
noncomputable def kX11_isGoal_78 (N : Nat) : am_K := c_live [0, 1, 2, 3, 4] (am_loop (bX11_isGoal_78 N) N)
noncomputable def kX11_isGoal_67 (N : Nat) (r5 : am_K) : am_K := c_live [0, 1, 2, 4] <|
  c_ii (fun x y => x ||| y) <|
  c_ist 3 <|
  c_inc 4 (1) <|
  c_live [0, 1, 2, 3, 4] r5
noncomputable def kX11_isGoal_66 (N : Nat) (r5 : am_K) : am_K := c_live [0, 1, 2, 4] <|
  c_i (0) <|
  kX11_isGoal_67 N r5
noncomputable def kX11_isGoal_32 (N : Nat) (r5 : am_K) : am_K := c_live [0, 1, 2, 3, 4] <|
  c_ist 5 <|
  c_ild 3 <|
  c_ild 5 <|
  c_ifeq (
  kX11_isGoal_66 N r5) <|
  c_rld 0 <|
  c_ild 4 <|
  c_i (1) <|
  c_callV 11 2 (fX11_ofOrder N) <|
  c_ild 1 <|
  c_icne (
  kX11_isGoal_66 N r5) <|
  c_rld 0 <|
  c_ild 4 <|
  c_i (2) <|
  c_callV 11 2 (fX11_ofOrder N) <|
  c_ild 2 <|
  c_icne (
  kX11_isGoal_66 N r5) <|
  c_i (1) <|
  kX11_isGoal_67 N r5
noncomputable def bX11_isGoal_5 (N : Nat) (r5 : am_K) : am_K :=
  c_ild 4 <|
  c_rld 0 <|
  c_getr 11 0 <|
  c_i (4) <|
  c_ial <|
  c_icge (
  c_i (0) <|
  c_ist 4 <|
  kX11_isGoal_78 N) <|
  c_rld 0 <|
  c_ild 4 <|
  c_i (3) <|
  c_callV 11 2 (fX11_ofOrder N) <|
  c_i (1) <|
  c_icgt (
  c_i (0) <|
  kX11_isGoal_32 N r5) <|
  c_i (1) <|
  kX11_isGoal_32 N r5
noncomputable def kX11_isGoal_5 (N : Nat) : am_K := c_live [0, 1, 2, 3, 4] (am_loop (bX11_isGoal_5 N) N)
noncomputable def kX11_isGoal_0 (N : Nat) : am_K := c_live [0, 1, 2] <|
  c_i (0) <|
  c_ist 3 <|
  c_i (0) <|
  c_ist 4 <|
  kX11_isGoal_5 N
noncomputable def fX11_isGoal (N : Nat) : am_F := am_fn 6 (kX11_isGoal_0 N)
set_option maxRecDepth 20000 in
theorem vX11_isGoal_156 (l : Launch) (hfl : l.stackTraces = false) (N : Nat)  {r78 : am_K} (h78 : am_V l cX11_isGoal 6 RX11 (am_E (some .boolean) yX11_isGoal.name) 3 103 78 r78) : am_V l cX11_isGoal 6 RX11 (am_E (some .boolean) yX11_isGoal.name) 3 103 156 (kX11_isGoal_156 N r78) := by
  refine av_live ?_
  refine av_ior dX11_isGoal_156 ?_
  refine av_istore_n dX11_isGoal_157 rfl (by decide) ?_
  refine av_iinc dX11_isGoal_158 (by decide) (by decide) ?_
  refine av_goto (tgt := 78) dX11_isGoal_161 (by decide) ?_
  exact av_live h78
set_option maxRecDepth 20000 in
theorem vX11_isGoal_155 (l : Launch) (hfl : l.stackTraces = false) (N : Nat)  {r78 : am_K} (h78 : am_V l cX11_isGoal 6 RX11 (am_E (some .boolean) yX11_isGoal.name) 3 103 78 r78) : am_V l cX11_isGoal 6 RX11 (am_E (some .boolean) yX11_isGoal.name) 3 103 155 (kX11_isGoal_155 N r78) := by
  refine av_live ?_
  refine av_iconst (v := 0) dX11_isGoal_155 (by decide) ?_
  exact vX11_isGoal_156 l hfl N h78
set_option maxRecDepth 20000 in
theorem vX11_isGoal_113 (l : Launch) (hfl : l.stackTraces = false) (N : Nat)  {r78 : am_K} (h78 : am_V l cX11_isGoal 6 RX11 (am_E (some .boolean) yX11_isGoal.name) 3 103 78 r78) : am_V l cX11_isGoal 6 RX11 (am_E (some .boolean) yX11_isGoal.name) 3 103 113 (kX11_isGoal_113 N r78) := by
  refine av_live ?_
  refine av_istore dX11_isGoal_113 (by decide) ?_
  refine av_iload_n dX11_isGoal_115 rfl ?_
  refine av_iload dX11_isGoal_116 ?_
  refine av_ifeq (tgt := 155) dX11_isGoal_118 (by decide) ?_ ?_
  · exact vX11_isGoal_155 l hfl N h78
  refine av_aload_n dX11_isGoal_121 rfl ?_
  refine av_getr am_ci11 (by decide) am_f11_0 q610 dX11_isGoal_122 ?_
  refine av_iload dX11_isGoal_125 ?_
  refine av_iconst (v := 1) dX11_isGoal_127 (by decide) ?_
  refine av_callS am_hT (mX11_planAt l hfl N) ⟨by decide +kernel, by decide +kernel, by decide +kernel⟩ q691 q692 q628 q693 (by decide) (by decide) dX11_isGoal_128 ?_
  refine av_iaload dX11_isGoal_131 ?_
  refine av_iload_n dX11_isGoal_132 rfl ?_
  refine av_icne (tgt := 155) dX11_isGoal_133 (by decide) ?_ ?_
  · exact vX11_isGoal_155 l hfl N h78
  refine av_aload_n dX11_isGoal_136 rfl ?_
  refine av_getr am_ci11 (by decide) am_f11_0 q610 dX11_isGoal_137 ?_
  refine av_iload dX11_isGoal_140 ?_
  refine av_iconst (v := 2) dX11_isGoal_142 (by decide) ?_
  refine av_callS am_hT (mX11_planAt l hfl N) ⟨by decide +kernel, by decide +kernel, by decide +kernel⟩ q691 q692 q628 q693 (by decide) (by decide) dX11_isGoal_143 ?_
  refine av_iaload dX11_isGoal_146 ?_
  refine av_iload_n dX11_isGoal_147 rfl ?_
  refine av_icne (tgt := 155) dX11_isGoal_148 (by decide) ?_ ?_
  · exact vX11_isGoal_155 l hfl N h78
  refine av_iconst (v := 1) dX11_isGoal_151 (by decide) ?_
  refine av_goto (tgt := 156) dX11_isGoal_152 (by decide) ?_
  exact vX11_isGoal_156 l hfl N h78
set_option maxRecDepth 20000 in
theorem vX11_isGoal_78 (l : Launch) (hfl : l.stackTraces = false) (N : Nat)  : am_V l cX11_isGoal 6 RX11 (am_E (some .boolean) yX11_isGoal.name) 3 103 78 (kX11_isGoal_78 N) := by
  refine av_live ?_
  refine av_loop (fun r78 h78 => ?_) N
  refine av_iload dX11_isGoal_78 ?_
  refine av_aload_n dX11_isGoal_80 rfl ?_
  refine av_getr am_ci11 (by decide) am_f11_0 q610 dX11_isGoal_81 ?_
  refine av_bipush (v := 8) dX11_isGoal_84 (by decide) ?_
  refine av_iaload dX11_isGoal_86 ?_
  refine av_icge (tgt := 164) dX11_isGoal_87 (by decide) ?_ ?_
  · refine av_iload_n dX11_isGoal_164 rfl ?_
    exact av_zreturn am_hz dX11_isGoal_165
  refine av_aload_n dX11_isGoal_90 rfl ?_
  refine av_getr am_ci11 (by decide) am_f11_0 q610 dX11_isGoal_91 ?_
  refine av_iload dX11_isGoal_94 ?_
  refine av_iconst (v := 3) dX11_isGoal_96 (by decide) ?_
  refine av_callS am_hT (mX11_planAt l hfl N) ⟨by decide +kernel, by decide +kernel, by decide +kernel⟩ q691 q692 q628 q693 (by decide) (by decide) dX11_isGoal_97 ?_
  refine av_iaload dX11_isGoal_100 ?_
  refine av_aload_n dX11_isGoal_101 rfl ?_
  refine av_callV am_hT (mX11_turnNow l hfl N) am_ci11 ⟨by decide +kernel, by decide +kernel, by decide +kernel⟩ q675 q676 q628 q677 q678 (by decide) (by decide) dX11_isGoal_102 ?_
  refine av_iclt (tgt := 112) dX11_isGoal_105 (by decide) ?_ ?_
  · refine av_iconst (v := 0) dX11_isGoal_112 (by decide) ?_
    exact vX11_isGoal_113 l hfl N h78
  refine av_iconst (v := 1) dX11_isGoal_108 (by decide) ?_
  refine av_goto (tgt := 113) dX11_isGoal_109 (by decide) ?_
  exact vX11_isGoal_113 l hfl N h78
set_option maxRecDepth 20000 in
theorem vX11_isGoal_67 (l : Launch) (hfl : l.stackTraces = false) (N : Nat)  {r5 : am_K} (h5 : am_V l cX11_isGoal 6 RX11 (am_E (some .boolean) yX11_isGoal.name) 3 103 5 r5) : am_V l cX11_isGoal 6 RX11 (am_E (some .boolean) yX11_isGoal.name) 3 103 67 (kX11_isGoal_67 N r5) := by
  refine av_live ?_
  refine av_ior dX11_isGoal_67 ?_
  refine av_istore_n dX11_isGoal_68 rfl (by decide) ?_
  refine av_iinc dX11_isGoal_69 (by decide) (by decide) ?_
  refine av_goto (tgt := 5) dX11_isGoal_72 (by decide) ?_
  exact av_live h5
set_option maxRecDepth 20000 in
theorem vX11_isGoal_66 (l : Launch) (hfl : l.stackTraces = false) (N : Nat)  {r5 : am_K} (h5 : am_V l cX11_isGoal 6 RX11 (am_E (some .boolean) yX11_isGoal.name) 3 103 5 r5) : am_V l cX11_isGoal 6 RX11 (am_E (some .boolean) yX11_isGoal.name) 3 103 66 (kX11_isGoal_66 N r5) := by
  refine av_live ?_
  refine av_iconst (v := 0) dX11_isGoal_66 (by decide) ?_
  exact vX11_isGoal_67 l hfl N h5
set_option maxRecDepth 20000 in
theorem vX11_isGoal_32 (l : Launch) (hfl : l.stackTraces = false) (N : Nat)  {r5 : am_K} (h5 : am_V l cX11_isGoal 6 RX11 (am_E (some .boolean) yX11_isGoal.name) 3 103 5 r5) : am_V l cX11_isGoal 6 RX11 (am_E (some .boolean) yX11_isGoal.name) 3 103 32 (kX11_isGoal_32 N r5) := by
  refine av_live ?_
  refine av_istore dX11_isGoal_32 (by decide) ?_
  refine av_iload_n dX11_isGoal_34 rfl ?_
  refine av_iload dX11_isGoal_35 ?_
  refine av_ifeq (tgt := 66) dX11_isGoal_37 (by decide) ?_ ?_
  · exact vX11_isGoal_66 l hfl N h5
  refine av_aload_n dX11_isGoal_40 rfl ?_
  refine av_iload dX11_isGoal_41 ?_
  refine av_iconst (v := 1) dX11_isGoal_43 (by decide) ?_
  refine av_callV am_hT (mX11_ofOrder l hfl N) am_ci11 ⟨by decide +kernel, by decide +kernel, by decide +kernel⟩ q644 q645 q628 q646 q647 (by decide) (by decide) dX11_isGoal_44 ?_
  refine av_iload_n dX11_isGoal_47 rfl ?_
  refine av_icne (tgt := 66) dX11_isGoal_48 (by decide) ?_ ?_
  · exact vX11_isGoal_66 l hfl N h5
  refine av_aload_n dX11_isGoal_51 rfl ?_
  refine av_iload dX11_isGoal_52 ?_
  refine av_iconst (v := 2) dX11_isGoal_54 (by decide) ?_
  refine av_callV am_hT (mX11_ofOrder l hfl N) am_ci11 ⟨by decide +kernel, by decide +kernel, by decide +kernel⟩ q644 q645 q628 q646 q647 (by decide) (by decide) dX11_isGoal_55 ?_
  refine av_iload_n dX11_isGoal_58 rfl ?_
  refine av_icne (tgt := 66) dX11_isGoal_59 (by decide) ?_ ?_
  · exact vX11_isGoal_66 l hfl N h5
  refine av_iconst (v := 1) dX11_isGoal_62 (by decide) ?_
  refine av_goto (tgt := 67) dX11_isGoal_63 (by decide) ?_
  exact vX11_isGoal_67 l hfl N h5
set_option maxRecDepth 20000 in
theorem vX11_isGoal_5 (l : Launch) (hfl : l.stackTraces = false) (N : Nat)  : am_V l cX11_isGoal 6 RX11 (am_E (some .boolean) yX11_isGoal.name) 3 103 5 (kX11_isGoal_5 N) := by
  refine av_live ?_
  refine av_loop (fun r5 h5 => ?_) N
  refine av_iload dX11_isGoal_5 ?_
  refine av_aload_n dX11_isGoal_7 rfl ?_
  refine av_getr am_ci11 (by decide) am_f11_0 q610 dX11_isGoal_8 ?_
  refine av_iconst (v := 4) dX11_isGoal_11 (by decide) ?_
  refine av_iaload dX11_isGoal_12 ?_
  refine av_icge (tgt := 75) dX11_isGoal_13 (by decide) ?_ ?_
  · refine av_iconst (v := 0) dX11_isGoal_75 (by decide) ?_
    refine av_istore dX11_isGoal_76 (by decide) ?_
    exact vX11_isGoal_78 l hfl N
  refine av_aload_n dX11_isGoal_16 rfl ?_
  refine av_iload dX11_isGoal_17 ?_
  refine av_iconst (v := 3) dX11_isGoal_19 (by decide) ?_
  refine av_callV am_hT (mX11_ofOrder l hfl N) am_ci11 ⟨by decide +kernel, by decide +kernel, by decide +kernel⟩ q644 q645 q628 q646 q647 (by decide) (by decide) dX11_isGoal_20 ?_
  refine av_iconst (v := 1) dX11_isGoal_23 (by decide) ?_
  refine av_icgt (tgt := 31) dX11_isGoal_24 (by decide) ?_ ?_
  · refine av_iconst (v := 0) dX11_isGoal_31 (by decide) ?_
    exact vX11_isGoal_32 l hfl N h5
  refine av_iconst (v := 1) dX11_isGoal_27 (by decide) ?_
  refine av_goto (tgt := 32) dX11_isGoal_28 (by decide) ?_
  exact vX11_isGoal_32 l hfl N h5
set_option maxRecDepth 20000 in
theorem vX11_isGoal_0 (l : Launch) (hfl : l.stackTraces = false) (N : Nat)  : am_V l cX11_isGoal 6 RX11 (am_E (some .boolean) yX11_isGoal.name) 3 103 0 (kX11_isGoal_0 N) := by
  refine av_live ?_
  refine av_iconst (v := 0) dX11_isGoal_0 (by decide) ?_
  refine av_istore_n dX11_isGoal_1 rfl (by decide) ?_
  refine av_iconst (v := 0) dX11_isGoal_2 (by decide) ?_
  refine av_istore dX11_isGoal_3 (by decide) ?_
  exact vX11_isGoal_5 l hfl N
theorem mX11_isGoal (l : Launch) (hfl : l.stackTraces = false) (N : Nat) : am_M l yX11_isGoal cX11_isGoal 6 (some .boolean) 3 103 (fX11_isGoal N) := av_meth hfl (by decide +kernel) rfl (vX11_isGoal_0 l hfl N)
/-! MessengerBoardModel.wall(II)I -/
noncomputable def kX11_wall_0 (N : Nat) : am_K := c_live [0, 1, 2] <|
  c_rld 0 <|
  c_i (0) <|
  c_puti 11 6 <|
  c_rld 0 <|
  c_ild 1 <|
  c_ild 2 <|
  c_callV 11 2 (fX11_isCell N) <|
  c_ifne (
  c_rld 0 <|
  c_ild 1 <|
  c_ild 2 <|
  c_callV 11 2 (fX11_isHeld N) <|
  c_ifeq (
  c_rld 0 <|
  c_ild 1 <|
  c_ild 2 <|
  c_callV 11 2 (fX11_isGoal N) <|
  c_ifeq (
  c_rld 0 <|
  c_callV 11 0 (fX11_record N) <|
  c_rld 0 <|
  c_getr 11 0 <|
  c_ild 1 <|
  c_ild 2 <|
  c_callS 2 (fX11_wallAt N) <|
  c_i (1) <|
  c_rld 0 <|
  c_getr 11 0 <|
  c_ild 1 <|
  c_ild 2 <|
  c_callS 2 (fX11_wallAt N) <|
  c_ial <|
  c_ii (fun x y => x - y) <|
  c_ias <|
  c_rld 0 <|
  c_getr 11 0 <|
  c_i (6) <|
  c_dup2 <|
  c_ial <|
  c_i (2) <|
  c_rld 0 <|
  c_getr 11 0 <|
  c_ild 1 <|
  c_ild 2 <|
  c_callS 2 (fX11_wallAt N) <|
  c_ial <|
  c_ii (fun x y => x * y) <|
  c_i (1) <|
  c_ii (fun x y => x - y) <|
  c_ii (fun x y => x + y) <|
  c_ias <|
  c_rld 0 <|
  c_getr 11 0 <|
  c_i (6) <|
  c_ial <|
  c_iret) <|
  c_i (-3) <|
  c_iret) <|
  c_i (-2) <|
  c_iret) <|
  c_rld 0 <|
  c_i (1) <|
  c_callV 11 1 (fX11_raise N) <|
  c_iret
noncomputable def fX11_wall (N : Nat) : am_F := am_fn 3 (kX11_wall_0 N)
set_option maxRecDepth 20000 in
theorem vX11_wall_0 (l : Launch) (hfl : l.stackTraces = false) (N : Nat)  : am_V l cX11_wall 3 RX11 (am_E (some .int) yX11_wall.name) 4 128 0 (kX11_wall_0 N) := by
  refine av_live ?_
  refine av_aload_n dX11_wall_0 rfl ?_
  refine av_iconst (v := 0) dX11_wall_1 (by decide) ?_
  refine av_puti am_ci11 (by decide) am_f11_6 q630 (tyX11_ok 6 (by decide)) rfl dX11_wall_2 ?_
  refine av_aload_n dX11_wall_5 rfl ?_
  refine av_iload_n dX11_wall_6 rfl ?_
  refine av_iload_n dX11_wall_7 rfl ?_
  refine av_callV am_hT (mX11_isCell l hfl N) am_ci11 ⟨by decide +kernel, by decide +kernel, by decide +kernel⟩ q698 q699 q628 q700 q701 (by decide) (by decide) dX11_wall_8 ?_
  refine av_ifne (tgt := 20) dX11_wall_11 (by decide) ?_ ?_
  · refine av_aload_n dX11_wall_20 rfl ?_
    refine av_iload_n dX11_wall_21 rfl ?_
    refine av_iload_n dX11_wall_22 rfl ?_
    refine av_callV am_hT (mX11_isHeld l hfl N) am_ci11 ⟨by decide +kernel, by decide +kernel, by decide +kernel⟩ q808 q809 q628 q810 q811 (by decide) (by decide) dX11_wall_23 ?_
    refine av_ifeq (tgt := 32) dX11_wall_26 (by decide) ?_ ?_
    · refine av_aload_n dX11_wall_32 rfl ?_
      refine av_iload_n dX11_wall_33 rfl ?_
      refine av_iload_n dX11_wall_34 rfl ?_
      refine av_callV am_hT (mX11_isGoal l hfl N) am_ci11 ⟨by decide +kernel, by decide +kernel, by decide +kernel⟩ q812 q813 q628 q814 q815 (by decide) (by decide) dX11_wall_35 ?_
      refine av_ifeq (tgt := 44) dX11_wall_38 (by decide) ?_ ?_
      · refine av_aload_n dX11_wall_44 rfl ?_
        refine av_callV am_hT (mX11_record l hfl N) am_ci11 ⟨by decide +kernel, by decide +kernel, by decide +kernel⟩ q804 q805 q628 q806 q807 (by decide) (by decide) dX11_wall_45 ?_
        refine av_aload_n dX11_wall_48 rfl ?_
        refine av_getr am_ci11 (by decide) am_f11_0 q610 dX11_wall_49 ?_
        refine av_iload_n dX11_wall_52 rfl ?_
        refine av_iload_n dX11_wall_53 rfl ?_
        refine av_callS am_hT (mX11_wallAt l hfl N) ⟨by decide +kernel, by decide +kernel, by decide +kernel⟩ q702 q703 q628 q704 (by decide) (by decide) dX11_wall_54 ?_
        refine av_iconst (v := 1) dX11_wall_57 (by decide) ?_
        refine av_aload_n dX11_wall_58 rfl ?_
        refine av_getr am_ci11 (by decide) am_f11_0 q610 dX11_wall_59 ?_
        refine av_iload_n dX11_wall_62 rfl ?_
        refine av_iload_n dX11_wall_63 rfl ?_
        refine av_callS am_hT (mX11_wallAt l hfl N) ⟨by decide +kernel, by decide +kernel, by decide +kernel⟩ q702 q703 q628 q704 (by decide) (by decide) dX11_wall_64 ?_
        refine av_iaload dX11_wall_67 ?_
        refine av_isub dX11_wall_68 ?_
        refine av_iastore dX11_wall_69 ?_
        refine av_aload_n dX11_wall_70 rfl ?_
        refine av_getr am_ci11 (by decide) am_f11_0 q610 dX11_wall_71 ?_
        refine av_bipush (v := 6) dX11_wall_74 (by decide) ?_
        refine av_dup2 dX11_wall_76 ?_
        refine av_iaload dX11_wall_77 ?_
        refine av_iconst (v := 2) dX11_wall_78 (by decide) ?_
        refine av_aload_n dX11_wall_79 rfl ?_
        refine av_getr am_ci11 (by decide) am_f11_0 q610 dX11_wall_80 ?_
        refine av_iload_n dX11_wall_83 rfl ?_
        refine av_iload_n dX11_wall_84 rfl ?_
        refine av_callS am_hT (mX11_wallAt l hfl N) ⟨by decide +kernel, by decide +kernel, by decide +kernel⟩ q702 q703 q628 q704 (by decide) (by decide) dX11_wall_85 ?_
        refine av_iaload dX11_wall_88 ?_
        refine av_imul dX11_wall_89 ?_
        refine av_iconst (v := 1) dX11_wall_90 (by decide) ?_
        refine av_isub dX11_wall_91 ?_
        refine av_iadd dX11_wall_92 ?_
        refine av_iastore dX11_wall_93 ?_
        refine av_aload_n dX11_wall_94 rfl ?_
        refine av_getr am_ci11 (by decide) am_f11_0 q610 dX11_wall_95 ?_
        refine av_bipush (v := 6) dX11_wall_98 (by decide) ?_
        refine av_iaload dX11_wall_100 ?_
        exact av_ireturn am_hi dX11_wall_101
      refine av_bipush (v := -3) dX11_wall_41 (by decide) ?_
      exact av_ireturn am_hi dX11_wall_43
    refine av_bipush (v := -2) dX11_wall_29 (by decide) ?_
    exact av_ireturn am_hi dX11_wall_31
  refine av_aload_n dX11_wall_14 rfl ?_
  refine av_iconst (v := 1) dX11_wall_15 (by decide) ?_
  refine av_callV am_hT (mX11_raise l hfl N) am_ci11 ⟨by decide +kernel, by decide +kernel, by decide +kernel⟩ q634 q635 q628 q636 q637 (by decide) (by decide) dX11_wall_16 ?_
  exact av_ireturn am_hi dX11_wall_19
theorem mX11_wall (l : Launch) (hfl : l.stackTraces = false) (N : Nat) : am_M l yX11_wall cX11_wall 3 (some .int) 4 128 (fX11_wall N) := av_meth hfl (by decide +kernel) rfl (vX11_wall_0 l hfl N)
/-! MessengerBoardModel.movePicket(III)I -/
noncomputable def kX11_movePicket_22 (N : Nat) : am_K := c_live [0] <|
  c_rld 0 <|
  c_i (1) <|
  c_callV 11 1 (fX11_raise N) <|
  c_iret
noncomputable def kX11_movePicket_71 (N : Nat) : am_K := c_live [] <|
  c_iret
noncomputable def kX11_movePicket_0 (N : Nat) : am_K := c_live [0, 1, 2, 3] <|
  c_rld 0 <|
  c_i (0) <|
  c_puti 11 6 <|
  c_rld 0 <|
  c_ild 1 <|
  c_callV 11 1 (fX11_isPicket N) <|
  c_ifeq (
  kX11_movePicket_22 N) <|
  c_rld 0 <|
  c_ild 2 <|
  c_ild 3 <|
  c_callV 11 2 (fX11_isCell N) <|
  c_ifne (
  c_rld 0 <|
  c_callV 11 0 (fX11_record N) <|
  c_rld 0 <|
  c_getr 11 0 <|
  c_ild 1 <|
  c_i (0) <|
  c_callS 2 (fX11_picketAt N) <|
  c_ild 2 <|
  c_ias <|
  c_rld 0 <|
  c_getr 11 0 <|
  c_ild 1 <|
  c_i (1) <|
  c_callS 2 (fX11_picketAt N) <|
  c_ild 3 <|
  c_ias <|
  c_rld 0 <|
  c_ild 1 <|
  c_rld 0 <|
  c_callV 11 0 (fX11_turnNow N) <|
  c_callV 11 2 (fX11_watches N) <|
  c_ifeq (
  c_i (0) <|
  kX11_movePicket_71 N) <|
  c_i (1) <|
  kX11_movePicket_71 N) <|
  kX11_movePicket_22 N
noncomputable def fX11_movePicket (N : Nat) : am_F := am_fn 4 (kX11_movePicket_0 N)
set_option maxRecDepth 20000 in
theorem vX11_movePicket_22 (l : Launch) (hfl : l.stackTraces = false) (N : Nat)  : am_V l cX11_movePicket 4 RX11 (am_E (some .int) yX11_movePicket.name) 4 125 22 (kX11_movePicket_22 N) := by
  refine av_live ?_
  refine av_aload_n dX11_movePicket_22 rfl ?_
  refine av_iconst (v := 1) dX11_movePicket_23 (by decide) ?_
  refine av_callV am_hT (mX11_raise l hfl N) am_ci11 ⟨by decide +kernel, by decide +kernel, by decide +kernel⟩ q634 q635 q628 q636 q637 (by decide) (by decide) dX11_movePicket_24 ?_
  exact av_ireturn am_hi dX11_movePicket_27
set_option maxRecDepth 20000 in
theorem vX11_movePicket_71 (l : Launch) (hfl : l.stackTraces = false) (N : Nat)  : am_V l cX11_movePicket 4 RX11 (am_E (some .int) yX11_movePicket.name) 4 125 71 (kX11_movePicket_71 N) := by
  refine av_live ?_
  exact av_ireturn am_hi dX11_movePicket_71
set_option maxRecDepth 20000 in
theorem vX11_movePicket_0 (l : Launch) (hfl : l.stackTraces = false) (N : Nat)  : am_V l cX11_movePicket 4 RX11 (am_E (some .int) yX11_movePicket.name) 4 125 0 (kX11_movePicket_0 N) := by
  refine av_live ?_
  refine av_aload_n dX11_movePicket_0 rfl ?_
  refine av_iconst (v := 0) dX11_movePicket_1 (by decide) ?_
  refine av_puti am_ci11 (by decide) am_f11_6 q630 (tyX11_ok 6 (by decide)) rfl dX11_movePicket_2 ?_
  refine av_aload_n dX11_movePicket_5 rfl ?_
  refine av_iload_n dX11_movePicket_6 rfl ?_
  refine av_callV am_hT (mX11_isPicket l hfl N) am_ci11 ⟨by decide +kernel, by decide +kernel, by decide +kernel⟩ q671 q672 q628 q673 q674 (by decide) (by decide) dX11_movePicket_7 ?_
  refine av_ifeq (tgt := 22) dX11_movePicket_10 (by decide) ?_ ?_
  · exact vX11_movePicket_22 l hfl N
  refine av_aload_n dX11_movePicket_13 rfl ?_
  refine av_iload_n dX11_movePicket_14 rfl ?_
  refine av_iload_n dX11_movePicket_15 rfl ?_
  refine av_callV am_hT (mX11_isCell l hfl N) am_ci11 ⟨by decide +kernel, by decide +kernel, by decide +kernel⟩ q698 q699 q628 q700 q701 (by decide) (by decide) dX11_movePicket_16 ?_
  refine av_ifne (tgt := 28) dX11_movePicket_19 (by decide) ?_ ?_
  · refine av_aload_n dX11_movePicket_28 rfl ?_
    refine av_callV am_hT (mX11_record l hfl N) am_ci11 ⟨by decide +kernel, by decide +kernel, by decide +kernel⟩ q804 q805 q628 q806 q807 (by decide) (by decide) dX11_movePicket_29 ?_
    refine av_aload_n dX11_movePicket_32 rfl ?_
    refine av_getr am_ci11 (by decide) am_f11_0 q610 dX11_movePicket_33 ?_
    refine av_iload_n dX11_movePicket_36 rfl ?_
    refine av_iconst (v := 0) dX11_movePicket_37 (by decide) ?_
    refine av_callS am_hT (mX11_picketAt l hfl N) ⟨by decide +kernel, by decide +kernel, by decide +kernel⟩ q664 q665 q628 q666 (by decide) (by decide) dX11_movePicket_38 ?_
    refine av_iload_n dX11_movePicket_41 rfl ?_
    refine av_iastore dX11_movePicket_42 ?_
    refine av_aload_n dX11_movePicket_43 rfl ?_
    refine av_getr am_ci11 (by decide) am_f11_0 q610 dX11_movePicket_44 ?_
    refine av_iload_n dX11_movePicket_47 rfl ?_
    refine av_iconst (v := 1) dX11_movePicket_48 (by decide) ?_
    refine av_callS am_hT (mX11_picketAt l hfl N) ⟨by decide +kernel, by decide +kernel, by decide +kernel⟩ q664 q665 q628 q666 (by decide) (by decide) dX11_movePicket_49 ?_
    refine av_iload_n dX11_movePicket_52 rfl ?_
    refine av_iastore dX11_movePicket_53 ?_
    refine av_aload_n dX11_movePicket_54 rfl ?_
    refine av_iload_n dX11_movePicket_55 rfl ?_
    refine av_aload_n dX11_movePicket_56 rfl ?_
    refine av_callV am_hT (mX11_turnNow l hfl N) am_ci11 ⟨by decide +kernel, by decide +kernel, by decide +kernel⟩ q675 q676 q628 q677 q678 (by decide) (by decide) dX11_movePicket_57 ?_
    refine av_callV am_hT (mX11_watches l hfl N) am_ci11 ⟨by decide +kernel, by decide +kernel, by decide +kernel⟩ q679 q680 q628 q681 q682 (by decide) (by decide) dX11_movePicket_60 ?_
    refine av_ifeq (tgt := 70) dX11_movePicket_63 (by decide) ?_ ?_
    · refine av_iconst (v := 0) dX11_movePicket_70 (by decide) ?_
      exact vX11_movePicket_71 l hfl N
    refine av_iconst (v := 1) dX11_movePicket_66 (by decide) ?_
    refine av_goto (tgt := 71) dX11_movePicket_67 (by decide) ?_
    exact vX11_movePicket_71 l hfl N
  exact vX11_movePicket_22 l hfl N
theorem mX11_movePicket (l : Launch) (hfl : l.stackTraces = false) (N : Nat) : am_M l yX11_movePicket cX11_movePicket 4 (some .int) 4 125 (fX11_movePicket N) := av_meth hfl (by decide +kernel) rfl (vX11_movePicket_0 l hfl N)
/-! MessengerBoardModel.movePlan(II)I -/
noncomputable def kX11_movePlan_32 (N : Nat) : am_K := c_live [0, 1, 2] <|
  c_puti 11 6 <|
  c_rld 0 <|
  c_geti 11 6 <|
  c_ifeq (
  c_rld 0 <|
  c_getr 11 0 <|
  c_ild 1 <|
  c_i (3) <|
  c_callS 2 (fX11_planAt N) <|
  c_ial <|
  c_ist 3 <|
  c_ild 3 <|
  c_rld 0 <|
  c_callV 11 0 (fX11_turnNow N) <|
  c_icge (
  c_rld 0 <|
  c_callV 11 0 (fX11_record N) <|
  c_rld 0 <|
  c_getr 11 0 <|
  c_ild 1 <|
  c_i (3) <|
  c_callS 2 (fX11_planAt N) <|
  c_ild 2 <|
  c_ias <|
  c_ild 3 <|
  c_iret) <|
  c_i (-2) <|
  c_iret) <|
  c_i (0) <|
  c_iret
noncomputable def kX11_movePlan_0 (N : Nat) : am_K := c_live [0, 1, 2] <|
  c_rld 0 <|
  c_rld 0 <|
  c_ild 1 <|
  c_callV 11 1 (fX11_isPlan N) <|
  c_ifne (
  c_ild 2 <|
  c_rld 0 <|
  c_callV 11 0 (fX11_turnNow N) <|
  c_i (499) <|
  c_callS 3 (fX11_inRange N) <|
  c_ifeq (
  c_i (2) <|
  kX11_movePlan_32 N) <|
  c_i (0) <|
  kX11_movePlan_32 N) <|
  c_i (1) <|
  kX11_movePlan_32 N
noncomputable def fX11_movePlan (N : Nat) : am_F := am_fn 4 (kX11_movePlan_0 N)
set_option maxRecDepth 20000 in
theorem vX11_movePlan_32 (l : Launch) (hfl : l.stackTraces = false) (N : Nat)  : am_V l cX11_movePlan 4 RX11 (am_E (some .int) yX11_movePlan.name) 3 105 32 (kX11_movePlan_32 N) := by
  refine av_live ?_
  refine av_puti am_ci11 (by decide) am_f11_6 q630 (tyX11_ok 6 (by decide)) rfl dX11_movePlan_32 ?_
  refine av_aload_n dX11_movePlan_35 rfl ?_
  refine av_geti am_ci11 (by decide) am_f11_6 q630 dX11_movePlan_36 ?_
  refine av_ifeq (tgt := 44) dX11_movePlan_39 (by decide) ?_ ?_
  · refine av_aload_n dX11_movePlan_44 rfl ?_
    refine av_getr am_ci11 (by decide) am_f11_0 q610 dX11_movePlan_45 ?_
    refine av_iload_n dX11_movePlan_48 rfl ?_
    refine av_iconst (v := 3) dX11_movePlan_49 (by decide) ?_
    refine av_callS am_hT (mX11_planAt l hfl N) ⟨by decide +kernel, by decide +kernel, by decide +kernel⟩ q691 q692 q628 q693 (by decide) (by decide) dX11_movePlan_50 ?_
    refine av_iaload dX11_movePlan_53 ?_
    refine av_istore_n dX11_movePlan_54 rfl (by decide) ?_
    refine av_iload_n dX11_movePlan_55 rfl ?_
    refine av_aload_n dX11_movePlan_56 rfl ?_
    refine av_callV am_hT (mX11_turnNow l hfl N) am_ci11 ⟨by decide +kernel, by decide +kernel, by decide +kernel⟩ q675 q676 q628 q677 q678 (by decide) (by decide) dX11_movePlan_57 ?_
    refine av_icge (tgt := 66) dX11_movePlan_60 (by decide) ?_ ?_
    · refine av_aload_n dX11_movePlan_66 rfl ?_
      refine av_callV am_hT (mX11_record l hfl N) am_ci11 ⟨by decide +kernel, by decide +kernel, by decide +kernel⟩ q804 q805 q628 q806 q807 (by decide) (by decide) dX11_movePlan_67 ?_
      refine av_aload_n dX11_movePlan_70 rfl ?_
      refine av_getr am_ci11 (by decide) am_f11_0 q610 dX11_movePlan_71 ?_
      refine av_iload_n dX11_movePlan_74 rfl ?_
      refine av_iconst (v := 3) dX11_movePlan_75 (by decide) ?_
      refine av_callS am_hT (mX11_planAt l hfl N) ⟨by decide +kernel, by decide +kernel, by decide +kernel⟩ q691 q692 q628 q693 (by decide) (by decide) dX11_movePlan_76 ?_
      refine av_iload_n dX11_movePlan_79 rfl ?_
      refine av_iastore dX11_movePlan_80 ?_
      refine av_iload_n dX11_movePlan_81 rfl ?_
      exact av_ireturn am_hi dX11_movePlan_82
    refine av_bipush (v := -2) dX11_movePlan_63 (by decide) ?_
    exact av_ireturn am_hi dX11_movePlan_65
  refine av_iconst (v := 0) dX11_movePlan_42 (by decide) ?_
  exact av_ireturn am_hi dX11_movePlan_43
set_option maxRecDepth 20000 in
theorem vX11_movePlan_0 (l : Launch) (hfl : l.stackTraces = false) (N : Nat)  : am_V l cX11_movePlan 4 RX11 (am_E (some .int) yX11_movePlan.name) 3 105 0 (kX11_movePlan_0 N) := by
  refine av_live ?_
  refine av_aload_n dX11_movePlan_0 rfl ?_
  refine av_aload_n dX11_movePlan_1 rfl ?_
  refine av_iload_n dX11_movePlan_2 rfl ?_
  refine av_callV am_hT (mX11_isPlan l hfl N) am_ci11 ⟨by decide +kernel, by decide +kernel, by decide +kernel⟩ q687 q688 q628 q689 q690 (by decide) (by decide) dX11_movePlan_3 ?_
  refine av_ifne (tgt := 13) dX11_movePlan_6 (by decide) ?_ ?_
  · refine av_iload_n dX11_movePlan_13 rfl ?_
    refine av_aload_n dX11_movePlan_14 rfl ?_
    refine av_callV am_hT (mX11_turnNow l hfl N) am_ci11 ⟨by decide +kernel, by decide +kernel, by decide +kernel⟩ q675 q676 q628 q677 q678 (by decide) (by decide) dX11_movePlan_15 ?_
    refine av_sipush (v := 499) dX11_movePlan_18 (by decide) ?_
    refine av_callS am_hT (mX11_inRange l hfl N) ⟨by decide +kernel, by decide +kernel, by decide +kernel⟩ q631 q632 q628 q633 (by decide) (by decide) dX11_movePlan_21 ?_
    refine av_ifeq (tgt := 31) dX11_movePlan_24 (by decide) ?_ ?_
    · refine av_iconst (v := 2) dX11_movePlan_31 (by decide) ?_
      exact vX11_movePlan_32 l hfl N
    refine av_iconst (v := 0) dX11_movePlan_27 (by decide) ?_
    refine av_goto (tgt := 32) dX11_movePlan_28 (by decide) ?_
    exact vX11_movePlan_32 l hfl N
  refine av_iconst (v := 1) dX11_movePlan_9 (by decide) ?_
  refine av_goto (tgt := 32) dX11_movePlan_10 (by decide) ?_
  exact vX11_movePlan_32 l hfl N
theorem mX11_movePlan (l : Launch) (hfl : l.stackTraces = false) (N : Nat) : am_M l yX11_movePlan cX11_movePlan 4 (some .int) 3 105 (fX11_movePlan N) := av_meth hfl (by decide +kernel) rfl (vX11_movePlan_0 l hfl N)
/-! MessengerBoardModel.setPatience(I)I -/
noncomputable def kX11_setPatience_0 (N : Nat) : am_K := c_live [0, 1] <|
  c_rld 0 <|
  c_i (0) <|
  c_puti 11 6 <|
  c_ild 1 <|
  c_i (1) <|
  c_i (30) <|
  c_callS 3 (fX11_inRange N) <|
  c_ifne (
  c_rld 0 <|
  c_callV 11 0 (fX11_record N) <|
  c_rld 0 <|
  c_getr 11 0 <|
  c_i (9) <|
  c_ial <|
  c_ist 2 <|
  c_rld 0 <|
  c_getr 11 0 <|
  c_i (9) <|
  c_ild 1 <|
  c_ias <|
  c_ild 2 <|
  c_iret) <|
  c_rld 0 <|
  c_i (1) <|
  c_callV 11 1 (fX11_raise N) <|
  c_iret
noncomputable def fX11_setPatience (N : Nat) : am_F := am_fn 3 (kX11_setPatience_0 N)
set_option maxRecDepth 20000 in
theorem vX11_setPatience_0 (l : Launch) (hfl : l.stackTraces = false) (N : Nat)  : am_V l cX11_setPatience 3 RX11 (am_E (some .int) yX11_setPatience.name) 3 105 0 (kX11_setPatience_0 N) := by
  refine av_live ?_
  refine av_aload_n dX11_setPatience_0 rfl ?_
  refine av_iconst (v := 0) dX11_setPatience_1 (by decide) ?_
  refine av_puti am_ci11 (by decide) am_f11_6 q630 (tyX11_ok 6 (by decide)) rfl dX11_setPatience_2 ?_
  refine av_iload_n dX11_setPatience_5 rfl ?_
  refine av_iconst (v := 1) dX11_setPatience_6 (by decide) ?_
  refine av_bipush (v := 30) dX11_setPatience_7 (by decide) ?_
  refine av_callS am_hT (mX11_inRange l hfl N) ⟨by decide +kernel, by decide +kernel, by decide +kernel⟩ q631 q632 q628 q633 (by decide) (by decide) dX11_setPatience_9 ?_
  refine av_ifne (tgt := 21) dX11_setPatience_12 (by decide) ?_ ?_
  · refine av_aload_n dX11_setPatience_21 rfl ?_
    refine av_callV am_hT (mX11_record l hfl N) am_ci11 ⟨by decide +kernel, by decide +kernel, by decide +kernel⟩ q804 q805 q628 q806 q807 (by decide) (by decide) dX11_setPatience_22 ?_
    refine av_aload_n dX11_setPatience_25 rfl ?_
    refine av_getr am_ci11 (by decide) am_f11_0 q610 dX11_setPatience_26 ?_
    refine av_bipush (v := 9) dX11_setPatience_29 (by decide) ?_
    refine av_iaload dX11_setPatience_31 ?_
    refine av_istore_n dX11_setPatience_32 rfl (by decide) ?_
    refine av_aload_n dX11_setPatience_33 rfl ?_
    refine av_getr am_ci11 (by decide) am_f11_0 q610 dX11_setPatience_34 ?_
    refine av_bipush (v := 9) dX11_setPatience_37 (by decide) ?_
    refine av_iload_n dX11_setPatience_39 rfl ?_
    refine av_iastore dX11_setPatience_40 ?_
    refine av_iload_n dX11_setPatience_41 rfl ?_
    exact av_ireturn am_hi dX11_setPatience_42
  refine av_aload_n dX11_setPatience_15 rfl ?_
  refine av_iconst (v := 1) dX11_setPatience_16 (by decide) ?_
  refine av_callV am_hT (mX11_raise l hfl N) am_ci11 ⟨by decide +kernel, by decide +kernel, by decide +kernel⟩ q634 q635 q628 q636 q637 (by decide) (by decide) dX11_setPatience_17 ?_
  exact av_ireturn am_hi dX11_setPatience_20
theorem mX11_setPatience (l : Launch) (hfl : l.stackTraces = false) (N : Nat) : am_M l yX11_setPatience cX11_setPatience 3 (some .int) 3 105 (fX11_setPatience N) := av_meth hfl (by decide +kernel) rfl (vX11_setPatience_0 l hfl N)
/-! MessengerBoardModel.lowestIn(II)I -/
noncomputable def kX11_lowestIn_34 (N : Nat) (r2 : am_K) : am_K := c_live [0, 1, 2, 3] <|
  c_inc 3 (1) <|
  c_live [0, 1, 2, 3] r2
noncomputable def bX11_lowestIn_2 (N : Nat) (r2 : am_K) : am_K :=
  c_ild 3 <|
  c_rld 0 <|
  c_getr 11 0 <|
  c_i (2) <|
  c_ial <|
  c_icge (
  c_i (-1) <|
  c_iret) <|
  c_rld 0 <|
  c_ild 3 <|
  c_i (0) <|
  c_callV 11 2 (fX11_ofUnit N) <|
  c_ild 1 <|
  c_icne (
  kX11_lowestIn_34 N r2) <|
  c_rld 0 <|
  c_ild 3 <|
  c_i (1) <|
  c_callV 11 2 (fX11_ofUnit N) <|
  c_ild 2 <|
  c_icne (
  kX11_lowestIn_34 N r2) <|
  c_ild 3 <|
  c_iret
noncomputable def kX11_lowestIn_2 (N : Nat) : am_K := c_live [0, 1, 2, 3] (am_loop (bX11_lowestIn_2 N) N)
noncomputable def kX11_lowestIn_0 (N : Nat) : am_K := c_live [0, 1, 2] <|
  c_i (0) <|
  c_ist 3 <|
  kX11_lowestIn_2 N
noncomputable def fX11_lowestIn (N : Nat) : am_F := am_fn 4 (kX11_lowestIn_0 N)
set_option maxRecDepth 20000 in
theorem vX11_lowestIn_34 (l : Launch) (hfl : l.stackTraces = false) (N : Nat)  {r2 : am_K} (h2 : am_V l cX11_lowestIn 4 RX11 (am_E (some .int) yX11_lowestIn.name) 3 103 2 r2) : am_V l cX11_lowestIn 4 RX11 (am_E (some .int) yX11_lowestIn.name) 3 103 34 (kX11_lowestIn_34 N r2) := by
  refine av_live ?_
  refine av_iinc dX11_lowestIn_34 (by decide) (by decide) ?_
  refine av_goto (tgt := 2) dX11_lowestIn_37 (by decide) ?_
  exact av_live h2
set_option maxRecDepth 20000 in
theorem vX11_lowestIn_2 (l : Launch) (hfl : l.stackTraces = false) (N : Nat)  : am_V l cX11_lowestIn 4 RX11 (am_E (some .int) yX11_lowestIn.name) 3 103 2 (kX11_lowestIn_2 N) := by
  refine av_live ?_
  refine av_loop (fun r2 h2 => ?_) N
  refine av_iload_n dX11_lowestIn_2 rfl ?_
  refine av_aload_n dX11_lowestIn_3 rfl ?_
  refine av_getr am_ci11 (by decide) am_f11_0 q610 dX11_lowestIn_4 ?_
  refine av_iconst (v := 2) dX11_lowestIn_7 (by decide) ?_
  refine av_iaload dX11_lowestIn_8 ?_
  refine av_icge (tgt := 40) dX11_lowestIn_9 (by decide) ?_ ?_
  · refine av_iconst (v := -1) dX11_lowestIn_40 (by decide) ?_
    exact av_ireturn am_hi dX11_lowestIn_41
  refine av_aload_n dX11_lowestIn_12 rfl ?_
  refine av_iload_n dX11_lowestIn_13 rfl ?_
  refine av_iconst (v := 0) dX11_lowestIn_14 (by decide) ?_
  refine av_callV am_hT (mX11_ofUnit l hfl N) am_ci11 ⟨by decide +kernel, by decide +kernel, by decide +kernel⟩ q660 q661 q628 q662 q663 (by decide) (by decide) dX11_lowestIn_15 ?_
  refine av_iload_n dX11_lowestIn_18 rfl ?_
  refine av_icne (tgt := 34) dX11_lowestIn_19 (by decide) ?_ ?_
  · exact vX11_lowestIn_34 l hfl N h2
  refine av_aload_n dX11_lowestIn_22 rfl ?_
  refine av_iload_n dX11_lowestIn_23 rfl ?_
  refine av_iconst (v := 1) dX11_lowestIn_24 (by decide) ?_
  refine av_callV am_hT (mX11_ofUnit l hfl N) am_ci11 ⟨by decide +kernel, by decide +kernel, by decide +kernel⟩ q660 q661 q628 q662 q663 (by decide) (by decide) dX11_lowestIn_25 ?_
  refine av_iload_n dX11_lowestIn_28 rfl ?_
  refine av_icne (tgt := 34) dX11_lowestIn_29 (by decide) ?_ ?_
  · exact vX11_lowestIn_34 l hfl N h2
  refine av_iload_n dX11_lowestIn_32 rfl ?_
  exact av_ireturn am_hi dX11_lowestIn_33
set_option maxRecDepth 20000 in
theorem vX11_lowestIn_0 (l : Launch) (hfl : l.stackTraces = false) (N : Nat)  : am_V l cX11_lowestIn 4 RX11 (am_E (some .int) yX11_lowestIn.name) 3 103 0 (kX11_lowestIn_0 N) := by
  refine av_live ?_
  refine av_iconst (v := 0) dX11_lowestIn_0 (by decide) ?_
  refine av_istore_n dX11_lowestIn_1 rfl (by decide) ?_
  exact vX11_lowestIn_2 l hfl N
theorem mX11_lowestIn (l : Launch) (hfl : l.stackTraces = false) (N : Nat) : am_M l yX11_lowestIn cX11_lowestIn 4 (some .int) 3 103 (fX11_lowestIn N) := av_meth hfl (by decide +kernel) rfl (vX11_lowestIn_0 l hfl N)
/-! MessengerBoardModel.hasMessenger(II)Z -/
noncomputable def kX11_hasMessenger_45 (N : Nat) (r2 : am_K) : am_K := c_live [0, 1, 2, 3] <|
  c_inc 3 (1) <|
  c_live [0, 1, 2, 3] r2
noncomputable def bX11_hasMessenger_2 (N : Nat) (r2 : am_K) : am_K :=
  c_ild 3 <|
  c_rld 0 <|
  c_getr 11 0 <|
  c_i (4) <|
  c_ial <|
  c_icge (
  c_i (0) <|
  c_zret) <|
  c_rld 0 <|
  c_ild 3 <|
  c_i (3) <|
  c_callV 11 2 (fX11_ofOrder N) <|
  c_ifne (
  kX11_hasMessenger_45 N r2) <|
  c_rld 0 <|
  c_ild 3 <|
  c_i (7) <|
  c_callV 11 2 (fX11_ofOrder N) <|
  c_ild 1 <|
  c_icne (
  kX11_hasMessenger_45 N r2) <|
  c_rld 0 <|
  c_ild 3 <|
  c_i (8) <|
  c_callV 11 2 (fX11_ofOrder N) <|
  c_ild 2 <|
  c_icne (
  kX11_hasMessenger_45 N r2) <|
  c_i (1) <|
  c_zret
noncomputable def kX11_hasMessenger_2 (N : Nat) : am_K := c_live [0, 1, 2, 3] (am_loop (bX11_hasMessenger_2 N) N)
noncomputable def kX11_hasMessenger_0 (N : Nat) : am_K := c_live [0, 1, 2] <|
  c_i (0) <|
  c_ist 3 <|
  kX11_hasMessenger_2 N
noncomputable def fX11_hasMessenger (N : Nat) : am_F := am_fn 4 (kX11_hasMessenger_0 N)
set_option maxRecDepth 20000 in
theorem vX11_hasMessenger_45 (l : Launch) (hfl : l.stackTraces = false) (N : Nat)  {r2 : am_K} (h2 : am_V l cX11_hasMessenger 4 RX11 (am_E (some .boolean) yX11_hasMessenger.name) 3 103 2 r2) : am_V l cX11_hasMessenger 4 RX11 (am_E (some .boolean) yX11_hasMessenger.name) 3 103 45 (kX11_hasMessenger_45 N r2) := by
  refine av_live ?_
  refine av_iinc dX11_hasMessenger_45 (by decide) (by decide) ?_
  refine av_goto (tgt := 2) dX11_hasMessenger_48 (by decide) ?_
  exact av_live h2
set_option maxRecDepth 20000 in
theorem vX11_hasMessenger_2 (l : Launch) (hfl : l.stackTraces = false) (N : Nat)  : am_V l cX11_hasMessenger 4 RX11 (am_E (some .boolean) yX11_hasMessenger.name) 3 103 2 (kX11_hasMessenger_2 N) := by
  refine av_live ?_
  refine av_loop (fun r2 h2 => ?_) N
  refine av_iload_n dX11_hasMessenger_2 rfl ?_
  refine av_aload_n dX11_hasMessenger_3 rfl ?_
  refine av_getr am_ci11 (by decide) am_f11_0 q610 dX11_hasMessenger_4 ?_
  refine av_iconst (v := 4) dX11_hasMessenger_7 (by decide) ?_
  refine av_iaload dX11_hasMessenger_8 ?_
  refine av_icge (tgt := 51) dX11_hasMessenger_9 (by decide) ?_ ?_
  · refine av_iconst (v := 0) dX11_hasMessenger_51 (by decide) ?_
    exact av_zreturn am_hz dX11_hasMessenger_52
  refine av_aload_n dX11_hasMessenger_12 rfl ?_
  refine av_iload_n dX11_hasMessenger_13 rfl ?_
  refine av_iconst (v := 3) dX11_hasMessenger_14 (by decide) ?_
  refine av_callV am_hT (mX11_ofOrder l hfl N) am_ci11 ⟨by decide +kernel, by decide +kernel, by decide +kernel⟩ q644 q645 q628 q646 q647 (by decide) (by decide) dX11_hasMessenger_15 ?_
  refine av_ifne (tgt := 45) dX11_hasMessenger_18 (by decide) ?_ ?_
  · exact vX11_hasMessenger_45 l hfl N h2
  refine av_aload_n dX11_hasMessenger_21 rfl ?_
  refine av_iload_n dX11_hasMessenger_22 rfl ?_
  refine av_bipush (v := 7) dX11_hasMessenger_23 (by decide) ?_
  refine av_callV am_hT (mX11_ofOrder l hfl N) am_ci11 ⟨by decide +kernel, by decide +kernel, by decide +kernel⟩ q644 q645 q628 q646 q647 (by decide) (by decide) dX11_hasMessenger_25 ?_
  refine av_iload_n dX11_hasMessenger_28 rfl ?_
  refine av_icne (tgt := 45) dX11_hasMessenger_29 (by decide) ?_ ?_
  · exact vX11_hasMessenger_45 l hfl N h2
  refine av_aload_n dX11_hasMessenger_32 rfl ?_
  refine av_iload_n dX11_hasMessenger_33 rfl ?_
  refine av_bipush (v := 8) dX11_hasMessenger_34 (by decide) ?_
  refine av_callV am_hT (mX11_ofOrder l hfl N) am_ci11 ⟨by decide +kernel, by decide +kernel, by decide +kernel⟩ q644 q645 q628 q646 q647 (by decide) (by decide) dX11_hasMessenger_36 ?_
  refine av_iload_n dX11_hasMessenger_39 rfl ?_
  refine av_icne (tgt := 45) dX11_hasMessenger_40 (by decide) ?_ ?_
  · exact vX11_hasMessenger_45 l hfl N h2
  refine av_iconst (v := 1) dX11_hasMessenger_43 (by decide) ?_
  exact av_zreturn am_hz dX11_hasMessenger_44
set_option maxRecDepth 20000 in
theorem vX11_hasMessenger_0 (l : Launch) (hfl : l.stackTraces = false) (N : Nat)  : am_V l cX11_hasMessenger 4 RX11 (am_E (some .boolean) yX11_hasMessenger.name) 3 103 0 (kX11_hasMessenger_0 N) := by
  refine av_live ?_
  refine av_iconst (v := 0) dX11_hasMessenger_0 (by decide) ?_
  refine av_istore_n dX11_hasMessenger_1 rfl (by decide) ?_
  exact vX11_hasMessenger_2 l hfl N
theorem mX11_hasMessenger (l : Launch) (hfl : l.stackTraces = false) (N : Nat) : am_M l yX11_hasMessenger cX11_hasMessenger 4 (some .boolean) 3 103 (fX11_hasMessenger N) := av_meth hfl (by decide +kernel) rfl (vX11_hasMessenger_0 l hfl N)
/-! MessengerBoardModel.symbol(II)I -/
noncomputable def kX11_symbol_89 (N : Nat) : am_K := c_live [] <|
  c_iret
noncomputable def kX11_symbol_54 (N : Nat) : am_K := c_live [0, 1, 2] <|
  c_rld 0 <|
  c_ild 1 <|
  c_ild 2 <|
  c_rld 0 <|
  c_callV 11 0 (fX11_turnNow N) <|
  c_callV 11 3 (fX11_watcher N) <|
  c_i (-1) <|
  c_iceq (
  c_rld 0 <|
  c_ild 1 <|
  c_ild 2 <|
  c_callV 11 2 (fX11_isFree N) <|
  c_ifeq (
  c_i (35) <|
  kX11_symbol_89 N) <|
  c_i (46) <|
  kX11_symbol_89 N) <|
  c_i (33) <|
  kX11_symbol_89 N
noncomputable def kX11_symbol_0 (N : Nat) : am_K := c_live [0, 1, 2] <|
  c_rld 0 <|
  c_ild 1 <|
  c_ild 2 <|
  c_callV 11 2 (fX11_lowestIn N) <|
  c_ist 3 <|
  c_ild 3 <|
  c_i (-1) <|
  c_iceq (
  c_rld 0 <|
  c_ild 1 <|
  c_ild 2 <|
  c_callV 11 2 (fX11_hasMessenger N) <|
  c_ifeq (
  c_rld 0 <|
  c_getr 11 0 <|
  c_i (10) <|
  c_ial <|
  c_ild 1 <|
  c_icne (
  kX11_symbol_54 N) <|
  c_rld 0 <|
  c_getr 11 0 <|
  c_i (11) <|
  c_ial <|
  c_ild 2 <|
  c_icne (
  kX11_symbol_54 N) <|
  c_i (104) <|
  c_iret) <|
  c_i (109) <|
  c_iret) <|
  c_i (48) <|
  c_ild 3 <|
  c_ii (fun x y => x + y) <|
  c_iret
noncomputable def fX11_symbol (N : Nat) : am_F := am_fn 4 (kX11_symbol_0 N)
set_option maxRecDepth 20000 in
theorem vX11_symbol_89 (l : Launch) (hfl : l.stackTraces = false) (N : Nat)  : am_V l cX11_symbol 4 RX11 (am_E (some .int) yX11_symbol.name) 5 151 89 (kX11_symbol_89 N) := by
  refine av_live ?_
  exact av_ireturn am_hi dX11_symbol_89
set_option maxRecDepth 20000 in
theorem vX11_symbol_54 (l : Launch) (hfl : l.stackTraces = false) (N : Nat)  : am_V l cX11_symbol 4 RX11 (am_E (some .int) yX11_symbol.name) 5 151 54 (kX11_symbol_54 N) := by
  refine av_live ?_
  refine av_aload_n dX11_symbol_54 rfl ?_
  refine av_iload_n dX11_symbol_55 rfl ?_
  refine av_iload_n dX11_symbol_56 rfl ?_
  refine av_aload_n dX11_symbol_57 rfl ?_
  refine av_callV am_hT (mX11_turnNow l hfl N) am_ci11 ⟨by decide +kernel, by decide +kernel, by decide +kernel⟩ q675 q676 q628 q677 q678 (by decide) (by decide) dX11_symbol_58 ?_
  refine av_callV am_hT (mX11_watcher l hfl N) am_ci11 ⟨by decide +kernel, by decide +kernel, by decide +kernel⟩ q714 q715 q628 q716 q717 (by decide) (by decide) dX11_symbol_61 ?_
  refine av_iconst (v := -1) dX11_symbol_64 (by decide) ?_
  refine av_iceq (tgt := 73) dX11_symbol_65 (by decide) ?_ ?_
  · refine av_aload_n dX11_symbol_73 rfl ?_
    refine av_iload_n dX11_symbol_74 rfl ?_
    refine av_iload_n dX11_symbol_75 rfl ?_
    refine av_callV am_hT (mX11_isFree l hfl N) am_ci11 ⟨by decide +kernel, by decide +kernel, by decide +kernel⟩ q705 q706 q628 q707 q708 (by decide) (by decide) dX11_symbol_76 ?_
    refine av_ifeq (tgt := 87) dX11_symbol_79 (by decide) ?_ ?_
    · refine av_bipush (v := 35) dX11_symbol_87 (by decide) ?_
      exact vX11_symbol_89 l hfl N
    refine av_bipush (v := 46) dX11_symbol_82 (by decide) ?_
    refine av_goto (tgt := 89) dX11_symbol_84 (by decide) ?_
    exact vX11_symbol_89 l hfl N
  refine av_bipush (v := 33) dX11_symbol_68 (by decide) ?_
  refine av_goto (tgt := 89) dX11_symbol_70 (by decide) ?_
  exact vX11_symbol_89 l hfl N
set_option maxRecDepth 20000 in
theorem vX11_symbol_0 (l : Launch) (hfl : l.stackTraces = false) (N : Nat)  : am_V l cX11_symbol 4 RX11 (am_E (some .int) yX11_symbol.name) 5 151 0 (kX11_symbol_0 N) := by
  refine av_live ?_
  refine av_aload_n dX11_symbol_0 rfl ?_
  refine av_iload_n dX11_symbol_1 rfl ?_
  refine av_iload_n dX11_symbol_2 rfl ?_
  refine av_callV am_hT (mX11_lowestIn l hfl N) am_ci11 ⟨by decide +kernel, by decide +kernel, by decide +kernel⟩ q816 q817 q628 q818 q819 (by decide) (by decide) dX11_symbol_3 ?_
  refine av_istore_n dX11_symbol_6 rfl (by decide) ?_
  refine av_iload_n dX11_symbol_7 rfl ?_
  refine av_iconst (v := -1) dX11_symbol_8 (by decide) ?_
  refine av_iceq (tgt := 17) dX11_symbol_9 (by decide) ?_ ?_
  · refine av_aload_n dX11_symbol_17 rfl ?_
    refine av_iload_n dX11_symbol_18 rfl ?_
    refine av_iload_n dX11_symbol_19 rfl ?_
    refine av_callV am_hT (mX11_hasMessenger l hfl N) am_ci11 ⟨by decide +kernel, by decide +kernel, by decide +kernel⟩ q820 q821 q628 q822 q823 (by decide) (by decide) dX11_symbol_20 ?_
    refine av_ifeq (tgt := 29) dX11_symbol_23 (by decide) ?_ ?_
    · refine av_aload_n dX11_symbol_29 rfl ?_
      refine av_getr am_ci11 (by decide) am_f11_0 q610 dX11_symbol_30 ?_
      refine av_bipush (v := 10) dX11_symbol_33 (by decide) ?_
      refine av_iaload dX11_symbol_35 ?_
      refine av_iload_n dX11_symbol_36 rfl ?_
      refine av_icne (tgt := 54) dX11_symbol_37 (by decide) ?_ ?_
      · exact vX11_symbol_54 l hfl N
      refine av_aload_n dX11_symbol_40 rfl ?_
      refine av_getr am_ci11 (by decide) am_f11_0 q610 dX11_symbol_41 ?_
      refine av_bipush (v := 11) dX11_symbol_44 (by decide) ?_
      refine av_iaload dX11_symbol_46 ?_
      refine av_iload_n dX11_symbol_47 rfl ?_
      refine av_icne (tgt := 54) dX11_symbol_48 (by decide) ?_ ?_
      · exact vX11_symbol_54 l hfl N
      refine av_bipush (v := 104) dX11_symbol_51 (by decide) ?_
      exact av_ireturn am_hi dX11_symbol_53
    refine av_bipush (v := 109) dX11_symbol_26 (by decide) ?_
    exact av_ireturn am_hi dX11_symbol_28
  refine av_bipush (v := 48) dX11_symbol_12 (by decide) ?_
  refine av_iload_n dX11_symbol_14 rfl ?_
  refine av_iadd dX11_symbol_15 ?_
  exact av_ireturn am_hi dX11_symbol_16
theorem mX11_symbol (l : Launch) (hfl : l.stackTraces = false) (N : Nat) : am_M l yX11_symbol cX11_symbol 4 (some .int) 5 151 (fX11_symbol N) := av_meth hfl (by decide +kernel) rfl (vX11_symbol_0 l hfl N)
/-! MessengerBoardModel.format(I)I -/
noncomputable def bX11_format_39 (N : Nat) (r39 : am_K) : am_K :=
  c_ild 2 <|
  c_rld 0 <|
  c_geti 11 11 <|
  c_icge (
  c_rld 0 <|
  c_geti 11 11 <|
  c_iret) <|
  c_rld 0 <|
  c_getr 11 10 <|
  c_ild 2 <|
  c_rld 0 <|
  c_ild 2 <|
  c_ild 1 <|
  c_callV 11 2 (fX11_symbol N) <|
  c_ias <|
  c_inc 2 (1) <|
  c_live [0, 1, 2] r39
noncomputable def kX11_format_39 (N : Nat) : am_K := c_live [0, 1, 2] (am_loop (bX11_format_39 N) N)
noncomputable def kX11_format_0 (N : Nat) : am_K := c_live [0, 1] <|
  c_rld 0 <|
  c_i (0) <|
  c_puti 11 6 <|
  c_ild 1 <|
  c_i (0) <|
  c_rld 0 <|
  c_getr 11 0 <|
  c_i (1) <|
  c_ial <|
  c_i (1) <|
  c_ii (fun x y => x - y) <|
  c_callS 3 (fX11_inRange N) <|
  c_ifne (
  c_rld 0 <|
  c_rld 0 <|
  c_getr 11 0 <|
  c_i (0) <|
  c_ial <|
  c_puti 11 11 <|
  c_i (0) <|
  c_ist 2 <|
  kX11_format_39 N) <|
  c_rld 0 <|
  c_i (1) <|
  c_callV 11 1 (fX11_raise N) <|
  c_iret
noncomputable def fX11_format (N : Nat) : am_F := am_fn 3 (kX11_format_0 N)
set_option maxRecDepth 20000 in
theorem vX11_format_39 (l : Launch) (hfl : l.stackTraces = false) (N : Nat)  : am_V l cX11_format 3 RX11 (am_E (some .int) yX11_format.name) 6 174 39 (kX11_format_39 N) := by
  refine av_live ?_
  refine av_loop (fun r39 h39 => ?_) N
  refine av_iload_n dX11_format_39 rfl ?_
  refine av_aload_n dX11_format_40 rfl ?_
  refine av_geti am_ci11 (by decide) am_f11_11 q824 dX11_format_41 ?_
  refine av_icge (tgt := 65) dX11_format_44 (by decide) ?_ ?_
  · refine av_aload_n dX11_format_65 rfl ?_
    refine av_geti am_ci11 (by decide) am_f11_11 q824 dX11_format_66 ?_
    exact av_ireturn am_hi dX11_format_69
  refine av_aload_n dX11_format_47 rfl ?_
  refine av_getr am_ci11 (by decide) am_f11_10 q618 dX11_format_48 ?_
  refine av_iload_n dX11_format_51 rfl ?_
  refine av_aload_n dX11_format_52 rfl ?_
  refine av_iload_n dX11_format_53 rfl ?_
  refine av_iload_n dX11_format_54 rfl ?_
  refine av_callV am_hT (mX11_symbol l hfl N) am_ci11 ⟨by decide +kernel, by decide +kernel, by decide +kernel⟩ q825 q826 q628 q827 q828 (by decide) (by decide) dX11_format_55 ?_
  refine av_iastore dX11_format_58 ?_
  refine av_iinc dX11_format_59 (by decide) (by decide) ?_
  refine av_goto (tgt := 39) dX11_format_62 (by decide) ?_
  exact av_live h39
set_option maxRecDepth 20000 in
theorem vX11_format_0 (l : Launch) (hfl : l.stackTraces = false) (N : Nat)  : am_V l cX11_format 3 RX11 (am_E (some .int) yX11_format.name) 6 174 0 (kX11_format_0 N) := by
  refine av_live ?_
  refine av_aload_n dX11_format_0 rfl ?_
  refine av_iconst (v := 0) dX11_format_1 (by decide) ?_
  refine av_puti am_ci11 (by decide) am_f11_6 q630 (tyX11_ok 6 (by decide)) rfl dX11_format_2 ?_
  refine av_iload_n dX11_format_5 rfl ?_
  refine av_iconst (v := 0) dX11_format_6 (by decide) ?_
  refine av_aload_n dX11_format_7 rfl ?_
  refine av_getr am_ci11 (by decide) am_f11_0 q610 dX11_format_8 ?_
  refine av_iconst (v := 1) dX11_format_11 (by decide) ?_
  refine av_iaload dX11_format_12 ?_
  refine av_iconst (v := 1) dX11_format_13 (by decide) ?_
  refine av_isub dX11_format_14 ?_
  refine av_callS am_hT (mX11_inRange l hfl N) ⟨by decide +kernel, by decide +kernel, by decide +kernel⟩ q631 q632 q628 q633 (by decide) (by decide) dX11_format_15 ?_
  refine av_ifne (tgt := 27) dX11_format_18 (by decide) ?_ ?_
  · refine av_aload_n dX11_format_27 rfl ?_
    refine av_aload_n dX11_format_28 rfl ?_
    refine av_getr am_ci11 (by decide) am_f11_0 q610 dX11_format_29 ?_
    refine av_iconst (v := 0) dX11_format_32 (by decide) ?_
    refine av_iaload dX11_format_33 ?_
    refine av_puti am_ci11 (by decide) am_f11_11 q824 (tyX11_ok 11 (by decide)) rfl dX11_format_34 ?_
    refine av_iconst (v := 0) dX11_format_37 (by decide) ?_
    refine av_istore_n dX11_format_38 rfl (by decide) ?_
    exact vX11_format_39 l hfl N
  refine av_aload_n dX11_format_21 rfl ?_
  refine av_iconst (v := 1) dX11_format_22 (by decide) ?_
  refine av_callV am_hT (mX11_raise l hfl N) am_ci11 ⟨by decide +kernel, by decide +kernel, by decide +kernel⟩ q634 q635 q628 q636 q637 (by decide) (by decide) dX11_format_23 ?_
  exact av_ireturn am_hi dX11_format_26
theorem mX11_format (l : Launch) (hfl : l.stackTraces = false) (N : Nat) : am_M l yX11_format cX11_format 3 (some .int) 6 174 (fX11_format N) := av_meth hfl (by decide +kernel) rfl (vX11_format_0 l hfl N)
/-! MessengerBoardModel.formattedByte(I)I -/
noncomputable def kX11_formattedByte_29 (N : Nat) : am_K := c_live [] <|
  c_iret
noncomputable def kX11_formattedByte_0 (N : Nat) : am_K := c_live [0, 1] <|
  c_rld 0 <|
  c_i (0) <|
  c_puti 11 6 <|
  c_ild 1 <|
  c_i (0) <|
  c_rld 0 <|
  c_geti 11 11 <|
  c_i (1) <|
  c_ii (fun x y => x - y) <|
  c_callS 3 (fX11_inRange N) <|
  c_ifeq (
  c_i (-1) <|
  kX11_formattedByte_29 N) <|
  c_rld 0 <|
  c_getr 11 10 <|
  c_ild 1 <|
  c_ial <|
  kX11_formattedByte_29 N
noncomputable def fX11_formattedByte (N : Nat) : am_F := am_fn 2 (kX11_formattedByte_0 N)
set_option maxRecDepth 20000 in
theorem vX11_formattedByte_29 (l : Launch) (hfl : l.stackTraces = false) (N : Nat)  : am_V l cX11_formattedByte 2 RX11 (am_E (some .int) yX11_formattedByte.name) 2 82 29 (kX11_formattedByte_29 N) := by
  refine av_live ?_
  exact av_ireturn am_hi dX11_formattedByte_29
set_option maxRecDepth 20000 in
theorem vX11_formattedByte_0 (l : Launch) (hfl : l.stackTraces = false) (N : Nat)  : am_V l cX11_formattedByte 2 RX11 (am_E (some .int) yX11_formattedByte.name) 2 82 0 (kX11_formattedByte_0 N) := by
  refine av_live ?_
  refine av_aload_n dX11_formattedByte_0 rfl ?_
  refine av_iconst (v := 0) dX11_formattedByte_1 (by decide) ?_
  refine av_puti am_ci11 (by decide) am_f11_6 q630 (tyX11_ok 6 (by decide)) rfl dX11_formattedByte_2 ?_
  refine av_iload_n dX11_formattedByte_5 rfl ?_
  refine av_iconst (v := 0) dX11_formattedByte_6 (by decide) ?_
  refine av_aload_n dX11_formattedByte_7 rfl ?_
  refine av_geti am_ci11 (by decide) am_f11_11 q824 dX11_formattedByte_8 ?_
  refine av_iconst (v := 1) dX11_formattedByte_11 (by decide) ?_
  refine av_isub dX11_formattedByte_12 ?_
  refine av_callS am_hT (mX11_inRange l hfl N) ⟨by decide +kernel, by decide +kernel, by decide +kernel⟩ q631 q632 q628 q633 (by decide) (by decide) dX11_formattedByte_13 ?_
  refine av_ifeq (tgt := 28) dX11_formattedByte_16 (by decide) ?_ ?_
  · refine av_iconst (v := -1) dX11_formattedByte_28 (by decide) ?_
    exact vX11_formattedByte_29 l hfl N
  refine av_aload_n dX11_formattedByte_19 rfl ?_
  refine av_getr am_ci11 (by decide) am_f11_10 q618 dX11_formattedByte_20 ?_
  refine av_iload_n dX11_formattedByte_23 rfl ?_
  refine av_iaload dX11_formattedByte_24 ?_
  refine av_goto (tgt := 29) dX11_formattedByte_25 (by decide) ?_
  exact vX11_formattedByte_29 l hfl N
theorem mX11_formattedByte (l : Launch) (hfl : l.stackTraces = false) (N : Nat) : am_M l yX11_formattedByte cX11_formattedByte 2 (some .int) 2 82 (fX11_formattedByte N) := av_meth hfl (by decide +kernel) rfl (vX11_formattedByte_0 l hfl N)
/-! MessengerBoardModel.undoCount()I -/
noncomputable def kX11_undoCount_0 (N : Nat) : am_K := c_live [0] <|
  c_rld 0 <|
  c_i (0) <|
  c_puti 11 6 <|
  c_rld 0 <|
  c_geti 11 5 <|
  c_iret
noncomputable def fX11_undoCount (N : Nat) : am_F := am_fn 1 (kX11_undoCount_0 N)
set_option maxRecDepth 20000 in
theorem vX11_undoCount_0 (l : Launch) (hfl : l.stackTraces = false) (N : Nat)  : am_V l cX11_undoCount 1 RX11 (am_E (some .int) yX11_undoCount.name) 1 60 0 (kX11_undoCount_0 N) := by
  refine av_live ?_
  refine av_aload_n dX11_undoCount_0 rfl ?_
  refine av_iconst (v := 0) dX11_undoCount_1 (by decide) ?_
  refine av_puti am_ci11 (by decide) am_f11_6 q630 (tyX11_ok 6 (by decide)) rfl dX11_undoCount_2 ?_
  refine av_aload_n dX11_undoCount_5 rfl ?_
  refine av_geti am_ci11 (by decide) am_f11_5 q803 dX11_undoCount_6 ?_
  exact av_ireturn am_hi dX11_undoCount_9
theorem mX11_undoCount (l : Launch) (hfl : l.stackTraces = false) (N : Nat) : am_M l yX11_undoCount cX11_undoCount 1 (some .int) 1 60 (fX11_undoCount N) := av_meth hfl (by decide +kernel) rfl (vX11_undoCount_0 l hfl N)
/-! MessengerBoardModel.undo()I -/
noncomputable def kX11_undo_0 (N : Nat) : am_K := c_live [0] <|
  c_rld 0 <|
  c_i (0) <|
  c_puti 11 6 <|
  c_rld 0 <|
  c_geti 11 5 <|
  c_ifne (
  c_rld 0 <|
  c_dup <|
  c_geti 11 5 <|
  c_i (1) <|
  c_ii (fun x y => x - y) <|
  c_puti 11 5 <|
  c_rld 0 <|
  c_getr 11 4 <|
  c_rld 0 <|
  c_geti 11 5 <|
  c_rld 0 <|
  c_getr 11 0 <|
  c_i (0) <|
  c_callS 4 (fX11_copy N) <|
  c_rld 0 <|
  c_geti 11 5 <|
  c_iret) <|
  c_i (-1) <|
  c_iret
noncomputable def fX11_undo (N : Nat) : am_F := am_fn 1 (kX11_undo_0 N)
set_option maxRecDepth 20000 in
theorem vX11_undo_0 (l : Launch) (hfl : l.stackTraces = false) (N : Nat)  : am_V l cX11_undo 1 RX11 (am_E (some .int) yX11_undo.name) 2 84 0 (kX11_undo_0 N) := by
  refine av_live ?_
  refine av_aload_n dX11_undo_0 rfl ?_
  refine av_iconst (v := 0) dX11_undo_1 (by decide) ?_
  refine av_puti am_ci11 (by decide) am_f11_6 q630 (tyX11_ok 6 (by decide)) rfl dX11_undo_2 ?_
  refine av_aload_n dX11_undo_5 rfl ?_
  refine av_geti am_ci11 (by decide) am_f11_5 q803 dX11_undo_6 ?_
  refine av_ifne (tgt := 14) dX11_undo_9 (by decide) ?_ ?_
  · refine av_aload_n dX11_undo_14 rfl ?_
    refine av_dup dX11_undo_15 ?_
    refine av_geti am_ci11 (by decide) am_f11_5 q803 dX11_undo_16 ?_
    refine av_iconst (v := 1) dX11_undo_19 (by decide) ?_
    refine av_isub dX11_undo_20 ?_
    refine av_puti am_ci11 (by decide) am_f11_5 q803 (tyX11_ok 5 (by decide)) rfl dX11_undo_21 ?_
    refine av_aload_n dX11_undo_24 rfl ?_
    refine av_getr am_ci11 (by decide) am_f11_4 q615 dX11_undo_25 ?_
    refine av_aload_n dX11_undo_28 rfl ?_
    refine av_geti am_ci11 (by decide) am_f11_5 q803 dX11_undo_29 ?_
    refine av_aload_n dX11_undo_32 rfl ?_
    refine av_getr am_ci11 (by decide) am_f11_0 q610 dX11_undo_33 ?_
    refine av_iconst (v := 0) dX11_undo_36 (by decide) ?_
    refine av_callS am_hT (mX11_copy l hfl N) ⟨by decide +kernel, by decide +kernel, by decide +kernel⟩ q736 q737 q628 q738 (by decide) (by decide) dX11_undo_37 ?_
    refine av_aload_n dX11_undo_40 rfl ?_
    refine av_geti am_ci11 (by decide) am_f11_5 q803 dX11_undo_41 ?_
    exact av_ireturn am_hi dX11_undo_44
  refine av_iconst (v := -1) dX11_undo_12 (by decide) ?_
  exact av_ireturn am_hi dX11_undo_13
theorem mX11_undo (l : Launch) (hfl : l.stackTraces = false) (N : Nat) : am_M l yX11_undo cX11_undo 1 (some .int) 2 84 (fX11_undo N) := av_meth hfl (by decide +kernel) rfl (vX11_undo_0 l hfl N)
/-! MessengerBoardModel.saveSnapshot()V -/
noncomputable def kX11_saveSnapshot_0 (N : Nat) : am_K := c_live [0] <|
  c_rld 0 <|
  c_i (0) <|
  c_puti 11 6 <|
  c_rld 0 <|
  c_getr 11 0 <|
  c_i (0) <|
  c_rld 0 <|
  c_getr 11 3 <|
  c_i (0) <|
  c_callS 4 (fX11_copy N) <|
  c_rld 0 <|
  c_i (1) <|
  c_putz 11 7 <|
  c_vret
noncomputable def fX11_saveSnapshot (N : Nat) : am_F := am_fn 1 (kX11_saveSnapshot_0 N)
set_option maxRecDepth 20000 in
theorem vX11_saveSnapshot_0 (l : Launch) (hfl : l.stackTraces = false) (N : Nat)  : am_V l cX11_saveSnapshot 1 RX11 (am_E none yX11_saveSnapshot.name) 2 84 0 (kX11_saveSnapshot_0 N) := by
  refine av_live ?_
  refine av_aload_n dX11_saveSnapshot_0 rfl ?_
  refine av_iconst (v := 0) dX11_saveSnapshot_1 (by decide) ?_
  refine av_puti am_ci11 (by decide) am_f11_6 q630 (tyX11_ok 6 (by decide)) rfl dX11_saveSnapshot_2 ?_
  refine av_aload_n dX11_saveSnapshot_5 rfl ?_
  refine av_getr am_ci11 (by decide) am_f11_0 q610 dX11_saveSnapshot_6 ?_
  refine av_iconst (v := 0) dX11_saveSnapshot_9 (by decide) ?_
  refine av_aload_n dX11_saveSnapshot_10 rfl ?_
  refine av_getr am_ci11 (by decide) am_f11_3 q613 dX11_saveSnapshot_11 ?_
  refine av_iconst (v := 0) dX11_saveSnapshot_14 (by decide) ?_
  refine av_callS am_hT (mX11_copy l hfl N) ⟨by decide +kernel, by decide +kernel, by decide +kernel⟩ q736 q737 q628 q738 (by decide) (by decide) dX11_saveSnapshot_15 ?_
  refine av_aload_n dX11_saveSnapshot_18 rfl ?_
  refine av_iconst (v := 1) dX11_saveSnapshot_19 (by decide) ?_
  refine av_putz am_ci11 (by decide) am_f11_7 q829 (tyX11_ok 7 (by decide)) rfl dX11_saveSnapshot_20 ?_
  exact av_return_ am_hv dX11_saveSnapshot_23
theorem mX11_saveSnapshot (l : Launch) (hfl : l.stackTraces = false) (N : Nat) : am_M l yX11_saveSnapshot cX11_saveSnapshot 1 none 2 84 (fX11_saveSnapshot N) := av_meth hfl (by decide +kernel) rfl (vX11_saveSnapshot_0 l hfl N)
/-! MessengerBoardModel.restoreSnapshot()Z -/
noncomputable def kX11_restoreSnapshot_0 (N : Nat) : am_K := c_live [0] <|
  c_rld 0 <|
  c_i (0) <|
  c_puti 11 6 <|
  c_rld 0 <|
  c_geti 11 7 <|
  c_ifne (
  c_rld 0 <|
  c_getr 11 3 <|
  c_i (0) <|
  c_rld 0 <|
  c_getr 11 0 <|
  c_i (0) <|
  c_callS 4 (fX11_copy N) <|
  c_rld 0 <|
  c_i (0) <|
  c_puti 11 5 <|
  c_i (1) <|
  c_zret) <|
  c_i (0) <|
  c_zret
noncomputable def fX11_restoreSnapshot (N : Nat) : am_F := am_fn 1 (kX11_restoreSnapshot_0 N)
set_option maxRecDepth 20000 in
theorem vX11_restoreSnapshot_0 (l : Launch) (hfl : l.stackTraces = false) (N : Nat)  : am_V l cX11_restoreSnapshot 1 RX11 (am_E (some .boolean) yX11_restoreSnapshot.name) 2 84 0 (kX11_restoreSnapshot_0 N) := by
  refine av_live ?_
  refine av_aload_n dX11_restoreSnapshot_0 rfl ?_
  refine av_iconst (v := 0) dX11_restoreSnapshot_1 (by decide) ?_
  refine av_puti am_ci11 (by decide) am_f11_6 q630 (tyX11_ok 6 (by decide)) rfl dX11_restoreSnapshot_2 ?_
  refine av_aload_n dX11_restoreSnapshot_5 rfl ?_
  refine av_geti am_ci11 (by decide) am_f11_7 q829 dX11_restoreSnapshot_6 ?_
  refine av_ifne (tgt := 14) dX11_restoreSnapshot_9 (by decide) ?_ ?_
  · refine av_aload_n dX11_restoreSnapshot_14 rfl ?_
    refine av_getr am_ci11 (by decide) am_f11_3 q613 dX11_restoreSnapshot_15 ?_
    refine av_iconst (v := 0) dX11_restoreSnapshot_18 (by decide) ?_
    refine av_aload_n dX11_restoreSnapshot_19 rfl ?_
    refine av_getr am_ci11 (by decide) am_f11_0 q610 dX11_restoreSnapshot_20 ?_
    refine av_iconst (v := 0) dX11_restoreSnapshot_23 (by decide) ?_
    refine av_callS am_hT (mX11_copy l hfl N) ⟨by decide +kernel, by decide +kernel, by decide +kernel⟩ q736 q737 q628 q738 (by decide) (by decide) dX11_restoreSnapshot_24 ?_
    refine av_aload_n dX11_restoreSnapshot_27 rfl ?_
    refine av_iconst (v := 0) dX11_restoreSnapshot_28 (by decide) ?_
    refine av_puti am_ci11 (by decide) am_f11_5 q803 (tyX11_ok 5 (by decide)) rfl dX11_restoreSnapshot_29 ?_
    refine av_iconst (v := 1) dX11_restoreSnapshot_32 (by decide) ?_
    exact av_zreturn am_hz dX11_restoreSnapshot_33
  refine av_iconst (v := 0) dX11_restoreSnapshot_12 (by decide) ?_
  exact av_zreturn am_hz dX11_restoreSnapshot_13
theorem mX11_restoreSnapshot (l : Launch) (hfl : l.stackTraces = false) (N : Nat) : am_M l yX11_restoreSnapshot cX11_restoreSnapshot 1 (some .boolean) 2 84 (fX11_restoreSnapshot N) := av_meth hfl (by decide +kernel) rfl (vX11_restoreSnapshot_0 l hfl N)
/-! MessengerBoardModel.feed(IIIII)I -/
noncomputable def kX11_feed_76 (N : Nat) (r23 : am_K) : am_K := c_live [0, 1, 2, 3, 4, 5, 6] <|
  c_ist 7 <|
  c_rld 0 <|
  c_getr 11 12 <|
  c_rld 0 <|
  c_geti 11 13 <|
  c_ild 7 <|
  c_i (24) <|
  c_i (8) <|
  c_ild 6 <|
  c_i (4) <|
  c_irem <|
  c_ii (fun x y => x * y) <|
  c_ii (fun x y => x - y) <|
  c_ii (fun x y => x >>> (y &&& 31)) <|
  c_i (255) <|
  c_ii (fun x y => x &&& y) <|
  c_ias <|
  c_rld 0 <|
  c_dup <|
  c_geti 11 13 <|
  c_i (1) <|
  c_ii (fun x y => x + y) <|
  c_puti 11 13 <|
  c_inc 6 (1) <|
  c_live [0, 1, 2, 3, 4, 5, 6] r23
noncomputable def bX11_feed_23 (N : Nat) (r23 : am_K) : am_K :=
  c_ild 6 <|
  c_i (20) <|
  c_icge (
  c_rld 0 <|
  c_geti 11 13 <|
  c_iret) <|
  c_ild 6 <|
  c_i (4) <|
  c_icge (
  c_ild 6 <|
  c_i (8) <|
  c_icge (
  c_ild 6 <|
  c_i (12) <|
  c_icge (
  c_ild 6 <|
  c_i (16) <|
  c_icge (
  c_ild 5 <|
  kX11_feed_76 N r23) <|
  c_ild 4 <|
  kX11_feed_76 N r23) <|
  c_ild 3 <|
  kX11_feed_76 N r23) <|
  c_ild 2 <|
  kX11_feed_76 N r23) <|
  c_ild 1 <|
  kX11_feed_76 N r23
noncomputable def kX11_feed_23 (N : Nat) : am_K := c_live [0, 1, 2, 3, 4, 5, 6] (am_loop (bX11_feed_23 N) N)
noncomputable def kX11_feed_0 (N : Nat) : am_K := c_live [0, 1, 2, 3, 4, 5] <|
  c_rld 0 <|
  c_i (0) <|
  c_puti 11 6 <|
  c_rld 0 <|
  c_geti 11 13 <|
  c_i (20) <|
  c_ii (fun x y => x + y) <|
  c_i (600) <|
  c_icle (
  c_i (0) <|
  c_ist 6 <|
  kX11_feed_23 N) <|
  c_i (-1) <|
  c_iret
noncomputable def fX11_feed (N : Nat) : am_F := am_fn 8 (kX11_feed_0 N)
set_option maxRecDepth 20000 in
theorem vX11_feed_76 (l : Launch) (hfl : l.stackTraces = false) (N : Nat)  {r23 : am_K} (h23 : am_V l cX11_feed 8 RX11 (am_E (some .int) yX11_feed.name) 1 60 23 r23) : am_V l cX11_feed 8 RX11 (am_E (some .int) yX11_feed.name) 1 60 76 (kX11_feed_76 N r23) := by
  refine av_live ?_
  refine av_istore dX11_feed_76 (by decide) ?_
  refine av_aload_n dX11_feed_78 rfl ?_
  refine av_getr am_ci11 (by decide) am_f11_12 q619 dX11_feed_79 ?_
  refine av_aload_n dX11_feed_82 rfl ?_
  refine av_geti am_ci11 (by decide) am_f11_13 q830 dX11_feed_83 ?_
  refine av_iload dX11_feed_86 ?_
  refine av_bipush (v := 24) dX11_feed_88 (by decide) ?_
  refine av_bipush (v := 8) dX11_feed_90 (by decide) ?_
  refine av_iload dX11_feed_92 ?_
  refine av_iconst (v := 4) dX11_feed_94 (by decide) ?_
  refine av_irem dX11_feed_95 ?_
  refine av_imul dX11_feed_96 ?_
  refine av_isub dX11_feed_97 ?_
  refine av_ishr dX11_feed_98 ?_
  refine av_sipush (v := 255) dX11_feed_99 (by decide) ?_
  refine av_iand dX11_feed_102 ?_
  refine av_iastore dX11_feed_103 ?_
  refine av_aload_n dX11_feed_104 rfl ?_
  refine av_dup dX11_feed_105 ?_
  refine av_geti am_ci11 (by decide) am_f11_13 q830 dX11_feed_106 ?_
  refine av_iconst (v := 1) dX11_feed_109 (by decide) ?_
  refine av_iadd dX11_feed_110 ?_
  refine av_puti am_ci11 (by decide) am_f11_13 q830 (tyX11_ok 13 (by decide)) rfl dX11_feed_111 ?_
  refine av_iinc dX11_feed_114 (by decide) (by decide) ?_
  refine av_goto (tgt := 23) dX11_feed_117 (by decide) ?_
  exact av_live h23
set_option maxRecDepth 20000 in
theorem vX11_feed_23 (l : Launch) (hfl : l.stackTraces = false) (N : Nat)  : am_V l cX11_feed 8 RX11 (am_E (some .int) yX11_feed.name) 1 60 23 (kX11_feed_23 N) := by
  refine av_live ?_
  refine av_loop (fun r23 h23 => ?_) N
  refine av_iload dX11_feed_23 ?_
  refine av_bipush (v := 20) dX11_feed_25 (by decide) ?_
  refine av_icge (tgt := 120) dX11_feed_27 (by decide) ?_ ?_
  · refine av_aload_n dX11_feed_120 rfl ?_
    refine av_geti am_ci11 (by decide) am_f11_13 q830 dX11_feed_121 ?_
    exact av_ireturn am_hi dX11_feed_124
  refine av_iload dX11_feed_30 ?_
  refine av_iconst (v := 4) dX11_feed_32 (by decide) ?_
  refine av_icge (tgt := 40) dX11_feed_33 (by decide) ?_ ?_
  · refine av_iload dX11_feed_40 ?_
    refine av_bipush (v := 8) dX11_feed_42 (by decide) ?_
    refine av_icge (tgt := 51) dX11_feed_44 (by decide) ?_ ?_
    · refine av_iload dX11_feed_51 ?_
      refine av_bipush (v := 12) dX11_feed_53 (by decide) ?_
      refine av_icge (tgt := 62) dX11_feed_55 (by decide) ?_ ?_
      · refine av_iload dX11_feed_62 ?_
        refine av_bipush (v := 16) dX11_feed_64 (by decide) ?_
        refine av_icge (tgt := 74) dX11_feed_66 (by decide) ?_ ?_
        · refine av_iload dX11_feed_74 ?_
          exact vX11_feed_76 l hfl N h23
        refine av_iload dX11_feed_69 ?_
        refine av_goto (tgt := 76) dX11_feed_71 (by decide) ?_
        exact vX11_feed_76 l hfl N h23
      refine av_iload_n dX11_feed_58 rfl ?_
      refine av_goto (tgt := 76) dX11_feed_59 (by decide) ?_
      exact vX11_feed_76 l hfl N h23
    refine av_iload_n dX11_feed_47 rfl ?_
    refine av_goto (tgt := 76) dX11_feed_48 (by decide) ?_
    exact vX11_feed_76 l hfl N h23
  refine av_iload_n dX11_feed_36 rfl ?_
  refine av_goto (tgt := 76) dX11_feed_37 (by decide) ?_
  exact vX11_feed_76 l hfl N h23
set_option maxRecDepth 20000 in
theorem vX11_feed_0 (l : Launch) (hfl : l.stackTraces = false) (N : Nat)  : am_V l cX11_feed 8 RX11 (am_E (some .int) yX11_feed.name) 1 60 0 (kX11_feed_0 N) := by
  refine av_live ?_
  refine av_aload_n dX11_feed_0 rfl ?_
  refine av_iconst (v := 0) dX11_feed_1 (by decide) ?_
  refine av_puti am_ci11 (by decide) am_f11_6 q630 (tyX11_ok 6 (by decide)) rfl dX11_feed_2 ?_
  refine av_aload_n dX11_feed_5 rfl ?_
  refine av_geti am_ci11 (by decide) am_f11_13 q830 dX11_feed_6 ?_
  refine av_bipush (v := 20) dX11_feed_9 (by decide) ?_
  refine av_iadd dX11_feed_11 ?_
  refine av_sipush (v := 600) dX11_feed_12 (by decide) ?_
  refine av_icle (tgt := 20) dX11_feed_15 (by decide) ?_ ?_
  · refine av_iconst (v := 0) dX11_feed_20 (by decide) ?_
    refine av_istore dX11_feed_21 (by decide) ?_
    exact vX11_feed_23 l hfl N
  refine av_iconst (v := -1) dX11_feed_18 (by decide) ?_
  exact av_ireturn am_hi dX11_feed_19
theorem mX11_feed (l : Launch) (hfl : l.stackTraces = false) (N : Nat) : am_M l yX11_feed cX11_feed 8 (some .int) 1 60 (fX11_feed N) := av_meth hfl (by decide +kernel) rfl (vX11_feed_0 l hfl N)
/-! MessengerBoardModel.errorPosition()I -/
noncomputable def kX11_errorPosition_0 (N : Nat) : am_K := c_live [0] <|
  c_rld 0 <|
  c_i (0) <|
  c_puti 11 6 <|
  c_rld 0 <|
  c_geti 11 20 <|
  c_iret
noncomputable def fX11_errorPosition (N : Nat) : am_F := am_fn 1 (kX11_errorPosition_0 N)
set_option maxRecDepth 20000 in
theorem vX11_errorPosition_0 (l : Launch) (hfl : l.stackTraces = false) (N : Nat)  : am_V l cX11_errorPosition 1 RX11 (am_E (some .int) yX11_errorPosition.name) 1 60 0 (kX11_errorPosition_0 N) := by
  refine av_live ?_
  refine av_aload_n dX11_errorPosition_0 rfl ?_
  refine av_iconst (v := 0) dX11_errorPosition_1 (by decide) ?_
  refine av_puti am_ci11 (by decide) am_f11_6 q630 (tyX11_ok 6 (by decide)) rfl dX11_errorPosition_2 ?_
  refine av_aload_n dX11_errorPosition_5 rfl ?_
  refine av_geti am_ci11 (by decide) am_f11_20 q620 dX11_errorPosition_6 ?_
  exact av_ireturn am_hi dX11_errorPosition_9
theorem mX11_errorPosition (l : Launch) (hfl : l.stackTraces = false) (N : Nat) : am_M l yX11_errorPosition cX11_errorPosition 1 (some .int) 1 60 (fX11_errorPosition N) := av_meth hfl (by decide +kernel) rfl (vX11_errorPosition_0 l hfl N)
/-! MessengerBoardModel.byteAt(I)I -/
noncomputable def kX11_byteAt_18 (N : Nat) : am_K := c_live [] <|
  c_iret
noncomputable def kX11_byteAt_0 (N : Nat) : am_K := c_live [0, 1] <|
  c_ild 1 <|
  c_rld 0 <|
  c_geti 11 14 <|
  c_icge (
  c_i (-1) <|
  kX11_byteAt_18 N) <|
  c_rld 0 <|
  c_getr 11 12 <|
  c_ild 1 <|
  c_ial <|
  kX11_byteAt_18 N
noncomputable def fX11_byteAt (N : Nat) : am_F := am_fn 2 (kX11_byteAt_0 N)
set_option maxRecDepth 20000 in
theorem vX11_byteAt_18 (l : Launch) (hfl : l.stackTraces = false) (N : Nat)  : am_V l cX11_byteAt 2 RX11 (am_E (some .int) yX11_byteAt.name) 1 60 18 (kX11_byteAt_18 N) := by
  refine av_live ?_
  exact av_ireturn am_hi dX11_byteAt_18
set_option maxRecDepth 20000 in
theorem vX11_byteAt_0 (l : Launch) (hfl : l.stackTraces = false) (N : Nat)  : am_V l cX11_byteAt 2 RX11 (am_E (some .int) yX11_byteAt.name) 1 60 0 (kX11_byteAt_0 N) := by
  refine av_live ?_
  refine av_iload_n dX11_byteAt_0 rfl ?_
  refine av_aload_n dX11_byteAt_1 rfl ?_
  refine av_geti am_ci11 (by decide) am_f11_14 q831 dX11_byteAt_2 ?_
  refine av_icge (tgt := 17) dX11_byteAt_5 (by decide) ?_ ?_
  · refine av_iconst (v := -1) dX11_byteAt_17 (by decide) ?_
    exact vX11_byteAt_18 l hfl N
  refine av_aload_n dX11_byteAt_8 rfl ?_
  refine av_getr am_ci11 (by decide) am_f11_12 q619 dX11_byteAt_9 ?_
  refine av_iload_n dX11_byteAt_12 rfl ?_
  refine av_iaload dX11_byteAt_13 ?_
  refine av_goto (tgt := 18) dX11_byteAt_14 (by decide) ?_
  exact vX11_byteAt_18 l hfl N
theorem mX11_byteAt (l : Launch) (hfl : l.stackTraces = false) (N : Nat) : am_M l yX11_byteAt cX11_byteAt 2 (some .int) 1 60 (fX11_byteAt N) := av_meth hfl (by decide +kernel) rfl (vX11_byteAt_0 l hfl N)
/-! MessengerBoardModel.isLetter(I)Z -/
noncomputable def kX11_isLetter_25 (N : Nat) : am_K := c_live [] <|
  c_zret
noncomputable def kX11_isLetter_24 (N : Nat) : am_K := c_live [] <|
  c_i (0) <|
  kX11_isLetter_25 N
noncomputable def kX11_isLetter_0 (N : Nat) : am_K := c_live [0, 1] <|
  c_rld 0 <|
  c_ild 1 <|
  c_callV 11 1 (fX11_byteAt N) <|
  c_i (97) <|
  c_iclt (
  kX11_isLetter_24 N) <|
  c_rld 0 <|
  c_ild 1 <|
  c_callV 11 1 (fX11_byteAt N) <|
  c_i (122) <|
  c_icgt (
  kX11_isLetter_24 N) <|
  c_i (1) <|
  kX11_isLetter_25 N
noncomputable def fX11_isLetter (N : Nat) : am_F := am_fn 2 (kX11_isLetter_0 N)
set_option maxRecDepth 20000 in
theorem vX11_isLetter_25 (l : Launch) (hfl : l.stackTraces = false) (N : Nat)  : am_V l cX11_isLetter 2 RX11 (am_E (some .boolean) yX11_isLetter.name) 2 81 25 (kX11_isLetter_25 N) := by
  refine av_live ?_
  exact av_zreturn am_hz dX11_isLetter_25
set_option maxRecDepth 20000 in
theorem vX11_isLetter_24 (l : Launch) (hfl : l.stackTraces = false) (N : Nat)  : am_V l cX11_isLetter 2 RX11 (am_E (some .boolean) yX11_isLetter.name) 2 81 24 (kX11_isLetter_24 N) := by
  refine av_live ?_
  refine av_iconst (v := 0) dX11_isLetter_24 (by decide) ?_
  exact vX11_isLetter_25 l hfl N
set_option maxRecDepth 20000 in
theorem vX11_isLetter_0 (l : Launch) (hfl : l.stackTraces = false) (N : Nat)  : am_V l cX11_isLetter 2 RX11 (am_E (some .boolean) yX11_isLetter.name) 2 81 0 (kX11_isLetter_0 N) := by
  refine av_live ?_
  refine av_aload_n dX11_isLetter_0 rfl ?_
  refine av_iload_n dX11_isLetter_1 rfl ?_
  refine av_callV am_hT (mX11_byteAt l hfl N) am_ci11 ⟨by decide +kernel, by decide +kernel, by decide +kernel⟩ q832 q833 q628 q834 q835 (by decide) (by decide) dX11_isLetter_2 ?_
  refine av_bipush (v := 97) dX11_isLetter_5 (by decide) ?_
  refine av_iclt (tgt := 24) dX11_isLetter_7 (by decide) ?_ ?_
  · exact vX11_isLetter_24 l hfl N
  refine av_aload_n dX11_isLetter_10 rfl ?_
  refine av_iload_n dX11_isLetter_11 rfl ?_
  refine av_callV am_hT (mX11_byteAt l hfl N) am_ci11 ⟨by decide +kernel, by decide +kernel, by decide +kernel⟩ q832 q833 q628 q834 q835 (by decide) (by decide) dX11_isLetter_12 ?_
  refine av_bipush (v := 122) dX11_isLetter_15 (by decide) ?_
  refine av_icgt (tgt := 24) dX11_isLetter_17 (by decide) ?_ ?_
  · exact vX11_isLetter_24 l hfl N
  refine av_iconst (v := 1) dX11_isLetter_20 (by decide) ?_
  refine av_goto (tgt := 25) dX11_isLetter_21 (by decide) ?_
  exact vX11_isLetter_25 l hfl N
theorem mX11_isLetter (l : Launch) (hfl : l.stackTraces = false) (N : Nat) : am_M l yX11_isLetter cX11_isLetter 2 (some .boolean) 2 81 (fX11_isLetter N) := av_meth hfl (by decide +kernel) rfl (vX11_isLetter_0 l hfl N)
/-! MessengerBoardModel.isDigit(I)Z -/
noncomputable def kX11_isDigit_25 (N : Nat) : am_K := c_live [] <|
  c_zret
noncomputable def kX11_isDigit_24 (N : Nat) : am_K := c_live [] <|
  c_i (0) <|
  kX11_isDigit_25 N
noncomputable def kX11_isDigit_0 (N : Nat) : am_K := c_live [0, 1] <|
  c_rld 0 <|
  c_ild 1 <|
  c_callV 11 1 (fX11_byteAt N) <|
  c_i (48) <|
  c_iclt (
  kX11_isDigit_24 N) <|
  c_rld 0 <|
  c_ild 1 <|
  c_callV 11 1 (fX11_byteAt N) <|
  c_i (57) <|
  c_icgt (
  kX11_isDigit_24 N) <|
  c_i (1) <|
  kX11_isDigit_25 N
noncomputable def fX11_isDigit (N : Nat) : am_F := am_fn 2 (kX11_isDigit_0 N)
set_option maxRecDepth 20000 in
theorem vX11_isDigit_25 (l : Launch) (hfl : l.stackTraces = false) (N : Nat)  : am_V l cX11_isDigit 2 RX11 (am_E (some .boolean) yX11_isDigit.name) 2 81 25 (kX11_isDigit_25 N) := by
  refine av_live ?_
  exact av_zreturn am_hz dX11_isDigit_25
set_option maxRecDepth 20000 in
theorem vX11_isDigit_24 (l : Launch) (hfl : l.stackTraces = false) (N : Nat)  : am_V l cX11_isDigit 2 RX11 (am_E (some .boolean) yX11_isDigit.name) 2 81 24 (kX11_isDigit_24 N) := by
  refine av_live ?_
  refine av_iconst (v := 0) dX11_isDigit_24 (by decide) ?_
  exact vX11_isDigit_25 l hfl N
set_option maxRecDepth 20000 in
theorem vX11_isDigit_0 (l : Launch) (hfl : l.stackTraces = false) (N : Nat)  : am_V l cX11_isDigit 2 RX11 (am_E (some .boolean) yX11_isDigit.name) 2 81 0 (kX11_isDigit_0 N) := by
  refine av_live ?_
  refine av_aload_n dX11_isDigit_0 rfl ?_
  refine av_iload_n dX11_isDigit_1 rfl ?_
  refine av_callV am_hT (mX11_byteAt l hfl N) am_ci11 ⟨by decide +kernel, by decide +kernel, by decide +kernel⟩ q832 q833 q628 q834 q835 (by decide) (by decide) dX11_isDigit_2 ?_
  refine av_bipush (v := 48) dX11_isDigit_5 (by decide) ?_
  refine av_iclt (tgt := 24) dX11_isDigit_7 (by decide) ?_ ?_
  · exact vX11_isDigit_24 l hfl N
  refine av_aload_n dX11_isDigit_10 rfl ?_
  refine av_iload_n dX11_isDigit_11 rfl ?_
  refine av_callV am_hT (mX11_byteAt l hfl N) am_ci11 ⟨by decide +kernel, by decide +kernel, by decide +kernel⟩ q832 q833 q628 q834 q835 (by decide) (by decide) dX11_isDigit_12 ?_
  refine av_bipush (v := 57) dX11_isDigit_15 (by decide) ?_
  refine av_icgt (tgt := 24) dX11_isDigit_17 (by decide) ?_ ?_
  · exact vX11_isDigit_24 l hfl N
  refine av_iconst (v := 1) dX11_isDigit_20 (by decide) ?_
  refine av_goto (tgt := 25) dX11_isDigit_21 (by decide) ?_
  exact vX11_isDigit_25 l hfl N
theorem mX11_isDigit (l : Launch) (hfl : l.stackTraces = false) (N : Nat) : am_M l yX11_isDigit cX11_isDigit 2 (some .boolean) 2 81 (fX11_isDigit N) := av_meth hfl (by decide +kernel) rfl (vX11_isDigit_0 l hfl N)
/-! MessengerBoardModel.scan()V -/
noncomputable def kX11_scan_26 (N : Nat) (r0 : am_K) : am_K := c_live [0] <|
  c_rld 0 <|
  c_dup <|
  c_geti 11 15 <|
  c_i (1) <|
  c_ii (fun x y => x + y) <|
  c_puti 11 15 <|
  c_live [0] r0
noncomputable def kX11_scan_167 (N : Nat) : am_K := c_live [] <|
  c_vret
noncomputable def bX11_scan_120 (N : Nat) (r120 : am_K) : am_K :=
  c_rld 0 <|
  c_rld 0 <|
  c_geti 11 15 <|
  c_callV 11 1 (fX11_isDigit N) <|
  c_ifeq (
  c_rld 0 <|
  c_i (2) <|
  c_puti 11 17 <|
  kX11_scan_167 N) <|
  c_rld 0 <|
  c_dup <|
  c_geti 11 15 <|
  c_i (1) <|
  c_ii (fun x y => x + y) <|
  c_puti 11 15 <|
  c_live [0] r120
noncomputable def kX11_scan_120 (N : Nat) : am_K := c_live [0] (am_loop (bX11_scan_120 N) N)
noncomputable def bX11_scan_77 (N : Nat) (r77 : am_K) : am_K :=
  c_rld 0 <|
  c_rld 0 <|
  c_geti 11 15 <|
  c_callV 11 1 (fX11_isLetter N) <|
  c_ifeq (
  c_rld 0 <|
  c_i (1) <|
  c_puti 11 17 <|
  kX11_scan_167 N) <|
  c_rld 0 <|
  c_dup <|
  c_geti 11 15 <|
  c_i (1) <|
  c_ii (fun x y => x + y) <|
  c_puti 11 15 <|
  c_live [0] r77
noncomputable def kX11_scan_77 (N : Nat) : am_K := c_live [0] (am_loop (bX11_scan_77 N) N)
noncomputable def bX11_scan_0 (N : Nat) (r0 : am_K) : am_K :=
  c_rld 0 <|
  c_rld 0 <|
  c_geti 11 15 <|
  c_callV 11 1 (fX11_byteAt N) <|
  c_i (32) <|
  c_iceq (
  kX11_scan_26 N r0) <|
  c_rld 0 <|
  c_rld 0 <|
  c_geti 11 15 <|
  c_callV 11 1 (fX11_byteAt N) <|
  c_i (10) <|
  c_icne (
  c_rld 0 <|
  c_rld 0 <|
  c_geti 11 15 <|
  c_puti 11 16 <|
  c_rld 0 <|
  c_geti 11 15 <|
  c_rld 0 <|
  c_geti 11 14 <|
  c_iclt (
  c_rld 0 <|
  c_rld 0 <|
  c_geti 11 15 <|
  c_callV 11 1 (fX11_isLetter N) <|
  c_ifeq (
  c_rld 0 <|
  c_rld 0 <|
  c_geti 11 15 <|
  c_callV 11 1 (fX11_isDigit N) <|
  c_ifeq (
  c_rld 0 <|
  c_dup <|
  c_geti 11 15 <|
  c_i (1) <|
  c_ii (fun x y => x + y) <|
  c_puti 11 15 <|
  c_rld 0 <|
  c_i (3) <|
  c_puti 11 17 <|
  kX11_scan_167 N) <|
  kX11_scan_120 N) <|
  kX11_scan_77 N) <|
  c_rld 0 <|
  c_i (0) <|
  c_puti 11 17 <|
  kX11_scan_167 N) <|
  kX11_scan_26 N r0
noncomputable def kX11_scan_0 (N : Nat) : am_K := c_live [0] (am_loop (bX11_scan_0 N) N)
noncomputable def fX11_scan (N : Nat) : am_F := am_fn 1 (kX11_scan_0 N)
set_option maxRecDepth 20000 in
theorem vX11_scan_26 (l : Launch) (hfl : l.stackTraces = false) (N : Nat)  {r0 : am_K} (h0 : am_V l cX11_scan 1 RX11 (am_E none yX11_scan.name) 3 102 0 r0) : am_V l cX11_scan 1 RX11 (am_E none yX11_scan.name) 3 102 26 (kX11_scan_26 N r0) := by
  refine av_live ?_
  refine av_aload_n dX11_scan_26 rfl ?_
  refine av_dup dX11_scan_27 ?_
  refine av_geti am_ci11 (by decide) am_f11_15 q836 dX11_scan_28 ?_
  refine av_iconst (v := 1) dX11_scan_31 (by decide) ?_
  refine av_iadd dX11_scan_32 ?_
  refine av_puti am_ci11 (by decide) am_f11_15 q836 (tyX11_ok 15 (by decide)) rfl dX11_scan_33 ?_
  refine av_goto (tgt := 0) dX11_scan_36 (by decide) ?_
  exact av_live h0
set_option maxRecDepth 20000 in
theorem vX11_scan_167 (l : Launch) (hfl : l.stackTraces = false) (N : Nat)  : am_V l cX11_scan 1 RX11 (am_E none yX11_scan.name) 3 102 167 (kX11_scan_167 N) := by
  refine av_live ?_
  exact av_return_ am_hv dX11_scan_167
set_option maxRecDepth 20000 in
theorem vX11_scan_120 (l : Launch) (hfl : l.stackTraces = false) (N : Nat)  : am_V l cX11_scan 1 RX11 (am_E none yX11_scan.name) 3 102 120 (kX11_scan_120 N) := by
  refine av_live ?_
  refine av_loop (fun r120 h120 => ?_) N
  refine av_aload_n dX11_scan_120 rfl ?_
  refine av_aload_n dX11_scan_121 rfl ?_
  refine av_geti am_ci11 (by decide) am_f11_15 q836 dX11_scan_122 ?_
  refine av_callV am_hT (mX11_isDigit l hfl N) am_ci11 ⟨by decide +kernel, by decide +kernel, by decide +kernel⟩ q842 q843 q628 q844 q845 (by decide) (by decide) dX11_scan_125 ?_
  refine av_ifeq (tgt := 144) dX11_scan_128 (by decide) ?_ ?_
  · refine av_aload_n dX11_scan_144 rfl ?_
    refine av_iconst (v := 2) dX11_scan_145 (by decide) ?_
    refine av_puti am_ci11 (by decide) am_f11_17 q846 (tyX11_ok 17 (by decide)) rfl dX11_scan_146 ?_
    refine av_goto (tgt := 167) dX11_scan_149 (by decide) ?_
    exact vX11_scan_167 l hfl N
  refine av_aload_n dX11_scan_131 rfl ?_
  refine av_dup dX11_scan_132 ?_
  refine av_geti am_ci11 (by decide) am_f11_15 q836 dX11_scan_133 ?_
  refine av_iconst (v := 1) dX11_scan_136 (by decide) ?_
  refine av_iadd dX11_scan_137 ?_
  refine av_puti am_ci11 (by decide) am_f11_15 q836 (tyX11_ok 15 (by decide)) rfl dX11_scan_138 ?_
  refine av_goto (tgt := 120) dX11_scan_141 (by decide) ?_
  exact av_live h120
set_option maxRecDepth 20000 in
theorem vX11_scan_77 (l : Launch) (hfl : l.stackTraces = false) (N : Nat)  : am_V l cX11_scan 1 RX11 (am_E none yX11_scan.name) 3 102 77 (kX11_scan_77 N) := by
  refine av_live ?_
  refine av_loop (fun r77 h77 => ?_) N
  refine av_aload_n dX11_scan_77 rfl ?_
  refine av_aload_n dX11_scan_78 rfl ?_
  refine av_geti am_ci11 (by decide) am_f11_15 q836 dX11_scan_79 ?_
  refine av_callV am_hT (mX11_isLetter l hfl N) am_ci11 ⟨by decide +kernel, by decide +kernel, by decide +kernel⟩ q838 q839 q628 q840 q841 (by decide) (by decide) dX11_scan_82 ?_
  refine av_ifeq (tgt := 101) dX11_scan_85 (by decide) ?_ ?_
  · refine av_aload_n dX11_scan_101 rfl ?_
    refine av_iconst (v := 1) dX11_scan_102 (by decide) ?_
    refine av_puti am_ci11 (by decide) am_f11_17 q846 (tyX11_ok 17 (by decide)) rfl dX11_scan_103 ?_
    refine av_goto (tgt := 167) dX11_scan_106 (by decide) ?_
    exact vX11_scan_167 l hfl N
  refine av_aload_n dX11_scan_88 rfl ?_
  refine av_dup dX11_scan_89 ?_
  refine av_geti am_ci11 (by decide) am_f11_15 q836 dX11_scan_90 ?_
  refine av_iconst (v := 1) dX11_scan_93 (by decide) ?_
  refine av_iadd dX11_scan_94 ?_
  refine av_puti am_ci11 (by decide) am_f11_15 q836 (tyX11_ok 15 (by decide)) rfl dX11_scan_95 ?_
  refine av_goto (tgt := 77) dX11_scan_98 (by decide) ?_
  exact av_live h77
set_option maxRecDepth 20000 in
theorem vX11_scan_0 (l : Launch) (hfl : l.stackTraces = false) (N : Nat)  : am_V l cX11_scan 1 RX11 (am_E none yX11_scan.name) 3 102 0 (kX11_scan_0 N) := by
  refine av_live ?_
  refine av_loop (fun r0 h0 => ?_) N
  refine av_aload_n dX11_scan_0 rfl ?_
  refine av_aload_n dX11_scan_1 rfl ?_
  refine av_geti am_ci11 (by decide) am_f11_15 q836 dX11_scan_2 ?_
  refine av_callV am_hT (mX11_byteAt l hfl N) am_ci11 ⟨by decide +kernel, by decide +kernel, by decide +kernel⟩ q832 q833 q628 q834 q835 (by decide) (by decide) dX11_scan_5 ?_
  refine av_bipush (v := 32) dX11_scan_8 (by decide) ?_
  refine av_iceq (tgt := 26) dX11_scan_10 (by decide) ?_ ?_
  · exact vX11_scan_26 l hfl N h0
  refine av_aload_n dX11_scan_13 rfl ?_
  refine av_aload_n dX11_scan_14 rfl ?_
  refine av_geti am_ci11 (by decide) am_f11_15 q836 dX11_scan_15 ?_
  refine av_callV am_hT (mX11_byteAt l hfl N) am_ci11 ⟨by decide +kernel, by decide +kernel, by decide +kernel⟩ q832 q833 q628 q834 q835 (by decide) (by decide) dX11_scan_18 ?_
  refine av_bipush (v := 10) dX11_scan_21 (by decide) ?_
  refine av_icne (tgt := 39) dX11_scan_23 (by decide) ?_ ?_
  · refine av_aload_n dX11_scan_39 rfl ?_
    refine av_aload_n dX11_scan_40 rfl ?_
    refine av_geti am_ci11 (by decide) am_f11_15 q836 dX11_scan_41 ?_
    refine av_puti am_ci11 (by decide) am_f11_16 q837 (tyX11_ok 16 (by decide)) rfl dX11_scan_44 ?_
    refine av_aload_n dX11_scan_47 rfl ?_
    refine av_geti am_ci11 (by decide) am_f11_15 q836 dX11_scan_48 ?_
    refine av_aload_n dX11_scan_51 rfl ?_
    refine av_geti am_ci11 (by decide) am_f11_14 q831 dX11_scan_52 ?_
    refine av_iclt (tgt := 66) dX11_scan_55 (by decide) ?_ ?_
    · refine av_aload_n dX11_scan_66 rfl ?_
      refine av_aload_n dX11_scan_67 rfl ?_
      refine av_geti am_ci11 (by decide) am_f11_15 q836 dX11_scan_68 ?_
      refine av_callV am_hT (mX11_isLetter l hfl N) am_ci11 ⟨by decide +kernel, by decide +kernel, by decide +kernel⟩ q838 q839 q628 q840 q841 (by decide) (by decide) dX11_scan_71 ?_
      refine av_ifeq (tgt := 109) dX11_scan_74 (by decide) ?_ ?_
      · refine av_aload_n dX11_scan_109 rfl ?_
        refine av_aload_n dX11_scan_110 rfl ?_
        refine av_geti am_ci11 (by decide) am_f11_15 q836 dX11_scan_111 ?_
        refine av_callV am_hT (mX11_isDigit l hfl N) am_ci11 ⟨by decide +kernel, by decide +kernel, by decide +kernel⟩ q842 q843 q628 q844 q845 (by decide) (by decide) dX11_scan_114 ?_
        refine av_ifeq (tgt := 152) dX11_scan_117 (by decide) ?_ ?_
        · refine av_aload_n dX11_scan_152 rfl ?_
          refine av_dup dX11_scan_153 ?_
          refine av_geti am_ci11 (by decide) am_f11_15 q836 dX11_scan_154 ?_
          refine av_iconst (v := 1) dX11_scan_157 (by decide) ?_
          refine av_iadd dX11_scan_158 ?_
          refine av_puti am_ci11 (by decide) am_f11_15 q836 (tyX11_ok 15 (by decide)) rfl dX11_scan_159 ?_
          refine av_aload_n dX11_scan_162 rfl ?_
          refine av_iconst (v := 3) dX11_scan_163 (by decide) ?_
          refine av_puti am_ci11 (by decide) am_f11_17 q846 (tyX11_ok 17 (by decide)) rfl dX11_scan_164 ?_
          exact vX11_scan_167 l hfl N
        exact vX11_scan_120 l hfl N
      exact vX11_scan_77 l hfl N
    refine av_aload_n dX11_scan_58 rfl ?_
    refine av_iconst (v := 0) dX11_scan_59 (by decide) ?_
    refine av_puti am_ci11 (by decide) am_f11_17 q846 (tyX11_ok 17 (by decide)) rfl dX11_scan_60 ?_
    refine av_goto (tgt := 167) dX11_scan_63 (by decide) ?_
    exact vX11_scan_167 l hfl N
  exact vX11_scan_26 l hfl N h0
theorem mX11_scan (l : Launch) (hfl : l.stackTraces = false) (N : Nat) : am_M l yX11_scan cX11_scan 1 none 3 102 (fX11_scan N) := av_meth hfl (by decide +kernel) rfl (vX11_scan_0 l hfl N)
/-! MessengerBoardModel.startText(I)V -/
noncomputable def kX11_startText_0 (N : Nat) : am_K := c_live [0, 1] <|
  c_rld 0 <|
  c_ild 1 <|
  c_puti 11 14 <|
  c_rld 0 <|
  c_i (0) <|
  c_puti 11 15 <|
  c_rld 0 <|
  c_i (0) <|
  c_puti 11 18 <|
  c_rld 0 <|
  c_i (0) <|
  c_puti 11 21 <|
  c_rld 0 <|
  c_callV 11 0 (fX11_scan N) <|
  c_vret
noncomputable def fX11_startText (N : Nat) : am_F := am_fn 2 (kX11_startText_0 N)
set_option maxRecDepth 20000 in
theorem vX11_startText_0 (l : Launch) (hfl : l.stackTraces = false) (N : Nat)  : am_V l cX11_startText 2 RX11 (am_E none yX11_startText.name) 4 122 0 (kX11_startText_0 N) := by
  refine av_live ?_
  refine av_aload_n dX11_startText_0 rfl ?_
  refine av_iload_n dX11_startText_1 rfl ?_
  refine av_puti am_ci11 (by decide) am_f11_14 q831 (tyX11_ok 14 (by decide)) rfl dX11_startText_2 ?_
  refine av_aload_n dX11_startText_5 rfl ?_
  refine av_iconst (v := 0) dX11_startText_6 (by decide) ?_
  refine av_puti am_ci11 (by decide) am_f11_15 q836 (tyX11_ok 15 (by decide)) rfl dX11_startText_7 ?_
  refine av_aload_n dX11_startText_10 rfl ?_
  refine av_iconst (v := 0) dX11_startText_11 (by decide) ?_
  refine av_puti am_ci11 (by decide) am_f11_18 q847 (tyX11_ok 18 (by decide)) rfl dX11_startText_12 ?_
  refine av_aload_n dX11_startText_15 rfl ?_
  refine av_iconst (v := 0) dX11_startText_16 (by decide) ?_
  refine av_puti am_ci11 (by decide) am_f11_21 q848 (tyX11_ok 21 (by decide)) rfl dX11_startText_17 ?_
  refine av_aload_n dX11_startText_20 rfl ?_
  refine av_callV am_hT (mX11_scan l hfl N) am_ci11 ⟨by decide +kernel, by decide +kernel, by decide +kernel⟩ q849 q850 q628 q851 q852 (by decide) (by decide) dX11_startText_21 ?_
  exact av_return_ am_hv dX11_startText_24
theorem mX11_startText (l : Launch) (hfl : l.stackTraces = false) (N : Nat) : am_M l yX11_startText cX11_startText 2 none 4 122 (fX11_startText N) := av_meth hfl (by decide +kernel) rfl (vX11_startText_0 l hfl N)
/-! MessengerBoardModel.isWord(Ljava/lang/String;)Z -/
noncomputable def kX11_isWord_82 (N : Nat) : am_K := c_live [2] <|
  c_ild 2 <|
  c_zret
noncomputable def kX11_isWord_75 (N : Nat) (r39 : am_K) : am_K := c_live [0, 1, 3] <|
  c_ist 2 <|
  c_inc 3 (1) <|
  c_live [0, 1, 2, 3] r39
noncomputable def bX11_isWord_39 (N : Nat) (r39 : am_K) : am_K :=
  c_ild 2 <|
  c_ifeq (
  kX11_isWord_82 N) <|
  c_ild 3 <|
  c_rld 1 <|
  c_callT 0 (fJ0_length_8abf5 N) <|
  c_icge (
  kX11_isWord_82 N) <|
  c_rld 1 <|
  c_ild 3 <|
  c_callT 1 (fJ0_charAt_5068e N) <|
  c_rld 0 <|
  c_getr 11 12 <|
  c_rld 0 <|
  c_geti 11 16 <|
  c_ild 3 <|
  c_ii (fun x y => x + y) <|
  c_ial <|
  c_icne (
  c_i (0) <|
  kX11_isWord_75 N r39) <|
  c_i (1) <|
  kX11_isWord_75 N r39
noncomputable def kX11_isWord_39 (N : Nat) : am_K := c_live [0, 1, 2, 3] (am_loop (bX11_isWord_39 N) N)
noncomputable def kX11_isWord_36 (N : Nat) : am_K := c_live [0, 1] <|
  c_ist 2 <|
  c_i (0) <|
  c_ist 3 <|
  kX11_isWord_39 N
noncomputable def kX11_isWord_35 (N : Nat) : am_K := c_live [0, 1] <|
  c_i (0) <|
  kX11_isWord_36 N
noncomputable def kX11_isWord_0 (N : Nat) : am_K := c_live [0, 1] <|
  c_rld 0 <|
  c_geti 11 18 <|
  c_ifne (
  kX11_isWord_35 N) <|
  c_rld 0 <|
  c_geti 11 17 <|
  c_i (1) <|
  c_icne (
  kX11_isWord_35 N) <|
  c_rld 1 <|
  c_callT 0 (fJ0_length_8abf5 N) <|
  c_rld 0 <|
  c_geti 11 15 <|
  c_rld 0 <|
  c_geti 11 16 <|
  c_ii (fun x y => x - y) <|
  c_icne (
  kX11_isWord_35 N) <|
  c_i (1) <|
  kX11_isWord_36 N
noncomputable def fX11_isWord (N : Nat) : am_F := am_fn 4 (kX11_isWord_0 N)
set_option maxRecDepth 20000 in
theorem vX11_isWord_82 (l : Launch) (hfl : l.stackTraces = false) (N : Nat)  : am_V l cX11_isWord 4 RX11 (am_E (some .boolean) yX11_isWord.name) 5 145 82 (kX11_isWord_82 N) := by
  refine av_live ?_
  refine av_iload_n dX11_isWord_82 rfl ?_
  exact av_zreturn am_hz dX11_isWord_83
set_option maxRecDepth 20000 in
theorem vX11_isWord_75 (l : Launch) (hfl : l.stackTraces = false) (N : Nat)  {r39 : am_K} (h39 : am_V l cX11_isWord 4 RX11 (am_E (some .boolean) yX11_isWord.name) 5 145 39 r39) : am_V l cX11_isWord 4 RX11 (am_E (some .boolean) yX11_isWord.name) 5 145 75 (kX11_isWord_75 N r39) := by
  refine av_live ?_
  refine av_istore_n dX11_isWord_75 rfl (by decide) ?_
  refine av_iinc dX11_isWord_76 (by decide) (by decide) ?_
  refine av_goto (tgt := 39) dX11_isWord_79 (by decide) ?_
  exact av_live h39
set_option maxRecDepth 20000 in
theorem vX11_isWord_39 (l : Launch) (hfl : l.stackTraces = false) (N : Nat)  : am_V l cX11_isWord 4 RX11 (am_E (some .boolean) yX11_isWord.name) 5 145 39 (kX11_isWord_39 N) := by
  refine av_live ?_
  refine av_loop (fun r39 h39 => ?_) N
  refine av_iload_n dX11_isWord_39 rfl ?_
  refine av_ifeq (tgt := 82) dX11_isWord_40 (by decide) ?_ ?_
  · exact vX11_isWord_82 l hfl N
  refine av_iload_n dX11_isWord_43 rfl ?_
  refine av_aload_n dX11_isWord_44 rfl ?_
  refine av_callT am_hT (mJ0_length_8abf5 l hfl N) ⟨by decide +kernel, by decide +kernel, by decide +kernel⟩ q853 q62 q5 q63 q64 (by decide) (by decide) dX11_isWord_45 ?_
  refine av_icge (tgt := 82) dX11_isWord_48 (by decide) ?_ ?_
  · exact vX11_isWord_82 l hfl N
  refine av_aload_n dX11_isWord_51 rfl ?_
  refine av_iload_n dX11_isWord_52 rfl ?_
  refine av_callT am_hT (mJ0_charAt_5068e l hfl N) ⟨by decide +kernel, by decide +kernel, by decide +kernel⟩ q854 q66 q5 q67 q68 (by decide) (by decide) dX11_isWord_53 ?_
  refine av_aload_n dX11_isWord_56 rfl ?_
  refine av_getr am_ci11 (by decide) am_f11_12 q619 dX11_isWord_57 ?_
  refine av_aload_n dX11_isWord_60 rfl ?_
  refine av_geti am_ci11 (by decide) am_f11_16 q837 dX11_isWord_61 ?_
  refine av_iload_n dX11_isWord_64 rfl ?_
  refine av_iadd dX11_isWord_65 ?_
  refine av_iaload dX11_isWord_66 ?_
  refine av_icne (tgt := 74) dX11_isWord_67 (by decide) ?_ ?_
  · refine av_iconst (v := 0) dX11_isWord_74 (by decide) ?_
    exact vX11_isWord_75 l hfl N h39
  refine av_iconst (v := 1) dX11_isWord_70 (by decide) ?_
  refine av_goto (tgt := 75) dX11_isWord_71 (by decide) ?_
  exact vX11_isWord_75 l hfl N h39
set_option maxRecDepth 20000 in
theorem vX11_isWord_36 (l : Launch) (hfl : l.stackTraces = false) (N : Nat)  : am_V l cX11_isWord 4 RX11 (am_E (some .boolean) yX11_isWord.name) 5 145 36 (kX11_isWord_36 N) := by
  refine av_live ?_
  refine av_istore_n dX11_isWord_36 rfl (by decide) ?_
  refine av_iconst (v := 0) dX11_isWord_37 (by decide) ?_
  refine av_istore_n dX11_isWord_38 rfl (by decide) ?_
  exact vX11_isWord_39 l hfl N
set_option maxRecDepth 20000 in
theorem vX11_isWord_35 (l : Launch) (hfl : l.stackTraces = false) (N : Nat)  : am_V l cX11_isWord 4 RX11 (am_E (some .boolean) yX11_isWord.name) 5 145 35 (kX11_isWord_35 N) := by
  refine av_live ?_
  refine av_iconst (v := 0) dX11_isWord_35 (by decide) ?_
  exact vX11_isWord_36 l hfl N
set_option maxRecDepth 20000 in
theorem vX11_isWord_0 (l : Launch) (hfl : l.stackTraces = false) (N : Nat)  : am_V l cX11_isWord 4 RX11 (am_E (some .boolean) yX11_isWord.name) 5 145 0 (kX11_isWord_0 N) := by
  refine av_live ?_
  refine av_aload_n dX11_isWord_0 rfl ?_
  refine av_geti am_ci11 (by decide) am_f11_18 q847 dX11_isWord_1 ?_
  refine av_ifne (tgt := 35) dX11_isWord_4 (by decide) ?_ ?_
  · exact vX11_isWord_35 l hfl N
  refine av_aload_n dX11_isWord_7 rfl ?_
  refine av_geti am_ci11 (by decide) am_f11_17 q846 dX11_isWord_8 ?_
  refine av_iconst (v := 1) dX11_isWord_11 (by decide) ?_
  refine av_icne (tgt := 35) dX11_isWord_12 (by decide) ?_ ?_
  · exact vX11_isWord_35 l hfl N
  refine av_aload_n dX11_isWord_15 rfl ?_
  refine av_callT am_hT (mJ0_length_8abf5 l hfl N) ⟨by decide +kernel, by decide +kernel, by decide +kernel⟩ q853 q62 q5 q63 q64 (by decide) (by decide) dX11_isWord_16 ?_
  refine av_aload_n dX11_isWord_19 rfl ?_
  refine av_geti am_ci11 (by decide) am_f11_15 q836 dX11_isWord_20 ?_
  refine av_aload_n dX11_isWord_23 rfl ?_
  refine av_geti am_ci11 (by decide) am_f11_16 q837 dX11_isWord_24 ?_
  refine av_isub dX11_isWord_27 ?_
  refine av_icne (tgt := 35) dX11_isWord_28 (by decide) ?_ ?_
  · exact vX11_isWord_35 l hfl N
  refine av_iconst (v := 1) dX11_isWord_31 (by decide) ?_
  refine av_goto (tgt := 36) dX11_isWord_32 (by decide) ?_
  exact vX11_isWord_36 l hfl N
theorem mX11_isWord (l : Launch) (hfl : l.stackTraces = false) (N : Nat) : am_M l yX11_isWord cX11_isWord 4 (some .boolean) 5 145 (fX11_isWord N) := av_meth hfl (by decide +kernel) rfl (vX11_isWord_0 l hfl N)
/-! MessengerBoardModel.flaw(I)V -/
noncomputable def kX11_flaw_20 (N : Nat) : am_K := c_live [] <|
  c_vret
noncomputable def kX11_flaw_0 (N : Nat) : am_K := c_live [0, 1] <|
  c_rld 0 <|
  c_geti 11 18 <|
  c_ifne (
  kX11_flaw_20 N) <|
  c_rld 0 <|
  c_ild 1 <|
  c_puti 11 18 <|
  c_rld 0 <|
  c_rld 0 <|
  c_geti 11 16 <|
  c_puti 11 19 <|
  kX11_flaw_20 N
noncomputable def fX11_flaw (N : Nat) : am_F := am_fn 2 (kX11_flaw_0 N)
set_option maxRecDepth 20000 in
theorem vX11_flaw_20 (l : Launch) (hfl : l.stackTraces = false) (N : Nat)  : am_V l cX11_flaw 2 RX11 (am_E none yX11_flaw.name) 1 60 20 (kX11_flaw_20 N) := by
  refine av_live ?_
  exact av_return_ am_hv dX11_flaw_20
set_option maxRecDepth 20000 in
theorem vX11_flaw_0 (l : Launch) (hfl : l.stackTraces = false) (N : Nat)  : am_V l cX11_flaw 2 RX11 (am_E none yX11_flaw.name) 1 60 0 (kX11_flaw_0 N) := by
  refine av_live ?_
  refine av_aload_n dX11_flaw_0 rfl ?_
  refine av_geti am_ci11 (by decide) am_f11_18 q847 dX11_flaw_1 ?_
  refine av_ifne (tgt := 20) dX11_flaw_4 (by decide) ?_ ?_
  · exact vX11_flaw_20 l hfl N
  refine av_aload_n dX11_flaw_7 rfl ?_
  refine av_iload_n dX11_flaw_8 rfl ?_
  refine av_puti am_ci11 (by decide) am_f11_18 q847 (tyX11_ok 18 (by decide)) rfl dX11_flaw_9 ?_
  refine av_aload_n dX11_flaw_12 rfl ?_
  refine av_aload_n dX11_flaw_13 rfl ?_
  refine av_geti am_ci11 (by decide) am_f11_16 q837 dX11_flaw_14 ?_
  refine av_puti am_ci11 (by decide) am_f11_19 q855 (tyX11_ok 19 (by decide)) rfl dX11_flaw_17 ?_
  exact vX11_flaw_20 l hfl N
theorem mX11_flaw (l : Launch) (hfl : l.stackTraces = false) (N : Nat) : am_M l yX11_flaw cX11_flaw 2 none 1 60 (fX11_flaw N) := av_meth hfl (by decide +kernel) rfl (vX11_flaw_0 l hfl N)
/-! MessengerBoardModel.check(ZI)V -/
noncomputable def kX11_check_9 (N : Nat) : am_K := c_live [] <|
  c_vret
noncomputable def kX11_check_0 (N : Nat) : am_K := c_live [0, 1, 2] <|
  c_ild 1 <|
  c_ifne (
  kX11_check_9 N) <|
  c_rld 0 <|
  c_ild 2 <|
  c_callV 11 1 (fX11_flaw N) <|
  kX11_check_9 N
noncomputable def fX11_check (N : Nat) : am_F := am_fn 3 (kX11_check_0 N)
set_option maxRecDepth 20000 in
theorem vX11_check_9 (l : Launch) (hfl : l.stackTraces = false) (N : Nat)  : am_V l cX11_check 3 RX11 (am_E none yX11_check.name) 2 81 9 (kX11_check_9 N) := by
  refine av_live ?_
  exact av_return_ am_hv dX11_check_9
set_option maxRecDepth 20000 in
theorem vX11_check_0 (l : Launch) (hfl : l.stackTraces = false) (N : Nat)  : am_V l cX11_check 3 RX11 (am_E none yX11_check.name) 2 81 0 (kX11_check_0 N) := by
  refine av_live ?_
  refine av_iload_n dX11_check_0 rfl ?_
  refine av_ifne (tgt := 9) dX11_check_1 (by decide) ?_ ?_
  · exact vX11_check_9 l hfl N
  refine av_aload_n dX11_check_4 rfl ?_
  refine av_iload_n dX11_check_5 rfl ?_
  refine av_callV am_hT (mX11_flaw l hfl N) am_ci11 ⟨by decide +kernel, by decide +kernel, by decide +kernel⟩ q856 q857 q628 q858 q859 (by decide) (by decide) dX11_check_6 ?_
  exact vX11_check_9 l hfl N
theorem mX11_check (l : Launch) (hfl : l.stackTraces = false) (N : Nat) : am_M l yX11_check cX11_check 3 none 2 81 (fX11_check N) := av_meth hfl (by decide +kernel) rfl (vX11_check_0 l hfl N)
/-! MessengerBoardModel.advance()V -/
noncomputable def kX11_advance_11 (N : Nat) : am_K := c_live [] <|
  c_vret
noncomputable def kX11_advance_0 (N : Nat) : am_K := c_live [0] <|
  c_rld 0 <|
  c_geti 11 18 <|
  c_ifne (
  kX11_advance_11 N) <|
  c_rld 0 <|
  c_callV 11 0 (fX11_scan N) <|
  kX11_advance_11 N
noncomputable def fX11_advance (N : Nat) : am_F := am_fn 1 (kX11_advance_0 N)
set_option maxRecDepth 20000 in
theorem vX11_advance_11 (l : Launch) (hfl : l.stackTraces = false) (N : Nat)  : am_V l cX11_advance 1 RX11 (am_E none yX11_advance.name) 4 122 11 (kX11_advance_11 N) := by
  refine av_live ?_
  exact av_return_ am_hv dX11_advance_11
set_option maxRecDepth 20000 in
theorem vX11_advance_0 (l : Launch) (hfl : l.stackTraces = false) (N : Nat)  : am_V l cX11_advance 1 RX11 (am_E none yX11_advance.name) 4 122 0 (kX11_advance_0 N) := by
  refine av_live ?_
  refine av_aload_n dX11_advance_0 rfl ?_
  refine av_geti am_ci11 (by decide) am_f11_18 q847 dX11_advance_1 ?_
  refine av_ifne (tgt := 11) dX11_advance_4 (by decide) ?_ ?_
  · exact vX11_advance_11 l hfl N
  refine av_aload_n dX11_advance_7 rfl ?_
  refine av_callV am_hT (mX11_scan l hfl N) am_ci11 ⟨by decide +kernel, by decide +kernel, by decide +kernel⟩ q849 q850 q628 q851 q852 (by decide) (by decide) dX11_advance_8 ?_
  exact vX11_advance_11 l hfl N
theorem mX11_advance (l : Launch) (hfl : l.stackTraces = false) (N : Nat) : am_M l yX11_advance cX11_advance 1 none 4 122 (fX11_advance N) := av_meth hfl (by decide +kernel) rfl (vX11_advance_0 l hfl N)
/-! MessengerBoardModel.expectWord(Ljava/lang/String;)V -/
noncomputable def kX11_expectWord_0 (N : Nat) : am_K := c_live [0, 1] <|
  c_rld 0 <|
  c_rld 0 <|
  c_rld 1 <|
  c_callV 11 1 (fX11_isWord N) <|
  c_i (1) <|
  c_callV 11 2 (fX11_check N) <|
  c_rld 0 <|
  c_callV 11 0 (fX11_advance N) <|
  c_vret
noncomputable def fX11_expectWord (N : Nat) : am_F := am_fn 2 (kX11_expectWord_0 N)
set_option maxRecDepth 20000 in
theorem vX11_expectWord_0 (l : Launch) (hfl : l.stackTraces = false) (N : Nat)  : am_V l cX11_expectWord 2 RX11 (am_E none yX11_expectWord.name) 6 168 0 (kX11_expectWord_0 N) := by
  refine av_live ?_
  refine av_aload_n dX11_expectWord_0 rfl ?_
  refine av_aload_n dX11_expectWord_1 rfl ?_
  refine av_aload_n dX11_expectWord_2 rfl ?_
  refine av_callV am_hT (mX11_isWord l hfl N) am_ci11 ⟨by decide +kernel, by decide +kernel, by decide +kernel⟩ q860 q861 q628 q862 q863 (by decide) (by decide) dX11_expectWord_3 ?_
  refine av_iconst (v := 1) dX11_expectWord_6 (by decide) ?_
  refine av_callV am_hT (mX11_check l hfl N) am_ci11 ⟨by decide +kernel, by decide +kernel, by decide +kernel⟩ q864 q865 q628 q866 q867 (by decide) (by decide) dX11_expectWord_7 ?_
  refine av_aload_n dX11_expectWord_10 rfl ?_
  refine av_callV am_hT (mX11_advance l hfl N) am_ci11 ⟨by decide +kernel, by decide +kernel, by decide +kernel⟩ q868 q869 q628 q870 q871 (by decide) (by decide) dX11_expectWord_11 ?_
  exact av_return_ am_hv dX11_expectWord_14
theorem mX11_expectWord (l : Launch) (hfl : l.stackTraces = false) (N : Nat) : am_M l yX11_expectWord cX11_expectWord 2 none 6 168 (fX11_expectWord N) := av_meth hfl (by decide +kernel) rfl (vX11_expectWord_0 l hfl N)
/-! MessengerBoardModel.value()I -/
noncomputable def kX11_value_55 (N : Nat) : am_K := c_live [1] <|
  c_ild 1 <|
  c_iret
noncomputable def bX11_value_7 (N : Nat) (r7 : am_K) : am_K :=
  c_ild 2 <|
  c_rld 0 <|
  c_geti 11 15 <|
  c_icge (
  kX11_value_55 N) <|
  c_rld 0 <|
  c_geti 11 17 <|
  c_i (2) <|
  c_icne (
  kX11_value_55 N) <|
  c_l (2000000000) <|
  c_l (10) <|
  c_ild 1 <|
  c_il (fun x => x.toInt64) <|
  c_ll (fun x y => x * y) <|
  c_rld 0 <|
  c_getr 11 12 <|
  c_ild 2 <|
  c_ial <|
  c_il (fun x => x.toInt64) <|
  c_ll (fun x y => x + y) <|
  c_l (48) <|
  c_ll (fun x y => x - y) <|
  c_minl <|
  c_lti (fun x => x.toInt32) <|
  c_ist 1 <|
  c_inc 2 (1) <|
  c_live [0, 1, 2] r7
noncomputable def kX11_value_7 (N : Nat) : am_K := c_live [0, 1, 2] (am_loop (bX11_value_7 N) N)
noncomputable def kX11_value_0 (N : Nat) : am_K := c_live [0] <|
  c_i (0) <|
  c_ist 1 <|
  c_rld 0 <|
  c_geti 11 16 <|
  c_ist 2 <|
  kX11_value_7 N
noncomputable def fX11_value (N : Nat) : am_F := am_fn 3 (kX11_value_0 N)
set_option maxRecDepth 20000 in
theorem vX11_value_55 (l : Launch) (hfl : l.stackTraces = false) (N : Nat)  : am_V l cX11_value 3 RX11 (am_E (some .int) yX11_value.name) 1 60 55 (kX11_value_55 N) := by
  refine av_live ?_
  refine av_iload_n dX11_value_55 rfl ?_
  exact av_ireturn am_hi dX11_value_56
set_option maxRecDepth 20000 in
theorem vX11_value_7 (l : Launch) (hfl : l.stackTraces = false) (N : Nat)  : am_V l cX11_value 3 RX11 (am_E (some .int) yX11_value.name) 1 60 7 (kX11_value_7 N) := by
  refine av_live ?_
  refine av_loop (fun r7 h7 => ?_) N
  refine av_iload_n dX11_value_7 rfl ?_
  refine av_aload_n dX11_value_8 rfl ?_
  refine av_geti am_ci11 (by decide) am_f11_15 q836 dX11_value_9 ?_
  refine av_icge (tgt := 55) dX11_value_12 (by decide) ?_ ?_
  · exact vX11_value_55 l hfl N
  refine av_aload_n dX11_value_15 rfl ?_
  refine av_geti am_ci11 (by decide) am_f11_17 q846 dX11_value_16 ?_
  refine av_iconst (v := 2) dX11_value_19 (by decide) ?_
  refine av_icne (tgt := 55) dX11_value_20 (by decide) ?_ ?_
  · exact vX11_value_55 l hfl N
  refine av_ldc2 dX11_value_23 q872 ?_
  refine av_ldc2 dX11_value_26 q873 ?_
  refine av_iload_n dX11_value_29 rfl ?_
  refine av_i2l dX11_value_30 ?_
  refine av_lmul dX11_value_31 ?_
  refine av_aload_n dX11_value_32 rfl ?_
  refine av_getr am_ci11 (by decide) am_f11_12 q619 dX11_value_33 ?_
  refine av_iload_n dX11_value_36 rfl ?_
  refine av_iaload dX11_value_37 ?_
  refine av_i2l dX11_value_38 ?_
  refine av_ladd dX11_value_39 ?_
  refine av_ldc2 dX11_value_40 q874 ?_
  refine av_lsub dX11_value_43 ?_
  refine av_minl q875 q876 q42 q877 (by decide) (by decide) dX11_value_44 ?_
  refine av_l2i dX11_value_47 ?_
  refine av_istore_n dX11_value_48 rfl (by decide) ?_
  refine av_iinc dX11_value_49 (by decide) (by decide) ?_
  refine av_goto (tgt := 7) dX11_value_52 (by decide) ?_
  exact av_live h7
set_option maxRecDepth 20000 in
theorem vX11_value_0 (l : Launch) (hfl : l.stackTraces = false) (N : Nat)  : am_V l cX11_value 3 RX11 (am_E (some .int) yX11_value.name) 1 60 0 (kX11_value_0 N) := by
  refine av_live ?_
  refine av_iconst (v := 0) dX11_value_0 (by decide) ?_
  refine av_istore_n dX11_value_1 rfl (by decide) ?_
  refine av_aload_n dX11_value_2 rfl ?_
  refine av_geti am_ci11 (by decide) am_f11_16 q837 dX11_value_3 ?_
  refine av_istore_n dX11_value_6 rfl (by decide) ?_
  exact vX11_value_7 l hfl N
theorem mX11_value (l : Launch) (hfl : l.stackTraces = false) (N : Nat) : am_M l yX11_value cX11_value 3 (some .int) 1 60 (fX11_value N) := av_meth hfl (by decide +kernel) rfl (vX11_value_0 l hfl N)
/-! MessengerBoardModel.readNumber(II)I -/
noncomputable def kX11_readNumber_72 (N : Nat) : am_K := c_live [] <|
  c_iret
noncomputable def kX11_readNumber_52 (N : Nat) : am_K := c_live [0, 1, 3] <|
  c_i (2) <|
  c_callV 11 2 (fX11_check N) <|
  c_rld 0 <|
  c_callV 11 0 (fX11_advance N) <|
  c_rld 0 <|
  c_geti 11 18 <|
  c_ifne (
  c_ild 1 <|
  kX11_readNumber_72 N) <|
  c_ild 3 <|
  kX11_readNumber_72 N
noncomputable def kX11_readNumber_47 (N : Nat) : am_K := c_live [0, 1, 3] <|
  c_i (1) <|
  kX11_readNumber_52 N
noncomputable def kX11_readNumber_21 (N : Nat) : am_K := c_live [0, 1, 2] <|
  c_i (1) <|
  c_callV 11 2 (fX11_check N) <|
  c_rld 0 <|
  c_callV 11 0 (fX11_value N) <|
  c_ist 3 <|
  c_rld 0 <|
  c_rld 0 <|
  c_geti 11 18 <|
  c_ifne (
  kX11_readNumber_47 N) <|
  c_ild 3 <|
  c_ild 1 <|
  c_ild 2 <|
  c_callS 3 (fX11_inRange N) <|
  c_ifeq (
  c_i (0) <|
  kX11_readNumber_52 N) <|
  kX11_readNumber_47 N
noncomputable def kX11_readNumber_16 (N : Nat) : am_K := c_live [0, 1, 2] <|
  c_i (1) <|
  kX11_readNumber_21 N
noncomputable def kX11_readNumber_0 (N : Nat) : am_K := c_live [0, 1, 2] <|
  c_rld 0 <|
  c_rld 0 <|
  c_geti 11 18 <|
  c_ifne (
  kX11_readNumber_16 N) <|
  c_rld 0 <|
  c_geti 11 17 <|
  c_i (2) <|
  c_icne (
  c_i (0) <|
  kX11_readNumber_21 N) <|
  kX11_readNumber_16 N
noncomputable def fX11_readNumber (N : Nat) : am_F := am_fn 4 (kX11_readNumber_0 N)
set_option maxRecDepth 20000 in
theorem vX11_readNumber_72 (l : Launch) (hfl : l.stackTraces = false) (N : Nat)  : am_V l cX11_readNumber 4 RX11 (am_E (some .int) yX11_readNumber.name) 5 142 72 (kX11_readNumber_72 N) := by
  refine av_live ?_
  exact av_ireturn am_hi dX11_readNumber_72
set_option maxRecDepth 20000 in
theorem vX11_readNumber_52 (l : Launch) (hfl : l.stackTraces = false) (N : Nat)  : am_V l cX11_readNumber 4 RX11 (am_E (some .int) yX11_readNumber.name) 5 142 52 (kX11_readNumber_52 N) := by
  refine av_live ?_
  refine av_iconst (v := 2) dX11_readNumber_52 (by decide) ?_
  refine av_callV am_hT (mX11_check l hfl N) am_ci11 ⟨by decide +kernel, by decide +kernel, by decide +kernel⟩ q864 q865 q628 q866 q867 (by decide) (by decide) dX11_readNumber_53 ?_
  refine av_aload_n dX11_readNumber_56 rfl ?_
  refine av_callV am_hT (mX11_advance l hfl N) am_ci11 ⟨by decide +kernel, by decide +kernel, by decide +kernel⟩ q868 q869 q628 q870 q871 (by decide) (by decide) dX11_readNumber_57 ?_
  refine av_aload_n dX11_readNumber_60 rfl ?_
  refine av_geti am_ci11 (by decide) am_f11_18 q847 dX11_readNumber_61 ?_
  refine av_ifne (tgt := 71) dX11_readNumber_64 (by decide) ?_ ?_
  · refine av_iload_n dX11_readNumber_71 rfl ?_
    exact vX11_readNumber_72 l hfl N
  refine av_iload_n dX11_readNumber_67 rfl ?_
  refine av_goto (tgt := 72) dX11_readNumber_68 (by decide) ?_
  exact vX11_readNumber_72 l hfl N
set_option maxRecDepth 20000 in
theorem vX11_readNumber_47 (l : Launch) (hfl : l.stackTraces = false) (N : Nat)  : am_V l cX11_readNumber 4 RX11 (am_E (some .int) yX11_readNumber.name) 5 142 47 (kX11_readNumber_47 N) := by
  refine av_live ?_
  refine av_iconst (v := 1) dX11_readNumber_47 (by decide) ?_
  refine av_goto (tgt := 52) dX11_readNumber_48 (by decide) ?_
  exact vX11_readNumber_52 l hfl N
set_option maxRecDepth 20000 in
theorem vX11_readNumber_21 (l : Launch) (hfl : l.stackTraces = false) (N : Nat)  : am_V l cX11_readNumber 4 RX11 (am_E (some .int) yX11_readNumber.name) 5 142 21 (kX11_readNumber_21 N) := by
  refine av_live ?_
  refine av_iconst (v := 1) dX11_readNumber_21 (by decide) ?_
  refine av_callV am_hT (mX11_check l hfl N) am_ci11 ⟨by decide +kernel, by decide +kernel, by decide +kernel⟩ q864 q865 q628 q866 q867 (by decide) (by decide) dX11_readNumber_22 ?_
  refine av_aload_n dX11_readNumber_25 rfl ?_
  refine av_callV am_hT (mX11_value l hfl N) am_ci11 ⟨by decide +kernel, by decide +kernel, by decide +kernel⟩ q878 q879 q628 q880 q881 (by decide) (by decide) dX11_readNumber_26 ?_
  refine av_istore_n dX11_readNumber_29 rfl (by decide) ?_
  refine av_aload_n dX11_readNumber_30 rfl ?_
  refine av_aload_n dX11_readNumber_31 rfl ?_
  refine av_geti am_ci11 (by decide) am_f11_18 q847 dX11_readNumber_32 ?_
  refine av_ifne (tgt := 47) dX11_readNumber_35 (by decide) ?_ ?_
  · exact vX11_readNumber_47 l hfl N
  refine av_iload_n dX11_readNumber_38 rfl ?_
  refine av_iload_n dX11_readNumber_39 rfl ?_
  refine av_iload_n dX11_readNumber_40 rfl ?_
  refine av_callS am_hT (mX11_inRange l hfl N) ⟨by decide +kernel, by decide +kernel, by decide +kernel⟩ q631 q632 q628 q633 (by decide) (by decide) dX11_readNumber_41 ?_
  refine av_ifeq (tgt := 51) dX11_readNumber_44 (by decide) ?_ ?_
  · refine av_iconst (v := 0) dX11_readNumber_51 (by decide) ?_
    exact vX11_readNumber_52 l hfl N
  exact vX11_readNumber_47 l hfl N
set_option maxRecDepth 20000 in
theorem vX11_readNumber_16 (l : Launch) (hfl : l.stackTraces = false) (N : Nat)  : am_V l cX11_readNumber 4 RX11 (am_E (some .int) yX11_readNumber.name) 5 142 16 (kX11_readNumber_16 N) := by
  refine av_live ?_
  refine av_iconst (v := 1) dX11_readNumber_16 (by decide) ?_
  refine av_goto (tgt := 21) dX11_readNumber_17 (by decide) ?_
  exact vX11_readNumber_21 l hfl N
set_option maxRecDepth 20000 in
theorem vX11_readNumber_0 (l : Launch) (hfl : l.stackTraces = false) (N : Nat)  : am_V l cX11_readNumber 4 RX11 (am_E (some .int) yX11_readNumber.name) 5 142 0 (kX11_readNumber_0 N) := by
  refine av_live ?_
  refine av_aload_n dX11_readNumber_0 rfl ?_
  refine av_aload_n dX11_readNumber_1 rfl ?_
  refine av_geti am_ci11 (by decide) am_f11_18 q847 dX11_readNumber_2 ?_
  refine av_ifne (tgt := 16) dX11_readNumber_5 (by decide) ?_ ?_
  · exact vX11_readNumber_16 l hfl N
  refine av_aload_n dX11_readNumber_8 rfl ?_
  refine av_geti am_ci11 (by decide) am_f11_17 q846 dX11_readNumber_9 ?_
  refine av_iconst (v := 2) dX11_readNumber_12 (by decide) ?_
  refine av_icne (tgt := 20) dX11_readNumber_13 (by decide) ?_ ?_
  · refine av_iconst (v := 0) dX11_readNumber_20 (by decide) ?_
    exact vX11_readNumber_21 l hfl N
  exact vX11_readNumber_16 l hfl N
theorem mX11_readNumber (l : Launch) (hfl : l.stackTraces = false) (N : Nat) : am_M l yX11_readNumber cX11_readNumber 4 (some .int) 5 142 (fX11_readNumber N) := av_meth hfl (by decide +kernel) rfl (vX11_readNumber_0 l hfl N)
/-! MessengerBoardModel.isSymbol(I)Z -/
noncomputable def kX11_isSymbol_33 (N : Nat) : am_K := c_live [] <|
  c_zret
noncomputable def kX11_isSymbol_32 (N : Nat) : am_K := c_live [] <|
  c_i (0) <|
  kX11_isSymbol_33 N
noncomputable def kX11_isSymbol_0 (N : Nat) : am_K := c_live [0, 1] <|
  c_rld 0 <|
  c_geti 11 18 <|
  c_ifne (
  kX11_isSymbol_32 N) <|
  c_rld 0 <|
  c_geti 11 17 <|
  c_i (3) <|
  c_icne (
  kX11_isSymbol_32 N) <|
  c_rld 0 <|
  c_getr 11 12 <|
  c_rld 0 <|
  c_geti 11 16 <|
  c_ial <|
  c_ild 1 <|
  c_icne (
  kX11_isSymbol_32 N) <|
  c_i (1) <|
  kX11_isSymbol_33 N
noncomputable def fX11_isSymbol (N : Nat) : am_F := am_fn 2 (kX11_isSymbol_0 N)
set_option maxRecDepth 20000 in
theorem vX11_isSymbol_33 (l : Launch) (hfl : l.stackTraces = false) (N : Nat)  : am_V l cX11_isSymbol 2 RX11 (am_E (some .boolean) yX11_isSymbol.name) 1 60 33 (kX11_isSymbol_33 N) := by
  refine av_live ?_
  exact av_zreturn am_hz dX11_isSymbol_33
set_option maxRecDepth 20000 in
theorem vX11_isSymbol_32 (l : Launch) (hfl : l.stackTraces = false) (N : Nat)  : am_V l cX11_isSymbol 2 RX11 (am_E (some .boolean) yX11_isSymbol.name) 1 60 32 (kX11_isSymbol_32 N) := by
  refine av_live ?_
  refine av_iconst (v := 0) dX11_isSymbol_32 (by decide) ?_
  exact vX11_isSymbol_33 l hfl N
set_option maxRecDepth 20000 in
theorem vX11_isSymbol_0 (l : Launch) (hfl : l.stackTraces = false) (N : Nat)  : am_V l cX11_isSymbol 2 RX11 (am_E (some .boolean) yX11_isSymbol.name) 1 60 0 (kX11_isSymbol_0 N) := by
  refine av_live ?_
  refine av_aload_n dX11_isSymbol_0 rfl ?_
  refine av_geti am_ci11 (by decide) am_f11_18 q847 dX11_isSymbol_1 ?_
  refine av_ifne (tgt := 32) dX11_isSymbol_4 (by decide) ?_ ?_
  · exact vX11_isSymbol_32 l hfl N
  refine av_aload_n dX11_isSymbol_7 rfl ?_
  refine av_geti am_ci11 (by decide) am_f11_17 q846 dX11_isSymbol_8 ?_
  refine av_iconst (v := 3) dX11_isSymbol_11 (by decide) ?_
  refine av_icne (tgt := 32) dX11_isSymbol_12 (by decide) ?_ ?_
  · exact vX11_isSymbol_32 l hfl N
  refine av_aload_n dX11_isSymbol_15 rfl ?_
  refine av_getr am_ci11 (by decide) am_f11_12 q619 dX11_isSymbol_16 ?_
  refine av_aload_n dX11_isSymbol_19 rfl ?_
  refine av_geti am_ci11 (by decide) am_f11_16 q837 dX11_isSymbol_20 ?_
  refine av_iaload dX11_isSymbol_23 ?_
  refine av_iload_n dX11_isSymbol_24 rfl ?_
  refine av_icne (tgt := 32) dX11_isSymbol_25 (by decide) ?_ ?_
  · exact vX11_isSymbol_32 l hfl N
  refine av_iconst (v := 1) dX11_isSymbol_28 (by decide) ?_
  refine av_goto (tgt := 33) dX11_isSymbol_29 (by decide) ?_
  exact vX11_isSymbol_33 l hfl N
theorem mX11_isSymbol (l : Launch) (hfl : l.stackTraces = false) (N : Nat) : am_M l yX11_isSymbol cX11_isSymbol 2 (some .boolean) 1 60 (fX11_isSymbol N) := av_meth hfl (by decide +kernel) rfl (vX11_isSymbol_0 l hfl N)
/-! MessengerBoardModel.expect(I)V -/
noncomputable def kX11_expect_0 (N : Nat) : am_K := c_live [0, 1] <|
  c_rld 0 <|
  c_rld 0 <|
  c_ild 1 <|
  c_callV 11 1 (fX11_isSymbol N) <|
  c_i (1) <|
  c_callV 11 2 (fX11_check N) <|
  c_rld 0 <|
  c_callV 11 0 (fX11_advance N) <|
  c_vret
noncomputable def fX11_expect (N : Nat) : am_F := am_fn 2 (kX11_expect_0 N)
set_option maxRecDepth 20000 in
theorem vX11_expect_0 (l : Launch) (hfl : l.stackTraces = false) (N : Nat)  : am_V l cX11_expect 2 RX11 (am_E none yX11_expect.name) 5 142 0 (kX11_expect_0 N) := by
  refine av_live ?_
  refine av_aload_n dX11_expect_0 rfl ?_
  refine av_aload_n dX11_expect_1 rfl ?_
  refine av_iload_n dX11_expect_2 rfl ?_
  refine av_callV am_hT (mX11_isSymbol l hfl N) am_ci11 ⟨by decide +kernel, by decide +kernel, by decide +kernel⟩ q882 q883 q628 q884 q885 (by decide) (by decide) dX11_expect_3 ?_
  refine av_iconst (v := 1) dX11_expect_6 (by decide) ?_
  refine av_callV am_hT (mX11_check l hfl N) am_ci11 ⟨by decide +kernel, by decide +kernel, by decide +kernel⟩ q864 q865 q628 q866 q867 (by decide) (by decide) dX11_expect_7 ?_
  refine av_aload_n dX11_expect_10 rfl ?_
  refine av_callV am_hT (mX11_advance l hfl N) am_ci11 ⟨by decide +kernel, by decide +kernel, by decide +kernel⟩ q868 q869 q628 q870 q871 (by decide) (by decide) dX11_expect_11 ?_
  exact av_return_ am_hv dX11_expect_14
theorem mX11_expect (l : Launch) (hfl : l.stackTraces = false) (N : Nat) : am_M l yX11_expect cX11_expect 2 none 5 142 (fX11_expect N) := av_meth hfl (by decide +kernel) rfl (vX11_expect_0 l hfl N)
/-! MessengerBoardModel.accept(Ljava/lang/String;)Z -/
noncomputable def kX11_accept_14 (N : Nat) : am_K := c_live [2] <|
  c_ild 2 <|
  c_zret
noncomputable def kX11_accept_0 (N : Nat) : am_K := c_live [0, 1] <|
  c_rld 0 <|
  c_rld 1 <|
  c_callV 11 1 (fX11_isWord N) <|
  c_ist 2 <|
  c_ild 2 <|
  c_ifeq (
  kX11_accept_14 N) <|
  c_rld 0 <|
  c_callV 11 0 (fX11_scan N) <|
  kX11_accept_14 N
noncomputable def fX11_accept (N : Nat) : am_F := am_fn 3 (kX11_accept_0 N)
set_option maxRecDepth 20000 in
theorem vX11_accept_14 (l : Launch) (hfl : l.stackTraces = false) (N : Nat)  : am_V l cX11_accept 3 RX11 (am_E (some .boolean) yX11_accept.name) 6 168 14 (kX11_accept_14 N) := by
  refine av_live ?_
  refine av_iload_n dX11_accept_14 rfl ?_
  exact av_zreturn am_hz dX11_accept_15
set_option maxRecDepth 20000 in
theorem vX11_accept_0 (l : Launch) (hfl : l.stackTraces = false) (N : Nat)  : am_V l cX11_accept 3 RX11 (am_E (some .boolean) yX11_accept.name) 6 168 0 (kX11_accept_0 N) := by
  refine av_live ?_
  refine av_aload_n dX11_accept_0 rfl ?_
  refine av_aload_n dX11_accept_1 rfl ?_
  refine av_callV am_hT (mX11_isWord l hfl N) am_ci11 ⟨by decide +kernel, by decide +kernel, by decide +kernel⟩ q860 q861 q628 q862 q863 (by decide) (by decide) dX11_accept_2 ?_
  refine av_istore_n dX11_accept_5 rfl (by decide) ?_
  refine av_iload_n dX11_accept_6 rfl ?_
  refine av_ifeq (tgt := 14) dX11_accept_7 (by decide) ?_ ?_
  · exact vX11_accept_14 l hfl N
  refine av_aload_n dX11_accept_10 rfl ?_
  refine av_callV am_hT (mX11_scan l hfl N) am_ci11 ⟨by decide +kernel, by decide +kernel, by decide +kernel⟩ q849 q850 q628 q851 q852 (by decide) (by decide) dX11_accept_11 ?_
  exact vX11_accept_14 l hfl N
theorem mX11_accept (l : Launch) (hfl : l.stackTraces = false) (N : Nat) : am_M l yX11_accept cX11_accept 3 (some .boolean) 6 168 (fX11_accept N) := av_meth hfl (by decide +kernel) rfl (vX11_accept_0 l hfl N)
/-! MessengerBoardModel.isHeldInDraft(II)Z -/
noncomputable def kX11_isHeldInDraft_78 (N : Nat) (r31 : am_K) : am_K := c_live [0, 1, 2, 4] <|
  c_ii (fun x y => x ||| y) <|
  c_ist 3 <|
  c_inc 4 (1) <|
  c_live [0, 1, 2, 3, 4] r31
noncomputable def kX11_isHeldInDraft_77 (N : Nat) (r31 : am_K) : am_K := c_live [0, 1, 2, 4] <|
  c_i (0) <|
  kX11_isHeldInDraft_78 N r31
noncomputable def bX11_isHeldInDraft_31 (N : Nat) (r31 : am_K) : am_K :=
  c_ild 4 <|
  c_rld 0 <|
  c_getr 11 1 <|
  c_i (2) <|
  c_ial <|
  c_icge (
  c_ild 3 <|
  c_zret) <|
  c_ild 3 <|
  c_rld 0 <|
  c_getr 11 1 <|
  c_ild 4 <|
  c_i (0) <|
  c_callS 2 (fX11_unitAt N) <|
  c_ial <|
  c_ild 1 <|
  c_icne (
  kX11_isHeldInDraft_77 N r31) <|
  c_rld 0 <|
  c_getr 11 1 <|
  c_ild 4 <|
  c_i (1) <|
  c_callS 2 (fX11_unitAt N) <|
  c_ial <|
  c_ild 2 <|
  c_icne (
  kX11_isHeldInDraft_77 N r31) <|
  c_i (1) <|
  kX11_isHeldInDraft_78 N r31
noncomputable def kX11_isHeldInDraft_31 (N : Nat) : am_K := c_live [0, 1, 2, 3, 4] (am_loop (bX11_isHeldInDraft_31 N) N)
noncomputable def kX11_isHeldInDraft_27 (N : Nat) : am_K := c_live [0, 1, 2] <|
  c_ist 3 <|
  c_i (0) <|
  c_ist 4 <|
  kX11_isHeldInDraft_31 N
noncomputable def kX11_isHeldInDraft_26 (N : Nat) : am_K := c_live [0, 1, 2] <|
  c_i (0) <|
  kX11_isHeldInDraft_27 N
noncomputable def kX11_isHeldInDraft_0 (N : Nat) : am_K := c_live [0, 1, 2] <|
  c_rld 0 <|
  c_getr 11 1 <|
  c_i (10) <|
  c_ial <|
  c_ild 1 <|
  c_icne (
  kX11_isHeldInDraft_26 N) <|
  c_rld 0 <|
  c_getr 11 1 <|
  c_i (11) <|
  c_ial <|
  c_ild 2 <|
  c_icne (
  kX11_isHeldInDraft_26 N) <|
  c_i (1) <|
  kX11_isHeldInDraft_27 N
noncomputable def fX11_isHeldInDraft (N : Nat) : am_F := am_fn 5 (kX11_isHeldInDraft_0 N)
set_option maxRecDepth 20000 in
theorem vX11_isHeldInDraft_78 (l : Launch) (hfl : l.stackTraces = false) (N : Nat)  {r31 : am_K} (h31 : am_V l cX11_isHeldInDraft 5 RX11 (am_E (some .boolean) yX11_isHeldInDraft.name) 2 81 31 r31) : am_V l cX11_isHeldInDraft 5 RX11 (am_E (some .boolean) yX11_isHeldInDraft.name) 2 81 78 (kX11_isHeldInDraft_78 N r31) := by
  refine av_live ?_
  refine av_ior dX11_isHeldInDraft_78 ?_
  refine av_istore_n dX11_isHeldInDraft_79 rfl (by decide) ?_
  refine av_iinc dX11_isHeldInDraft_80 (by decide) (by decide) ?_
  refine av_goto (tgt := 31) dX11_isHeldInDraft_83 (by decide) ?_
  exact av_live h31
set_option maxRecDepth 20000 in
theorem vX11_isHeldInDraft_77 (l : Launch) (hfl : l.stackTraces = false) (N : Nat)  {r31 : am_K} (h31 : am_V l cX11_isHeldInDraft 5 RX11 (am_E (some .boolean) yX11_isHeldInDraft.name) 2 81 31 r31) : am_V l cX11_isHeldInDraft 5 RX11 (am_E (some .boolean) yX11_isHeldInDraft.name) 2 81 77 (kX11_isHeldInDraft_77 N r31) := by
  refine av_live ?_
  refine av_iconst (v := 0) dX11_isHeldInDraft_77 (by decide) ?_
  exact vX11_isHeldInDraft_78 l hfl N h31
set_option maxRecDepth 20000 in
theorem vX11_isHeldInDraft_31 (l : Launch) (hfl : l.stackTraces = false) (N : Nat)  : am_V l cX11_isHeldInDraft 5 RX11 (am_E (some .boolean) yX11_isHeldInDraft.name) 2 81 31 (kX11_isHeldInDraft_31 N) := by
  refine av_live ?_
  refine av_loop (fun r31 h31 => ?_) N
  refine av_iload dX11_isHeldInDraft_31 ?_
  refine av_aload_n dX11_isHeldInDraft_33 rfl ?_
  refine av_getr am_ci11 (by decide) am_f11_1 q611 dX11_isHeldInDraft_34 ?_
  refine av_iconst (v := 2) dX11_isHeldInDraft_37 (by decide) ?_
  refine av_iaload dX11_isHeldInDraft_38 ?_
  refine av_icge (tgt := 86) dX11_isHeldInDraft_39 (by decide) ?_ ?_
  · refine av_iload_n dX11_isHeldInDraft_86 rfl ?_
    exact av_zreturn am_hz dX11_isHeldInDraft_87
  refine av_iload_n dX11_isHeldInDraft_42 rfl ?_
  refine av_aload_n dX11_isHeldInDraft_43 rfl ?_
  refine av_getr am_ci11 (by decide) am_f11_1 q611 dX11_isHeldInDraft_44 ?_
  refine av_iload dX11_isHeldInDraft_47 ?_
  refine av_iconst (v := 0) dX11_isHeldInDraft_49 (by decide) ?_
  refine av_callS am_hT (mX11_unitAt l hfl N) ⟨by decide +kernel, by decide +kernel, by decide +kernel⟩ q638 q639 q628 q640 (by decide) (by decide) dX11_isHeldInDraft_50 ?_
  refine av_iaload dX11_isHeldInDraft_53 ?_
  refine av_iload_n dX11_isHeldInDraft_54 rfl ?_
  refine av_icne (tgt := 77) dX11_isHeldInDraft_55 (by decide) ?_ ?_
  · exact vX11_isHeldInDraft_77 l hfl N h31
  refine av_aload_n dX11_isHeldInDraft_58 rfl ?_
  refine av_getr am_ci11 (by decide) am_f11_1 q611 dX11_isHeldInDraft_59 ?_
  refine av_iload dX11_isHeldInDraft_62 ?_
  refine av_iconst (v := 1) dX11_isHeldInDraft_64 (by decide) ?_
  refine av_callS am_hT (mX11_unitAt l hfl N) ⟨by decide +kernel, by decide +kernel, by decide +kernel⟩ q638 q639 q628 q640 (by decide) (by decide) dX11_isHeldInDraft_65 ?_
  refine av_iaload dX11_isHeldInDraft_68 ?_
  refine av_iload_n dX11_isHeldInDraft_69 rfl ?_
  refine av_icne (tgt := 77) dX11_isHeldInDraft_70 (by decide) ?_ ?_
  · exact vX11_isHeldInDraft_77 l hfl N h31
  refine av_iconst (v := 1) dX11_isHeldInDraft_73 (by decide) ?_
  refine av_goto (tgt := 78) dX11_isHeldInDraft_74 (by decide) ?_
  exact vX11_isHeldInDraft_78 l hfl N h31
set_option maxRecDepth 20000 in
theorem vX11_isHeldInDraft_27 (l : Launch) (hfl : l.stackTraces = false) (N : Nat)  : am_V l cX11_isHeldInDraft 5 RX11 (am_E (some .boolean) yX11_isHeldInDraft.name) 2 81 27 (kX11_isHeldInDraft_27 N) := by
  refine av_live ?_
  refine av_istore_n dX11_isHeldInDraft_27 rfl (by decide) ?_
  refine av_iconst (v := 0) dX11_isHeldInDraft_28 (by decide) ?_
  refine av_istore dX11_isHeldInDraft_29 (by decide) ?_
  exact vX11_isHeldInDraft_31 l hfl N
set_option maxRecDepth 20000 in
theorem vX11_isHeldInDraft_26 (l : Launch) (hfl : l.stackTraces = false) (N : Nat)  : am_V l cX11_isHeldInDraft 5 RX11 (am_E (some .boolean) yX11_isHeldInDraft.name) 2 81 26 (kX11_isHeldInDraft_26 N) := by
  refine av_live ?_
  refine av_iconst (v := 0) dX11_isHeldInDraft_26 (by decide) ?_
  exact vX11_isHeldInDraft_27 l hfl N
set_option maxRecDepth 20000 in
theorem vX11_isHeldInDraft_0 (l : Launch) (hfl : l.stackTraces = false) (N : Nat)  : am_V l cX11_isHeldInDraft 5 RX11 (am_E (some .boolean) yX11_isHeldInDraft.name) 2 81 0 (kX11_isHeldInDraft_0 N) := by
  refine av_live ?_
  refine av_aload_n dX11_isHeldInDraft_0 rfl ?_
  refine av_getr am_ci11 (by decide) am_f11_1 q611 dX11_isHeldInDraft_1 ?_
  refine av_bipush (v := 10) dX11_isHeldInDraft_4 (by decide) ?_
  refine av_iaload dX11_isHeldInDraft_6 ?_
  refine av_iload_n dX11_isHeldInDraft_7 rfl ?_
  refine av_icne (tgt := 26) dX11_isHeldInDraft_8 (by decide) ?_ ?_
  · exact vX11_isHeldInDraft_26 l hfl N
  refine av_aload_n dX11_isHeldInDraft_11 rfl ?_
  refine av_getr am_ci11 (by decide) am_f11_1 q611 dX11_isHeldInDraft_12 ?_
  refine av_bipush (v := 11) dX11_isHeldInDraft_15 (by decide) ?_
  refine av_iaload dX11_isHeldInDraft_17 ?_
  refine av_iload_n dX11_isHeldInDraft_18 rfl ?_
  refine av_icne (tgt := 26) dX11_isHeldInDraft_19 (by decide) ?_ ?_
  · exact vX11_isHeldInDraft_26 l hfl N
  refine av_iconst (v := 1) dX11_isHeldInDraft_22 (by decide) ?_
  refine av_goto (tgt := 27) dX11_isHeldInDraft_23 (by decide) ?_
  exact vX11_isHeldInDraft_27 l hfl N
theorem mX11_isHeldInDraft (l : Launch) (hfl : l.stackTraces = false) (N : Nat) : am_M l yX11_isHeldInDraft cX11_isHeldInDraft 5 (some .boolean) 2 81 (fX11_isHeldInDraft N) := av_meth hfl (by decide +kernel) rfl (vX11_isHeldInDraft_0 l hfl N)
/-! MessengerBoardModel.readCell(ZZ)V -/
noncomputable def kX11_readCell_170 (N : Nat) : am_K := c_live [0] <|
  c_i (4) <|
  c_callV 11 2 (fX11_check N) <|
  c_rld 0 <|
  c_callV 11 0 (fX11_advance N) <|
  c_vret
noncomputable def kX11_readCell_165 (N : Nat) : am_K := c_live [0] <|
  c_i (1) <|
  kX11_readCell_170 N
noncomputable def kX11_readCell_169 (N : Nat) : am_K := c_live [0] <|
  c_i (0) <|
  kX11_readCell_170 N
noncomputable def kX11_readCell_129 (N : Nat) : am_K := c_live [0, 1, 2] <|
  c_ist 3 <|
  c_rld 0 <|
  c_rld 0 <|
  c_geti 11 18 <|
  c_ifne (
  kX11_readCell_165 N) <|
  c_ild 2 <|
  c_ifne (
  kX11_readCell_165 N) <|
  c_ild 3 <|
  c_ifne (
  kX11_readCell_169 N) <|
  c_ild 1 <|
  c_ifeq (
  kX11_readCell_165 N) <|
  c_rld 0 <|
  c_rld 0 <|
  c_geti 11 22 <|
  c_rld 0 <|
  c_geti 11 23 <|
  c_callV 11 2 (fX11_isHeldInDraft N) <|
  c_ifne (
  kX11_readCell_169 N) <|
  kX11_readCell_165 N
noncomputable def kX11_readCell_128 (N : Nat) : am_K := c_live [0, 1, 2] <|
  c_i (0) <|
  kX11_readCell_129 N
noncomputable def kX11_readCell_94 (N : Nat) : am_K := c_live [0, 1, 2] <|
  c_puti 11 23 <|
  c_rld 0 <|
  c_geti 11 18 <|
  c_ifne (
  kX11_readCell_128 N) <|
  c_rld 0 <|
  c_getr 11 1 <|
  c_rld 0 <|
  c_geti 11 22 <|
  c_rld 0 <|
  c_geti 11 23 <|
  c_callS 2 (fX11_wallAt N) <|
  c_ial <|
  c_i (1) <|
  c_icne (
  kX11_readCell_128 N) <|
  c_i (1) <|
  kX11_readCell_129 N
noncomputable def kX11_readCell_74 (N : Nat) : am_K := c_live [0, 1, 2] <|
  c_i (2) <|
  c_callV 11 2 (fX11_check N) <|
  c_rld 0 <|
  c_rld 0 <|
  c_geti 11 18 <|
  c_ifeq (
  c_rld 0 <|
  c_callV 11 0 (fX11_value N) <|
  kX11_readCell_94 N) <|
  c_i (0) <|
  kX11_readCell_94 N
noncomputable def kX11_readCell_69 (N : Nat) : am_K := c_live [0, 1, 2] <|
  c_i (1) <|
  kX11_readCell_74 N
noncomputable def kX11_readCell_38 (N : Nat) : am_K := c_live [0, 1, 2] <|
  c_i (1) <|
  c_callV 11 2 (fX11_check N) <|
  c_rld 0 <|
  c_rld 0 <|
  c_geti 11 18 <|
  c_ifne (
  kX11_readCell_69 N) <|
  c_rld 0 <|
  c_callV 11 0 (fX11_value N) <|
  c_i (0) <|
  c_rld 0 <|
  c_getr 11 1 <|
  c_i (1) <|
  c_ial <|
  c_i (1) <|
  c_ii (fun x y => x - y) <|
  c_callS 3 (fX11_inRange N) <|
  c_ifeq (
  c_i (0) <|
  kX11_readCell_74 N) <|
  kX11_readCell_69 N
noncomputable def kX11_readCell_33 (N : Nat) : am_K := c_live [0, 1, 2] <|
  c_i (1) <|
  kX11_readCell_38 N
noncomputable def kX11_readCell_0 (N : Nat) : am_K := c_live [0, 1, 2] <|
  c_rld 0 <|
  c_rld 0 <|
  c_i (0) <|
  c_rld 0 <|
  c_getr 11 1 <|
  c_i (0) <|
  c_ial <|
  c_i (1) <|
  c_ii (fun x y => x - y) <|
  c_callV 11 2 (fX11_readNumber N) <|
  c_puti 11 22 <|
  c_rld 0 <|
  c_rld 0 <|
  c_geti 11 18 <|
  c_ifne (
  kX11_readCell_33 N) <|
  c_rld 0 <|
  c_geti 11 17 <|
  c_i (2) <|
  c_icne (
  c_i (0) <|
  kX11_readCell_38 N) <|
  kX11_readCell_33 N
noncomputable def fX11_readCell (N : Nat) : am_F := am_fn 4 (kX11_readCell_0 N)
set_option maxRecDepth 20000 in
theorem vX11_readCell_170 (l : Launch) (hfl : l.stackTraces = false) (N : Nat)  : am_V l cX11_readCell 4 RX11 (am_E none yX11_readCell.name) 6 165 170 (kX11_readCell_170 N) := by
  refine av_live ?_
  refine av_iconst (v := 4) dX11_readCell_170 (by decide) ?_
  refine av_callV am_hT (mX11_check l hfl N) am_ci11 ⟨by decide +kernel, by decide +kernel, by decide +kernel⟩ q864 q865 q628 q866 q867 (by decide) (by decide) dX11_readCell_171 ?_
  refine av_aload_n dX11_readCell_174 rfl ?_
  refine av_callV am_hT (mX11_advance l hfl N) am_ci11 ⟨by decide +kernel, by decide +kernel, by decide +kernel⟩ q868 q869 q628 q870 q871 (by decide) (by decide) dX11_readCell_175 ?_
  exact av_return_ am_hv dX11_readCell_178
set_option maxRecDepth 20000 in
theorem vX11_readCell_165 (l : Launch) (hfl : l.stackTraces = false) (N : Nat)  : am_V l cX11_readCell 4 RX11 (am_E none yX11_readCell.name) 6 165 165 (kX11_readCell_165 N) := by
  refine av_live ?_
  refine av_iconst (v := 1) dX11_readCell_165 (by decide) ?_
  refine av_goto (tgt := 170) dX11_readCell_166 (by decide) ?_
  exact vX11_readCell_170 l hfl N
set_option maxRecDepth 20000 in
theorem vX11_readCell_169 (l : Launch) (hfl : l.stackTraces = false) (N : Nat)  : am_V l cX11_readCell 4 RX11 (am_E none yX11_readCell.name) 6 165 169 (kX11_readCell_169 N) := by
  refine av_live ?_
  refine av_iconst (v := 0) dX11_readCell_169 (by decide) ?_
  exact vX11_readCell_170 l hfl N
set_option maxRecDepth 20000 in
theorem vX11_readCell_129 (l : Launch) (hfl : l.stackTraces = false) (N : Nat)  : am_V l cX11_readCell 4 RX11 (am_E none yX11_readCell.name) 6 165 129 (kX11_readCell_129 N) := by
  refine av_live ?_
  refine av_istore_n dX11_readCell_129 rfl (by decide) ?_
  refine av_aload_n dX11_readCell_130 rfl ?_
  refine av_aload_n dX11_readCell_131 rfl ?_
  refine av_geti am_ci11 (by decide) am_f11_18 q847 dX11_readCell_132 ?_
  refine av_ifne (tgt := 165) dX11_readCell_135 (by decide) ?_ ?_
  · exact vX11_readCell_165 l hfl N
  refine av_iload_n dX11_readCell_138 rfl ?_
  refine av_ifne (tgt := 165) dX11_readCell_139 (by decide) ?_ ?_
  · exact vX11_readCell_165 l hfl N
  refine av_iload_n dX11_readCell_142 rfl ?_
  refine av_ifne (tgt := 169) dX11_readCell_143 (by decide) ?_ ?_
  · exact vX11_readCell_169 l hfl N
  refine av_iload_n dX11_readCell_146 rfl ?_
  refine av_ifeq (tgt := 165) dX11_readCell_147 (by decide) ?_ ?_
  · exact vX11_readCell_165 l hfl N
  refine av_aload_n dX11_readCell_150 rfl ?_
  refine av_aload_n dX11_readCell_151 rfl ?_
  refine av_geti am_ci11 (by decide) am_f11_22 q890 dX11_readCell_152 ?_
  refine av_aload_n dX11_readCell_155 rfl ?_
  refine av_geti am_ci11 (by decide) am_f11_23 q891 dX11_readCell_156 ?_
  refine av_callV am_hT (mX11_isHeldInDraft l hfl N) am_ci11 ⟨by decide +kernel, by decide +kernel, by decide +kernel⟩ q892 q893 q628 q894 q895 (by decide) (by decide) dX11_readCell_159 ?_
  refine av_ifne (tgt := 169) dX11_readCell_162 (by decide) ?_ ?_
  · exact vX11_readCell_169 l hfl N
  exact vX11_readCell_165 l hfl N
set_option maxRecDepth 20000 in
theorem vX11_readCell_128 (l : Launch) (hfl : l.stackTraces = false) (N : Nat)  : am_V l cX11_readCell 4 RX11 (am_E none yX11_readCell.name) 6 165 128 (kX11_readCell_128 N) := by
  refine av_live ?_
  refine av_iconst (v := 0) dX11_readCell_128 (by decide) ?_
  exact vX11_readCell_129 l hfl N
set_option maxRecDepth 20000 in
theorem vX11_readCell_94 (l : Launch) (hfl : l.stackTraces = false) (N : Nat)  : am_V l cX11_readCell 4 RX11 (am_E none yX11_readCell.name) 6 165 94 (kX11_readCell_94 N) := by
  refine av_live ?_
  refine av_puti am_ci11 (by decide) am_f11_23 q891 (tyX11_ok 23 (by decide)) rfl dX11_readCell_94 ?_
  refine av_aload_n dX11_readCell_97 rfl ?_
  refine av_geti am_ci11 (by decide) am_f11_18 q847 dX11_readCell_98 ?_
  refine av_ifne (tgt := 128) dX11_readCell_101 (by decide) ?_ ?_
  · exact vX11_readCell_128 l hfl N
  refine av_aload_n dX11_readCell_104 rfl ?_
  refine av_getr am_ci11 (by decide) am_f11_1 q611 dX11_readCell_105 ?_
  refine av_aload_n dX11_readCell_108 rfl ?_
  refine av_geti am_ci11 (by decide) am_f11_22 q890 dX11_readCell_109 ?_
  refine av_aload_n dX11_readCell_112 rfl ?_
  refine av_geti am_ci11 (by decide) am_f11_23 q891 dX11_readCell_113 ?_
  refine av_callS am_hT (mX11_wallAt l hfl N) ⟨by decide +kernel, by decide +kernel, by decide +kernel⟩ q702 q703 q628 q704 (by decide) (by decide) dX11_readCell_116 ?_
  refine av_iaload dX11_readCell_119 ?_
  refine av_iconst (v := 1) dX11_readCell_120 (by decide) ?_
  refine av_icne (tgt := 128) dX11_readCell_121 (by decide) ?_ ?_
  · exact vX11_readCell_128 l hfl N
  refine av_iconst (v := 1) dX11_readCell_124 (by decide) ?_
  refine av_goto (tgt := 129) dX11_readCell_125 (by decide) ?_
  exact vX11_readCell_129 l hfl N
set_option maxRecDepth 20000 in
theorem vX11_readCell_74 (l : Launch) (hfl : l.stackTraces = false) (N : Nat)  : am_V l cX11_readCell 4 RX11 (am_E none yX11_readCell.name) 6 165 74 (kX11_readCell_74 N) := by
  refine av_live ?_
  refine av_iconst (v := 2) dX11_readCell_74 (by decide) ?_
  refine av_callV am_hT (mX11_check l hfl N) am_ci11 ⟨by decide +kernel, by decide +kernel, by decide +kernel⟩ q864 q865 q628 q866 q867 (by decide) (by decide) dX11_readCell_75 ?_
  refine av_aload_n dX11_readCell_78 rfl ?_
  refine av_aload_n dX11_readCell_79 rfl ?_
  refine av_geti am_ci11 (by decide) am_f11_18 q847 dX11_readCell_80 ?_
  refine av_ifeq (tgt := 90) dX11_readCell_83 (by decide) ?_ ?_
  · refine av_aload_n dX11_readCell_90 rfl ?_
    refine av_callV am_hT (mX11_value l hfl N) am_ci11 ⟨by decide +kernel, by decide +kernel, by decide +kernel⟩ q878 q879 q628 q880 q881 (by decide) (by decide) dX11_readCell_91 ?_
    exact vX11_readCell_94 l hfl N
  refine av_iconst (v := 0) dX11_readCell_86 (by decide) ?_
  refine av_goto (tgt := 94) dX11_readCell_87 (by decide) ?_
  exact vX11_readCell_94 l hfl N
set_option maxRecDepth 20000 in
theorem vX11_readCell_69 (l : Launch) (hfl : l.stackTraces = false) (N : Nat)  : am_V l cX11_readCell 4 RX11 (am_E none yX11_readCell.name) 6 165 69 (kX11_readCell_69 N) := by
  refine av_live ?_
  refine av_iconst (v := 1) dX11_readCell_69 (by decide) ?_
  refine av_goto (tgt := 74) dX11_readCell_70 (by decide) ?_
  exact vX11_readCell_74 l hfl N
set_option maxRecDepth 20000 in
theorem vX11_readCell_38 (l : Launch) (hfl : l.stackTraces = false) (N : Nat)  : am_V l cX11_readCell 4 RX11 (am_E none yX11_readCell.name) 6 165 38 (kX11_readCell_38 N) := by
  refine av_live ?_
  refine av_iconst (v := 1) dX11_readCell_38 (by decide) ?_
  refine av_callV am_hT (mX11_check l hfl N) am_ci11 ⟨by decide +kernel, by decide +kernel, by decide +kernel⟩ q864 q865 q628 q866 q867 (by decide) (by decide) dX11_readCell_39 ?_
  refine av_aload_n dX11_readCell_42 rfl ?_
  refine av_aload_n dX11_readCell_43 rfl ?_
  refine av_geti am_ci11 (by decide) am_f11_18 q847 dX11_readCell_44 ?_
  refine av_ifne (tgt := 69) dX11_readCell_47 (by decide) ?_ ?_
  · exact vX11_readCell_69 l hfl N
  refine av_aload_n dX11_readCell_50 rfl ?_
  refine av_callV am_hT (mX11_value l hfl N) am_ci11 ⟨by decide +kernel, by decide +kernel, by decide +kernel⟩ q878 q879 q628 q880 q881 (by decide) (by decide) dX11_readCell_51 ?_
  refine av_iconst (v := 0) dX11_readCell_54 (by decide) ?_
  refine av_aload_n dX11_readCell_55 rfl ?_
  refine av_getr am_ci11 (by decide) am_f11_1 q611 dX11_readCell_56 ?_
  refine av_iconst (v := 1) dX11_readCell_59 (by decide) ?_
  refine av_iaload dX11_readCell_60 ?_
  refine av_iconst (v := 1) dX11_readCell_61 (by decide) ?_
  refine av_isub dX11_readCell_62 ?_
  refine av_callS am_hT (mX11_inRange l hfl N) ⟨by decide +kernel, by decide +kernel, by decide +kernel⟩ q631 q632 q628 q633 (by decide) (by decide) dX11_readCell_63 ?_
  refine av_ifeq (tgt := 73) dX11_readCell_66 (by decide) ?_ ?_
  · refine av_iconst (v := 0) dX11_readCell_73 (by decide) ?_
    exact vX11_readCell_74 l hfl N
  exact vX11_readCell_69 l hfl N
set_option maxRecDepth 20000 in
theorem vX11_readCell_33 (l : Launch) (hfl : l.stackTraces = false) (N : Nat)  : am_V l cX11_readCell 4 RX11 (am_E none yX11_readCell.name) 6 165 33 (kX11_readCell_33 N) := by
  refine av_live ?_
  refine av_iconst (v := 1) dX11_readCell_33 (by decide) ?_
  refine av_goto (tgt := 38) dX11_readCell_34 (by decide) ?_
  exact vX11_readCell_38 l hfl N
set_option maxRecDepth 20000 in
theorem vX11_readCell_0 (l : Launch) (hfl : l.stackTraces = false) (N : Nat)  : am_V l cX11_readCell 4 RX11 (am_E none yX11_readCell.name) 6 165 0 (kX11_readCell_0 N) := by
  refine av_live ?_
  refine av_aload_n dX11_readCell_0 rfl ?_
  refine av_aload_n dX11_readCell_1 rfl ?_
  refine av_iconst (v := 0) dX11_readCell_2 (by decide) ?_
  refine av_aload_n dX11_readCell_3 rfl ?_
  refine av_getr am_ci11 (by decide) am_f11_1 q611 dX11_readCell_4 ?_
  refine av_iconst (v := 0) dX11_readCell_7 (by decide) ?_
  refine av_iaload dX11_readCell_8 ?_
  refine av_iconst (v := 1) dX11_readCell_9 (by decide) ?_
  refine av_isub dX11_readCell_10 ?_
  refine av_callV am_hT (mX11_readNumber l hfl N) am_ci11 ⟨by decide +kernel, by decide +kernel, by decide +kernel⟩ q886 q887 q628 q888 q889 (by decide) (by decide) dX11_readCell_11 ?_
  refine av_puti am_ci11 (by decide) am_f11_22 q890 (tyX11_ok 22 (by decide)) rfl dX11_readCell_14 ?_
  refine av_aload_n dX11_readCell_17 rfl ?_
  refine av_aload_n dX11_readCell_18 rfl ?_
  refine av_geti am_ci11 (by decide) am_f11_18 q847 dX11_readCell_19 ?_
  refine av_ifne (tgt := 33) dX11_readCell_22 (by decide) ?_ ?_
  · exact vX11_readCell_33 l hfl N
  refine av_aload_n dX11_readCell_25 rfl ?_
  refine av_geti am_ci11 (by decide) am_f11_17 q846 dX11_readCell_26 ?_
  refine av_iconst (v := 2) dX11_readCell_29 (by decide) ?_
  refine av_icne (tgt := 37) dX11_readCell_30 (by decide) ?_ ?_
  · refine av_iconst (v := 0) dX11_readCell_37 (by decide) ?_
    exact vX11_readCell_38 l hfl N
  exact vX11_readCell_33 l hfl N
theorem mX11_readCell (l : Launch) (hfl : l.stackTraces = false) (N : Nat) : am_M l yX11_readCell cX11_readCell 4 none 6 165 (fX11_readCell N) := av_meth hfl (by decide +kernel) rfl (vX11_readCell_0 l hfl N)
/-! MessengerBoardModel.readWall()V -/
noncomputable def kX11_readWall_41 (N : Nat) : am_K := c_live [] <|
  c_vret
noncomputable def kX11_readWall_0 (N : Nat) : am_K := c_live [0] <|
  c_rld 0 <|
  c_i (1) <|
  c_i (0) <|
  c_callV 11 2 (fX11_readCell N) <|
  c_rld 0 <|
  c_geti 11 18 <|
  c_ifne (
  kX11_readWall_41 N) <|
  c_rld 0 <|
  c_getr 11 1 <|
  c_rld 0 <|
  c_geti 11 22 <|
  c_rld 0 <|
  c_geti 11 23 <|
  c_callS 2 (fX11_wallAt N) <|
  c_i (1) <|
  c_ias <|
  c_rld 0 <|
  c_getr 11 1 <|
  c_i (6) <|
  c_dup2 <|
  c_ial <|
  c_i (1) <|
  c_ii (fun x y => x + y) <|
  c_ias <|
  kX11_readWall_41 N
noncomputable def fX11_readWall (N : Nat) : am_F := am_fn 1 (kX11_readWall_0 N)
set_option maxRecDepth 20000 in
theorem vX11_readWall_41 (l : Launch) (hfl : l.stackTraces = false) (N : Nat)  : am_V l cX11_readWall 1 RX11 (am_E none yX11_readWall.name) 7 188 41 (kX11_readWall_41 N) := by
  refine av_live ?_
  exact av_return_ am_hv dX11_readWall_41
set_option maxRecDepth 20000 in
theorem vX11_readWall_0 (l : Launch) (hfl : l.stackTraces = false) (N : Nat)  : am_V l cX11_readWall 1 RX11 (am_E none yX11_readWall.name) 7 188 0 (kX11_readWall_0 N) := by
  refine av_live ?_
  refine av_aload_n dX11_readWall_0 rfl ?_
  refine av_iconst (v := 1) dX11_readWall_1 (by decide) ?_
  refine av_iconst (v := 0) dX11_readWall_2 (by decide) ?_
  refine av_callV am_hT (mX11_readCell l hfl N) am_ci11 ⟨by decide +kernel, by decide +kernel, by decide +kernel⟩ q896 q897 q628 q898 q899 (by decide) (by decide) dX11_readWall_3 ?_
  refine av_aload_n dX11_readWall_6 rfl ?_
  refine av_geti am_ci11 (by decide) am_f11_18 q847 dX11_readWall_7 ?_
  refine av_ifne (tgt := 41) dX11_readWall_10 (by decide) ?_ ?_
  · exact vX11_readWall_41 l hfl N
  refine av_aload_n dX11_readWall_13 rfl ?_
  refine av_getr am_ci11 (by decide) am_f11_1 q611 dX11_readWall_14 ?_
  refine av_aload_n dX11_readWall_17 rfl ?_
  refine av_geti am_ci11 (by decide) am_f11_22 q890 dX11_readWall_18 ?_
  refine av_aload_n dX11_readWall_21 rfl ?_
  refine av_geti am_ci11 (by decide) am_f11_23 q891 dX11_readWall_22 ?_
  refine av_callS am_hT (mX11_wallAt l hfl N) ⟨by decide +kernel, by decide +kernel, by decide +kernel⟩ q702 q703 q628 q704 (by decide) (by decide) dX11_readWall_25 ?_
  refine av_iconst (v := 1) dX11_readWall_28 (by decide) ?_
  refine av_iastore dX11_readWall_29 ?_
  refine av_aload_n dX11_readWall_30 rfl ?_
  refine av_getr am_ci11 (by decide) am_f11_1 q611 dX11_readWall_31 ?_
  refine av_bipush (v := 6) dX11_readWall_34 (by decide) ?_
  refine av_dup2 dX11_readWall_36 ?_
  refine av_iaload dX11_readWall_37 ?_
  refine av_iconst (v := 1) dX11_readWall_38 (by decide) ?_
  refine av_iadd dX11_readWall_39 ?_
  refine av_iastore dX11_readWall_40 ?_
  exact vX11_readWall_41 l hfl N
theorem mX11_readWall (l : Launch) (hfl : l.stackTraces = false) (N : Nat) : am_M l yX11_readWall cX11_readWall 1 none 7 188 (fX11_readWall N) := av_meth hfl (by decide +kernel) rfl (vX11_readWall_0 l hfl N)
/-! MessengerBoardModel.readMain()V -/
noncomputable def kX11_readMain_35 (N : Nat) : am_K := c_live [] <|
  c_vret
noncomputable def kX11_readMain_0 (N : Nat) : am_K := c_live [0] <|
  c_rld 0 <|
  c_i (0) <|
  c_i (0) <|
  c_callV 11 2 (fX11_readCell N) <|
  c_rld 0 <|
  c_geti 11 18 <|
  c_ifne (
  kX11_readMain_35 N) <|
  c_rld 0 <|
  c_getr 11 1 <|
  c_i (10) <|
  c_rld 0 <|
  c_geti 11 22 <|
  c_ias <|
  c_rld 0 <|
  c_getr 11 1 <|
  c_i (11) <|
  c_rld 0 <|
  c_geti 11 23 <|
  c_ias <|
  kX11_readMain_35 N
noncomputable def fX11_readMain (N : Nat) : am_F := am_fn 1 (kX11_readMain_0 N)
set_option maxRecDepth 20000 in
theorem vX11_readMain_35 (l : Launch) (hfl : l.stackTraces = false) (N : Nat)  : am_V l cX11_readMain 1 RX11 (am_E none yX11_readMain.name) 7 188 35 (kX11_readMain_35 N) := by
  refine av_live ?_
  exact av_return_ am_hv dX11_readMain_35
set_option maxRecDepth 20000 in
theorem vX11_readMain_0 (l : Launch) (hfl : l.stackTraces = false) (N : Nat)  : am_V l cX11_readMain 1 RX11 (am_E none yX11_readMain.name) 7 188 0 (kX11_readMain_0 N) := by
  refine av_live ?_
  refine av_aload_n dX11_readMain_0 rfl ?_
  refine av_iconst (v := 0) dX11_readMain_1 (by decide) ?_
  refine av_iconst (v := 0) dX11_readMain_2 (by decide) ?_
  refine av_callV am_hT (mX11_readCell l hfl N) am_ci11 ⟨by decide +kernel, by decide +kernel, by decide +kernel⟩ q896 q897 q628 q898 q899 (by decide) (by decide) dX11_readMain_3 ?_
  refine av_aload_n dX11_readMain_6 rfl ?_
  refine av_geti am_ci11 (by decide) am_f11_18 q847 dX11_readMain_7 ?_
  refine av_ifne (tgt := 35) dX11_readMain_10 (by decide) ?_ ?_
  · exact vX11_readMain_35 l hfl N
  refine av_aload_n dX11_readMain_13 rfl ?_
  refine av_getr am_ci11 (by decide) am_f11_1 q611 dX11_readMain_14 ?_
  refine av_bipush (v := 10) dX11_readMain_17 (by decide) ?_
  refine av_aload_n dX11_readMain_19 rfl ?_
  refine av_geti am_ci11 (by decide) am_f11_22 q890 dX11_readMain_20 ?_
  refine av_iastore dX11_readMain_23 ?_
  refine av_aload_n dX11_readMain_24 rfl ?_
  refine av_getr am_ci11 (by decide) am_f11_1 q611 dX11_readMain_25 ?_
  refine av_bipush (v := 11) dX11_readMain_28 (by decide) ?_
  refine av_aload_n dX11_readMain_30 rfl ?_
  refine av_geti am_ci11 (by decide) am_f11_23 q891 dX11_readMain_31 ?_
  refine av_iastore dX11_readMain_34 ?_
  exact vX11_readMain_35 l hfl N
theorem mX11_readMain (l : Launch) (hfl : l.stackTraces = false) (N : Nat) : am_M l yX11_readMain cX11_readMain 1 none 7 188 (fX11_readMain N) := av_meth hfl (by decide +kernel) rfl (vX11_readMain_0 l hfl N)
/-! MessengerBoardModel.readUnit()V -/
noncomputable def kX11_readUnit_134 (N : Nat) : am_K := c_live [] <|
  c_vret
noncomputable def kX11_readUnit_17 (N : Nat) : am_K := c_live [0] <|
  c_i (3) <|
  c_callV 11 2 (fX11_check N) <|
  c_rld 0 <|
  c_callV 11 0 (fX11_advance N) <|
  c_rld 0 <|
  c_i (0) <|
  c_i (0) <|
  c_callV 11 2 (fX11_readCell N) <|
  c_rld 0 <|
  c_i (1) <|
  c_i (3) <|
  c_callV 11 2 (fX11_readNumber N) <|
  c_ist 1 <|
  c_rld 0 <|
  c_geti 11 18 <|
  c_ifne (
  kX11_readUnit_134 N) <|
  c_rld 0 <|
  c_getr 11 1 <|
  c_i (2) <|
  c_ial <|
  c_ist 2 <|
  c_rld 0 <|
  c_getr 11 1 <|
  c_ild 2 <|
  c_i (0) <|
  c_callS 2 (fX11_unitAt N) <|
  c_rld 0 <|
  c_geti 11 22 <|
  c_ias <|
  c_rld 0 <|
  c_getr 11 1 <|
  c_ild 2 <|
  c_i (1) <|
  c_callS 2 (fX11_unitAt N) <|
  c_rld 0 <|
  c_geti 11 23 <|
  c_ias <|
  c_rld 0 <|
  c_getr 11 1 <|
  c_ild 2 <|
  c_i (2) <|
  c_callS 2 (fX11_unitAt N) <|
  c_ild 1 <|
  c_ias <|
  c_rld 0 <|
  c_getr 11 1 <|
  c_ild 2 <|
  c_i (3) <|
  c_callS 2 (fX11_unitAt N) <|
  c_i (-1) <|
  c_ias <|
  c_rld 0 <|
  c_getr 11 1 <|
  c_ild 2 <|
  c_i (0) <|
  c_callS 2 (fX11_wasSlot N) <|
  c_i (100) <|
  c_rld 0 <|
  c_geti 11 23 <|
  c_ii (fun x y => x * y) <|
  c_rld 0 <|
  c_geti 11 22 <|
  c_ii (fun x y => x + y) <|
  c_ias <|
  c_rld 0 <|
  c_getr 11 1 <|
  c_i (2) <|
  c_dup2 <|
  c_ial <|
  c_i (1) <|
  c_ii (fun x y => x + y) <|
  c_ias <|
  kX11_readUnit_134 N
noncomputable def kX11_readUnit_0 (N : Nat) : am_K := c_live [0] <|
  c_rld 0 <|
  c_rld 0 <|
  c_getr 11 1 <|
  c_i (2) <|
  c_ial <|
  c_i (6) <|
  c_icge (
  c_i (0) <|
  kX11_readUnit_17 N) <|
  c_i (1) <|
  kX11_readUnit_17 N
noncomputable def fX11_readUnit (N : Nat) : am_F := am_fn 3 (kX11_readUnit_0 N)
set_option maxRecDepth 20000 in
theorem vX11_readUnit_134 (l : Launch) (hfl : l.stackTraces = false) (N : Nat)  : am_V l cX11_readUnit 3 RX11 (am_E none yX11_readUnit.name) 7 188 134 (kX11_readUnit_134 N) := by
  refine av_live ?_
  exact av_return_ am_hv dX11_readUnit_134
set_option maxRecDepth 20000 in
theorem vX11_readUnit_17 (l : Launch) (hfl : l.stackTraces = false) (N : Nat)  : am_V l cX11_readUnit 3 RX11 (am_E none yX11_readUnit.name) 7 188 17 (kX11_readUnit_17 N) := by
  refine av_live ?_
  refine av_iconst (v := 3) dX11_readUnit_17 (by decide) ?_
  refine av_callV am_hT (mX11_check l hfl N) am_ci11 ⟨by decide +kernel, by decide +kernel, by decide +kernel⟩ q864 q865 q628 q866 q867 (by decide) (by decide) dX11_readUnit_18 ?_
  refine av_aload_n dX11_readUnit_21 rfl ?_
  refine av_callV am_hT (mX11_advance l hfl N) am_ci11 ⟨by decide +kernel, by decide +kernel, by decide +kernel⟩ q868 q869 q628 q870 q871 (by decide) (by decide) dX11_readUnit_22 ?_
  refine av_aload_n dX11_readUnit_25 rfl ?_
  refine av_iconst (v := 0) dX11_readUnit_26 (by decide) ?_
  refine av_iconst (v := 0) dX11_readUnit_27 (by decide) ?_
  refine av_callV am_hT (mX11_readCell l hfl N) am_ci11 ⟨by decide +kernel, by decide +kernel, by decide +kernel⟩ q896 q897 q628 q898 q899 (by decide) (by decide) dX11_readUnit_28 ?_
  refine av_aload_n dX11_readUnit_31 rfl ?_
  refine av_iconst (v := 1) dX11_readUnit_32 (by decide) ?_
  refine av_iconst (v := 3) dX11_readUnit_33 (by decide) ?_
  refine av_callV am_hT (mX11_readNumber l hfl N) am_ci11 ⟨by decide +kernel, by decide +kernel, by decide +kernel⟩ q886 q887 q628 q888 q889 (by decide) (by decide) dX11_readUnit_34 ?_
  refine av_istore_n dX11_readUnit_37 rfl (by decide) ?_
  refine av_aload_n dX11_readUnit_38 rfl ?_
  refine av_geti am_ci11 (by decide) am_f11_18 q847 dX11_readUnit_39 ?_
  refine av_ifne (tgt := 134) dX11_readUnit_42 (by decide) ?_ ?_
  · exact vX11_readUnit_134 l hfl N
  refine av_aload_n dX11_readUnit_45 rfl ?_
  refine av_getr am_ci11 (by decide) am_f11_1 q611 dX11_readUnit_46 ?_
  refine av_iconst (v := 2) dX11_readUnit_49 (by decide) ?_
  refine av_iaload dX11_readUnit_50 ?_
  refine av_istore_n dX11_readUnit_51 rfl (by decide) ?_
  refine av_aload_n dX11_readUnit_52 rfl ?_
  refine av_getr am_ci11 (by decide) am_f11_1 q611 dX11_readUnit_53 ?_
  refine av_iload_n dX11_readUnit_56 rfl ?_
  refine av_iconst (v := 0) dX11_readUnit_57 (by decide) ?_
  refine av_callS am_hT (mX11_unitAt l hfl N) ⟨by decide +kernel, by decide +kernel, by decide +kernel⟩ q638 q639 q628 q640 (by decide) (by decide) dX11_readUnit_58 ?_
  refine av_aload_n dX11_readUnit_61 rfl ?_
  refine av_geti am_ci11 (by decide) am_f11_22 q890 dX11_readUnit_62 ?_
  refine av_iastore dX11_readUnit_65 ?_
  refine av_aload_n dX11_readUnit_66 rfl ?_
  refine av_getr am_ci11 (by decide) am_f11_1 q611 dX11_readUnit_67 ?_
  refine av_iload_n dX11_readUnit_70 rfl ?_
  refine av_iconst (v := 1) dX11_readUnit_71 (by decide) ?_
  refine av_callS am_hT (mX11_unitAt l hfl N) ⟨by decide +kernel, by decide +kernel, by decide +kernel⟩ q638 q639 q628 q640 (by decide) (by decide) dX11_readUnit_72 ?_
  refine av_aload_n dX11_readUnit_75 rfl ?_
  refine av_geti am_ci11 (by decide) am_f11_23 q891 dX11_readUnit_76 ?_
  refine av_iastore dX11_readUnit_79 ?_
  refine av_aload_n dX11_readUnit_80 rfl ?_
  refine av_getr am_ci11 (by decide) am_f11_1 q611 dX11_readUnit_81 ?_
  refine av_iload_n dX11_readUnit_84 rfl ?_
  refine av_iconst (v := 2) dX11_readUnit_85 (by decide) ?_
  refine av_callS am_hT (mX11_unitAt l hfl N) ⟨by decide +kernel, by decide +kernel, by decide +kernel⟩ q638 q639 q628 q640 (by decide) (by decide) dX11_readUnit_86 ?_
  refine av_iload_n dX11_readUnit_89 rfl ?_
  refine av_iastore dX11_readUnit_90 ?_
  refine av_aload_n dX11_readUnit_91 rfl ?_
  refine av_getr am_ci11 (by decide) am_f11_1 q611 dX11_readUnit_92 ?_
  refine av_iload_n dX11_readUnit_95 rfl ?_
  refine av_iconst (v := 3) dX11_readUnit_96 (by decide) ?_
  refine av_callS am_hT (mX11_unitAt l hfl N) ⟨by decide +kernel, by decide +kernel, by decide +kernel⟩ q638 q639 q628 q640 (by decide) (by decide) dX11_readUnit_97 ?_
  refine av_iconst (v := -1) dX11_readUnit_100 (by decide) ?_
  refine av_iastore dX11_readUnit_101 ?_
  refine av_aload_n dX11_readUnit_102 rfl ?_
  refine av_getr am_ci11 (by decide) am_f11_1 q611 dX11_readUnit_103 ?_
  refine av_iload_n dX11_readUnit_106 rfl ?_
  refine av_iconst (v := 0) dX11_readUnit_107 (by decide) ?_
  refine av_callS am_hT (mX11_wasSlot l hfl N) ⟨by decide +kernel, by decide +kernel, by decide +kernel⟩ q733 q734 q628 q735 (by decide) (by decide) dX11_readUnit_108 ?_
  refine av_bipush (v := 100) dX11_readUnit_111 (by decide) ?_
  refine av_aload_n dX11_readUnit_113 rfl ?_
  refine av_geti am_ci11 (by decide) am_f11_23 q891 dX11_readUnit_114 ?_
  refine av_imul dX11_readUnit_117 ?_
  refine av_aload_n dX11_readUnit_118 rfl ?_
  refine av_geti am_ci11 (by decide) am_f11_22 q890 dX11_readUnit_119 ?_
  refine av_iadd dX11_readUnit_122 ?_
  refine av_iastore dX11_readUnit_123 ?_
  refine av_aload_n dX11_readUnit_124 rfl ?_
  refine av_getr am_ci11 (by decide) am_f11_1 q611 dX11_readUnit_125 ?_
  refine av_iconst (v := 2) dX11_readUnit_128 (by decide) ?_
  refine av_dup2 dX11_readUnit_129 ?_
  refine av_iaload dX11_readUnit_130 ?_
  refine av_iconst (v := 1) dX11_readUnit_131 (by decide) ?_
  refine av_iadd dX11_readUnit_132 ?_
  refine av_iastore dX11_readUnit_133 ?_
  exact vX11_readUnit_134 l hfl N
set_option maxRecDepth 20000 in
theorem vX11_readUnit_0 (l : Launch) (hfl : l.stackTraces = false) (N : Nat)  : am_V l cX11_readUnit 3 RX11 (am_E none yX11_readUnit.name) 7 188 0 (kX11_readUnit_0 N) := by
  refine av_live ?_
  refine av_aload_n dX11_readUnit_0 rfl ?_
  refine av_aload_n dX11_readUnit_1 rfl ?_
  refine av_getr am_ci11 (by decide) am_f11_1 q611 dX11_readUnit_2 ?_
  refine av_iconst (v := 2) dX11_readUnit_5 (by decide) ?_
  refine av_iaload dX11_readUnit_6 ?_
  refine av_bipush (v := 6) dX11_readUnit_7 (by decide) ?_
  refine av_icge (tgt := 16) dX11_readUnit_9 (by decide) ?_ ?_
  · refine av_iconst (v := 0) dX11_readUnit_16 (by decide) ?_
    exact vX11_readUnit_17 l hfl N
  refine av_iconst (v := 1) dX11_readUnit_12 (by decide) ?_
  refine av_goto (tgt := 17) dX11_readUnit_13 (by decide) ?_
  exact vX11_readUnit_17 l hfl N
theorem mX11_readUnit (l : Launch) (hfl : l.stackTraces = false) (N : Nat) : am_M l yX11_readUnit cX11_readUnit 3 none 7 188 (fX11_readUnit N) := av_meth hfl (by decide +kernel) rfl (vX11_readUnit_0 l hfl N)
/-! MessengerBoardModel.readPicket()V -/
noncomputable def kX11_readPicket_241 (N : Nat) : am_K := c_live [] <|
  c_vret
noncomputable def bX11_readPicket_197 (N : Nat) (r197 : am_K) : am_K :=
  c_ild 6 <|
  c_i (7) <|
  c_icge (
  c_rld 0 <|
  c_getr 11 1 <|
  c_i (3) <|
  c_dup2 <|
  c_ial <|
  c_i (1) <|
  c_ii (fun x y => x + y) <|
  c_ias <|
  kX11_readPicket_241 N) <|
  c_rld 0 <|
  c_getr 11 1 <|
  c_rld 0 <|
  c_getr 11 1 <|
  c_i (3) <|
  c_ial <|
  c_ild 6 <|
  c_callS 2 (fX11_picketAt N) <|
  c_rld 5 <|
  c_ild 6 <|
  c_ial <|
  c_ias <|
  c_inc 6 (1) <|
  c_live [0, 5, 6] r197
noncomputable def kX11_readPicket_197 (N : Nat) : am_K := c_live [0, 5, 6] (am_loop (bX11_readPicket_197 N) N)
noncomputable def kX11_readPicket_131 (N : Nat) : am_K := c_live [0, 1, 2, 3] <|
  c_i (4) <|
  c_callV 11 2 (fX11_check N) <|
  c_rld 0 <|
  c_callV 11 0 (fX11_value N) <|
  c_ist 4 <|
  c_rld 0 <|
  c_callV 11 0 (fX11_advance N) <|
  c_rld 0 <|
  c_geti 11 18 <|
  c_ifne (
  kX11_readPicket_241 N) <|
  c_i (7) <|
  c_newa 20 <|
  c_dup <|
  c_i (0) <|
  c_rld 0 <|
  c_geti 11 22 <|
  c_ias <|
  c_dup <|
  c_i (1) <|
  c_rld 0 <|
  c_geti 11 23 <|
  c_ias <|
  c_dup <|
  c_i (2) <|
  c_ild 1 <|
  c_ias <|
  c_dup <|
  c_i (3) <|
  c_ild 2 <|
  c_ias <|
  c_dup <|
  c_i (4) <|
  c_ild 3 <|
  c_ias <|
  c_dup <|
  c_i (5) <|
  c_ild 4 <|
  c_ias <|
  c_dup <|
  c_i (6) <|
  c_i (0) <|
  c_ias <|
  c_rst 5 <|
  c_i (0) <|
  c_ist 6 <|
  kX11_readPicket_197 N
noncomputable def kX11_readPicket_126 (N : Nat) : am_K := c_live [0, 1, 2, 3] <|
  c_i (1) <|
  kX11_readPicket_131 N
noncomputable def kX11_readPicket_106 (N : Nat) : am_K := c_live [0, 1, 2, 3] <|
  c_i (2) <|
  c_callV 11 2 (fX11_check N) <|
  c_rld 0 <|
  c_rld 0 <|
  c_geti 11 18 <|
  c_ifne (
  kX11_readPicket_126 N) <|
  c_rld 0 <|
  c_callV 11 0 (fX11_value N) <|
  c_ild 3 <|
  c_iclt (
  c_i (0) <|
  kX11_readPicket_131 N) <|
  kX11_readPicket_126 N
noncomputable def kX11_readPicket_101 (N : Nat) : am_K := c_live [0, 1, 2, 3] <|
  c_i (1) <|
  kX11_readPicket_106 N
noncomputable def kX11_readPicket_75 (N : Nat) : am_K := c_live [0, 1, 2, 3] <|
  c_i (1) <|
  c_callV 11 2 (fX11_check N) <|
  c_rld 0 <|
  c_rld 0 <|
  c_geti 11 18 <|
  c_ifne (
  kX11_readPicket_101 N) <|
  c_rld 0 <|
  c_callV 11 0 (fX11_value N) <|
  c_i (0) <|
  c_ild 2 <|
  c_i (1) <|
  c_ii (fun x y => x - y) <|
  c_callS 3 (fX11_inRange N) <|
  c_ifeq (
  c_i (0) <|
  kX11_readPicket_106 N) <|
  kX11_readPicket_101 N
noncomputable def kX11_readPicket_70 (N : Nat) : am_K := c_live [0, 1, 2, 3] <|
  c_i (1) <|
  kX11_readPicket_75 N
noncomputable def kX11_readPicket_16 (N : Nat) : am_K := c_live [0] <|
  c_i (3) <|
  c_callV 11 2 (fX11_check N) <|
  c_rld 0 <|
  c_callV 11 0 (fX11_advance N) <|
  c_rld 0 <|
  c_i (0) <|
  c_i (1) <|
  c_callV 11 2 (fX11_readCell N) <|
  c_rld 0 <|
  c_i (0) <|
  c_i (3) <|
  c_callV 11 2 (fX11_readNumber N) <|
  c_ist 1 <|
  c_rld 0 <|
  c_i (1) <|
  c_i (20) <|
  c_callV 11 2 (fX11_readNumber N) <|
  c_ist 2 <|
  c_rld 0 <|
  c_i (0) <|
  c_ild 2 <|
  c_i (1) <|
  c_ii (fun x y => x - y) <|
  c_callV 11 2 (fX11_readNumber N) <|
  c_ist 3 <|
  c_rld 0 <|
  c_rld 0 <|
  c_geti 11 18 <|
  c_ifne (
  kX11_readPicket_70 N) <|
  c_rld 0 <|
  c_geti 11 17 <|
  c_i (2) <|
  c_icne (
  c_i (0) <|
  kX11_readPicket_75 N) <|
  kX11_readPicket_70 N
noncomputable def kX11_readPicket_0 (N : Nat) : am_K := c_live [0] <|
  c_rld 0 <|
  c_rld 0 <|
  c_getr 11 1 <|
  c_i (3) <|
  c_ial <|
  c_i (4) <|
  c_icge (
  c_i (0) <|
  kX11_readPicket_16 N) <|
  c_i (1) <|
  kX11_readPicket_16 N
noncomputable def fX11_readPicket (N : Nat) : am_F := am_fn 7 (kX11_readPicket_0 N)
set_option maxRecDepth 20000 in
theorem vX11_readPicket_241 (l : Launch) (hfl : l.stackTraces = false) (N : Nat)  : am_V l cX11_readPicket 7 RX11 (am_E none yX11_readPicket.name) 7 188 241 (kX11_readPicket_241 N) := by
  refine av_live ?_
  exact av_return_ am_hv dX11_readPicket_241
set_option maxRecDepth 20000 in
theorem vX11_readPicket_197 (l : Launch) (hfl : l.stackTraces = false) (N : Nat)  : am_V l cX11_readPicket 7 RX11 (am_E none yX11_readPicket.name) 7 188 197 (kX11_readPicket_197 N) := by
  refine av_live ?_
  refine av_loop (fun r197 h197 => ?_) N
  refine av_iload dX11_readPicket_197 ?_
  refine av_bipush (v := 7) dX11_readPicket_199 (by decide) ?_
  refine av_icge (tgt := 231) dX11_readPicket_201 (by decide) ?_ ?_
  · refine av_aload_n dX11_readPicket_231 rfl ?_
    refine av_getr am_ci11 (by decide) am_f11_1 q611 dX11_readPicket_232 ?_
    refine av_iconst (v := 3) dX11_readPicket_235 (by decide) ?_
    refine av_dup2 dX11_readPicket_236 ?_
    refine av_iaload dX11_readPicket_237 ?_
    refine av_iconst (v := 1) dX11_readPicket_238 (by decide) ?_
    refine av_iadd dX11_readPicket_239 ?_
    refine av_iastore dX11_readPicket_240 ?_
    exact vX11_readPicket_241 l hfl N
  refine av_aload_n dX11_readPicket_204 rfl ?_
  refine av_getr am_ci11 (by decide) am_f11_1 q611 dX11_readPicket_205 ?_
  refine av_aload_n dX11_readPicket_208 rfl ?_
  refine av_getr am_ci11 (by decide) am_f11_1 q611 dX11_readPicket_209 ?_
  refine av_iconst (v := 3) dX11_readPicket_212 (by decide) ?_
  refine av_iaload dX11_readPicket_213 ?_
  refine av_iload dX11_readPicket_214 ?_
  refine av_callS am_hT (mX11_picketAt l hfl N) ⟨by decide +kernel, by decide +kernel, by decide +kernel⟩ q664 q665 q628 q666 (by decide) (by decide) dX11_readPicket_216 ?_
  refine av_aload dX11_readPicket_219 ?_
  refine av_iload dX11_readPicket_221 ?_
  refine av_iaload dX11_readPicket_223 ?_
  refine av_iastore dX11_readPicket_224 ?_
  refine av_iinc dX11_readPicket_225 (by decide) (by decide) ?_
  refine av_goto (tgt := 197) dX11_readPicket_228 (by decide) ?_
  exact av_live h197
set_option maxRecDepth 20000 in
theorem vX11_readPicket_131 (l : Launch) (hfl : l.stackTraces = false) (N : Nat)  : am_V l cX11_readPicket 7 RX11 (am_E none yX11_readPicket.name) 7 188 131 (kX11_readPicket_131 N) := by
  refine av_live ?_
  refine av_iconst (v := 4) dX11_readPicket_131 (by decide) ?_
  refine av_callV am_hT (mX11_check l hfl N) am_ci11 ⟨by decide +kernel, by decide +kernel, by decide +kernel⟩ q864 q865 q628 q866 q867 (by decide) (by decide) dX11_readPicket_132 ?_
  refine av_aload_n dX11_readPicket_135 rfl ?_
  refine av_callV am_hT (mX11_value l hfl N) am_ci11 ⟨by decide +kernel, by decide +kernel, by decide +kernel⟩ q878 q879 q628 q880 q881 (by decide) (by decide) dX11_readPicket_136 ?_
  refine av_istore dX11_readPicket_139 (by decide) ?_
  refine av_aload_n dX11_readPicket_141 rfl ?_
  refine av_callV am_hT (mX11_advance l hfl N) am_ci11 ⟨by decide +kernel, by decide +kernel, by decide +kernel⟩ q868 q869 q628 q870 q871 (by decide) (by decide) dX11_readPicket_142 ?_
  refine av_aload_n dX11_readPicket_145 rfl ?_
  refine av_geti am_ci11 (by decide) am_f11_18 q847 dX11_readPicket_146 ?_
  refine av_ifne (tgt := 241) dX11_readPicket_149 (by decide) ?_ ?_
  · exact vX11_readPicket_241 l hfl N
  refine av_bipush (v := 7) dX11_readPicket_152 (by decide) ?_
  refine av_newarr_int q29 dX11_readPicket_154 ?_
  refine av_dup dX11_readPicket_156 ?_
  refine av_iconst (v := 0) dX11_readPicket_157 (by decide) ?_
  refine av_aload_n dX11_readPicket_158 rfl ?_
  refine av_geti am_ci11 (by decide) am_f11_22 q890 dX11_readPicket_159 ?_
  refine av_iastore dX11_readPicket_162 ?_
  refine av_dup dX11_readPicket_163 ?_
  refine av_iconst (v := 1) dX11_readPicket_164 (by decide) ?_
  refine av_aload_n dX11_readPicket_165 rfl ?_
  refine av_geti am_ci11 (by decide) am_f11_23 q891 dX11_readPicket_166 ?_
  refine av_iastore dX11_readPicket_169 ?_
  refine av_dup dX11_readPicket_170 ?_
  refine av_iconst (v := 2) dX11_readPicket_171 (by decide) ?_
  refine av_iload_n dX11_readPicket_172 rfl ?_
  refine av_iastore dX11_readPicket_173 ?_
  refine av_dup dX11_readPicket_174 ?_
  refine av_iconst (v := 3) dX11_readPicket_175 (by decide) ?_
  refine av_iload_n dX11_readPicket_176 rfl ?_
  refine av_iastore dX11_readPicket_177 ?_
  refine av_dup dX11_readPicket_178 ?_
  refine av_iconst (v := 4) dX11_readPicket_179 (by decide) ?_
  refine av_iload_n dX11_readPicket_180 rfl ?_
  refine av_iastore dX11_readPicket_181 ?_
  refine av_dup dX11_readPicket_182 ?_
  refine av_iconst (v := 5) dX11_readPicket_183 (by decide) ?_
  refine av_iload dX11_readPicket_184 ?_
  refine av_iastore dX11_readPicket_186 ?_
  refine av_dup dX11_readPicket_187 ?_
  refine av_bipush (v := 6) dX11_readPicket_188 (by decide) ?_
  refine av_iconst (v := 0) dX11_readPicket_190 (by decide) ?_
  refine av_iastore dX11_readPicket_191 ?_
  refine av_astore dX11_readPicket_192 (by decide) ?_
  refine av_iconst (v := 0) dX11_readPicket_194 (by decide) ?_
  refine av_istore dX11_readPicket_195 (by decide) ?_
  exact vX11_readPicket_197 l hfl N
set_option maxRecDepth 20000 in
theorem vX11_readPicket_126 (l : Launch) (hfl : l.stackTraces = false) (N : Nat)  : am_V l cX11_readPicket 7 RX11 (am_E none yX11_readPicket.name) 7 188 126 (kX11_readPicket_126 N) := by
  refine av_live ?_
  refine av_iconst (v := 1) dX11_readPicket_126 (by decide) ?_
  refine av_goto (tgt := 131) dX11_readPicket_127 (by decide) ?_
  exact vX11_readPicket_131 l hfl N
set_option maxRecDepth 20000 in
theorem vX11_readPicket_106 (l : Launch) (hfl : l.stackTraces = false) (N : Nat)  : am_V l cX11_readPicket 7 RX11 (am_E none yX11_readPicket.name) 7 188 106 (kX11_readPicket_106 N) := by
  refine av_live ?_
  refine av_iconst (v := 2) dX11_readPicket_106 (by decide) ?_
  refine av_callV am_hT (mX11_check l hfl N) am_ci11 ⟨by decide +kernel, by decide +kernel, by decide +kernel⟩ q864 q865 q628 q866 q867 (by decide) (by decide) dX11_readPicket_107 ?_
  refine av_aload_n dX11_readPicket_110 rfl ?_
  refine av_aload_n dX11_readPicket_111 rfl ?_
  refine av_geti am_ci11 (by decide) am_f11_18 q847 dX11_readPicket_112 ?_
  refine av_ifne (tgt := 126) dX11_readPicket_115 (by decide) ?_ ?_
  · exact vX11_readPicket_126 l hfl N
  refine av_aload_n dX11_readPicket_118 rfl ?_
  refine av_callV am_hT (mX11_value l hfl N) am_ci11 ⟨by decide +kernel, by decide +kernel, by decide +kernel⟩ q878 q879 q628 q880 q881 (by decide) (by decide) dX11_readPicket_119 ?_
  refine av_iload_n dX11_readPicket_122 rfl ?_
  refine av_iclt (tgt := 130) dX11_readPicket_123 (by decide) ?_ ?_
  · refine av_iconst (v := 0) dX11_readPicket_130 (by decide) ?_
    exact vX11_readPicket_131 l hfl N
  exact vX11_readPicket_126 l hfl N
set_option maxRecDepth 20000 in
theorem vX11_readPicket_101 (l : Launch) (hfl : l.stackTraces = false) (N : Nat)  : am_V l cX11_readPicket 7 RX11 (am_E none yX11_readPicket.name) 7 188 101 (kX11_readPicket_101 N) := by
  refine av_live ?_
  refine av_iconst (v := 1) dX11_readPicket_101 (by decide) ?_
  refine av_goto (tgt := 106) dX11_readPicket_102 (by decide) ?_
  exact vX11_readPicket_106 l hfl N
set_option maxRecDepth 20000 in
theorem vX11_readPicket_75 (l : Launch) (hfl : l.stackTraces = false) (N : Nat)  : am_V l cX11_readPicket 7 RX11 (am_E none yX11_readPicket.name) 7 188 75 (kX11_readPicket_75 N) := by
  refine av_live ?_
  refine av_iconst (v := 1) dX11_readPicket_75 (by decide) ?_
  refine av_callV am_hT (mX11_check l hfl N) am_ci11 ⟨by decide +kernel, by decide +kernel, by decide +kernel⟩ q864 q865 q628 q866 q867 (by decide) (by decide) dX11_readPicket_76 ?_
  refine av_aload_n dX11_readPicket_79 rfl ?_
  refine av_aload_n dX11_readPicket_80 rfl ?_
  refine av_geti am_ci11 (by decide) am_f11_18 q847 dX11_readPicket_81 ?_
  refine av_ifne (tgt := 101) dX11_readPicket_84 (by decide) ?_ ?_
  · exact vX11_readPicket_101 l hfl N
  refine av_aload_n dX11_readPicket_87 rfl ?_
  refine av_callV am_hT (mX11_value l hfl N) am_ci11 ⟨by decide +kernel, by decide +kernel, by decide +kernel⟩ q878 q879 q628 q880 q881 (by decide) (by decide) dX11_readPicket_88 ?_
  refine av_iconst (v := 0) dX11_readPicket_91 (by decide) ?_
  refine av_iload_n dX11_readPicket_92 rfl ?_
  refine av_iconst (v := 1) dX11_readPicket_93 (by decide) ?_
  refine av_isub dX11_readPicket_94 ?_
  refine av_callS am_hT (mX11_inRange l hfl N) ⟨by decide +kernel, by decide +kernel, by decide +kernel⟩ q631 q632 q628 q633 (by decide) (by decide) dX11_readPicket_95 ?_
  refine av_ifeq (tgt := 105) dX11_readPicket_98 (by decide) ?_ ?_
  · refine av_iconst (v := 0) dX11_readPicket_105 (by decide) ?_
    exact vX11_readPicket_106 l hfl N
  exact vX11_readPicket_101 l hfl N
set_option maxRecDepth 20000 in
theorem vX11_readPicket_70 (l : Launch) (hfl : l.stackTraces = false) (N : Nat)  : am_V l cX11_readPicket 7 RX11 (am_E none yX11_readPicket.name) 7 188 70 (kX11_readPicket_70 N) := by
  refine av_live ?_
  refine av_iconst (v := 1) dX11_readPicket_70 (by decide) ?_
  refine av_goto (tgt := 75) dX11_readPicket_71 (by decide) ?_
  exact vX11_readPicket_75 l hfl N
set_option maxRecDepth 20000 in
theorem vX11_readPicket_16 (l : Launch) (hfl : l.stackTraces = false) (N : Nat)  : am_V l cX11_readPicket 7 RX11 (am_E none yX11_readPicket.name) 7 188 16 (kX11_readPicket_16 N) := by
  refine av_live ?_
  refine av_iconst (v := 3) dX11_readPicket_16 (by decide) ?_
  refine av_callV am_hT (mX11_check l hfl N) am_ci11 ⟨by decide +kernel, by decide +kernel, by decide +kernel⟩ q864 q865 q628 q866 q867 (by decide) (by decide) dX11_readPicket_17 ?_
  refine av_aload_n dX11_readPicket_20 rfl ?_
  refine av_callV am_hT (mX11_advance l hfl N) am_ci11 ⟨by decide +kernel, by decide +kernel, by decide +kernel⟩ q868 q869 q628 q870 q871 (by decide) (by decide) dX11_readPicket_21 ?_
  refine av_aload_n dX11_readPicket_24 rfl ?_
  refine av_iconst (v := 0) dX11_readPicket_25 (by decide) ?_
  refine av_iconst (v := 1) dX11_readPicket_26 (by decide) ?_
  refine av_callV am_hT (mX11_readCell l hfl N) am_ci11 ⟨by decide +kernel, by decide +kernel, by decide +kernel⟩ q896 q897 q628 q898 q899 (by decide) (by decide) dX11_readPicket_27 ?_
  refine av_aload_n dX11_readPicket_30 rfl ?_
  refine av_iconst (v := 0) dX11_readPicket_31 (by decide) ?_
  refine av_iconst (v := 3) dX11_readPicket_32 (by decide) ?_
  refine av_callV am_hT (mX11_readNumber l hfl N) am_ci11 ⟨by decide +kernel, by decide +kernel, by decide +kernel⟩ q886 q887 q628 q888 q889 (by decide) (by decide) dX11_readPicket_33 ?_
  refine av_istore_n dX11_readPicket_36 rfl (by decide) ?_
  refine av_aload_n dX11_readPicket_37 rfl ?_
  refine av_iconst (v := 1) dX11_readPicket_38 (by decide) ?_
  refine av_bipush (v := 20) dX11_readPicket_39 (by decide) ?_
  refine av_callV am_hT (mX11_readNumber l hfl N) am_ci11 ⟨by decide +kernel, by decide +kernel, by decide +kernel⟩ q886 q887 q628 q888 q889 (by decide) (by decide) dX11_readPicket_41 ?_
  refine av_istore_n dX11_readPicket_44 rfl (by decide) ?_
  refine av_aload_n dX11_readPicket_45 rfl ?_
  refine av_iconst (v := 0) dX11_readPicket_46 (by decide) ?_
  refine av_iload_n dX11_readPicket_47 rfl ?_
  refine av_iconst (v := 1) dX11_readPicket_48 (by decide) ?_
  refine av_isub dX11_readPicket_49 ?_
  refine av_callV am_hT (mX11_readNumber l hfl N) am_ci11 ⟨by decide +kernel, by decide +kernel, by decide +kernel⟩ q886 q887 q628 q888 q889 (by decide) (by decide) dX11_readPicket_50 ?_
  refine av_istore_n dX11_readPicket_53 rfl (by decide) ?_
  refine av_aload_n dX11_readPicket_54 rfl ?_
  refine av_aload_n dX11_readPicket_55 rfl ?_
  refine av_geti am_ci11 (by decide) am_f11_18 q847 dX11_readPicket_56 ?_
  refine av_ifne (tgt := 70) dX11_readPicket_59 (by decide) ?_ ?_
  · exact vX11_readPicket_70 l hfl N
  refine av_aload_n dX11_readPicket_62 rfl ?_
  refine av_geti am_ci11 (by decide) am_f11_17 q846 dX11_readPicket_63 ?_
  refine av_iconst (v := 2) dX11_readPicket_66 (by decide) ?_
  refine av_icne (tgt := 74) dX11_readPicket_67 (by decide) ?_ ?_
  · refine av_iconst (v := 0) dX11_readPicket_74 (by decide) ?_
    exact vX11_readPicket_75 l hfl N
  exact vX11_readPicket_70 l hfl N
set_option maxRecDepth 20000 in
theorem vX11_readPicket_0 (l : Launch) (hfl : l.stackTraces = false) (N : Nat)  : am_V l cX11_readPicket 7 RX11 (am_E none yX11_readPicket.name) 7 188 0 (kX11_readPicket_0 N) := by
  refine av_live ?_
  refine av_aload_n dX11_readPicket_0 rfl ?_
  refine av_aload_n dX11_readPicket_1 rfl ?_
  refine av_getr am_ci11 (by decide) am_f11_1 q611 dX11_readPicket_2 ?_
  refine av_iconst (v := 3) dX11_readPicket_5 (by decide) ?_
  refine av_iaload dX11_readPicket_6 ?_
  refine av_iconst (v := 4) dX11_readPicket_7 (by decide) ?_
  refine av_icge (tgt := 15) dX11_readPicket_8 (by decide) ?_ ?_
  · refine av_iconst (v := 0) dX11_readPicket_15 (by decide) ?_
    exact vX11_readPicket_16 l hfl N
  refine av_iconst (v := 1) dX11_readPicket_11 (by decide) ?_
  refine av_goto (tgt := 16) dX11_readPicket_12 (by decide) ?_
  exact vX11_readPicket_16 l hfl N
theorem mX11_readPicket (l : Launch) (hfl : l.stackTraces = false) (N : Nat) : am_M l yX11_readPicket cX11_readPicket 7 none 7 188 (fX11_readPicket N) := av_meth hfl (by decide +kernel) rfl (vX11_readPicket_0 l hfl N)
/-! MessengerBoardModel.readPlan()V -/
noncomputable def kX11_readPlan_131 (N : Nat) : am_K := c_live [] <|
  c_vret
noncomputable def kX11_readPlan_18 (N : Nat) : am_K := c_live [0] <|
  c_i (3) <|
  c_callV 11 2 (fX11_check N) <|
  c_rld 0 <|
  c_callV 11 0 (fX11_advance N) <|
  c_rld 0 <|
  c_i (0) <|
  c_rld 0 <|
  c_getr 11 1 <|
  c_i (2) <|
  c_ial <|
  c_i (1) <|
  c_ii (fun x y => x - y) <|
  c_callV 11 2 (fX11_readNumber N) <|
  c_ist 1 <|
  c_rld 0 <|
  c_i (0) <|
  c_i (0) <|
  c_callV 11 2 (fX11_readCell N) <|
  c_rld 0 <|
  c_i (0) <|
  c_i (499) <|
  c_callV 11 2 (fX11_readNumber N) <|
  c_ist 2 <|
  c_rld 0 <|
  c_geti 11 18 <|
  c_ifne (
  kX11_readPlan_131 N) <|
  c_rld 0 <|
  c_getr 11 1 <|
  c_i (8) <|
  c_ial <|
  c_ist 3 <|
  c_rld 0 <|
  c_getr 11 1 <|
  c_ild 3 <|
  c_i (0) <|
  c_callS 2 (fX11_planAt N) <|
  c_ild 1 <|
  c_ias <|
  c_rld 0 <|
  c_getr 11 1 <|
  c_ild 3 <|
  c_i (1) <|
  c_callS 2 (fX11_planAt N) <|
  c_rld 0 <|
  c_geti 11 22 <|
  c_ias <|
  c_rld 0 <|
  c_getr 11 1 <|
  c_ild 3 <|
  c_i (2) <|
  c_callS 2 (fX11_planAt N) <|
  c_rld 0 <|
  c_geti 11 23 <|
  c_ias <|
  c_rld 0 <|
  c_getr 11 1 <|
  c_ild 3 <|
  c_i (3) <|
  c_callS 2 (fX11_planAt N) <|
  c_ild 2 <|
  c_ias <|
  c_rld 0 <|
  c_getr 11 1 <|
  c_i (8) <|
  c_dup2 <|
  c_ial <|
  c_i (1) <|
  c_ii (fun x y => x + y) <|
  c_ias <|
  kX11_readPlan_131 N
noncomputable def kX11_readPlan_0 (N : Nat) : am_K := c_live [0] <|
  c_rld 0 <|
  c_rld 0 <|
  c_getr 11 1 <|
  c_i (8) <|
  c_ial <|
  c_i (20) <|
  c_icge (
  c_i (0) <|
  kX11_readPlan_18 N) <|
  c_i (1) <|
  kX11_readPlan_18 N
noncomputable def fX11_readPlan (N : Nat) : am_F := am_fn 4 (kX11_readPlan_0 N)
set_option maxRecDepth 20000 in
theorem vX11_readPlan_131 (l : Launch) (hfl : l.stackTraces = false) (N : Nat)  : am_V l cX11_readPlan 4 RX11 (am_E none yX11_readPlan.name) 7 188 131 (kX11_readPlan_131 N) := by
  refine av_live ?_
  exact av_return_ am_hv dX11_readPlan_131
set_option maxRecDepth 20000 in
theorem vX11_readPlan_18 (l : Launch) (hfl : l.stackTraces = false) (N : Nat)  : am_V l cX11_readPlan 4 RX11 (am_E none yX11_readPlan.name) 7 188 18 (kX11_readPlan_18 N) := by
  refine av_live ?_
  refine av_iconst (v := 3) dX11_readPlan_18 (by decide) ?_
  refine av_callV am_hT (mX11_check l hfl N) am_ci11 ⟨by decide +kernel, by decide +kernel, by decide +kernel⟩ q864 q865 q628 q866 q867 (by decide) (by decide) dX11_readPlan_19 ?_
  refine av_aload_n dX11_readPlan_22 rfl ?_
  refine av_callV am_hT (mX11_advance l hfl N) am_ci11 ⟨by decide +kernel, by decide +kernel, by decide +kernel⟩ q868 q869 q628 q870 q871 (by decide) (by decide) dX11_readPlan_23 ?_
  refine av_aload_n dX11_readPlan_26 rfl ?_
  refine av_iconst (v := 0) dX11_readPlan_27 (by decide) ?_
  refine av_aload_n dX11_readPlan_28 rfl ?_
  refine av_getr am_ci11 (by decide) am_f11_1 q611 dX11_readPlan_29 ?_
  refine av_iconst (v := 2) dX11_readPlan_32 (by decide) ?_
  refine av_iaload dX11_readPlan_33 ?_
  refine av_iconst (v := 1) dX11_readPlan_34 (by decide) ?_
  refine av_isub dX11_readPlan_35 ?_
  refine av_callV am_hT (mX11_readNumber l hfl N) am_ci11 ⟨by decide +kernel, by decide +kernel, by decide +kernel⟩ q886 q887 q628 q888 q889 (by decide) (by decide) dX11_readPlan_36 ?_
  refine av_istore_n dX11_readPlan_39 rfl (by decide) ?_
  refine av_aload_n dX11_readPlan_40 rfl ?_
  refine av_iconst (v := 0) dX11_readPlan_41 (by decide) ?_
  refine av_iconst (v := 0) dX11_readPlan_42 (by decide) ?_
  refine av_callV am_hT (mX11_readCell l hfl N) am_ci11 ⟨by decide +kernel, by decide +kernel, by decide +kernel⟩ q896 q897 q628 q898 q899 (by decide) (by decide) dX11_readPlan_43 ?_
  refine av_aload_n dX11_readPlan_46 rfl ?_
  refine av_iconst (v := 0) dX11_readPlan_47 (by decide) ?_
  refine av_sipush (v := 499) dX11_readPlan_48 (by decide) ?_
  refine av_callV am_hT (mX11_readNumber l hfl N) am_ci11 ⟨by decide +kernel, by decide +kernel, by decide +kernel⟩ q886 q887 q628 q888 q889 (by decide) (by decide) dX11_readPlan_51 ?_
  refine av_istore_n dX11_readPlan_54 rfl (by decide) ?_
  refine av_aload_n dX11_readPlan_55 rfl ?_
  refine av_geti am_ci11 (by decide) am_f11_18 q847 dX11_readPlan_56 ?_
  refine av_ifne (tgt := 131) dX11_readPlan_59 (by decide) ?_ ?_
  · exact vX11_readPlan_131 l hfl N
  refine av_aload_n dX11_readPlan_62 rfl ?_
  refine av_getr am_ci11 (by decide) am_f11_1 q611 dX11_readPlan_63 ?_
  refine av_bipush (v := 8) dX11_readPlan_66 (by decide) ?_
  refine av_iaload dX11_readPlan_68 ?_
  refine av_istore_n dX11_readPlan_69 rfl (by decide) ?_
  refine av_aload_n dX11_readPlan_70 rfl ?_
  refine av_getr am_ci11 (by decide) am_f11_1 q611 dX11_readPlan_71 ?_
  refine av_iload_n dX11_readPlan_74 rfl ?_
  refine av_iconst (v := 0) dX11_readPlan_75 (by decide) ?_
  refine av_callS am_hT (mX11_planAt l hfl N) ⟨by decide +kernel, by decide +kernel, by decide +kernel⟩ q691 q692 q628 q693 (by decide) (by decide) dX11_readPlan_76 ?_
  refine av_iload_n dX11_readPlan_79 rfl ?_
  refine av_iastore dX11_readPlan_80 ?_
  refine av_aload_n dX11_readPlan_81 rfl ?_
  refine av_getr am_ci11 (by decide) am_f11_1 q611 dX11_readPlan_82 ?_
  refine av_iload_n dX11_readPlan_85 rfl ?_
  refine av_iconst (v := 1) dX11_readPlan_86 (by decide) ?_
  refine av_callS am_hT (mX11_planAt l hfl N) ⟨by decide +kernel, by decide +kernel, by decide +kernel⟩ q691 q692 q628 q693 (by decide) (by decide) dX11_readPlan_87 ?_
  refine av_aload_n dX11_readPlan_90 rfl ?_
  refine av_geti am_ci11 (by decide) am_f11_22 q890 dX11_readPlan_91 ?_
  refine av_iastore dX11_readPlan_94 ?_
  refine av_aload_n dX11_readPlan_95 rfl ?_
  refine av_getr am_ci11 (by decide) am_f11_1 q611 dX11_readPlan_96 ?_
  refine av_iload_n dX11_readPlan_99 rfl ?_
  refine av_iconst (v := 2) dX11_readPlan_100 (by decide) ?_
  refine av_callS am_hT (mX11_planAt l hfl N) ⟨by decide +kernel, by decide +kernel, by decide +kernel⟩ q691 q692 q628 q693 (by decide) (by decide) dX11_readPlan_101 ?_
  refine av_aload_n dX11_readPlan_104 rfl ?_
  refine av_geti am_ci11 (by decide) am_f11_23 q891 dX11_readPlan_105 ?_
  refine av_iastore dX11_readPlan_108 ?_
  refine av_aload_n dX11_readPlan_109 rfl ?_
  refine av_getr am_ci11 (by decide) am_f11_1 q611 dX11_readPlan_110 ?_
  refine av_iload_n dX11_readPlan_113 rfl ?_
  refine av_iconst (v := 3) dX11_readPlan_114 (by decide) ?_
  refine av_callS am_hT (mX11_planAt l hfl N) ⟨by decide +kernel, by decide +kernel, by decide +kernel⟩ q691 q692 q628 q693 (by decide) (by decide) dX11_readPlan_115 ?_
  refine av_iload_n dX11_readPlan_118 rfl ?_
  refine av_iastore dX11_readPlan_119 ?_
  refine av_aload_n dX11_readPlan_120 rfl ?_
  refine av_getr am_ci11 (by decide) am_f11_1 q611 dX11_readPlan_121 ?_
  refine av_bipush (v := 8) dX11_readPlan_124 (by decide) ?_
  refine av_dup2 dX11_readPlan_126 ?_
  refine av_iaload dX11_readPlan_127 ?_
  refine av_iconst (v := 1) dX11_readPlan_128 (by decide) ?_
  refine av_iadd dX11_readPlan_129 ?_
  refine av_iastore dX11_readPlan_130 ?_
  exact vX11_readPlan_131 l hfl N
set_option maxRecDepth 20000 in
theorem vX11_readPlan_0 (l : Launch) (hfl : l.stackTraces = false) (N : Nat)  : am_V l cX11_readPlan 4 RX11 (am_E none yX11_readPlan.name) 7 188 0 (kX11_readPlan_0 N) := by
  refine av_live ?_
  refine av_aload_n dX11_readPlan_0 rfl ?_
  refine av_aload_n dX11_readPlan_1 rfl ?_
  refine av_getr am_ci11 (by decide) am_f11_1 q611 dX11_readPlan_2 ?_
  refine av_bipush (v := 8) dX11_readPlan_5 (by decide) ?_
  refine av_iaload dX11_readPlan_7 ?_
  refine av_bipush (v := 20) dX11_readPlan_8 (by decide) ?_
  refine av_icge (tgt := 17) dX11_readPlan_10 (by decide) ?_ ?_
  · refine av_iconst (v := 0) dX11_readPlan_17 (by decide) ?_
    exact vX11_readPlan_18 l hfl N
  refine av_iconst (v := 1) dX11_readPlan_13 (by decide) ?_
  refine av_goto (tgt := 18) dX11_readPlan_14 (by decide) ?_
  exact vX11_readPlan_18 l hfl N
theorem mX11_readPlan (l : Launch) (hfl : l.stackTraces = false) (N : Nat) : am_M l yX11_readPlan cX11_readPlan 4 none 7 188 (fX11_readPlan N) := av_meth hfl (by decide +kernel) rfl (vX11_readPlan_0 l hfl N)
/-! MessengerBoardModel.readClause()V -/
noncomputable def kX11_readClause_129 (N : Nat) : am_K := c_live [0] <|
  c_rld 0 <|
  c_i (59) <|
  c_callV 11 1 (fX11_expect N) <|
  c_vret
noncomputable def kX11_readClause_109 (N : Nat) : am_K := c_live [0] <|
  c_ias <|
  kX11_readClause_129 N
noncomputable def kX11_readClause_0 (N : Nat) : am_K := c_live [0] <|
  c_rld 0 <|
  c_a 3 <|
  c_callV 11 1 (fX11_accept N) <|
  c_ifeq (
  c_rld 0 <|
  c_a 4 <|
  c_callV 11 1 (fX11_accept N) <|
  c_ifeq (
  c_rld 0 <|
  c_a 5 <|
  c_callV 11 1 (fX11_isWord N) <|
  c_ifeq (
  c_rld 0 <|
  c_a 6 <|
  c_callV 11 1 (fX11_isWord N) <|
  c_ifeq (
  c_rld 0 <|
  c_a 7 <|
  c_callV 11 1 (fX11_accept N) <|
  c_ifeq (
  c_rld 0 <|
  c_rld 0 <|
  c_a 8 <|
  c_callV 11 1 (fX11_isWord N) <|
  c_i (1) <|
  c_callV 11 2 (fX11_check N) <|
  c_rld 0 <|
  c_callV 11 0 (fX11_readPlan N) <|
  kX11_readClause_129 N) <|
  c_rld 0 <|
  c_i (1) <|
  c_i (30) <|
  c_callV 11 2 (fX11_readNumber N) <|
  c_ist 1 <|
  c_rld 0 <|
  c_getr 11 1 <|
  c_i (9) <|
  c_rld 0 <|
  c_geti 11 18 <|
  c_ifne (
  c_rld 0 <|
  c_getr 11 1 <|
  c_i (9) <|
  c_ial <|
  kX11_readClause_109 N) <|
  c_ild 1 <|
  kX11_readClause_109 N) <|
  c_rld 0 <|
  c_callV 11 0 (fX11_readPicket N) <|
  kX11_readClause_129 N) <|
  c_rld 0 <|
  c_callV 11 0 (fX11_readUnit N) <|
  kX11_readClause_129 N) <|
  c_rld 0 <|
  c_callV 11 0 (fX11_readMain N) <|
  kX11_readClause_129 N) <|
  c_rld 0 <|
  c_callV 11 0 (fX11_readWall N) <|
  kX11_readClause_129 N
noncomputable def fX11_readClause (N : Nat) : am_F := am_fn 2 (kX11_readClause_0 N)
set_option maxRecDepth 20000 in
theorem vX11_readClause_129 (l : Launch) (hfl : l.stackTraces = false) (N : Nat)  : am_V l cX11_readClause 2 RX11 (am_E none yX11_readClause.name) 8 214 129 (kX11_readClause_129 N) := by
  refine av_live ?_
  refine av_aload_n dX11_readClause_129 rfl ?_
  refine av_bipush (v := 59) dX11_readClause_130 (by decide) ?_
  refine av_callV am_hT (mX11_expect l hfl N) am_ci11 ⟨by decide +kernel, by decide +kernel, by decide +kernel⟩ q908 q909 q628 q910 q911 (by decide) (by decide) dX11_readClause_132 ?_
  exact av_return_ am_hv dX11_readClause_135
set_option maxRecDepth 20000 in
theorem vX11_readClause_109 (l : Launch) (hfl : l.stackTraces = false) (N : Nat)  : am_V l cX11_readClause 2 RX11 (am_E none yX11_readClause.name) 8 214 109 (kX11_readClause_109 N) := by
  refine av_live ?_
  refine av_iastore dX11_readClause_109 ?_
  refine av_goto (tgt := 129) dX11_readClause_110 (by decide) ?_
  exact vX11_readClause_129 l hfl N
set_option maxRecDepth 20000 in
theorem vX11_readClause_0 (l : Launch) (hfl : l.stackTraces = false) (N : Nat)  : am_V l cX11_readClause 2 RX11 (am_E none yX11_readClause.name) 8 214 0 (kX11_readClause_0 N) := by
  refine av_live ?_
  refine av_aload_n dX11_readClause_0 rfl ?_
  refine av_ldcsw t43 (by decide) dX11_readClause_1 ?_
  refine av_callV am_hT (mX11_accept l hfl N) am_ci11 ⟨by decide +kernel, by decide +kernel, by decide +kernel⟩ q900 q901 q628 q902 q903 (by decide) (by decide) dX11_readClause_4 ?_
  refine av_ifeq (tgt := 17) dX11_readClause_7 (by decide) ?_ ?_
  · refine av_aload_n dX11_readClause_17 rfl ?_
    refine av_ldcsw t44 (by decide) dX11_readClause_18 ?_
    refine av_callV am_hT (mX11_accept l hfl N) am_ci11 ⟨by decide +kernel, by decide +kernel, by decide +kernel⟩ q900 q901 q628 q902 q903 (by decide) (by decide) dX11_readClause_21 ?_
    refine av_ifeq (tgt := 34) dX11_readClause_24 (by decide) ?_ ?_
    · refine av_aload_n dX11_readClause_34 rfl ?_
      refine av_ldcs t34 (by decide) dX11_readClause_35 ?_
      refine av_callV am_hT (mX11_isWord l hfl N) am_ci11 ⟨by decide +kernel, by decide +kernel, by decide +kernel⟩ q860 q861 q628 q862 q863 (by decide) (by decide) dX11_readClause_37 ?_
      refine av_ifeq (tgt := 50) dX11_readClause_40 (by decide) ?_ ?_
      · refine av_aload_n dX11_readClause_50 rfl ?_
        refine av_ldcsw t45 (by decide) dX11_readClause_51 ?_
        refine av_callV am_hT (mX11_isWord l hfl N) am_ci11 ⟨by decide +kernel, by decide +kernel, by decide +kernel⟩ q860 q861 q628 q862 q863 (by decide) (by decide) dX11_readClause_54 ?_
        refine av_ifeq (tgt := 67) dX11_readClause_57 (by decide) ?_ ?_
        · refine av_aload_n dX11_readClause_67 rfl ?_
          refine av_ldcsw t46 (by decide) dX11_readClause_68 ?_
          refine av_callV am_hT (mX11_accept l hfl N) am_ci11 ⟨by decide +kernel, by decide +kernel, by decide +kernel⟩ q900 q901 q628 q902 q903 (by decide) (by decide) dX11_readClause_71 ?_
          refine av_ifeq (tgt := 113) dX11_readClause_74 (by decide) ?_ ?_
          · refine av_aload_n dX11_readClause_113 rfl ?_
            refine av_aload_n dX11_readClause_114 rfl ?_
            refine av_ldcsw t47 (by decide) dX11_readClause_115 ?_
            refine av_callV am_hT (mX11_isWord l hfl N) am_ci11 ⟨by decide +kernel, by decide +kernel, by decide +kernel⟩ q860 q861 q628 q862 q863 (by decide) (by decide) dX11_readClause_118 ?_
            refine av_iconst (v := 1) dX11_readClause_121 (by decide) ?_
            refine av_callV am_hT (mX11_check l hfl N) am_ci11 ⟨by decide +kernel, by decide +kernel, by decide +kernel⟩ q864 q865 q628 q866 q867 (by decide) (by decide) dX11_readClause_122 ?_
            refine av_aload_n dX11_readClause_125 rfl ?_
            refine av_callV am_hT (mX11_readPlan l hfl N) am_ci11 ⟨by decide +kernel, by decide +kernel, by decide +kernel⟩ q904 q905 q628 q906 q907 (by decide) (by decide) dX11_readClause_126 ?_
            exact vX11_readClause_129 l hfl N
          refine av_aload_n dX11_readClause_77 rfl ?_
          refine av_iconst (v := 1) dX11_readClause_78 (by decide) ?_
          refine av_bipush (v := 30) dX11_readClause_79 (by decide) ?_
          refine av_callV am_hT (mX11_readNumber l hfl N) am_ci11 ⟨by decide +kernel, by decide +kernel, by decide +kernel⟩ q886 q887 q628 q888 q889 (by decide) (by decide) dX11_readClause_81 ?_
          refine av_istore_n dX11_readClause_84 rfl (by decide) ?_
          refine av_aload_n dX11_readClause_85 rfl ?_
          refine av_getr am_ci11 (by decide) am_f11_1 q611 dX11_readClause_86 ?_
          refine av_bipush (v := 9) dX11_readClause_89 (by decide) ?_
          refine av_aload_n dX11_readClause_91 rfl ?_
          refine av_geti am_ci11 (by decide) am_f11_18 q847 dX11_readClause_92 ?_
          refine av_ifne (tgt := 102) dX11_readClause_95 (by decide) ?_ ?_
          · refine av_aload_n dX11_readClause_102 rfl ?_
            refine av_getr am_ci11 (by decide) am_f11_1 q611 dX11_readClause_103 ?_
            refine av_bipush (v := 9) dX11_readClause_106 (by decide) ?_
            refine av_iaload dX11_readClause_108 ?_
            exact vX11_readClause_109 l hfl N
          refine av_iload_n dX11_readClause_98 rfl ?_
          refine av_goto (tgt := 109) dX11_readClause_99 (by decide) ?_
          exact vX11_readClause_109 l hfl N
        refine av_aload_n dX11_readClause_60 rfl ?_
        refine av_callV am_hT (mX11_readPicket l hfl N) am_ci11 ⟨by decide +kernel, by decide +kernel, by decide +kernel⟩ q912 q913 q628 q914 q915 (by decide) (by decide) dX11_readClause_61 ?_
        refine av_goto (tgt := 129) dX11_readClause_64 (by decide) ?_
        exact vX11_readClause_129 l hfl N
      refine av_aload_n dX11_readClause_43 rfl ?_
      refine av_callV am_hT (mX11_readUnit l hfl N) am_ci11 ⟨by decide +kernel, by decide +kernel, by decide +kernel⟩ q916 q917 q628 q918 q919 (by decide) (by decide) dX11_readClause_44 ?_
      refine av_goto (tgt := 129) dX11_readClause_47 (by decide) ?_
      exact vX11_readClause_129 l hfl N
    refine av_aload_n dX11_readClause_27 rfl ?_
    refine av_callV am_hT (mX11_readMain l hfl N) am_ci11 ⟨by decide +kernel, by decide +kernel, by decide +kernel⟩ q920 q921 q628 q922 q923 (by decide) (by decide) dX11_readClause_28 ?_
    refine av_goto (tgt := 129) dX11_readClause_31 (by decide) ?_
    exact vX11_readClause_129 l hfl N
  refine av_aload_n dX11_readClause_10 rfl ?_
  refine av_callV am_hT (mX11_readWall l hfl N) am_ci11 ⟨by decide +kernel, by decide +kernel, by decide +kernel⟩ q924 q925 q628 q926 q927 (by decide) (by decide) dX11_readClause_11 ?_
  refine av_goto (tgt := 129) dX11_readClause_14 (by decide) ?_
  exact vX11_readClause_129 l hfl N
theorem mX11_readClause (l : Launch) (hfl : l.stackTraces = false) (N : Nat) : am_M l yX11_readClause cX11_readClause 2 none 8 214 (fX11_readClause N) := av_meth hfl (by decide +kernel) rfl (vX11_readClause_0 l hfl N)
/-! MessengerBoardModel.readAll()V -/
noncomputable def kX11_readAll_60 (N : Nat) : am_K := c_live [] <|
  c_vret
noncomputable def bX11_readAll_39 (N : Nat) (r39 : am_K) : am_K :=
  c_rld 0 <|
  c_geti 11 18 <|
  c_ifne (
  kX11_readAll_60 N) <|
  c_rld 0 <|
  c_geti 11 17 <|
  c_ifeq (
  kX11_readAll_60 N) <|
  c_rld 0 <|
  c_callV 11 0 (fX11_readClause N) <|
  c_live [0] r39
noncomputable def kX11_readAll_39 (N : Nat) : am_K := c_live [0] (am_loop (bX11_readAll_39 N) N)
noncomputable def kX11_readAll_0 (N : Nat) : am_K := c_live [0] <|
  c_rld 0 <|
  c_a 2 <|
  c_callV 11 1 (fX11_expectWord N) <|
  c_rld 0 <|
  c_getr 11 1 <|
  c_i (0) <|
  c_rld 0 <|
  c_i (3) <|
  c_i (12) <|
  c_callV 11 2 (fX11_readNumber N) <|
  c_ias <|
  c_rld 0 <|
  c_getr 11 1 <|
  c_i (1) <|
  c_rld 0 <|
  c_i (3) <|
  c_i (12) <|
  c_callV 11 2 (fX11_readNumber N) <|
  c_ias <|
  c_rld 0 <|
  c_i (59) <|
  c_callV 11 1 (fX11_expect N) <|
  kX11_readAll_39 N
noncomputable def fX11_readAll (N : Nat) : am_F := am_fn 1 (kX11_readAll_0 N)
set_option maxRecDepth 20000 in
theorem vX11_readAll_60 (l : Launch) (hfl : l.stackTraces = false) (N : Nat)  : am_V l cX11_readAll 1 RX11 (am_E none yX11_readAll.name) 9 235 60 (kX11_readAll_60 N) := by
  refine av_live ?_
  exact av_return_ am_hv dX11_readAll_60
set_option maxRecDepth 20000 in
theorem vX11_readAll_39 (l : Launch) (hfl : l.stackTraces = false) (N : Nat)  : am_V l cX11_readAll 1 RX11 (am_E none yX11_readAll.name) 9 235 39 (kX11_readAll_39 N) := by
  refine av_live ?_
  refine av_loop (fun r39 h39 => ?_) N
  refine av_aload_n dX11_readAll_39 rfl ?_
  refine av_geti am_ci11 (by decide) am_f11_18 q847 dX11_readAll_40 ?_
  refine av_ifne (tgt := 60) dX11_readAll_43 (by decide) ?_ ?_
  · exact vX11_readAll_60 l hfl N
  refine av_aload_n dX11_readAll_46 rfl ?_
  refine av_geti am_ci11 (by decide) am_f11_17 q846 dX11_readAll_47 ?_
  refine av_ifeq (tgt := 60) dX11_readAll_50 (by decide) ?_ ?_
  · exact vX11_readAll_60 l hfl N
  refine av_aload_n dX11_readAll_53 rfl ?_
  refine av_callV am_hT (mX11_readClause l hfl N) am_ci11 ⟨by decide +kernel, by decide +kernel, by decide +kernel⟩ q932 q933 q628 q934 q935 (by decide) (by decide) dX11_readAll_54 ?_
  refine av_goto (tgt := 39) dX11_readAll_57 (by decide) ?_
  exact av_live h39
set_option maxRecDepth 20000 in
theorem vX11_readAll_0 (l : Launch) (hfl : l.stackTraces = false) (N : Nat)  : am_V l cX11_readAll 1 RX11 (am_E none yX11_readAll.name) 9 235 0 (kX11_readAll_0 N) := by
  refine av_live ?_
  refine av_aload_n dX11_readAll_0 rfl ?_
  refine av_ldcsw t42 (by decide) dX11_readAll_1 ?_
  refine av_callV am_hT (mX11_expectWord l hfl N) am_ci11 ⟨by decide +kernel, by decide +kernel, by decide +kernel⟩ q928 q929 q628 q930 q931 (by decide) (by decide) dX11_readAll_4 ?_
  refine av_aload_n dX11_readAll_7 rfl ?_
  refine av_getr am_ci11 (by decide) am_f11_1 q611 dX11_readAll_8 ?_
  refine av_iconst (v := 0) dX11_readAll_11 (by decide) ?_
  refine av_aload_n dX11_readAll_12 rfl ?_
  refine av_iconst (v := 3) dX11_readAll_13 (by decide) ?_
  refine av_bipush (v := 12) dX11_readAll_14 (by decide) ?_
  refine av_callV am_hT (mX11_readNumber l hfl N) am_ci11 ⟨by decide +kernel, by decide +kernel, by decide +kernel⟩ q886 q887 q628 q888 q889 (by decide) (by decide) dX11_readAll_16 ?_
  refine av_iastore dX11_readAll_19 ?_
  refine av_aload_n dX11_readAll_20 rfl ?_
  refine av_getr am_ci11 (by decide) am_f11_1 q611 dX11_readAll_21 ?_
  refine av_iconst (v := 1) dX11_readAll_24 (by decide) ?_
  refine av_aload_n dX11_readAll_25 rfl ?_
  refine av_iconst (v := 3) dX11_readAll_26 (by decide) ?_
  refine av_bipush (v := 12) dX11_readAll_27 (by decide) ?_
  refine av_callV am_hT (mX11_readNumber l hfl N) am_ci11 ⟨by decide +kernel, by decide +kernel, by decide +kernel⟩ q886 q887 q628 q888 q889 (by decide) (by decide) dX11_readAll_29 ?_
  refine av_iastore dX11_readAll_32 ?_
  refine av_aload_n dX11_readAll_33 rfl ?_
  refine av_bipush (v := 59) dX11_readAll_34 (by decide) ?_
  refine av_callV am_hT (mX11_expect l hfl N) am_ci11 ⟨by decide +kernel, by decide +kernel, by decide +kernel⟩ q908 q909 q628 q910 q911 (by decide) (by decide) dX11_readAll_36 ?_
  exact vX11_readAll_39 l hfl N
theorem mX11_readAll (l : Launch) (hfl : l.stackTraces = false) (N : Nat) : am_M l yX11_readAll cX11_readAll 1 none 9 235 (fX11_readAll N) := av_meth hfl (by decide +kernel) rfl (vX11_readAll_0 l hfl N)
/-! MessengerBoardModel.finish()I -/
noncomputable def kX11_finish_21 (N : Nat) : am_K := c_live [0] <|
  c_puti 11 20 <|
  c_rld 0 <|
  c_geti 11 18 <|
  c_iret
noncomputable def kX11_finish_0 (N : Nat) : am_K := c_live [0] <|
  c_rld 0 <|
  c_i (0) <|
  c_puti 11 13 <|
  c_rld 0 <|
  c_rld 0 <|
  c_geti 11 18 <|
  c_ifne (
  c_rld 0 <|
  c_geti 11 19 <|
  kX11_finish_21 N) <|
  c_i (-1) <|
  kX11_finish_21 N
noncomputable def fX11_finish (N : Nat) : am_F := am_fn 1 (kX11_finish_0 N)
set_option maxRecDepth 20000 in
theorem vX11_finish_21 (l : Launch) (hfl : l.stackTraces = false) (N : Nat)  : am_V l cX11_finish 1 RX11 (am_E (some .int) yX11_finish.name) 1 60 21 (kX11_finish_21 N) := by
  refine av_live ?_
  refine av_puti am_ci11 (by decide) am_f11_20 q620 (tyX11_ok 20 (by decide)) rfl dX11_finish_21 ?_
  refine av_aload_n dX11_finish_24 rfl ?_
  refine av_geti am_ci11 (by decide) am_f11_18 q847 dX11_finish_25 ?_
  exact av_ireturn am_hi dX11_finish_28
set_option maxRecDepth 20000 in
theorem vX11_finish_0 (l : Launch) (hfl : l.stackTraces = false) (N : Nat)  : am_V l cX11_finish 1 RX11 (am_E (some .int) yX11_finish.name) 1 60 0 (kX11_finish_0 N) := by
  refine av_live ?_
  refine av_aload_n dX11_finish_0 rfl ?_
  refine av_iconst (v := 0) dX11_finish_1 (by decide) ?_
  refine av_puti am_ci11 (by decide) am_f11_13 q830 (tyX11_ok 13 (by decide)) rfl dX11_finish_2 ?_
  refine av_aload_n dX11_finish_5 rfl ?_
  refine av_aload_n dX11_finish_6 rfl ?_
  refine av_geti am_ci11 (by decide) am_f11_18 q847 dX11_finish_7 ?_
  refine av_ifne (tgt := 17) dX11_finish_10 (by decide) ?_ ?_
  · refine av_aload_n dX11_finish_17 rfl ?_
    refine av_geti am_ci11 (by decide) am_f11_19 q855 dX11_finish_18 ?_
    exact vX11_finish_21 l hfl N
  refine av_iconst (v := -1) dX11_finish_13 (by decide) ?_
  refine av_goto (tgt := 21) dX11_finish_14 (by decide) ?_
  exact vX11_finish_21 l hfl N
theorem mX11_finish (l : Launch) (hfl : l.stackTraces = false) (N : Nat) : am_M l yX11_finish cX11_finish 1 (some .int) 1 60 (fX11_finish N) := av_meth hfl (by decide +kernel) rfl (vX11_finish_0 l hfl N)
/-! MessengerBoardModel.load(I)I -/
noncomputable def kX11_load_0 (N : Nat) : am_K := c_live [0, 1] <|
  c_rld 0 <|
  c_i (0) <|
  c_puti 11 6 <|
  c_ild 1 <|
  c_i (0) <|
  c_rld 0 <|
  c_geti 11 13 <|
  c_callS 3 (fX11_inRange N) <|
  c_ifne (
  c_rld 0 <|
  c_getr 11 1 <|
  c_callS 1 (fX11_clear N) <|
  c_rld 0 <|
  c_ild 1 <|
  c_callV 11 1 (fX11_startText N) <|
  c_rld 0 <|
  c_callV 11 0 (fX11_readAll N) <|
  c_rld 0 <|
  c_callV 11 0 (fX11_finish N) <|
  c_ifeq (
  c_rld 0 <|
  c_getr 11 1 <|
  c_i (0) <|
  c_rld 0 <|
  c_getr 11 0 <|
  c_i (0) <|
  c_callS 4 (fX11_copy N) <|
  c_rld 0 <|
  c_i (0) <|
  c_puti 11 5 <|
  c_rld 0 <|
  c_i (0) <|
  c_putz 11 7 <|
  c_rld 0 <|
  c_getr 11 0 <|
  c_i (2) <|
  c_ial <|
  c_iret) <|
  c_i (-10) <|
  c_rld 0 <|
  c_geti 11 18 <|
  c_ii (fun x y => x - y) <|
  c_iret) <|
  c_rld 0 <|
  c_i (1) <|
  c_callV 11 1 (fX11_raise N) <|
  c_iret
noncomputable def fX11_load (N : Nat) : am_F := am_fn 2 (kX11_load_0 N)
set_option maxRecDepth 20000 in
theorem vX11_load_0 (l : Launch) (hfl : l.stackTraces = false) (N : Nat)  : am_V l cX11_load 2 RX11 (am_E (some .int) yX11_load.name) 10 255 0 (kX11_load_0 N) := by
  refine av_live ?_
  refine av_aload_n dX11_load_0 rfl ?_
  refine av_iconst (v := 0) dX11_load_1 (by decide) ?_
  refine av_puti am_ci11 (by decide) am_f11_6 q630 (tyX11_ok 6 (by decide)) rfl dX11_load_2 ?_
  refine av_iload_n dX11_load_5 rfl ?_
  refine av_iconst (v := 0) dX11_load_6 (by decide) ?_
  refine av_aload_n dX11_load_7 rfl ?_
  refine av_geti am_ci11 (by decide) am_f11_13 q830 dX11_load_8 ?_
  refine av_callS am_hT (mX11_inRange l hfl N) ⟨by decide +kernel, by decide +kernel, by decide +kernel⟩ q631 q632 q628 q633 (by decide) (by decide) dX11_load_11 ?_
  refine av_ifne (tgt := 23) dX11_load_14 (by decide) ?_ ?_
  · refine av_aload_n dX11_load_23 rfl ?_
    refine av_getr am_ci11 (by decide) am_f11_1 q611 dX11_load_24 ?_
    refine av_callS am_hT (mX11_clear l hfl N) ⟨by decide +kernel, by decide +kernel, by decide +kernel⟩ q626 q627 q628 q629 (by decide) (by decide) dX11_load_27 ?_
    refine av_aload_n dX11_load_30 rfl ?_
    refine av_iload_n dX11_load_31 rfl ?_
    refine av_callV am_hT (mX11_startText l hfl N) am_ci11 ⟨by decide +kernel, by decide +kernel, by decide +kernel⟩ q936 q937 q628 q938 q939 (by decide) (by decide) dX11_load_32 ?_
    refine av_aload_n dX11_load_35 rfl ?_
    refine av_callV am_hT (mX11_readAll l hfl N) am_ci11 ⟨by decide +kernel, by decide +kernel, by decide +kernel⟩ q940 q941 q628 q942 q943 (by decide) (by decide) dX11_load_36 ?_
    refine av_aload_n dX11_load_39 rfl ?_
    refine av_callV am_hT (mX11_finish l hfl N) am_ci11 ⟨by decide +kernel, by decide +kernel, by decide +kernel⟩ q944 q945 q628 q946 q947 (by decide) (by decide) dX11_load_40 ?_
    refine av_ifeq (tgt := 54) dX11_load_43 (by decide) ?_ ?_
    · refine av_aload_n dX11_load_54 rfl ?_
      refine av_getr am_ci11 (by decide) am_f11_1 q611 dX11_load_55 ?_
      refine av_iconst (v := 0) dX11_load_58 (by decide) ?_
      refine av_aload_n dX11_load_59 rfl ?_
      refine av_getr am_ci11 (by decide) am_f11_0 q610 dX11_load_60 ?_
      refine av_iconst (v := 0) dX11_load_63 (by decide) ?_
      refine av_callS am_hT (mX11_copy l hfl N) ⟨by decide +kernel, by decide +kernel, by decide +kernel⟩ q736 q737 q628 q738 (by decide) (by decide) dX11_load_64 ?_
      refine av_aload_n dX11_load_67 rfl ?_
      refine av_iconst (v := 0) dX11_load_68 (by decide) ?_
      refine av_puti am_ci11 (by decide) am_f11_5 q803 (tyX11_ok 5 (by decide)) rfl dX11_load_69 ?_
      refine av_aload_n dX11_load_72 rfl ?_
      refine av_iconst (v := 0) dX11_load_73 (by decide) ?_
      refine av_putz am_ci11 (by decide) am_f11_7 q829 (tyX11_ok 7 (by decide)) rfl dX11_load_74 ?_
      refine av_aload_n dX11_load_77 rfl ?_
      refine av_getr am_ci11 (by decide) am_f11_0 q610 dX11_load_78 ?_
      refine av_iconst (v := 2) dX11_load_81 (by decide) ?_
      refine av_iaload dX11_load_82 ?_
      exact av_ireturn am_hi dX11_load_83
    refine av_bipush (v := -10) dX11_load_46 (by decide) ?_
    refine av_aload_n dX11_load_48 rfl ?_
    refine av_geti am_ci11 (by decide) am_f11_18 q847 dX11_load_49 ?_
    refine av_isub dX11_load_52 ?_
    exact av_ireturn am_hi dX11_load_53
  refine av_aload_n dX11_load_17 rfl ?_
  refine av_iconst (v := 1) dX11_load_18 (by decide) ?_
  refine av_callV am_hT (mX11_raise l hfl N) am_ci11 ⟨by decide +kernel, by decide +kernel, by decide +kernel⟩ q634 q635 q628 q636 q637 (by decide) (by decide) dX11_load_19 ?_
  exact av_ireturn am_hi dX11_load_22
theorem mX11_load (l : Launch) (hfl : l.stackTraces = false) (N : Nat) : am_M l yX11_load cX11_load 2 (some .int) 10 255 (fX11_load N) := av_meth hfl (by decide +kernel) rfl (vX11_load_0 l hfl N)
/-! MessengerBoardModel.enter()V -/
noncomputable def kX11_enter_15 (N : Nat) : am_K := c_live [0] <|
  c_i (3) <|
  c_callV 11 2 (fX11_check N) <|
  c_rld 0 <|
  c_dup <|
  c_geti 11 21 <|
  c_i (1) <|
  c_ii (fun x y => x + y) <|
  c_puti 11 21 <|
  c_rld 0 <|
  c_callV 11 0 (fX11_advance N) <|
  c_vret
noncomputable def kX11_enter_0 (N : Nat) : am_K := c_live [0] <|
  c_rld 0 <|
  c_rld 0 <|
  c_geti 11 21 <|
  c_i (6) <|
  c_icge (
  c_i (0) <|
  kX11_enter_15 N) <|
  c_i (1) <|
  kX11_enter_15 N
noncomputable def fX11_enter (N : Nat) : am_F := am_fn 1 (kX11_enter_0 N)
set_option maxRecDepth 20000 in
theorem vX11_enter_15 (l : Launch) (hfl : l.stackTraces = false) (N : Nat)  : am_V l cX11_enter 1 RX11 (am_E none yX11_enter.name) 5 142 15 (kX11_enter_15 N) := by
  refine av_live ?_
  refine av_iconst (v := 3) dX11_enter_15 (by decide) ?_
  refine av_callV am_hT (mX11_check l hfl N) am_ci11 ⟨by decide +kernel, by decide +kernel, by decide +kernel⟩ q864 q865 q628 q866 q867 (by decide) (by decide) dX11_enter_16 ?_
  refine av_aload_n dX11_enter_19 rfl ?_
  refine av_dup dX11_enter_20 ?_
  refine av_geti am_ci11 (by decide) am_f11_21 q848 dX11_enter_21 ?_
  refine av_iconst (v := 1) dX11_enter_24 (by decide) ?_
  refine av_iadd dX11_enter_25 ?_
  refine av_puti am_ci11 (by decide) am_f11_21 q848 (tyX11_ok 21 (by decide)) rfl dX11_enter_26 ?_
  refine av_aload_n dX11_enter_29 rfl ?_
  refine av_callV am_hT (mX11_advance l hfl N) am_ci11 ⟨by decide +kernel, by decide +kernel, by decide +kernel⟩ q868 q869 q628 q870 q871 (by decide) (by decide) dX11_enter_30 ?_
  exact av_return_ am_hv dX11_enter_33
set_option maxRecDepth 20000 in
theorem vX11_enter_0 (l : Launch) (hfl : l.stackTraces = false) (N : Nat)  : am_V l cX11_enter 1 RX11 (am_E none yX11_enter.name) 5 142 0 (kX11_enter_0 N) := by
  refine av_live ?_
  refine av_aload_n dX11_enter_0 rfl ?_
  refine av_aload_n dX11_enter_1 rfl ?_
  refine av_geti am_ci11 (by decide) am_f11_21 q848 dX11_enter_2 ?_
  refine av_bipush (v := 6) dX11_enter_5 (by decide) ?_
  refine av_icge (tgt := 14) dX11_enter_7 (by decide) ?_ ?_
  · refine av_iconst (v := 0) dX11_enter_14 (by decide) ?_
    exact vX11_enter_15 l hfl N
  refine av_iconst (v := 1) dX11_enter_10 (by decide) ?_
  refine av_goto (tgt := 15) dX11_enter_11 (by decide) ?_
  exact vX11_enter_15 l hfl N
theorem mX11_enter (l : Launch) (hfl : l.stackTraces = false) (N : Nat) : am_M l yX11_enter cX11_enter 1 none 5 142 (fX11_enter N) := av_meth hfl (by decide +kernel) rfl (vX11_enter_0 l hfl N)
/-! MessengerBoardModel.emit(I)V -/
noncomputable def kX11_emit_27 (N : Nat) : am_K := c_live [] <|
  c_vret
noncomputable def kX11_emit_0 (N : Nat) : am_K := c_live [0, 1] <|
  c_rld 0 <|
  c_geti 11 18 <|
  c_ifne (
  kX11_emit_27 N) <|
  c_rld 0 <|
  c_getr 11 25 <|
  c_rld 0 <|
  c_geti 11 27 <|
  c_ild 1 <|
  c_ias <|
  c_rld 0 <|
  c_dup <|
  c_geti 11 27 <|
  c_i (1) <|
  c_ii (fun x y => x + y) <|
  c_puti 11 27 <|
  kX11_emit_27 N
noncomputable def fX11_emit (N : Nat) : am_F := am_fn 2 (kX11_emit_0 N)
set_option maxRecDepth 20000 in
theorem vX11_emit_27 (l : Launch) (hfl : l.stackTraces = false) (N : Nat)  : am_V l cX11_emit 2 RX11 (am_E none yX11_emit.name) 1 60 27 (kX11_emit_27 N) := by
  refine av_live ?_
  exact av_return_ am_hv dX11_emit_27
set_option maxRecDepth 20000 in
theorem vX11_emit_0 (l : Launch) (hfl : l.stackTraces = false) (N : Nat)  : am_V l cX11_emit 2 RX11 (am_E none yX11_emit.name) 1 60 0 (kX11_emit_0 N) := by
  refine av_live ?_
  refine av_aload_n dX11_emit_0 rfl ?_
  refine av_geti am_ci11 (by decide) am_f11_18 q847 dX11_emit_1 ?_
  refine av_ifne (tgt := 27) dX11_emit_4 (by decide) ?_ ?_
  · exact vX11_emit_27 l hfl N
  refine av_aload_n dX11_emit_7 rfl ?_
  refine av_getr am_ci11 (by decide) am_f11_25 q623 dX11_emit_8 ?_
  refine av_aload_n dX11_emit_11 rfl ?_
  refine av_geti am_ci11 (by decide) am_f11_27 q948 dX11_emit_12 ?_
  refine av_iload_n dX11_emit_15 rfl ?_
  refine av_iastore dX11_emit_16 ?_
  refine av_aload_n dX11_emit_17 rfl ?_
  refine av_dup dX11_emit_18 ?_
  refine av_geti am_ci11 (by decide) am_f11_27 q948 dX11_emit_19 ?_
  refine av_iconst (v := 1) dX11_emit_22 (by decide) ?_
  refine av_iadd dX11_emit_23 ?_
  refine av_puti am_ci11 (by decide) am_f11_27 q948 (tyX11_ok 27 (by decide)) rfl dX11_emit_24 ?_
  exact vX11_emit_27 l hfl N
theorem mX11_emit (l : Launch) (hfl : l.stackTraces = false) (N : Nat) : am_M l yX11_emit cX11_emit 2 none 1 60 (fX11_emit N) := av_meth hfl (by decide +kernel) rfl (vX11_emit_0 l hfl N)
/-! MessengerBoardModel.compileConjunction()V -/
noncomputable def bX11_compileConjunction_4 (N : Nat) (rF : am_F) (r4 : am_K) : am_K :=
  c_rld 0 <|
  c_a 31 <|
  c_callV 11 1 (fX11_accept N) <|
  c_ifeq (
  c_vret) <|
  c_rld 0 <|
  c_callV 11 0 rF <|
  c_rld 0 <|
  c_i (-24) <|
  c_callV 11 1 (fX11_emit N) <|
  c_live [0] r4
noncomputable def kX11_compileConjunction_4 (N : Nat) (rF : am_F) : am_K := c_live [0] (am_loop (bX11_compileConjunction_4 N rF) N)
noncomputable def kX11_compileConjunction_0 (N : Nat) (rF : am_F) : am_K := c_live [0] <|
  c_rld 0 <|
  c_callV 11 0 rF <|
  kX11_compileConjunction_4 N rF
noncomputable def fX11_compileConjunction (N : Nat) (rF : am_F) : am_F := am_fn 1 (kX11_compileConjunction_0 N rF)
set_option maxRecDepth 20000 in
theorem vX11_compileConjunction_4 (l : Launch) (hfl : l.stackTraces = false) (N : Nat) {d : Nat} {rF : am_F} (hF : am_M l yX11_compileFactor cX11_compileFactor 2 none (20 + 3 * d) (700 + 180 * d) rF)  : am_V l cX11_compileConjunction 1 RX11 (am_E none yX11_compileConjunction.name) (20 + 3 * d + 1) (700 + 180 * d + 60) 4 (kX11_compileConjunction_4 N rF) := by
  refine av_live ?_
  refine av_loop (fun r4 h4 => ?_) N
  refine av_aload_n dX11_compileConjunction_4 rfl ?_
  refine av_ldcsw t51 (by decide) dX11_compileConjunction_5 ?_
  refine av_callV am_hT (mX11_accept l hfl N) am_ci11 ⟨by decide +kernel, by decide +kernel, by decide +kernel⟩ q900 q901 q628 q902 q903 (by omega) (by omega) dX11_compileConjunction_8 ?_
  refine av_ifeq (tgt := 27) dX11_compileConjunction_11 (by decide) ?_ ?_
  · exact av_return_ am_hv dX11_compileConjunction_27
  refine av_aload_n dX11_compileConjunction_14 rfl ?_
  refine av_callV am_hT hF am_ci11 ⟨by decide +kernel, by decide +kernel, by decide +kernel⟩ q949 q950 q628 q951 q952 (by omega) (by omega) dX11_compileConjunction_15 ?_
  refine av_aload_n dX11_compileConjunction_18 rfl ?_
  refine av_bipush (v := -24) dX11_compileConjunction_19 (by decide) ?_
  refine av_callV am_hT (mX11_emit l hfl N) am_ci11 ⟨by decide +kernel, by decide +kernel, by decide +kernel⟩ q953 q954 q628 q955 q956 (by omega) (by omega) dX11_compileConjunction_21 ?_
  refine av_goto (tgt := 4) dX11_compileConjunction_24 (by decide) ?_
  exact av_live h4
set_option maxRecDepth 20000 in
theorem vX11_compileConjunction_0 (l : Launch) (hfl : l.stackTraces = false) (N : Nat) {d : Nat} {rF : am_F} (hF : am_M l yX11_compileFactor cX11_compileFactor 2 none (20 + 3 * d) (700 + 180 * d) rF)  : am_V l cX11_compileConjunction 1 RX11 (am_E none yX11_compileConjunction.name) (20 + 3 * d + 1) (700 + 180 * d + 60) 0 (kX11_compileConjunction_0 N rF) := by
  refine av_live ?_
  refine av_aload_n dX11_compileConjunction_0 rfl ?_
  refine av_callV am_hT hF am_ci11 ⟨by decide +kernel, by decide +kernel, by decide +kernel⟩ q949 q950 q628 q951 q952 (by omega) (by omega) dX11_compileConjunction_1 ?_
  exact vX11_compileConjunction_4 l hfl N hF
theorem mX11_compileConjunction (l : Launch) (hfl : l.stackTraces = false) (N : Nat) {d : Nat} {rF : am_F} (hF : am_M l yX11_compileFactor cX11_compileFactor 2 none (20 + 3 * d) (700 + 180 * d) rF) : am_M l yX11_compileConjunction cX11_compileConjunction 1 none (20 + 3 * d + 1) (700 + 180 * d + 60) (fX11_compileConjunction N rF) := av_meth hfl (by decide +kernel) rfl (vX11_compileConjunction_0 l hfl N hF)
/-! MessengerBoardModel.compileTest()V -/
noncomputable def bX11_compileTest_4 (N : Nat) (rF : am_F) (r4 : am_K) : am_K :=
  c_rld 0 <|
  c_a 32 <|
  c_callV 11 1 (fX11_accept N) <|
  c_ifeq (
  c_vret) <|
  c_rld 0 <|
  c_callV 11 0 (fX11_compileConjunction N rF) <|
  c_rld 0 <|
  c_i (-25) <|
  c_callV 11 1 (fX11_emit N) <|
  c_live [0] r4
noncomputable def kX11_compileTest_4 (N : Nat) (rF : am_F) : am_K := c_live [0] (am_loop (bX11_compileTest_4 N rF) N)
noncomputable def kX11_compileTest_0 (N : Nat) (rF : am_F) : am_K := c_live [0] <|
  c_rld 0 <|
  c_callV 11 0 (fX11_compileConjunction N rF) <|
  kX11_compileTest_4 N rF
noncomputable def fX11_compileTest (N : Nat) (rF : am_F) : am_F := am_fn 1 (kX11_compileTest_0 N rF)
set_option maxRecDepth 20000 in
theorem vX11_compileTest_4 (l : Launch) (hfl : l.stackTraces = false) (N : Nat) {d : Nat} {rF : am_F} (hF : am_M l yX11_compileFactor cX11_compileFactor 2 none (20 + 3 * d) (700 + 180 * d) rF)  : am_V l cX11_compileTest 1 RX11 (am_E none yX11_compileTest.name) (20 + 3 * d + 2) (700 + 180 * d + 120) 4 (kX11_compileTest_4 N rF) := by
  refine av_live ?_
  refine av_loop (fun r4 h4 => ?_) N
  refine av_aload_n dX11_compileTest_4 rfl ?_
  refine av_ldcsw t52 (by decide) dX11_compileTest_5 ?_
  refine av_callV am_hT (mX11_accept l hfl N) am_ci11 ⟨by decide +kernel, by decide +kernel, by decide +kernel⟩ q900 q901 q628 q902 q903 (by omega) (by omega) dX11_compileTest_8 ?_
  refine av_ifeq (tgt := 27) dX11_compileTest_11 (by decide) ?_ ?_
  · exact av_return_ am_hv dX11_compileTest_27
  refine av_aload_n dX11_compileTest_14 rfl ?_
  refine av_callV am_hT (mX11_compileConjunction l hfl N hF) am_ci11 ⟨by decide +kernel, by decide +kernel, by decide +kernel⟩ q957 q958 q628 q959 q960 (by omega) (by omega) dX11_compileTest_15 ?_
  refine av_aload_n dX11_compileTest_18 rfl ?_
  refine av_bipush (v := -25) dX11_compileTest_19 (by decide) ?_
  refine av_callV am_hT (mX11_emit l hfl N) am_ci11 ⟨by decide +kernel, by decide +kernel, by decide +kernel⟩ q953 q954 q628 q955 q956 (by omega) (by omega) dX11_compileTest_21 ?_
  refine av_goto (tgt := 4) dX11_compileTest_24 (by decide) ?_
  exact av_live h4
set_option maxRecDepth 20000 in
theorem vX11_compileTest_0 (l : Launch) (hfl : l.stackTraces = false) (N : Nat) {d : Nat} {rF : am_F} (hF : am_M l yX11_compileFactor cX11_compileFactor 2 none (20 + 3 * d) (700 + 180 * d) rF)  : am_V l cX11_compileTest 1 RX11 (am_E none yX11_compileTest.name) (20 + 3 * d + 2) (700 + 180 * d + 120) 0 (kX11_compileTest_0 N rF) := by
  refine av_live ?_
  refine av_aload_n dX11_compileTest_0 rfl ?_
  refine av_callV am_hT (mX11_compileConjunction l hfl N hF) am_ci11 ⟨by decide +kernel, by decide +kernel, by decide +kernel⟩ q957 q958 q628 q959 q960 (by omega) (by omega) dX11_compileTest_1 ?_
  exact vX11_compileTest_4 l hfl N hF
theorem mX11_compileTest (l : Launch) (hfl : l.stackTraces = false) (N : Nat) {d : Nat} {rF : am_F} (hF : am_M l yX11_compileFactor cX11_compileFactor 2 none (20 + 3 * d) (700 + 180 * d) rF) : am_M l yX11_compileTest cX11_compileTest 1 none (20 + 3 * d + 2) (700 + 180 * d + 120) (fX11_compileTest N rF) := av_meth hfl (by decide +kernel) rfl (vX11_compileTest_0 l hfl N hF)
/-! MessengerBoardModel.compileValue()V -/
noncomputable def kX11_compileValue_15 (N : Nat) : am_K := c_live [0] <|
  c_rld 0 <|
  c_rld 0 <|
  c_i (0) <|
  c_i (9999) <|
  c_callV 11 2 (fX11_readNumber N) <|
  c_callV 11 1 (fX11_emit N) <|
  c_vret
noncomputable def kX11_compileValue_73 (N : Nat) : am_K := c_live [0, 1] <|
  c_i (1) <|
  c_callV 11 2 (fX11_check N) <|
  c_rld 0 <|
  c_i (-1) <|
  c_ild 1 <|
  c_ii (fun x y => x - y) <|
  c_callV 11 1 (fX11_emit N) <|
  c_rld 0 <|
  c_callV 11 0 (fX11_advance N) <|
  c_vret
noncomputable def kX11_compileValue_58 (N : Nat) : am_K := c_live [0, 1] <|
  c_rld 0 <|
  c_ild 1 <|
  c_rld 0 <|
  c_getr 11 24 <|
  c_alen <|
  c_icge (
  c_i (0) <|
  kX11_compileValue_73 N) <|
  c_i (1) <|
  kX11_compileValue_73 N
noncomputable def bX11_compileValue_30 (N : Nat) (r30 : am_K) : am_K :=
  c_ild 1 <|
  c_rld 0 <|
  c_getr 11 24 <|
  c_alen <|
  c_icge (
  kX11_compileValue_58 N) <|
  c_rld 0 <|
  c_rld 0 <|
  c_getr 11 24 <|
  c_ild 1 <|
  c_aal 24 <|
  c_callV 11 1 (fX11_isWord N) <|
  c_ifne (
  kX11_compileValue_58 N) <|
  c_inc 1 (1) <|
  c_live [0, 1] r30
noncomputable def kX11_compileValue_30 (N : Nat) : am_K := c_live [0, 1] (am_loop (bX11_compileValue_30 N) N)
noncomputable def kX11_compileValue_0 (N : Nat) : am_K := c_live [0] <|
  c_rld 0 <|
  c_geti 11 18 <|
  c_ifne (
  kX11_compileValue_15 N) <|
  c_rld 0 <|
  c_geti 11 17 <|
  c_i (2) <|
  c_icne (
  c_i (0) <|
  c_ist 1 <|
  kX11_compileValue_30 N) <|
  kX11_compileValue_15 N
noncomputable def fX11_compileValue (N : Nat) : am_F := am_fn 2 (kX11_compileValue_0 N)
set_option maxRecDepth 20000 in
theorem vX11_compileValue_15 (l : Launch) (hfl : l.stackTraces = false) (N : Nat)  : am_V l cX11_compileValue 2 RX11 (am_E none yX11_compileValue.name) 6 168 15 (kX11_compileValue_15 N) := by
  refine av_live ?_
  refine av_aload_n dX11_compileValue_15 rfl ?_
  refine av_aload_n dX11_compileValue_16 rfl ?_
  refine av_iconst (v := 0) dX11_compileValue_17 (by decide) ?_
  refine av_sipush (v := 9999) dX11_compileValue_18 (by decide) ?_
  refine av_callV am_hT (mX11_readNumber l hfl N) am_ci11 ⟨by decide +kernel, by decide +kernel, by decide +kernel⟩ q886 q887 q628 q888 q889 (by decide) (by decide) dX11_compileValue_21 ?_
  refine av_callV am_hT (mX11_emit l hfl N) am_ci11 ⟨by decide +kernel, by decide +kernel, by decide +kernel⟩ q953 q954 q628 q955 q956 (by decide) (by decide) dX11_compileValue_24 ?_
  exact av_return_ am_hv dX11_compileValue_27
set_option maxRecDepth 20000 in
theorem vX11_compileValue_73 (l : Launch) (hfl : l.stackTraces = false) (N : Nat)  : am_V l cX11_compileValue 2 RX11 (am_E none yX11_compileValue.name) 6 168 73 (kX11_compileValue_73 N) := by
  refine av_live ?_
  refine av_iconst (v := 1) dX11_compileValue_73 (by decide) ?_
  refine av_callV am_hT (mX11_check l hfl N) am_ci11 ⟨by decide +kernel, by decide +kernel, by decide +kernel⟩ q864 q865 q628 q866 q867 (by decide) (by decide) dX11_compileValue_74 ?_
  refine av_aload_n dX11_compileValue_77 rfl ?_
  refine av_iconst (v := -1) dX11_compileValue_78 (by decide) ?_
  refine av_iload_n dX11_compileValue_79 rfl ?_
  refine av_isub dX11_compileValue_80 ?_
  refine av_callV am_hT (mX11_emit l hfl N) am_ci11 ⟨by decide +kernel, by decide +kernel, by decide +kernel⟩ q953 q954 q628 q955 q956 (by decide) (by decide) dX11_compileValue_81 ?_
  refine av_aload_n dX11_compileValue_84 rfl ?_
  refine av_callV am_hT (mX11_advance l hfl N) am_ci11 ⟨by decide +kernel, by decide +kernel, by decide +kernel⟩ q868 q869 q628 q870 q871 (by decide) (by decide) dX11_compileValue_85 ?_
  exact av_return_ am_hv dX11_compileValue_88
set_option maxRecDepth 20000 in
theorem vX11_compileValue_58 (l : Launch) (hfl : l.stackTraces = false) (N : Nat)  : am_V l cX11_compileValue 2 RX11 (am_E none yX11_compileValue.name) 6 168 58 (kX11_compileValue_58 N) := by
  refine av_live ?_
  refine av_aload_n dX11_compileValue_58 rfl ?_
  refine av_iload_n dX11_compileValue_59 rfl ?_
  refine av_aload_n dX11_compileValue_60 rfl ?_
  refine av_getr am_ci11 (by decide) am_f11_24 q622 dX11_compileValue_61 ?_
  refine av_arraylength dX11_compileValue_64 ?_
  refine av_icge (tgt := 72) dX11_compileValue_65 (by decide) ?_ ?_
  · refine av_iconst (v := 0) dX11_compileValue_72 (by decide) ?_
    exact vX11_compileValue_73 l hfl N
  refine av_iconst (v := 1) dX11_compileValue_68 (by decide) ?_
  refine av_goto (tgt := 73) dX11_compileValue_69 (by decide) ?_
  exact vX11_compileValue_73 l hfl N
set_option maxRecDepth 20000 in
theorem vX11_compileValue_30 (l : Launch) (hfl : l.stackTraces = false) (N : Nat)  : am_V l cX11_compileValue 2 RX11 (am_E none yX11_compileValue.name) 6 168 30 (kX11_compileValue_30 N) := by
  refine av_live ?_
  refine av_loop (fun r30 h30 => ?_) N
  refine av_iload_n dX11_compileValue_30 rfl ?_
  refine av_aload_n dX11_compileValue_31 rfl ?_
  refine av_getr am_ci11 (by decide) am_f11_24 q622 dX11_compileValue_32 ?_
  refine av_arraylength dX11_compileValue_35 ?_
  refine av_icge (tgt := 58) dX11_compileValue_36 (by decide) ?_ ?_
  · exact vX11_compileValue_58 l hfl N
  refine av_aload_n dX11_compileValue_39 rfl ?_
  refine av_aload_n dX11_compileValue_40 rfl ?_
  refine av_getr am_ci11 (by decide) am_f11_24 q622 dX11_compileValue_41 ?_
  refine av_iload_n dX11_compileValue_44 rfl ?_
  refine av_aaload (t0 := 4) (by decide) (by decide) (fun _ => rfl) dX11_compileValue_45 ?_
  refine av_callV am_hT (mX11_isWord l hfl N) am_ci11 ⟨by decide +kernel, by decide +kernel, by decide +kernel⟩ q860 q861 q628 q862 q863 (by decide) (by decide) dX11_compileValue_46 ?_
  refine av_ifne (tgt := 58) dX11_compileValue_49 (by decide) ?_ ?_
  · exact vX11_compileValue_58 l hfl N
  refine av_iinc dX11_compileValue_52 (by decide) (by decide) ?_
  refine av_goto (tgt := 30) dX11_compileValue_55 (by decide) ?_
  exact av_live h30
set_option maxRecDepth 20000 in
theorem vX11_compileValue_0 (l : Launch) (hfl : l.stackTraces = false) (N : Nat)  : am_V l cX11_compileValue 2 RX11 (am_E none yX11_compileValue.name) 6 168 0 (kX11_compileValue_0 N) := by
  refine av_live ?_
  refine av_aload_n dX11_compileValue_0 rfl ?_
  refine av_geti am_ci11 (by decide) am_f11_18 q847 dX11_compileValue_1 ?_
  refine av_ifne (tgt := 15) dX11_compileValue_4 (by decide) ?_ ?_
  · exact vX11_compileValue_15 l hfl N
  refine av_aload_n dX11_compileValue_7 rfl ?_
  refine av_geti am_ci11 (by decide) am_f11_17 q846 dX11_compileValue_8 ?_
  refine av_iconst (v := 2) dX11_compileValue_11 (by decide) ?_
  refine av_icne (tgt := 28) dX11_compileValue_12 (by decide) ?_ ?_
  · refine av_iconst (v := 0) dX11_compileValue_28 (by decide) ?_
    refine av_istore_n dX11_compileValue_29 rfl (by decide) ?_
    exact vX11_compileValue_30 l hfl N
  exact vX11_compileValue_15 l hfl N
theorem mX11_compileValue (l : Launch) (hfl : l.stackTraces = false) (N : Nat) : am_M l yX11_compileValue cX11_compileValue 2 none 6 168 (fX11_compileValue N) := av_meth hfl (by decide +kernel) rfl (vX11_compileValue_0 l hfl N)
/-! MessengerBoardModel.compileFactor()V -/
noncomputable def kX11_compileFactor_160 (N : Nat) (rF : am_F) : am_K := c_live [] <|
  c_vret
noncomputable def kX11_compileFactor_143 (N : Nat) (rF : am_F) : am_K := c_live [0, 1] <|
  c_i (1) <|
  c_callV 11 2 (fX11_check N) <|
  c_rld 0 <|
  c_callV 11 0 (fX11_advance N) <|
  c_rld 0 <|
  c_callV 11 0 (fX11_compileValue N) <|
  c_rld 0 <|
  c_ild 1 <|
  c_callV 11 1 (fX11_emit N) <|
  kX11_compileFactor_160 N rF
noncomputable def kX11_compileFactor_138 (N : Nat) (rF : am_F) : am_K := c_live [0, 1] <|
  c_i (1) <|
  kX11_compileFactor_143 N rF
noncomputable def kX11_compileFactor_121 (N : Nat) (rF : am_F) : am_K := c_live [0] <|
  c_ist 1 <|
  c_rld 0 <|
  c_ild 1 <|
  c_i (-22) <|
  c_icne (
  kX11_compileFactor_138 N rF) <|
  c_rld 0 <|
  c_i (62) <|
  c_callV 11 1 (fX11_isSymbol N) <|
  c_ifeq (
  c_i (0) <|
  kX11_compileFactor_143 N rF) <|
  kX11_compileFactor_138 N rF
noncomputable def kX11_compileFactor_68 (N : Nat) (rF : am_F) : am_K := c_live [0] <|
  c_rld 0 <|
  c_i (41) <|
  c_callV 11 1 (fX11_expect N) <|
  c_rld 0 <|
  c_dup <|
  c_geti 11 21 <|
  c_i (1) <|
  c_ii (fun x y => x - y) <|
  c_puti 11 21 <|
  kX11_compileFactor_160 N rF
noncomputable def kX11_compileFactor_25 (N : Nat) (rF : am_F) : am_K := c_live [0] <|
  c_rld 0 <|
  c_i (-23) <|
  c_callV 11 1 (fX11_emit N) <|
  c_rld 0 <|
  c_dup <|
  c_geti 11 21 <|
  c_i (1) <|
  c_ii (fun x y => x - y) <|
  c_puti 11 21 <|
  kX11_compileFactor_160 N rF
noncomputable def kX11_compileFactor_0 (N : Nat) (rF : am_F) : am_K := c_live [0] <|
  c_rld 0 <|
  c_a 22 <|
  c_callV 11 1 (fX11_isWord N) <|
  c_ifeq (
  c_rld 0 <|
  c_i (40) <|
  c_callV 11 1 (fX11_isSymbol N) <|
  c_ifeq (
  c_rld 0 <|
  c_callV 11 0 (fX11_compileValue N) <|
  c_rld 0 <|
  c_i (60) <|
  c_callV 11 1 (fX11_isSymbol N) <|
  c_ifeq (
  c_rld 0 <|
  c_i (61) <|
  c_callV 11 1 (fX11_isSymbol N) <|
  c_ifeq (
  c_i (-22) <|
  kX11_compileFactor_121 N rF) <|
  c_i (-21) <|
  kX11_compileFactor_121 N rF) <|
  c_i (-20) <|
  kX11_compileFactor_121 N rF) <|
  c_rld 0 <|
  c_callV 11 0 (fX11_enter N) <|
  c_rld 0 <|
  c_geti 11 18 <|
  c_ifne (
  kX11_compileFactor_68 N rF) <|
  c_rld 0 <|
  c_callV 11 0 (fX11_compileTest N rF) <|
  kX11_compileFactor_68 N rF) <|
  c_rld 0 <|
  c_callV 11 0 (fX11_enter N) <|
  c_rld 0 <|
  c_geti 11 18 <|
  c_ifne (
  kX11_compileFactor_25 N rF) <|
  c_rld 0 <|
  c_callV 11 0 rF <|
  kX11_compileFactor_25 N rF
noncomputable def fX11_compileFactor (N : Nat) (rF : am_F) : am_F := am_fn 2 (kX11_compileFactor_0 N rF)
noncomputable def rX11_compileFactor (N : Nat) : Nat → am_F := Nat.rec (motive := fun _ => am_F) (fun _ _ => none) (fun _ r => fX11_compileFactor N r)
set_option maxRecDepth 20000 in
theorem vX11_compileFactor_160 (l : Launch) (hfl : l.stackTraces = false) (N : Nat) {d : Nat} {rF : am_F} (hF : am_M l yX11_compileFactor cX11_compileFactor 2 none (20 + 3 * d) (700 + 180 * d) rF)  : am_V l cX11_compileFactor 2 RX11 (am_E none yX11_compileFactor.name) (20 + 3 * (d + 1)) (700 + 180 * (d + 1)) 160 (kX11_compileFactor_160 N rF) := by
  refine av_live ?_
  exact av_return_ am_hv dX11_compileFactor_160
set_option maxRecDepth 20000 in
theorem vX11_compileFactor_143 (l : Launch) (hfl : l.stackTraces = false) (N : Nat) {d : Nat} {rF : am_F} (hF : am_M l yX11_compileFactor cX11_compileFactor 2 none (20 + 3 * d) (700 + 180 * d) rF)  : am_V l cX11_compileFactor 2 RX11 (am_E none yX11_compileFactor.name) (20 + 3 * (d + 1)) (700 + 180 * (d + 1)) 143 (kX11_compileFactor_143 N rF) := by
  refine av_live ?_
  refine av_iconst (v := 1) dX11_compileFactor_143 (by decide) ?_
  refine av_callV am_hT (mX11_check l hfl N) am_ci11 ⟨by decide +kernel, by decide +kernel, by decide +kernel⟩ q864 q865 q628 q866 q867 (by omega) (by omega) dX11_compileFactor_144 ?_
  refine av_aload_n dX11_compileFactor_147 rfl ?_
  refine av_callV am_hT (mX11_advance l hfl N) am_ci11 ⟨by decide +kernel, by decide +kernel, by decide +kernel⟩ q868 q869 q628 q870 q871 (by omega) (by omega) dX11_compileFactor_148 ?_
  refine av_aload_n dX11_compileFactor_151 rfl ?_
  refine av_callV am_hT (mX11_compileValue l hfl N) am_ci11 ⟨by decide +kernel, by decide +kernel, by decide +kernel⟩ q961 q962 q628 q963 q964 (by omega) (by omega) dX11_compileFactor_152 ?_
  refine av_aload_n dX11_compileFactor_155 rfl ?_
  refine av_iload_n dX11_compileFactor_156 rfl ?_
  refine av_callV am_hT (mX11_emit l hfl N) am_ci11 ⟨by decide +kernel, by decide +kernel, by decide +kernel⟩ q953 q954 q628 q955 q956 (by omega) (by omega) dX11_compileFactor_157 ?_
  exact vX11_compileFactor_160 l hfl N hF
set_option maxRecDepth 20000 in
theorem vX11_compileFactor_138 (l : Launch) (hfl : l.stackTraces = false) (N : Nat) {d : Nat} {rF : am_F} (hF : am_M l yX11_compileFactor cX11_compileFactor 2 none (20 + 3 * d) (700 + 180 * d) rF)  : am_V l cX11_compileFactor 2 RX11 (am_E none yX11_compileFactor.name) (20 + 3 * (d + 1)) (700 + 180 * (d + 1)) 138 (kX11_compileFactor_138 N rF) := by
  refine av_live ?_
  refine av_iconst (v := 1) dX11_compileFactor_138 (by decide) ?_
  refine av_goto (tgt := 143) dX11_compileFactor_139 (by decide) ?_
  exact vX11_compileFactor_143 l hfl N hF
set_option maxRecDepth 20000 in
theorem vX11_compileFactor_121 (l : Launch) (hfl : l.stackTraces = false) (N : Nat) {d : Nat} {rF : am_F} (hF : am_M l yX11_compileFactor cX11_compileFactor 2 none (20 + 3 * d) (700 + 180 * d) rF)  : am_V l cX11_compileFactor 2 RX11 (am_E none yX11_compileFactor.name) (20 + 3 * (d + 1)) (700 + 180 * (d + 1)) 121 (kX11_compileFactor_121 N rF) := by
  refine av_live ?_
  refine av_istore_n dX11_compileFactor_121 rfl (by decide) ?_
  refine av_aload_n dX11_compileFactor_122 rfl ?_
  refine av_iload_n dX11_compileFactor_123 rfl ?_
  refine av_bipush (v := -22) dX11_compileFactor_124 (by decide) ?_
  refine av_icne (tgt := 138) dX11_compileFactor_126 (by decide) ?_ ?_
  · exact vX11_compileFactor_138 l hfl N hF
  refine av_aload_n dX11_compileFactor_129 rfl ?_
  refine av_bipush (v := 62) dX11_compileFactor_130 (by decide) ?_
  refine av_callV am_hT (mX11_isSymbol l hfl N) am_ci11 ⟨by decide +kernel, by decide +kernel, by decide +kernel⟩ q882 q883 q628 q884 q885 (by omega) (by omega) dX11_compileFactor_132 ?_
  refine av_ifeq (tgt := 142) dX11_compileFactor_135 (by decide) ?_ ?_
  · refine av_iconst (v := 0) dX11_compileFactor_142 (by decide) ?_
    exact vX11_compileFactor_143 l hfl N hF
  exact vX11_compileFactor_138 l hfl N hF
set_option maxRecDepth 20000 in
theorem vX11_compileFactor_68 (l : Launch) (hfl : l.stackTraces = false) (N : Nat) {d : Nat} {rF : am_F} (hF : am_M l yX11_compileFactor cX11_compileFactor 2 none (20 + 3 * d) (700 + 180 * d) rF)  : am_V l cX11_compileFactor 2 RX11 (am_E none yX11_compileFactor.name) (20 + 3 * (d + 1)) (700 + 180 * (d + 1)) 68 (kX11_compileFactor_68 N rF) := by
  refine av_live ?_
  refine av_aload_n dX11_compileFactor_68 rfl ?_
  refine av_bipush (v := 41) dX11_compileFactor_69 (by decide) ?_
  refine av_callV am_hT (mX11_expect l hfl N) am_ci11 ⟨by decide +kernel, by decide +kernel, by decide +kernel⟩ q908 q909 q628 q910 q911 (by omega) (by omega) dX11_compileFactor_71 ?_
  refine av_aload_n dX11_compileFactor_74 rfl ?_
  refine av_dup dX11_compileFactor_75 ?_
  refine av_geti am_ci11 (by decide) am_f11_21 q848 dX11_compileFactor_76 ?_
  refine av_iconst (v := 1) dX11_compileFactor_79 (by decide) ?_
  refine av_isub dX11_compileFactor_80 ?_
  refine av_puti am_ci11 (by decide) am_f11_21 q848 (tyX11_ok 21 (by decide)) rfl dX11_compileFactor_81 ?_
  refine av_goto (tgt := 160) dX11_compileFactor_84 (by decide) ?_
  exact vX11_compileFactor_160 l hfl N hF
set_option maxRecDepth 20000 in
theorem vX11_compileFactor_25 (l : Launch) (hfl : l.stackTraces = false) (N : Nat) {d : Nat} {rF : am_F} (hF : am_M l yX11_compileFactor cX11_compileFactor 2 none (20 + 3 * d) (700 + 180 * d) rF)  : am_V l cX11_compileFactor 2 RX11 (am_E none yX11_compileFactor.name) (20 + 3 * (d + 1)) (700 + 180 * (d + 1)) 25 (kX11_compileFactor_25 N rF) := by
  refine av_live ?_
  refine av_aload_n dX11_compileFactor_25 rfl ?_
  refine av_bipush (v := -23) dX11_compileFactor_26 (by decide) ?_
  refine av_callV am_hT (mX11_emit l hfl N) am_ci11 ⟨by decide +kernel, by decide +kernel, by decide +kernel⟩ q953 q954 q628 q955 q956 (by omega) (by omega) dX11_compileFactor_28 ?_
  refine av_aload_n dX11_compileFactor_31 rfl ?_
  refine av_dup dX11_compileFactor_32 ?_
  refine av_geti am_ci11 (by decide) am_f11_21 q848 dX11_compileFactor_33 ?_
  refine av_iconst (v := 1) dX11_compileFactor_36 (by decide) ?_
  refine av_isub dX11_compileFactor_37 ?_
  refine av_puti am_ci11 (by decide) am_f11_21 q848 (tyX11_ok 21 (by decide)) rfl dX11_compileFactor_38 ?_
  refine av_goto (tgt := 160) dX11_compileFactor_41 (by decide) ?_
  exact vX11_compileFactor_160 l hfl N hF
set_option maxRecDepth 20000 in
theorem vX11_compileFactor_0 (l : Launch) (hfl : l.stackTraces = false) (N : Nat) {d : Nat} {rF : am_F} (hF : am_M l yX11_compileFactor cX11_compileFactor 2 none (20 + 3 * d) (700 + 180 * d) rF)  : am_V l cX11_compileFactor 2 RX11 (am_E none yX11_compileFactor.name) (20 + 3 * (d + 1)) (700 + 180 * (d + 1)) 0 (kX11_compileFactor_0 N rF) := by
  refine av_live ?_
  refine av_aload_n dX11_compileFactor_0 rfl ?_
  refine av_ldcsw t50 (by decide) dX11_compileFactor_1 ?_
  refine av_callV am_hT (mX11_isWord l hfl N) am_ci11 ⟨by decide +kernel, by decide +kernel, by decide +kernel⟩ q860 q861 q628 q862 q863 (by omega) (by omega) dX11_compileFactor_4 ?_
  refine av_ifeq (tgt := 44) dX11_compileFactor_7 (by decide) ?_ ?_
  · refine av_aload_n dX11_compileFactor_44 rfl ?_
    refine av_bipush (v := 40) dX11_compileFactor_45 (by decide) ?_
    refine av_callV am_hT (mX11_isSymbol l hfl N) am_ci11 ⟨by decide +kernel, by decide +kernel, by decide +kernel⟩ q882 q883 q628 q884 q885 (by omega) (by omega) dX11_compileFactor_47 ?_
    refine av_ifeq (tgt := 87) dX11_compileFactor_50 (by decide) ?_ ?_
    · refine av_aload_n dX11_compileFactor_87 rfl ?_
      refine av_callV am_hT (mX11_compileValue l hfl N) am_ci11 ⟨by decide +kernel, by decide +kernel, by decide +kernel⟩ q961 q962 q628 q963 q964 (by omega) (by omega) dX11_compileFactor_88 ?_
      refine av_aload_n dX11_compileFactor_91 rfl ?_
      refine av_bipush (v := 60) dX11_compileFactor_92 (by decide) ?_
      refine av_callV am_hT (mX11_isSymbol l hfl N) am_ci11 ⟨by decide +kernel, by decide +kernel, by decide +kernel⟩ q882 q883 q628 q884 q885 (by omega) (by omega) dX11_compileFactor_94 ?_
      refine av_ifeq (tgt := 105) dX11_compileFactor_97 (by decide) ?_ ?_
      · refine av_aload_n dX11_compileFactor_105 rfl ?_
        refine av_bipush (v := 61) dX11_compileFactor_106 (by decide) ?_
        refine av_callV am_hT (mX11_isSymbol l hfl N) am_ci11 ⟨by decide +kernel, by decide +kernel, by decide +kernel⟩ q882 q883 q628 q884 q885 (by omega) (by omega) dX11_compileFactor_108 ?_
        refine av_ifeq (tgt := 119) dX11_compileFactor_111 (by decide) ?_ ?_
        · refine av_bipush (v := -22) dX11_compileFactor_119 (by decide) ?_
          exact vX11_compileFactor_121 l hfl N hF
        refine av_bipush (v := -21) dX11_compileFactor_114 (by decide) ?_
        refine av_goto (tgt := 121) dX11_compileFactor_116 (by decide) ?_
        exact vX11_compileFactor_121 l hfl N hF
      refine av_bipush (v := -20) dX11_compileFactor_100 (by decide) ?_
      refine av_goto (tgt := 121) dX11_compileFactor_102 (by decide) ?_
      exact vX11_compileFactor_121 l hfl N hF
    refine av_aload_n dX11_compileFactor_53 rfl ?_
    refine av_callV am_hT (mX11_enter l hfl N) am_ci11 ⟨by decide +kernel, by decide +kernel, by decide +kernel⟩ q965 q966 q628 q967 q968 (by omega) (by omega) dX11_compileFactor_54 ?_
    refine av_aload_n dX11_compileFactor_57 rfl ?_
    refine av_geti am_ci11 (by decide) am_f11_18 q847 dX11_compileFactor_58 ?_
    refine av_ifne (tgt := 68) dX11_compileFactor_61 (by decide) ?_ ?_
    · exact vX11_compileFactor_68 l hfl N hF
    refine av_aload_n dX11_compileFactor_64 rfl ?_
    refine av_callV am_hT (mX11_compileTest l hfl N hF) am_ci11 ⟨by decide +kernel, by decide +kernel, by decide +kernel⟩ q969 q970 q628 q971 q972 (by omega) (by omega) dX11_compileFactor_65 ?_
    exact vX11_compileFactor_68 l hfl N hF
  refine av_aload_n dX11_compileFactor_10 rfl ?_
  refine av_callV am_hT (mX11_enter l hfl N) am_ci11 ⟨by decide +kernel, by decide +kernel, by decide +kernel⟩ q965 q966 q628 q967 q968 (by omega) (by omega) dX11_compileFactor_11 ?_
  refine av_aload_n dX11_compileFactor_14 rfl ?_
  refine av_geti am_ci11 (by decide) am_f11_18 q847 dX11_compileFactor_15 ?_
  refine av_ifne (tgt := 25) dX11_compileFactor_18 (by decide) ?_ ?_
  · exact vX11_compileFactor_25 l hfl N hF
  refine av_aload_n dX11_compileFactor_21 rfl ?_
  refine av_callV am_hT hF am_ci11 ⟨by decide +kernel, by decide +kernel, by decide +kernel⟩ q949 q950 q628 q951 q952 (by omega) (by omega) dX11_compileFactor_22 ?_
  exact vX11_compileFactor_25 l hfl N hF
theorem mX11_compileFactor (l : Launch) (hfl : l.stackTraces = false) (N : Nat) {d : Nat} {rF : am_F} (hF : am_M l yX11_compileFactor cX11_compileFactor 2 none (20 + 3 * d) (700 + 180 * d) rF) : am_M l yX11_compileFactor cX11_compileFactor 2 none (20 + 3 * (d + 1)) (700 + 180 * (d + 1)) (fX11_compileFactor N rF) := av_meth hfl (by decide +kernel) rfl (vX11_compileFactor_0 l hfl N hF)
theorem rX11_compileFactor_m (l : Launch) (hfl : l.stackTraces = false) (N : Nat) : ∀ d : Nat, am_M l yX11_compileFactor cX11_compileFactor 2 none (20 + 3 * d) (700 + 180 * d) (rX11_compileFactor N d)
  | 0 => am_M.none
  | d + 1 => mX11_compileFactor l hfl N (rX11_compileFactor_m l hfl N d)
/-! MessengerBoardModel.property(II)I -/
noncomputable def kX11_property_107 (N : Nat) : am_K := c_live [] <|
  c_callV 11 2 (fX11_ofOrder N) <|
  c_iret
noncomputable def kX11_property_0 (N : Nat) : am_K := c_live [0, 1, 2] <|
  c_ild 2 <|
  c_sw (0) 7 (fun i => ([
(  c_ild 1 <|
  c_iret),
(  c_rld 0 <|
  c_ild 1 <|
  c_i (0) <|
  c_callV 11 2 (fX11_ofOrder N) <|
  c_iret),
(  c_rld 0 <|
  c_ild 1 <|
  c_i (3) <|
  c_callV 11 2 (fX11_ofOrder N) <|
  c_iret),
(  c_rld 0 <|
  c_ild 1 <|
  c_i (4) <|
  c_callV 11 2 (fX11_ofOrder N) <|
  c_iret),
(  c_i (1) <|
  c_rld 0 <|
  c_ild 1 <|
  c_i (5) <|
  c_callV 11 2 (fX11_ofOrder N) <|
  c_ii (fun x y => x + y) <|
  c_iret),
(  c_i (1) <|
  c_rld 0 <|
  c_ild 1 <|
  c_i (6) <|
  c_callV 11 2 (fX11_ofOrder N) <|
  c_ii (fun x y => x + y) <|
  c_iret),
(  c_rld 0 <|
  c_ild 1 <|
  c_i (9) <|
  c_callV 11 2 (fX11_ofOrder N) <|
  c_iret)] : List am_K).getD i (fun _ _ _ => none)) <|
  c_rld 0 <|
  c_ild 1 <|
  c_ild 2 <|
  c_i (7) <|
  c_icne (
  c_i (2) <|
  kX11_property_107 N) <|
  c_i (1) <|
  kX11_property_107 N
noncomputable def fX11_property (N : Nat) : am_F := am_fn 3 (kX11_property_0 N)
set_option maxRecDepth 20000 in
theorem vX11_property_107 (l : Launch) (hfl : l.stackTraces = false) (N : Nat)  : am_V l cX11_property 3 RX11 (am_E (some .int) yX11_property.name) 3 103 107 (kX11_property_107 N) := by
  refine av_live ?_
  refine av_callV am_hT (mX11_ofOrder l hfl N) am_ci11 ⟨by decide +kernel, by decide +kernel, by decide +kernel⟩ q644 q645 q628 q646 q647 (by decide) (by decide) dX11_property_107 ?_
  exact av_ireturn am_hi dX11_property_110
set_option maxRecDepth 20000 in
theorem vX11_property_0 (l : Launch) (hfl : l.stackTraces = false) (N : Nat)  : am_V l cX11_property 3 RX11 (am_E (some .int) yX11_property.name) 3 103 0 (kX11_property_0 N) := by
  refine av_live ?_
  refine av_iload_n dX11_property_0 rfl ?_
  refine av_sw (n := 7) (tgt := 94) (fun i => ([44, 46, 53, 60, 67, 76, 86] : List Nat).getD i 0) dX11_property_1 (by decide) (by decide) ?_ (by decide +kernel) ?_
  · refine av_aload_n dX11_property_94 rfl ?_
    refine av_iload_n dX11_property_95 rfl ?_
    refine av_iload_n dX11_property_96 rfl ?_
    refine av_bipush (v := 7) dX11_property_97 (by decide) ?_
    refine av_icne (tgt := 106) dX11_property_99 (by decide) ?_ ?_
    · refine av_iconst (v := 2) dX11_property_106 (by decide) ?_
      exact vX11_property_107 l hfl N
    refine av_iconst (v := 1) dX11_property_102 (by decide) ?_
    refine av_goto (tgt := 107) dX11_property_103 (by decide) ?_
    exact vX11_property_107 l hfl N
  · intro i hi
    match i, hi with
    | 0, _ =>
      show am_V _ _ _ _ _ _ _ 44 (
  c_ild 1 <|
  c_iret)
      refine av_iload_n dX11_property_44 rfl ?_
      exact av_ireturn am_hi dX11_property_45
    | 1, _ =>
      show am_V _ _ _ _ _ _ _ 46 (
  c_rld 0 <|
  c_ild 1 <|
  c_i (0) <|
  c_callV 11 2 (fX11_ofOrder N) <|
  c_iret)
      refine av_aload_n dX11_property_46 rfl ?_
      refine av_iload_n dX11_property_47 rfl ?_
      refine av_iconst (v := 0) dX11_property_48 (by decide) ?_
      refine av_callV am_hT (mX11_ofOrder l hfl N) am_ci11 ⟨by decide +kernel, by decide +kernel, by decide +kernel⟩ q644 q645 q628 q646 q647 (by decide) (by decide) dX11_property_49 ?_
      exact av_ireturn am_hi dX11_property_52
    | 2, _ =>
      show am_V _ _ _ _ _ _ _ 53 (
  c_rld 0 <|
  c_ild 1 <|
  c_i (3) <|
  c_callV 11 2 (fX11_ofOrder N) <|
  c_iret)
      refine av_aload_n dX11_property_53 rfl ?_
      refine av_iload_n dX11_property_54 rfl ?_
      refine av_iconst (v := 3) dX11_property_55 (by decide) ?_
      refine av_callV am_hT (mX11_ofOrder l hfl N) am_ci11 ⟨by decide +kernel, by decide +kernel, by decide +kernel⟩ q644 q645 q628 q646 q647 (by decide) (by decide) dX11_property_56 ?_
      exact av_ireturn am_hi dX11_property_59
    | 3, _ =>
      show am_V _ _ _ _ _ _ _ 60 (
  c_rld 0 <|
  c_ild 1 <|
  c_i (4) <|
  c_callV 11 2 (fX11_ofOrder N) <|
  c_iret)
      refine av_aload_n dX11_property_60 rfl ?_
      refine av_iload_n dX11_property_61 rfl ?_
      refine av_iconst (v := 4) dX11_property_62 (by decide) ?_
      refine av_callV am_hT (mX11_ofOrder l hfl N) am_ci11 ⟨by decide +kernel, by decide +kernel, by decide +kernel⟩ q644 q645 q628 q646 q647 (by decide) (by decide) dX11_property_63 ?_
      exact av_ireturn am_hi dX11_property_66
    | 4, _ =>
      show am_V _ _ _ _ _ _ _ 67 (
  c_i (1) <|
  c_rld 0 <|
  c_ild 1 <|
  c_i (5) <|
  c_callV 11 2 (fX11_ofOrder N) <|
  c_ii (fun x y => x + y) <|
  c_iret)
      refine av_iconst (v := 1) dX11_property_67 (by decide) ?_
      refine av_aload_n dX11_property_68 rfl ?_
      refine av_iload_n dX11_property_69 rfl ?_
      refine av_iconst (v := 5) dX11_property_70 (by decide) ?_
      refine av_callV am_hT (mX11_ofOrder l hfl N) am_ci11 ⟨by decide +kernel, by decide +kernel, by decide +kernel⟩ q644 q645 q628 q646 q647 (by decide) (by decide) dX11_property_71 ?_
      refine av_iadd dX11_property_74 ?_
      exact av_ireturn am_hi dX11_property_75
    | 5, _ =>
      show am_V _ _ _ _ _ _ _ 76 (
  c_i (1) <|
  c_rld 0 <|
  c_ild 1 <|
  c_i (6) <|
  c_callV 11 2 (fX11_ofOrder N) <|
  c_ii (fun x y => x + y) <|
  c_iret)
      refine av_iconst (v := 1) dX11_property_76 (by decide) ?_
      refine av_aload_n dX11_property_77 rfl ?_
      refine av_iload_n dX11_property_78 rfl ?_
      refine av_bipush (v := 6) dX11_property_79 (by decide) ?_
      refine av_callV am_hT (mX11_ofOrder l hfl N) am_ci11 ⟨by decide +kernel, by decide +kernel, by decide +kernel⟩ q644 q645 q628 q646 q647 (by decide) (by decide) dX11_property_81 ?_
      refine av_iadd dX11_property_84 ?_
      exact av_ireturn am_hi dX11_property_85
    | 6, _ =>
      show am_V _ _ _ _ _ _ _ 86 (
  c_rld 0 <|
  c_ild 1 <|
  c_i (9) <|
  c_callV 11 2 (fX11_ofOrder N) <|
  c_iret)
      refine av_aload_n dX11_property_86 rfl ?_
      refine av_iload_n dX11_property_87 rfl ?_
      refine av_bipush (v := 9) dX11_property_88 (by decide) ?_
      refine av_callV am_hT (mX11_ofOrder l hfl N) am_ci11 ⟨by decide +kernel, by decide +kernel, by decide +kernel⟩ q644 q645 q628 q646 q647 (by decide) (by decide) dX11_property_90 ?_
      exact av_ireturn am_hi dX11_property_93
    | i + 7, hi => exact absurd hi (by omega)
theorem mX11_property (l : Launch) (hfl : l.stackTraces = false) (N : Nat) : am_M l yX11_property cX11_property 3 (some .int) 3 103 (fX11_property N) := av_meth hfl (by decide +kernel) rfl (vX11_property_0 l hfl N)
/-! MessengerBoardModel.operate(IJJ)J -/
noncomputable def kX11_operate_76 (N : Nat) : am_K := c_live [1, 3] <|
  c_lld 1 <|
  c_lld 3 <|
  c_ll (fun x y => x ||| y) <|
  c_lret
noncomputable def kX11_operate_71 (N : Nat) : am_K := c_live [] <|
  c_lret
noncomputable def kX11_operate_59 (N : Nat) : am_K := c_live [] <|
  c_lret
noncomputable def kX11_operate_47 (N : Nat) : am_K := c_live [] <|
  c_lret
noncomputable def kX11_operate_0 (N : Nat) : am_K := c_live [0, 1, 3] <|
  c_ild 0 <|
  c_sw (-24) 5 (fun i => ([
(  c_lld 1 <|
  c_lld 3 <|
  c_ll (fun x y => x &&& y) <|
  c_lret),
(  kX11_operate_76 N),
(  c_lld 1 <|
  c_lld 3 <|
  c_cmp (fun x y => lg_cmp x y) <|
  c_ifle (
  c_l 0 <|
  kX11_operate_71 N) <|
  c_l 1 <|
  kX11_operate_71 N),
(  c_lld 1 <|
  c_lld 3 <|
  c_cmp (fun x y => lg_cmp x y) <|
  c_ifne (
  c_l 0 <|
  kX11_operate_59 N) <|
  c_l 1 <|
  kX11_operate_59 N),
(  c_lld 1 <|
  c_lld 3 <|
  c_cmp (fun x y => lg_cmp x y) <|
  c_ifge (
  c_l 0 <|
  kX11_operate_47 N) <|
  c_l 1 <|
  kX11_operate_47 N)] : List am_K).getD i (fun _ _ _ => none)) <|
  kX11_operate_76 N
noncomputable def fX11_operate (N : Nat) : am_F := am_fn 5 (kX11_operate_0 N)
set_option maxRecDepth 20000 in
theorem vX11_operate_76 (l : Launch) (hfl : l.stackTraces = false) (N : Nat)  : am_V l cX11_operate 5 RX11 (am_E (some .long) yX11_operate.name) 1 60 76 (kX11_operate_76 N) := by
  refine av_live ?_
  refine av_lload_n dX11_operate_76 rfl ?_
  refine av_lload_n dX11_operate_77 rfl ?_
  refine av_lor dX11_operate_78 ?_
  exact av_lreturn am_hl dX11_operate_79
set_option maxRecDepth 20000 in
theorem vX11_operate_71 (l : Launch) (hfl : l.stackTraces = false) (N : Nat)  : am_V l cX11_operate 5 RX11 (am_E (some .long) yX11_operate.name) 1 60 71 (kX11_operate_71 N) := by
  refine av_live ?_
  exact av_lreturn am_hl dX11_operate_71
set_option maxRecDepth 20000 in
theorem vX11_operate_59 (l : Launch) (hfl : l.stackTraces = false) (N : Nat)  : am_V l cX11_operate 5 RX11 (am_E (some .long) yX11_operate.name) 1 60 59 (kX11_operate_59 N) := by
  refine av_live ?_
  exact av_lreturn am_hl dX11_operate_59
set_option maxRecDepth 20000 in
theorem vX11_operate_47 (l : Launch) (hfl : l.stackTraces = false) (N : Nat)  : am_V l cX11_operate 5 RX11 (am_E (some .long) yX11_operate.name) 1 60 47 (kX11_operate_47 N) := by
  refine av_live ?_
  exact av_lreturn am_hl dX11_operate_47
set_option maxRecDepth 20000 in
theorem vX11_operate_0 (l : Launch) (hfl : l.stackTraces = false) (N : Nat)  : am_V l cX11_operate 5 RX11 (am_E (some .long) yX11_operate.name) 1 60 0 (kX11_operate_0 N) := by
  refine av_live ?_
  refine av_iload_n dX11_operate_0 rfl ?_
  refine av_sw (n := 5) (tgt := 76) (fun i => ([72, 76, 60, 48, 36] : List Nat).getD i 0) dX11_operate_1 (by decide) (by decide) ?_ (by decide +kernel) ?_
  · exact vX11_operate_76 l hfl N
  · intro i hi
    match i, hi with
    | 0, _ =>
      show am_V _ _ _ _ _ _ _ 72 (
  c_lld 1 <|
  c_lld 3 <|
  c_ll (fun x y => x &&& y) <|
  c_lret)
      refine av_lload_n dX11_operate_72 rfl ?_
      refine av_lload_n dX11_operate_73 rfl ?_
      refine av_land dX11_operate_74 ?_
      exact av_lreturn am_hl dX11_operate_75
    | 1, _ =>
      show am_V _ _ _ _ _ _ _ 76 (
  kX11_operate_76 N)
      exact vX11_operate_76 l hfl N
    | 2, _ =>
      show am_V _ _ _ _ _ _ _ 60 (
  c_lld 1 <|
  c_lld 3 <|
  c_cmp (fun x y => lg_cmp x y) <|
  c_ifle (
  c_l 0 <|
  kX11_operate_71 N) <|
  c_l 1 <|
  kX11_operate_71 N)
      refine av_lload_n dX11_operate_60 rfl ?_
      refine av_lload_n dX11_operate_61 rfl ?_
      refine av_lcmp dX11_operate_62 ?_
      refine av_ifle (tgt := 70) dX11_operate_63 (by decide) ?_ ?_
      · refine av_lconst dX11_operate_70 (by decide) ?_
        exact vX11_operate_71 l hfl N
      refine av_lconst dX11_operate_66 (by decide) ?_
      refine av_goto (tgt := 71) dX11_operate_67 (by decide) ?_
      exact vX11_operate_71 l hfl N
    | 3, _ =>
      show am_V _ _ _ _ _ _ _ 48 (
  c_lld 1 <|
  c_lld 3 <|
  c_cmp (fun x y => lg_cmp x y) <|
  c_ifne (
  c_l 0 <|
  kX11_operate_59 N) <|
  c_l 1 <|
  kX11_operate_59 N)
      refine av_lload_n dX11_operate_48 rfl ?_
      refine av_lload_n dX11_operate_49 rfl ?_
      refine av_lcmp dX11_operate_50 ?_
      refine av_ifne (tgt := 58) dX11_operate_51 (by decide) ?_ ?_
      · refine av_lconst dX11_operate_58 (by decide) ?_
        exact vX11_operate_59 l hfl N
      refine av_lconst dX11_operate_54 (by decide) ?_
      refine av_goto (tgt := 59) dX11_operate_55 (by decide) ?_
      exact vX11_operate_59 l hfl N
    | 4, _ =>
      show am_V _ _ _ _ _ _ _ 36 (
  c_lld 1 <|
  c_lld 3 <|
  c_cmp (fun x y => lg_cmp x y) <|
  c_ifge (
  c_l 0 <|
  kX11_operate_47 N) <|
  c_l 1 <|
  kX11_operate_47 N)
      refine av_lload_n dX11_operate_36 rfl ?_
      refine av_lload_n dX11_operate_37 rfl ?_
      refine av_lcmp dX11_operate_38 ?_
      refine av_ifge (tgt := 46) dX11_operate_39 (by decide) ?_ ?_
      · refine av_lconst dX11_operate_46 (by decide) ?_
        exact vX11_operate_47 l hfl N
      refine av_lconst dX11_operate_42 (by decide) ?_
      refine av_goto (tgt := 47) dX11_operate_43 (by decide) ?_
      exact vX11_operate_47 l hfl N
    | i + 5, hi => exact absurd hi (by omega)
theorem mX11_operate (l : Launch) (hfl : l.stackTraces = false) (N : Nat) : am_M l yX11_operate cX11_operate 5 (some .long) 1 60 (fX11_operate N) := av_meth hfl (by decide +kernel) rfl (vX11_operate_0 l hfl N)
/-! MessengerBoardModel.holdsFor(I)Z -/
noncomputable def kX11_holdsFor_140 (N : Nat) : am_K := c_live [] <|
  c_zret
noncomputable def kX11_holdsFor_118 (N : Nat) (r4 : am_K) : am_K := c_live [0, 1, 2, 3] <|
  c_inc 3 (1) <|
  c_live [0, 1, 2, 3] r4
noncomputable def kX11_holdsFor_81 (N : Nat) (r4 : am_K) : am_K := c_live [0, 1, 2, 3] <|
  c_las <|
  c_inc 2 (1) <|
  kX11_holdsFor_118 N r4
noncomputable def bX11_holdsFor_4 (N : Nat) (r4 : am_K) : am_K :=
  c_ild 3 <|
  c_rld 0 <|
  c_geti 11 27 <|
  c_icge (
  c_rld 0 <|
  c_getr 11 26 <|
  c_i (0) <|
  c_lal <|
  c_l 1 <|
  c_cmp (fun x y => lg_cmp x y) <|
  c_ifne (
  c_i (0) <|
  kX11_holdsFor_140 N) <|
  c_i (1) <|
  kX11_holdsFor_140 N) <|
  c_rld 0 <|
  c_getr 11 25 <|
  c_ild 3 <|
  c_ial <|
  c_ist 4 <|
  c_ild 4 <|
  c_i (-23) <|
  c_icne (
  c_ild 4 <|
  c_i (-20) <|
  c_icle (
  c_inc 2 (-1) <|
  c_rld 0 <|
  c_getr 11 26 <|
  c_ild 2 <|
  c_i (1) <|
  c_ii (fun x y => x - y) <|
  c_ild 4 <|
  c_rld 0 <|
  c_getr 11 26 <|
  c_ild 2 <|
  c_i (1) <|
  c_ii (fun x y => x - y) <|
  c_lal <|
  c_rld 0 <|
  c_getr 11 26 <|
  c_ild 2 <|
  c_lal <|
  c_callS 3 (fX11_operate N) <|
  c_las <|
  kX11_holdsFor_118 N r4) <|
  c_rld 0 <|
  c_getr 11 26 <|
  c_ild 2 <|
  c_ild 4 <|
  c_iflt (
  c_rld 0 <|
  c_ild 1 <|
  c_i (-1) <|
  c_ild 4 <|
  c_ii (fun x y => x - y) <|
  c_callV 11 2 (fX11_property N) <|
  c_il (fun x => x.toInt64) <|
  kX11_holdsFor_81 N r4) <|
  c_ild 4 <|
  c_il (fun x => x.toInt64) <|
  kX11_holdsFor_81 N r4) <|
  c_rld 0 <|
  c_getr 11 26 <|
  c_ild 2 <|
  c_i (1) <|
  c_ii (fun x y => x - y) <|
  c_l 1 <|
  c_rld 0 <|
  c_getr 11 26 <|
  c_ild 2 <|
  c_i (1) <|
  c_ii (fun x y => x - y) <|
  c_lal <|
  c_ll (fun x y => x - y) <|
  c_las <|
  kX11_holdsFor_118 N r4
noncomputable def kX11_holdsFor_4 (N : Nat) : am_K := c_live [0, 1, 2, 3] (am_loop (bX11_holdsFor_4 N) N)
noncomputable def kX11_holdsFor_0 (N : Nat) : am_K := c_live [0, 1] <|
  c_i (0) <|
  c_ist 2 <|
  c_i (0) <|
  c_ist 3 <|
  kX11_holdsFor_4 N
noncomputable def fX11_holdsFor (N : Nat) : am_F := am_fn 5 (kX11_holdsFor_0 N)
set_option maxRecDepth 20000 in
theorem vX11_holdsFor_140 (l : Launch) (hfl : l.stackTraces = false) (N : Nat)  : am_V l cX11_holdsFor 5 RX11 (am_E (some .boolean) yX11_holdsFor.name) 4 125 140 (kX11_holdsFor_140 N) := by
  refine av_live ?_
  exact av_zreturn am_hz dX11_holdsFor_140
set_option maxRecDepth 20000 in
theorem vX11_holdsFor_118 (l : Launch) (hfl : l.stackTraces = false) (N : Nat)  {r4 : am_K} (h4 : am_V l cX11_holdsFor 5 RX11 (am_E (some .boolean) yX11_holdsFor.name) 4 125 4 r4) : am_V l cX11_holdsFor 5 RX11 (am_E (some .boolean) yX11_holdsFor.name) 4 125 118 (kX11_holdsFor_118 N r4) := by
  refine av_live ?_
  refine av_iinc dX11_holdsFor_118 (by decide) (by decide) ?_
  refine av_goto (tgt := 4) dX11_holdsFor_121 (by decide) ?_
  exact av_live h4
set_option maxRecDepth 20000 in
theorem vX11_holdsFor_81 (l : Launch) (hfl : l.stackTraces = false) (N : Nat)  {r4 : am_K} (h4 : am_V l cX11_holdsFor 5 RX11 (am_E (some .boolean) yX11_holdsFor.name) 4 125 4 r4) : am_V l cX11_holdsFor 5 RX11 (am_E (some .boolean) yX11_holdsFor.name) 4 125 81 (kX11_holdsFor_81 N r4) := by
  refine av_live ?_
  refine av_lastore dX11_holdsFor_81 ?_
  refine av_iinc dX11_holdsFor_82 (by decide) (by decide) ?_
  refine av_goto (tgt := 118) dX11_holdsFor_85 (by decide) ?_
  exact vX11_holdsFor_118 l hfl N h4
set_option maxRecDepth 20000 in
theorem vX11_holdsFor_4 (l : Launch) (hfl : l.stackTraces = false) (N : Nat)  : am_V l cX11_holdsFor 5 RX11 (am_E (some .boolean) yX11_holdsFor.name) 4 125 4 (kX11_holdsFor_4 N) := by
  refine av_live ?_
  refine av_loop (fun r4 h4 => ?_) N
  refine av_iload_n dX11_holdsFor_4 rfl ?_
  refine av_aload_n dX11_holdsFor_5 rfl ?_
  refine av_geti am_ci11 (by decide) am_f11_27 q948 dX11_holdsFor_6 ?_
  refine av_icge (tgt := 124) dX11_holdsFor_9 (by decide) ?_ ?_
  · refine av_aload_n dX11_holdsFor_124 rfl ?_
    refine av_getr am_ci11 (by decide) am_f11_26 q625 dX11_holdsFor_125 ?_
    refine av_iconst (v := 0) dX11_holdsFor_128 (by decide) ?_
    refine av_laload dX11_holdsFor_129 ?_
    refine av_lconst dX11_holdsFor_130 (by decide) ?_
    refine av_lcmp dX11_holdsFor_131 ?_
    refine av_ifne (tgt := 139) dX11_holdsFor_132 (by decide) ?_ ?_
    · refine av_iconst (v := 0) dX11_holdsFor_139 (by decide) ?_
      exact vX11_holdsFor_140 l hfl N
    refine av_iconst (v := 1) dX11_holdsFor_135 (by decide) ?_
    refine av_goto (tgt := 140) dX11_holdsFor_136 (by decide) ?_
    exact vX11_holdsFor_140 l hfl N
  refine av_aload_n dX11_holdsFor_12 rfl ?_
  refine av_getr am_ci11 (by decide) am_f11_25 q623 dX11_holdsFor_13 ?_
  refine av_iload_n dX11_holdsFor_16 rfl ?_
  refine av_iaload dX11_holdsFor_17 ?_
  refine av_istore dX11_holdsFor_18 (by decide) ?_
  refine av_iload dX11_holdsFor_20 ?_
  refine av_bipush (v := -23) dX11_holdsFor_22 (by decide) ?_
  refine av_icne (tgt := 48) dX11_holdsFor_24 (by decide) ?_ ?_
  · refine av_iload dX11_holdsFor_48 ?_
    refine av_bipush (v := -20) dX11_holdsFor_50 (by decide) ?_
    refine av_icle (tgt := 88) dX11_holdsFor_52 (by decide) ?_ ?_
    · refine av_iinc dX11_holdsFor_88 (by decide) (by decide) ?_
      refine av_aload_n dX11_holdsFor_91 rfl ?_
      refine av_getr am_ci11 (by decide) am_f11_26 q625 dX11_holdsFor_92 ?_
      refine av_iload_n dX11_holdsFor_95 rfl ?_
      refine av_iconst (v := 1) dX11_holdsFor_96 (by decide) ?_
      refine av_isub dX11_holdsFor_97 ?_
      refine av_iload dX11_holdsFor_98 ?_
      refine av_aload_n dX11_holdsFor_100 rfl ?_
      refine av_getr am_ci11 (by decide) am_f11_26 q625 dX11_holdsFor_101 ?_
      refine av_iload_n dX11_holdsFor_104 rfl ?_
      refine av_iconst (v := 1) dX11_holdsFor_105 (by decide) ?_
      refine av_isub dX11_holdsFor_106 ?_
      refine av_laload dX11_holdsFor_107 ?_
      refine av_aload_n dX11_holdsFor_108 rfl ?_
      refine av_getr am_ci11 (by decide) am_f11_26 q625 dX11_holdsFor_109 ?_
      refine av_iload_n dX11_holdsFor_112 rfl ?_
      refine av_laload dX11_holdsFor_113 ?_
      refine av_callS am_hT (mX11_operate l hfl N) ⟨by decide +kernel, by decide +kernel, by decide +kernel⟩ q973 q974 q628 q975 (by decide) (by decide) dX11_holdsFor_114 ?_
      refine av_lastore dX11_holdsFor_117 ?_
      exact vX11_holdsFor_118 l hfl N h4
    refine av_aload_n dX11_holdsFor_55 rfl ?_
    refine av_getr am_ci11 (by decide) am_f11_26 q625 dX11_holdsFor_56 ?_
    refine av_iload_n dX11_holdsFor_59 rfl ?_
    refine av_iload dX11_holdsFor_60 ?_
    refine av_iflt (tgt := 71) dX11_holdsFor_62 (by decide) ?_ ?_
    · refine av_aload_n dX11_holdsFor_71 rfl ?_
      refine av_iload_n dX11_holdsFor_72 rfl ?_
      refine av_iconst (v := -1) dX11_holdsFor_73 (by decide) ?_
      refine av_iload dX11_holdsFor_74 ?_
      refine av_isub dX11_holdsFor_76 ?_
      refine av_callV am_hT (mX11_property l hfl N) am_ci11 ⟨by decide +kernel, by decide +kernel, by decide +kernel⟩ q976 q977 q628 q978 q979 (by decide) (by decide) dX11_holdsFor_77 ?_
      refine av_i2l dX11_holdsFor_80 ?_
      exact vX11_holdsFor_81 l hfl N h4
    refine av_iload dX11_holdsFor_65 ?_
    refine av_i2l dX11_holdsFor_67 ?_
    refine av_goto (tgt := 81) dX11_holdsFor_68 (by decide) ?_
    exact vX11_holdsFor_81 l hfl N h4
  refine av_aload_n dX11_holdsFor_27 rfl ?_
  refine av_getr am_ci11 (by decide) am_f11_26 q625 dX11_holdsFor_28 ?_
  refine av_iload_n dX11_holdsFor_31 rfl ?_
  refine av_iconst (v := 1) dX11_holdsFor_32 (by decide) ?_
  refine av_isub dX11_holdsFor_33 ?_
  refine av_lconst dX11_holdsFor_34 (by decide) ?_
  refine av_aload_n dX11_holdsFor_35 rfl ?_
  refine av_getr am_ci11 (by decide) am_f11_26 q625 dX11_holdsFor_36 ?_
  refine av_iload_n dX11_holdsFor_39 rfl ?_
  refine av_iconst (v := 1) dX11_holdsFor_40 (by decide) ?_
  refine av_isub dX11_holdsFor_41 ?_
  refine av_laload dX11_holdsFor_42 ?_
  refine av_lsub dX11_holdsFor_43 ?_
  refine av_lastore dX11_holdsFor_44 ?_
  refine av_goto (tgt := 118) dX11_holdsFor_45 (by decide) ?_
  exact vX11_holdsFor_118 l hfl N h4
set_option maxRecDepth 20000 in
theorem vX11_holdsFor_0 (l : Launch) (hfl : l.stackTraces = false) (N : Nat)  : am_V l cX11_holdsFor 5 RX11 (am_E (some .boolean) yX11_holdsFor.name) 4 125 0 (kX11_holdsFor_0 N) := by
  refine av_live ?_
  refine av_iconst (v := 0) dX11_holdsFor_0 (by decide) ?_
  refine av_istore_n dX11_holdsFor_1 rfl (by decide) ?_
  refine av_iconst (v := 0) dX11_holdsFor_2 (by decide) ?_
  refine av_istore_n dX11_holdsFor_3 rfl (by decide) ?_
  exact vX11_holdsFor_4 l hfl N
theorem mX11_holdsFor (l : Launch) (hfl : l.stackTraces = false) (N : Nat) : am_M l yX11_holdsFor cX11_holdsFor 5 (some .boolean) 4 125 (fX11_holdsFor N) := av_meth hfl (by decide +kernel) rfl (vX11_holdsFor_0 l hfl N)
/-! MessengerBoardModel.query(I)I -/
noncomputable def kX11_query_172 (N : Nat) : am_K := c_live [] <|
  c_iret
noncomputable def kX11_query_157 (N : Nat) (r124 : am_K) : am_K := c_live [0, 2, 3, 4] <|
  c_inc 4 (1) <|
  c_live [0, 2, 3, 4] r124
noncomputable def bX11_query_124 (N : Nat) (r124 : am_K) : am_K :=
  c_ild 4 <|
  c_rld 0 <|
  c_getr 11 0 <|
  c_i (4) <|
  c_ial <|
  c_icge (
  c_ild 2 <|
  c_ifeq (
  c_ild 3 <|
  kX11_query_172 N) <|
  c_i (-1) <|
  kX11_query_172 N) <|
  c_rld 0 <|
  c_ild 4 <|
  c_callV 11 1 (fX11_holdsFor N) <|
  c_ifne (
  c_ild 2 <|
  c_ifeq (
  c_inc 3 (1) <|
  kX11_query_157 N r124) <|
  c_ild 4 <|
  c_iret) <|
  kX11_query_157 N r124
noncomputable def kX11_query_124 (N : Nat) : am_K := c_live [0, 2, 3, 4] (am_loop (bX11_query_124 N) N)
noncomputable def kX11_query_99 (N : Nat) : am_K := c_live [0, 2] <|
  c_i (1) <|
  c_callV 11 2 (fX11_check N) <|
  c_rld 0 <|
  c_callV 11 0 (fX11_finish N) <|
  c_ifeq (
  c_i (0) <|
  c_ist 3 <|
  c_i (0) <|
  c_ist 4 <|
  kX11_query_124 N) <|
  c_i (-1000000000) <|
  c_rld 0 <|
  c_geti 11 18 <|
  c_ii (fun x y => x - y) <|
  c_iret
noncomputable def kX11_query_94 (N : Nat) : am_K := c_live [0, 2] <|
  c_i (1) <|
  kX11_query_99 N
noncomputable def kX11_query_67 (N : Nat) : am_K := c_live [0, 2] <|
  c_i (1) <|
  c_callV 11 2 (fX11_check N) <|
  c_rld 0 <|
  c_callV 11 0 (fX11_advance N) <|
  c_rld 0 <|
  c_callV 11 0 (fX11_compileTest N (rX11_compileFactor N 8)) <|
  c_rld 0 <|
  c_rld 0 <|
  c_geti 11 18 <|
  c_ifne (
  kX11_query_94 N) <|
  c_rld 0 <|
  c_geti 11 17 <|
  c_ifne (
  c_i (0) <|
  kX11_query_99 N) <|
  kX11_query_94 N
noncomputable def kX11_query_62 (N : Nat) : am_K := c_live [0, 2] <|
  c_i (1) <|
  kX11_query_67 N
noncomputable def kX11_query_0 (N : Nat) : am_K := c_live [0, 1] <|
  c_rld 0 <|
  c_i (0) <|
  c_puti 11 6 <|
  c_ild 1 <|
  c_i (0) <|
  c_rld 0 <|
  c_geti 11 13 <|
  c_i (200) <|
  c_min <|
  c_callS 3 (fX11_inRange N) <|
  c_ifne (
  c_rld 0 <|
  c_i (0) <|
  c_puti 11 27 <|
  c_rld 0 <|
  c_ild 1 <|
  c_callV 11 1 (fX11_startText N) <|
  c_rld 0 <|
  c_a 21 <|
  c_callV 11 1 (fX11_isWord N) <|
  c_ist 2 <|
  c_rld 0 <|
  c_ild 2 <|
  c_ifne (
  kX11_query_62 N) <|
  c_rld 0 <|
  c_a 20 <|
  c_callV 11 1 (fX11_isWord N) <|
  c_ifeq (
  c_i (0) <|
  kX11_query_67 N) <|
  kX11_query_62 N) <|
  c_rld 0 <|
  c_i (1) <|
  c_callV 11 1 (fX11_raise N) <|
  c_iret
noncomputable def fX11_query (N : Nat) : am_F := am_fn 5 (kX11_query_0 N)
set_option maxRecDepth 20000 in
theorem vX11_query_172 (l : Launch) (hfl : l.stackTraces = false) (N : Nat)  : am_V l cX11_query 5 RX11 (am_E (some .int) yX11_query.name) 47 2280 172 (kX11_query_172 N) := by
  refine av_live ?_
  exact av_ireturn am_hi dX11_query_172
set_option maxRecDepth 20000 in
theorem vX11_query_157 (l : Launch) (hfl : l.stackTraces = false) (N : Nat)  {r124 : am_K} (h124 : am_V l cX11_query 5 RX11 (am_E (some .int) yX11_query.name) 47 2280 124 r124) : am_V l cX11_query 5 RX11 (am_E (some .int) yX11_query.name) 47 2280 157 (kX11_query_157 N r124) := by
  refine av_live ?_
  refine av_iinc dX11_query_157 (by decide) (by decide) ?_
  refine av_goto (tgt := 124) dX11_query_160 (by decide) ?_
  exact av_live h124
set_option maxRecDepth 20000 in
theorem vX11_query_124 (l : Launch) (hfl : l.stackTraces = false) (N : Nat)  : am_V l cX11_query 5 RX11 (am_E (some .int) yX11_query.name) 47 2280 124 (kX11_query_124 N) := by
  refine av_live ?_
  refine av_loop (fun r124 h124 => ?_) N
  refine av_iload dX11_query_124 ?_
  refine av_aload_n dX11_query_126 rfl ?_
  refine av_getr am_ci11 (by decide) am_f11_0 q610 dX11_query_127 ?_
  refine av_iconst (v := 4) dX11_query_130 (by decide) ?_
  refine av_iaload dX11_query_131 ?_
  refine av_icge (tgt := 163) dX11_query_132 (by decide) ?_ ?_
  · refine av_iload_n dX11_query_163 rfl ?_
    refine av_ifeq (tgt := 171) dX11_query_164 (by decide) ?_ ?_
    · refine av_iload_n dX11_query_171 rfl ?_
      exact vX11_query_172 l hfl N
    refine av_iconst (v := -1) dX11_query_167 (by decide) ?_
    refine av_goto (tgt := 172) dX11_query_168 (by decide) ?_
    exact vX11_query_172 l hfl N
  refine av_aload_n dX11_query_135 rfl ?_
  refine av_iload dX11_query_136 ?_
  refine av_callV am_hT (mX11_holdsFor l hfl N) am_ci11 ⟨by decide +kernel, by decide +kernel, by decide +kernel⟩ q981 q982 q628 q983 q984 (by decide) (by decide) dX11_query_138 ?_
  refine av_ifne (tgt := 147) dX11_query_141 (by decide) ?_ ?_
  · refine av_iload_n dX11_query_147 rfl ?_
    refine av_ifeq (tgt := 154) dX11_query_148 (by decide) ?_ ?_
    · refine av_iinc dX11_query_154 (by decide) (by decide) ?_
      exact vX11_query_157 l hfl N h124
    refine av_iload dX11_query_151 ?_
    exact av_ireturn am_hi dX11_query_153
  refine av_goto (tgt := 157) dX11_query_144 (by decide) ?_
  exact vX11_query_157 l hfl N h124
set_option maxRecDepth 20000 in
theorem vX11_query_99 (l : Launch) (hfl : l.stackTraces = false) (N : Nat)  : am_V l cX11_query 5 RX11 (am_E (some .int) yX11_query.name) 47 2280 99 (kX11_query_99 N) := by
  refine av_live ?_
  refine av_iconst (v := 1) dX11_query_99 (by decide) ?_
  refine av_callV am_hT (mX11_check l hfl N) am_ci11 ⟨by decide +kernel, by decide +kernel, by decide +kernel⟩ q864 q865 q628 q866 q867 (by decide) (by decide) dX11_query_100 ?_
  refine av_aload_n dX11_query_103 rfl ?_
  refine av_callV am_hT (mX11_finish l hfl N) am_ci11 ⟨by decide +kernel, by decide +kernel, by decide +kernel⟩ q944 q945 q628 q946 q947 (by decide) (by decide) dX11_query_104 ?_
  refine av_ifeq (tgt := 119) dX11_query_107 (by decide) ?_ ?_
  · refine av_iconst (v := 0) dX11_query_119 (by decide) ?_
    refine av_istore_n dX11_query_120 rfl (by decide) ?_
    refine av_iconst (v := 0) dX11_query_121 (by decide) ?_
    refine av_istore dX11_query_122 (by decide) ?_
    exact vX11_query_124 l hfl N
  refine av_ldcw dX11_query_110 q985 ?_
  refine av_aload_n dX11_query_113 rfl ?_
  refine av_geti am_ci11 (by decide) am_f11_18 q847 dX11_query_114 ?_
  refine av_isub dX11_query_117 ?_
  exact av_ireturn am_hi dX11_query_118
set_option maxRecDepth 20000 in
theorem vX11_query_94 (l : Launch) (hfl : l.stackTraces = false) (N : Nat)  : am_V l cX11_query 5 RX11 (am_E (some .int) yX11_query.name) 47 2280 94 (kX11_query_94 N) := by
  refine av_live ?_
  refine av_iconst (v := 1) dX11_query_94 (by decide) ?_
  refine av_goto (tgt := 99) dX11_query_95 (by decide) ?_
  exact vX11_query_99 l hfl N
set_option maxRecDepth 20000 in
theorem vX11_query_67 (l : Launch) (hfl : l.stackTraces = false) (N : Nat)  : am_V l cX11_query 5 RX11 (am_E (some .int) yX11_query.name) 47 2280 67 (kX11_query_67 N) := by
  refine av_live ?_
  refine av_iconst (v := 1) dX11_query_67 (by decide) ?_
  refine av_callV am_hT (mX11_check l hfl N) am_ci11 ⟨by decide +kernel, by decide +kernel, by decide +kernel⟩ q864 q865 q628 q866 q867 (by decide) (by decide) dX11_query_68 ?_
  refine av_aload_n dX11_query_71 rfl ?_
  refine av_callV am_hT (mX11_advance l hfl N) am_ci11 ⟨by decide +kernel, by decide +kernel, by decide +kernel⟩ q868 q869 q628 q870 q871 (by decide) (by decide) dX11_query_72 ?_
  refine av_aload_n dX11_query_75 rfl ?_
  refine av_callV am_hT (mX11_compileTest l hfl N (rX11_compileFactor_m l hfl N 8)) am_ci11 ⟨by decide +kernel, by decide +kernel, by decide +kernel⟩ q969 q970 q628 q971 q972 (by decide) (by decide) dX11_query_76 ?_
  refine av_aload_n dX11_query_79 rfl ?_
  refine av_aload_n dX11_query_80 rfl ?_
  refine av_geti am_ci11 (by decide) am_f11_18 q847 dX11_query_81 ?_
  refine av_ifne (tgt := 94) dX11_query_84 (by decide) ?_ ?_
  · exact vX11_query_94 l hfl N
  refine av_aload_n dX11_query_87 rfl ?_
  refine av_geti am_ci11 (by decide) am_f11_17 q846 dX11_query_88 ?_
  refine av_ifne (tgt := 98) dX11_query_91 (by decide) ?_ ?_
  · refine av_iconst (v := 0) dX11_query_98 (by decide) ?_
    exact vX11_query_99 l hfl N
  exact vX11_query_94 l hfl N
set_option maxRecDepth 20000 in
theorem vX11_query_62 (l : Launch) (hfl : l.stackTraces = false) (N : Nat)  : am_V l cX11_query 5 RX11 (am_E (some .int) yX11_query.name) 47 2280 62 (kX11_query_62 N) := by
  refine av_live ?_
  refine av_iconst (v := 1) dX11_query_62 (by decide) ?_
  refine av_goto (tgt := 67) dX11_query_63 (by decide) ?_
  exact vX11_query_67 l hfl N
set_option maxRecDepth 20000 in
theorem vX11_query_0 (l : Launch) (hfl : l.stackTraces = false) (N : Nat)  : am_V l cX11_query 5 RX11 (am_E (some .int) yX11_query.name) 47 2280 0 (kX11_query_0 N) := by
  refine av_live ?_
  refine av_aload_n dX11_query_0 rfl ?_
  refine av_iconst (v := 0) dX11_query_1 (by decide) ?_
  refine av_puti am_ci11 (by decide) am_f11_6 q630 (tyX11_ok 6 (by decide)) rfl dX11_query_2 ?_
  refine av_iload_n dX11_query_5 rfl ?_
  refine av_iconst (v := 0) dX11_query_6 (by decide) ?_
  refine av_aload_n dX11_query_7 rfl ?_
  refine av_geti am_ci11 (by decide) am_f11_13 q830 dX11_query_8 ?_
  refine av_sipush (v := 200) dX11_query_11 (by decide) ?_
  refine av_min q980 q41 q42 q43 (by decide) (by decide) dX11_query_14 ?_
  refine av_callS am_hT (mX11_inRange l hfl N) ⟨by decide +kernel, by decide +kernel, by decide +kernel⟩ q631 q632 q628 q633 (by decide) (by decide) dX11_query_17 ?_
  refine av_ifne (tgt := 29) dX11_query_20 (by decide) ?_ ?_
  · refine av_aload_n dX11_query_29 rfl ?_
    refine av_iconst (v := 0) dX11_query_30 (by decide) ?_
    refine av_puti am_ci11 (by decide) am_f11_27 q948 (tyX11_ok 27 (by decide)) rfl dX11_query_31 ?_
    refine av_aload_n dX11_query_34 rfl ?_
    refine av_iload_n dX11_query_35 rfl ?_
    refine av_callV am_hT (mX11_startText l hfl N) am_ci11 ⟨by decide +kernel, by decide +kernel, by decide +kernel⟩ q936 q937 q628 q938 q939 (by decide) (by decide) dX11_query_36 ?_
    refine av_aload_n dX11_query_39 rfl ?_
    refine av_ldcsw t48 (by decide) dX11_query_40 ?_
    refine av_callV am_hT (mX11_isWord l hfl N) am_ci11 ⟨by decide +kernel, by decide +kernel, by decide +kernel⟩ q860 q861 q628 q862 q863 (by decide) (by decide) dX11_query_43 ?_
    refine av_istore_n dX11_query_46 rfl (by decide) ?_
    refine av_aload_n dX11_query_47 rfl ?_
    refine av_iload_n dX11_query_48 rfl ?_
    refine av_ifne (tgt := 62) dX11_query_49 (by decide) ?_ ?_
    · exact vX11_query_62 l hfl N
    refine av_aload_n dX11_query_52 rfl ?_
    refine av_ldcsw t49 (by decide) dX11_query_53 ?_
    refine av_callV am_hT (mX11_isWord l hfl N) am_ci11 ⟨by decide +kernel, by decide +kernel, by decide +kernel⟩ q860 q861 q628 q862 q863 (by decide) (by decide) dX11_query_56 ?_
    refine av_ifeq (tgt := 66) dX11_query_59 (by decide) ?_ ?_
    · refine av_iconst (v := 0) dX11_query_66 (by decide) ?_
      exact vX11_query_67 l hfl N
    exact vX11_query_62 l hfl N
  refine av_aload_n dX11_query_23 rfl ?_
  refine av_iconst (v := 1) dX11_query_24 (by decide) ?_
  refine av_callV am_hT (mX11_raise l hfl N) am_ci11 ⟨by decide +kernel, by decide +kernel, by decide +kernel⟩ q634 q635 q628 q636 q637 (by decide) (by decide) dX11_query_25 ?_
  exact av_ireturn am_hi dX11_query_28
theorem mX11_query (l : Launch) (hfl : l.stackTraces = false) (N : Nat) : am_M l yX11_query cX11_query 5 (some .int) 47 2280 (fX11_query N) := av_meth hfl (by decide +kernel) rfl (vX11_query_0 l hfl N)
