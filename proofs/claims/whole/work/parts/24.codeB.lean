/-! MessengerBoard.<init>()V -/
noncomputable def kX10_init_0 (N : Nat) : am_K := c_live [0] <|
  c_rld 0 <|
  c_oinit <|
  c_rld 0 <|
  c_new 6 <|
  c_dup <|
  c_callI 0 (fX6_init N) <|
  c_putr 10 0 <|
  c_rld 0 <|
  c_new 6 <|
  c_dup <|
  c_callI 0 (fX6_init N) <|
  c_putr 10 1 <|
  c_rld 0 <|
  c_new 9 <|
  c_dup <|
  c_callI 0 (fX9_init N) <|
  c_putr 10 2 <|
  c_rld 0 <|
  c_new 3 <|
  c_dup <|
  c_callI 0 (fX3_init N) <|
  c_putr 10 3 <|
  c_rld 0 <|
  c_new 4 <|
  c_dup <|
  c_rld 0 <|
  c_getr 10 0 <|
  c_callI 1 (fX4_init N) <|
  c_putr 10 4 <|
  c_rld 0 <|
  c_new 1 <|
  c_dup <|
  c_rld 0 <|
  c_getr 10 4 <|
  c_callI 1 (fX1_init N) <|
  c_putr 10 5 <|
  c_rld 0 <|
  c_i (600) <|
  c_newa 20 <|
  c_putr 10 6 <|
  c_rld 0 <|
  c_new 8 <|
  c_dup <|
  c_rld 0 <|
  c_getr 10 6 <|
  c_callI 1 (fX8_init N) <|
  c_putr 10 7 <|
  c_rld 0 <|
  c_new 0 <|
  c_dup <|
  c_rld 0 <|
  c_getr 10 7 <|
  c_rld 0 <|
  c_getr 10 1 <|
  c_callI 2 (fX0_init N) <|
  c_putr 10 8 <|
  c_rld 0 <|
  c_new 5 <|
  c_dup <|
  c_rld 0 <|
  c_getr 10 7 <|
  c_rld 0 <|
  c_getr 10 0 <|
  c_callI 2 (fX5_init N) <|
  c_putr 10 9 <|
  c_rld 0 <|
  c_i (12) <|
  c_newa 20 <|
  c_putr 10 10 <|
  c_rld 0 <|
  c_i (-1) <|
  c_puti 10 15 <|
  c_vret
noncomputable def fX10_init (N : Nat) : am_F := am_fn 1 (kX10_init_0 N)
set_option maxRecDepth 20000 in
theorem vX10_init_0 (l : Launch) (hfl : l.stackTraces = false) (N : Nat)  : am_V l cX10_init 1 RX10 (am_E none yX10_init.name) 3 103 0 (kX10_init_0 N) := by
  refine av_live ?_
  refine av_aload_n dX10_init_0 rfl ?_
  refine av_objInit q411 q25 q26 (by decide) (by decide) dX10_init_1 ?_
  refine av_aload_n dX10_init_4 rfl ?_
  refine av_newobj am_ci6 q412 q147 q126 dX10_init_5 ?_
  refine av_dup dX10_init_8 ?_
  refine av_callI (mX6_init l hfl N) rfl ⟨by decide +kernel, by decide +kernel, by decide +kernel⟩ q413 q149 q126 q150 (by decide) (by decide) dX10_init_9 ?_
  refine av_putrF am_ci10 (by decide) am_f10_0 q414 (tyX10_ok 0 (by decide)) (fun _ => ⟨rfl, rfl⟩) ⟨rfl, rfl⟩ dX10_init_12 ?_
  refine av_aload_n dX10_init_15 rfl ?_
  refine av_newobj am_ci6 q412 q147 q126 dX10_init_16 ?_
  refine av_dup dX10_init_19 ?_
  refine av_callI (mX6_init l hfl N) rfl ⟨by decide +kernel, by decide +kernel, by decide +kernel⟩ q413 q149 q126 q150 (by decide) (by decide) dX10_init_20 ?_
  refine av_putrF am_ci10 (by decide) am_f10_1 q415 (tyX10_ok 1 (by decide)) (fun _ => ⟨rfl, rfl⟩) ⟨rfl, rfl⟩ dX10_init_23 ?_
  refine av_aload_n dX10_init_26 rfl ?_
  refine av_newobj am_ci9 q416 q417 q418 dX10_init_27 ?_
  refine av_dup dX10_init_30 ?_
  refine av_callIN (mX9_init l hfl N) rfl ⟨by decide +kernel, by decide +kernel, by decide +kernel⟩ n0 q419 q418 q420 (by decide) (by decide) dX10_init_31 ?_
  refine av_putrF am_ci10 (by decide) am_f10_2 q421 (tyX10_ok 2 (by decide)) (fun _ => ⟨rfl, rfl⟩) ⟨rfl, rfl⟩ dX10_init_34 ?_
  refine av_aload_n dX10_init_37 rfl ?_
  refine av_newobj am_ci3 q422 q423 q424 dX10_init_38 ?_
  refine av_dup dX10_init_41 ?_
  refine av_callIN (mX3_init l hfl N) rfl ⟨by decide +kernel, by decide +kernel, by decide +kernel⟩ n1 q425 q424 q426 (by decide) (by decide) dX10_init_42 ?_
  refine av_putrF am_ci10 (by decide) am_f10_3 q427 (tyX10_ok 3 (by decide)) (fun _ => ⟨rfl, rfl⟩) ⟨rfl, rfl⟩ dX10_init_45 ?_
  refine av_aload_n dX10_init_48 rfl ?_
  refine av_newobj am_ci4 q428 q429 q185 dX10_init_49 ?_
  refine av_dup dX10_init_52 ?_
  refine av_aload_n dX10_init_53 rfl ?_
  refine av_getr am_ci10 (by decide) am_f10_0 q414 dX10_init_54 ?_
  refine av_callI (mX4_init l hfl N) rfl ⟨by decide +kernel, by decide +kernel, by decide +kernel⟩ q430 q431 q185 q432 (by decide) (by decide) dX10_init_57 ?_
  refine av_putrF am_ci10 (by decide) am_f10_4 q433 (tyX10_ok 4 (by decide)) (fun _ => ⟨rfl, rfl⟩) ⟨rfl, rfl⟩ dX10_init_60 ?_
  refine av_aload_n dX10_init_63 rfl ?_
  refine av_newobj am_ci1 q434 q435 q211 dX10_init_64 ?_
  refine av_dup dX10_init_67 ?_
  refine av_aload_n dX10_init_68 rfl ?_
  refine av_getr am_ci10 (by decide) am_f10_4 q433 dX10_init_69 ?_
  refine av_callI (mX1_init l hfl N) rfl ⟨by decide +kernel, by decide +kernel, by decide +kernel⟩ q436 q437 q211 q438 (by decide) (by decide) dX10_init_72 ?_
  refine av_putrF am_ci10 (by decide) am_f10_5 q439 (tyX10_ok 5 (by decide)) (fun _ => ⟨rfl, rfl⟩) ⟨rfl, rfl⟩ dX10_init_75 ?_
  refine av_aload_n dX10_init_78 rfl ?_
  refine av_sipush (v := 600) dX10_init_79 (by decide) ?_
  refine av_newarr_int q29 dX10_init_82 ?_
  refine av_putrF am_ci10 (by decide) am_f10_6 q440 (tyX10_ok 6 (by decide)) (fun _ => ⟨rfl, rfl⟩) ⟨rfl, rfl⟩ dX10_init_84 ?_
  refine av_aload_n dX10_init_87 rfl ?_
  refine av_newobj am_ci8 q441 q442 q53 dX10_init_88 ?_
  refine av_dup dX10_init_91 ?_
  refine av_aload_n dX10_init_92 rfl ?_
  refine av_getr am_ci10 (by decide) am_f10_6 q440 dX10_init_93 ?_
  refine av_callI (mX8_init l hfl N) rfl ⟨by decide +kernel, by decide +kernel, by decide +kernel⟩ q443 q444 q53 q445 (by decide) (by decide) dX10_init_96 ?_
  refine av_putrF am_ci10 (by decide) am_f10_7 q446 (tyX10_ok 7 (by decide)) (fun _ => ⟨rfl, rfl⟩) ⟨rfl, rfl⟩ dX10_init_99 ?_
  refine av_aload_n dX10_init_102 rfl ?_
  refine av_newobj am_ci0 q447 q448 q266 dX10_init_103 ?_
  refine av_dup dX10_init_106 ?_
  refine av_aload_n dX10_init_107 rfl ?_
  refine av_getr am_ci10 (by decide) am_f10_7 q446 dX10_init_108 ?_
  refine av_aload_n dX10_init_111 rfl ?_
  refine av_getr am_ci10 (by decide) am_f10_1 q415 dX10_init_112 ?_
  refine av_callI (mX0_init l hfl N) rfl ⟨by decide +kernel, by decide +kernel, by decide +kernel⟩ q449 q450 q266 q451 (by decide) (by decide) dX10_init_115 ?_
  refine av_putrF am_ci10 (by decide) am_f10_8 q452 (tyX10_ok 8 (by decide)) (fun _ => ⟨rfl, rfl⟩) ⟨rfl, rfl⟩ dX10_init_118 ?_
  refine av_aload_n dX10_init_121 rfl ?_
  refine av_newobj am_ci5 q453 q454 q368 dX10_init_122 ?_
  refine av_dup dX10_init_125 ?_
  refine av_aload_n dX10_init_126 rfl ?_
  refine av_getr am_ci10 (by decide) am_f10_7 q446 dX10_init_127 ?_
  refine av_aload_n dX10_init_130 rfl ?_
  refine av_getr am_ci10 (by decide) am_f10_0 q414 dX10_init_131 ?_
  refine av_callI (mX5_init l hfl N) rfl ⟨by decide +kernel, by decide +kernel, by decide +kernel⟩ q455 q456 q368 q457 (by decide) (by decide) dX10_init_134 ?_
  refine av_putrF am_ci10 (by decide) am_f10_9 q458 (tyX10_ok 9 (by decide)) (fun _ => ⟨rfl, rfl⟩) ⟨rfl, rfl⟩ dX10_init_137 ?_
  refine av_aload_n dX10_init_140 rfl ?_
  refine av_bipush (v := 12) dX10_init_141 (by decide) ?_
  refine av_newarr_int q29 dX10_init_143 ?_
  refine av_putrF am_ci10 (by decide) am_f10_10 q459 (tyX10_ok 10 (by decide)) (fun _ => ⟨rfl, rfl⟩) ⟨rfl, rfl⟩ dX10_init_145 ?_
  refine av_aload_n dX10_init_148 rfl ?_
  refine av_iconst (v := -1) dX10_init_149 (by decide) ?_
  refine av_puti am_ci10 (by decide) am_f10_15 q460 (tyX10_ok 15 (by decide)) rfl dX10_init_150 ?_
  exact av_return_ am_hv dX10_init_153
theorem mX10_init (l : Launch) (hfl : l.stackTraces = false) (N : Nat) : am_M l yX10_init cX10_init 1 none 3 103 (fX10_init N) := av_meth hfl (by decide +kernel) rfl (vX10_init_0 l hfl N)
/-! MessengerBoard.appendBytes(I)V -/
noncomputable def kX10_appendBytes_52 (N : Nat) (r3 : am_K) : am_K := c_live [0, 1, 2] <|
  c_inc 2 (-8) <|
  c_live [0, 1, 2] r3
noncomputable def bX10_appendBytes_3 (N : Nat) (r3 : am_K) : am_K :=
  c_ild 2 <|
  c_iflt (
  c_vret) <|
  c_rld 0 <|
  c_geti 10 14 <|
  c_iflt (
  kX10_appendBytes_52 N r3) <|
  c_rld 0 <|
  c_geti 10 14 <|
  c_rld 0 <|
  c_getr 10 6 <|
  c_alen <|
  c_icge (
  kX10_appendBytes_52 N r3) <|
  c_rld 0 <|
  c_getr 10 6 <|
  c_rld 0 <|
  c_geti 10 14 <|
  c_ild 1 <|
  c_ild 2 <|
  c_ii (fun x y => x >>> (y &&& 31)) <|
  c_i (255) <|
  c_ii (fun x y => x &&& y) <|
  c_ias <|
  c_rld 0 <|
  c_dup <|
  c_geti 10 14 <|
  c_i (1) <|
  c_ii (fun x y => x + y) <|
  c_puti 10 14 <|
  kX10_appendBytes_52 N r3
noncomputable def kX10_appendBytes_3 (N : Nat) : am_K := c_live [0, 1, 2] (am_loop (bX10_appendBytes_3 N) N)
noncomputable def kX10_appendBytes_0 (N : Nat) : am_K := c_live [0, 1] <|
  c_i (24) <|
  c_ist 2 <|
  kX10_appendBytes_3 N
noncomputable def fX10_appendBytes (N : Nat) : am_F := am_fn 3 (kX10_appendBytes_0 N)
set_option maxRecDepth 20000 in
theorem vX10_appendBytes_52 (l : Launch) (hfl : l.stackTraces = false) (N : Nat)  {r3 : am_K} (h3 : am_V l cX10_appendBytes 3 RX10 (am_E none yX10_appendBytes.name) 1 60 3 r3) : am_V l cX10_appendBytes 3 RX10 (am_E none yX10_appendBytes.name) 1 60 52 (kX10_appendBytes_52 N r3) := by
  refine av_live ?_
  refine av_iinc dX10_appendBytes_52 (by decide) (by decide) ?_
  refine av_goto (tgt := 3) dX10_appendBytes_55 (by decide) ?_
  exact av_live h3
set_option maxRecDepth 20000 in
theorem vX10_appendBytes_3 (l : Launch) (hfl : l.stackTraces = false) (N : Nat)  : am_V l cX10_appendBytes 3 RX10 (am_E none yX10_appendBytes.name) 1 60 3 (kX10_appendBytes_3 N) := by
  refine av_live ?_
  refine av_loop (fun r3 h3 => ?_) N
  refine av_iload_n dX10_appendBytes_3 rfl ?_
  refine av_iflt (tgt := 58) dX10_appendBytes_4 (by decide) ?_ ?_
  · exact av_return_ am_hv dX10_appendBytes_58
  refine av_aload_n dX10_appendBytes_7 rfl ?_
  refine av_geti am_ci10 (by decide) am_f10_14 q461 dX10_appendBytes_8 ?_
  refine av_iflt (tgt := 52) dX10_appendBytes_11 (by decide) ?_ ?_
  · exact vX10_appendBytes_52 l hfl N h3
  refine av_aload_n dX10_appendBytes_14 rfl ?_
  refine av_geti am_ci10 (by decide) am_f10_14 q461 dX10_appendBytes_15 ?_
  refine av_aload_n dX10_appendBytes_18 rfl ?_
  refine av_getr am_ci10 (by decide) am_f10_6 q440 dX10_appendBytes_19 ?_
  refine av_arraylength dX10_appendBytes_22 ?_
  refine av_icge (tgt := 52) dX10_appendBytes_23 (by decide) ?_ ?_
  · exact vX10_appendBytes_52 l hfl N h3
  refine av_aload_n dX10_appendBytes_26 rfl ?_
  refine av_getr am_ci10 (by decide) am_f10_6 q440 dX10_appendBytes_27 ?_
  refine av_aload_n dX10_appendBytes_30 rfl ?_
  refine av_geti am_ci10 (by decide) am_f10_14 q461 dX10_appendBytes_31 ?_
  refine av_iload_n dX10_appendBytes_34 rfl ?_
  refine av_iload_n dX10_appendBytes_35 rfl ?_
  refine av_ishr dX10_appendBytes_36 ?_
  refine av_sipush (v := 255) dX10_appendBytes_37 (by decide) ?_
  refine av_iand dX10_appendBytes_40 ?_
  refine av_iastore dX10_appendBytes_41 ?_
  refine av_aload_n dX10_appendBytes_42 rfl ?_
  refine av_dup dX10_appendBytes_43 ?_
  refine av_geti am_ci10 (by decide) am_f10_14 q461 dX10_appendBytes_44 ?_
  refine av_iconst (v := 1) dX10_appendBytes_47 (by decide) ?_
  refine av_iadd dX10_appendBytes_48 ?_
  refine av_puti am_ci10 (by decide) am_f10_14 q461 (tyX10_ok 14 (by decide)) rfl dX10_appendBytes_49 ?_
  exact vX10_appendBytes_52 l hfl N h3
set_option maxRecDepth 20000 in
theorem vX10_appendBytes_0 (l : Launch) (hfl : l.stackTraces = false) (N : Nat)  : am_V l cX10_appendBytes 3 RX10 (am_E none yX10_appendBytes.name) 1 60 0 (kX10_appendBytes_0 N) := by
  refine av_live ?_
  refine av_bipush (v := 24) dX10_appendBytes_0 (by decide) ?_
  refine av_istore_n dX10_appendBytes_2 rfl (by decide) ?_
  exact vX10_appendBytes_3 l hfl N
theorem mX10_appendBytes (l : Launch) (hfl : l.stackTraces = false) (N : Nat) : am_M l yX10_appendBytes cX10_appendBytes 3 none 1 60 (fX10_appendBytes N) := av_meth hfl (by decide +kernel) rfl (vX10_appendBytes_0 l hfl N)
/-! MessengerBoard.feed(IIIII)I -/
noncomputable def kX10_feed_0 (N : Nat) : am_K := c_live [0, 1, 2, 3, 4, 5] <|
  c_rld 0 <|
  c_geti 10 14 <|
  c_i (580) <|
  c_icle (
  c_rld 0 <|
  c_ild 1 <|
  c_callV 10 1 (fX10_appendBytes N) <|
  c_rld 0 <|
  c_ild 2 <|
  c_callV 10 1 (fX10_appendBytes N) <|
  c_rld 0 <|
  c_ild 3 <|
  c_callV 10 1 (fX10_appendBytes N) <|
  c_rld 0 <|
  c_ild 4 <|
  c_callV 10 1 (fX10_appendBytes N) <|
  c_rld 0 <|
  c_ild 5 <|
  c_callV 10 1 (fX10_appendBytes N) <|
  c_rld 0 <|
  c_geti 10 14 <|
  c_iret) <|
  c_i (-1) <|
  c_iret
noncomputable def fX10_feed (N : Nat) : am_F := am_fn 6 (kX10_feed_0 N)
set_option maxRecDepth 20000 in
theorem vX10_feed_0 (l : Launch) (hfl : l.stackTraces = false) (N : Nat)  : am_V l cX10_feed 6 RX10 (am_E (some .int) yX10_feed.name) 2 82 0 (kX10_feed_0 N) := by
  refine av_live ?_
  refine av_aload_n dX10_feed_0 rfl ?_
  refine av_geti am_ci10 (by decide) am_f10_14 q461 dX10_feed_1 ?_
  refine av_sipush (v := 580) dX10_feed_4 (by decide) ?_
  refine av_icle (tgt := 12) dX10_feed_7 (by decide) ?_ ?_
  · refine av_aload_n dX10_feed_12 rfl ?_
    refine av_iload_n dX10_feed_13 rfl ?_
    refine av_callV am_hT (mX10_appendBytes l hfl N) am_ci10 ⟨by decide +kernel, by decide +kernel, by decide +kernel⟩ q462 q463 q111 q464 q465 (by decide) (by decide) dX10_feed_14 ?_
    refine av_aload_n dX10_feed_17 rfl ?_
    refine av_iload_n dX10_feed_18 rfl ?_
    refine av_callV am_hT (mX10_appendBytes l hfl N) am_ci10 ⟨by decide +kernel, by decide +kernel, by decide +kernel⟩ q462 q463 q111 q464 q465 (by decide) (by decide) dX10_feed_19 ?_
    refine av_aload_n dX10_feed_22 rfl ?_
    refine av_iload_n dX10_feed_23 rfl ?_
    refine av_callV am_hT (mX10_appendBytes l hfl N) am_ci10 ⟨by decide +kernel, by decide +kernel, by decide +kernel⟩ q462 q463 q111 q464 q465 (by decide) (by decide) dX10_feed_24 ?_
    refine av_aload_n dX10_feed_27 rfl ?_
    refine av_iload dX10_feed_28 ?_
    refine av_callV am_hT (mX10_appendBytes l hfl N) am_ci10 ⟨by decide +kernel, by decide +kernel, by decide +kernel⟩ q462 q463 q111 q464 q465 (by decide) (by decide) dX10_feed_30 ?_
    refine av_aload_n dX10_feed_33 rfl ?_
    refine av_iload dX10_feed_34 ?_
    refine av_callV am_hT (mX10_appendBytes l hfl N) am_ci10 ⟨by decide +kernel, by decide +kernel, by decide +kernel⟩ q462 q463 q111 q464 q465 (by decide) (by decide) dX10_feed_36 ?_
    refine av_aload_n dX10_feed_39 rfl ?_
    refine av_geti am_ci10 (by decide) am_f10_14 q461 dX10_feed_40 ?_
    exact av_ireturn am_hi dX10_feed_43
  refine av_iconst (v := -1) dX10_feed_10 (by decide) ?_
  exact av_ireturn am_hi dX10_feed_11
theorem mX10_feed (l : Launch) (hfl : l.stackTraces = false) (N : Nat) : am_M l yX10_feed cX10_feed 6 (some .int) 2 82 (fX10_feed N) := av_meth hfl (by decide +kernel) rfl (vX10_feed_0 l hfl N)
/-! MessengerBoard.errorPosition()I -/
noncomputable def kX10_errorPosition_0 (N : Nat) : am_K := c_live [0] <|
  c_rld 0 <|
  c_geti 10 15 <|
  c_iret
noncomputable def fX10_errorPosition (N : Nat) : am_F := am_fn 1 (kX10_errorPosition_0 N)
set_option maxRecDepth 20000 in
theorem vX10_errorPosition_0 (l : Launch) (hfl : l.stackTraces = false) (N : Nat)  : am_V l cX10_errorPosition 1 RX10 (am_E (some .int) yX10_errorPosition.name) 1 60 0 (kX10_errorPosition_0 N) := by
  refine av_live ?_
  refine av_aload_n dX10_errorPosition_0 rfl ?_
  refine av_geti am_ci10 (by decide) am_f10_15 q460 dX10_errorPosition_1 ?_
  exact av_ireturn am_hi dX10_errorPosition_4
theorem mX10_errorPosition (l : Launch) (hfl : l.stackTraces = false) (N : Nat) : am_M l yX10_errorPosition cX10_errorPosition 1 (some .int) 1 60 (fX10_errorPosition N) := av_meth hfl (by decide +kernel) rfl (vX10_errorPosition_0 l hfl N)
/-! MessengerBoard.crossed()I -/
noncomputable def kX10_crossed_45 (N : Nat) (r15 : am_K) (r23 : am_K) : am_K := c_live [0, 1, 2, 3, 4] <|
  c_inc 4 (1) <|
  c_live [0, 1, 2, 3, 4] r23
noncomputable def bX10_crossed_23 (N : Nat) (r15 : am_K) (r23 : am_K) : am_K :=
  c_ild 4 <|
  c_ild 3 <|
  c_icge (
  c_inc 3 (1) <|
  c_live [0, 1, 2, 3] r15) <|
  c_rld 0 <|
  c_getr 10 0 <|
  c_ild 3 <|
  c_ild 4 <|
  c_callV 6 2 (fX6_overtakes N) <|
  c_ifeq (
  kX10_crossed_45 N r15 r23) <|
  c_inc 1 (1) <|
  kX10_crossed_45 N r15 r23
noncomputable def kX10_crossed_23 (N : Nat) (r15 : am_K) : am_K := c_live [0, 1, 2, 3, 4] (am_loop (bX10_crossed_23 N r15) N)
noncomputable def bX10_crossed_15 (N : Nat) (r15 : am_K) : am_K :=
  c_ild 3 <|
  c_ild 2 <|
  c_icge (
  c_ild 1 <|
  c_iret) <|
  c_i (0) <|
  c_ist 4 <|
  kX10_crossed_23 N r15
noncomputable def kX10_crossed_15 (N : Nat) : am_K := c_live [0, 1, 2, 3] (am_loop (bX10_crossed_15 N) N)
noncomputable def kX10_crossed_0 (N : Nat) : am_K := c_live [0] <|
  c_i (0) <|
  c_ist 1 <|
  c_rld 0 <|
  c_getr 10 0 <|
  c_getr 6 11 <|
  c_callV 7 0 (fX7_count N) <|
  c_ist 2 <|
  c_i (1) <|
  c_ist 3 <|
  kX10_crossed_15 N
noncomputable def fX10_crossed (N : Nat) : am_F := am_fn 5 (kX10_crossed_0 N)
set_option maxRecDepth 20000 in
theorem vX10_crossed_45 (l : Launch) (hfl : l.stackTraces = false) (N : Nat)  {r15 : am_K} (h15 : am_V l cX10_crossed 5 RX10 (am_E (some .int) yX10_crossed.name) 3 107 15 r15) {r23 : am_K} (h23 : am_V l cX10_crossed 5 RX10 (am_E (some .int) yX10_crossed.name) 3 107 23 r23) : am_V l cX10_crossed 5 RX10 (am_E (some .int) yX10_crossed.name) 3 107 45 (kX10_crossed_45 N r15 r23) := by
  refine av_live ?_
  refine av_iinc dX10_crossed_45 (by decide) (by decide) ?_
  refine av_goto (tgt := 23) dX10_crossed_48 (by decide) ?_
  exact av_live h23
set_option maxRecDepth 20000 in
theorem vX10_crossed_23 (l : Launch) (hfl : l.stackTraces = false) (N : Nat)  {r15 : am_K} (h15 : am_V l cX10_crossed 5 RX10 (am_E (some .int) yX10_crossed.name) 3 107 15 r15) : am_V l cX10_crossed 5 RX10 (am_E (some .int) yX10_crossed.name) 3 107 23 (kX10_crossed_23 N r15) := by
  refine av_live ?_
  refine av_loop (fun r23 h23 => ?_) N
  refine av_iload dX10_crossed_23 ?_
  refine av_iload_n dX10_crossed_25 rfl ?_
  refine av_icge (tgt := 51) dX10_crossed_26 (by decide) ?_ ?_
  · refine av_iinc dX10_crossed_51 (by decide) (by decide) ?_
    refine av_goto (tgt := 15) dX10_crossed_54 (by decide) ?_
    exact av_live h15
  refine av_aload_n dX10_crossed_29 rfl ?_
  refine av_getr am_ci10 (by decide) am_f10_0 q414 dX10_crossed_30 ?_
  refine av_iload_n dX10_crossed_33 rfl ?_
  refine av_iload dX10_crossed_34 ?_
  refine av_callV am_hT (mX6_overtakes l hfl N) am_ci6 ⟨by decide +kernel, by decide +kernel, by decide +kernel⟩ q468 q469 q126 q470 q471 (by decide) (by decide) dX10_crossed_36 ?_
  refine av_ifeq (tgt := 45) dX10_crossed_39 (by decide) ?_ ?_
  · exact vX10_crossed_45 l hfl N h15 h23
  refine av_iinc dX10_crossed_42 (by decide) (by decide) ?_
  exact vX10_crossed_45 l hfl N h15 h23
set_option maxRecDepth 20000 in
theorem vX10_crossed_15 (l : Launch) (hfl : l.stackTraces = false) (N : Nat)  : am_V l cX10_crossed 5 RX10 (am_E (some .int) yX10_crossed.name) 3 107 15 (kX10_crossed_15 N) := by
  refine av_live ?_
  refine av_loop (fun r15 h15 => ?_) N
  refine av_iload_n dX10_crossed_15 rfl ?_
  refine av_iload_n dX10_crossed_16 rfl ?_
  refine av_icge (tgt := 57) dX10_crossed_17 (by decide) ?_ ?_
  · refine av_iload_n dX10_crossed_57 rfl ?_
    exact av_ireturn am_hi dX10_crossed_58
  refine av_iconst (v := 0) dX10_crossed_20 (by decide) ?_
  refine av_istore dX10_crossed_21 (by decide) ?_
  exact vX10_crossed_23 l hfl N h15
set_option maxRecDepth 20000 in
theorem vX10_crossed_0 (l : Launch) (hfl : l.stackTraces = false) (N : Nat)  : am_V l cX10_crossed 5 RX10 (am_E (some .int) yX10_crossed.name) 3 107 0 (kX10_crossed_0 N) := by
  refine av_live ?_
  refine av_iconst (v := 0) dX10_crossed_0 (by decide) ?_
  refine av_istore_n dX10_crossed_1 rfl (by decide) ?_
  refine av_aload_n dX10_crossed_2 rfl ?_
  refine av_getr am_ci10 (by decide) am_f10_0 q414 dX10_crossed_3 ?_
  refine av_getr am_ci6 (by decide) am_f6_11 q466 dX10_crossed_6 ?_
  refine av_callV am_hT (mX7_count l hfl N) am_ci7 ⟨by decide +kernel, by decide +kernel, by decide +kernel⟩ q467 q90 q73 q91 q92 (by decide) (by decide) dX10_crossed_9 ?_
  refine av_istore_n dX10_crossed_12 rfl (by decide) ?_
  refine av_iconst (v := 1) dX10_crossed_13 (by decide) ?_
  refine av_istore_n dX10_crossed_14 rfl (by decide) ?_
  exact vX10_crossed_15 l hfl N
theorem mX10_crossed (l : Launch) (hfl : l.stackTraces = false) (N : Nat) : am_M l yX10_crossed cX10_crossed 5 (some .int) 3 107 (fX10_crossed N) := av_meth hfl (by decide +kernel) rfl (vX10_crossed_0 l hfl N)
/-! MessengerBoard.meanDelay()D -/
noncomputable def kX10_meanDelay_86 (N : Nat) : am_K := c_live [] <|
  c_dret
noncomputable def kX10_meanDelay_67 (N : Nat) (r18 : am_K) : am_K := c_live [0, 1, 2, 3, 4] <|
  c_inc 4 (1) <|
  c_live [0, 1, 2, 3, 4] r18
noncomputable def bX10_meanDelay_18 (N : Nat) (r18 : am_K) : am_K :=
  c_ild 4 <|
  c_ild 3 <|
  c_icge (
  c_ild 2 <|
  c_ifle (
  c_d FP.dconst0 <|
  kX10_meanDelay_86 N) <|
  c_ild 1 <|
  c_itd (fun x => FP.i2d x) <|
  c_ild 2 <|
  c_itd (fun x => FP.i2d x) <|
  c_ddiv <|
  kX10_meanDelay_86 N) <|
  c_rld 0 <|
  c_getr 10 0 <|
  c_getr 6 11 <|
  c_ild 4 <|
  c_i (5) <|
  c_callV 7 2 (fX7_get N) <|
  c_ist 5 <|
  c_ild 5 <|
  c_i (-1) <|
  c_iceq (
  kX10_meanDelay_67 N r18) <|
  c_ild 1 <|
  c_ild 5 <|
  c_rld 0 <|
  c_getr 10 0 <|
  c_getr 6 11 <|
  c_ild 4 <|
  c_i (4) <|
  c_callV 7 2 (fX7_get N) <|
  c_ii (fun x y => x - y) <|
  c_ii (fun x y => x + y) <|
  c_ist 1 <|
  c_inc 2 (1) <|
  kX10_meanDelay_67 N r18
noncomputable def kX10_meanDelay_18 (N : Nat) : am_K := c_live [0, 1, 2, 3, 4] (am_loop (bX10_meanDelay_18 N) N)
noncomputable def kX10_meanDelay_0 (N : Nat) : am_K := c_live [0] <|
  c_i (0) <|
  c_ist 1 <|
  c_i (0) <|
  c_ist 2 <|
  c_rld 0 <|
  c_getr 10 0 <|
  c_getr 6 11 <|
  c_callV 7 0 (fX7_count N) <|
  c_ist 3 <|
  c_i (0) <|
  c_ist 4 <|
  kX10_meanDelay_18 N
noncomputable def fX10_meanDelay (N : Nat) : am_F := am_fn 6 (kX10_meanDelay_0 N)
set_option maxRecDepth 20000 in
theorem vX10_meanDelay_86 (l : Launch) (hfl : l.stackTraces = false) (N : Nat)  : am_V l cX10_meanDelay 6 RX10 (am_E (some .double) yX10_meanDelay.name) 2 84 86 (kX10_meanDelay_86 N) := by
  refine av_live ?_
  exact av_dreturn am_hd dX10_meanDelay_86
set_option maxRecDepth 20000 in
theorem vX10_meanDelay_67 (l : Launch) (hfl : l.stackTraces = false) (N : Nat)  {r18 : am_K} (h18 : am_V l cX10_meanDelay 6 RX10 (am_E (some .double) yX10_meanDelay.name) 2 84 18 r18) : am_V l cX10_meanDelay 6 RX10 (am_E (some .double) yX10_meanDelay.name) 2 84 67 (kX10_meanDelay_67 N r18) := by
  refine av_live ?_
  refine av_iinc dX10_meanDelay_67 (by decide) (by decide) ?_
  refine av_goto (tgt := 18) dX10_meanDelay_70 (by decide) ?_
  exact av_live h18
set_option maxRecDepth 20000 in
theorem vX10_meanDelay_18 (l : Launch) (hfl : l.stackTraces = false) (N : Nat)  : am_V l cX10_meanDelay 6 RX10 (am_E (some .double) yX10_meanDelay.name) 2 84 18 (kX10_meanDelay_18 N) := by
  refine av_live ?_
  refine av_loop (fun r18 h18 => ?_) N
  refine av_iload dX10_meanDelay_18 ?_
  refine av_iload_n dX10_meanDelay_20 rfl ?_
  refine av_icge (tgt := 73) dX10_meanDelay_21 (by decide) ?_ ?_
  · refine av_iload_n dX10_meanDelay_73 rfl ?_
    refine av_ifle (tgt := 85) dX10_meanDelay_74 (by decide) ?_ ?_
    · refine av_dconst0 dX10_meanDelay_85 ?_
      exact vX10_meanDelay_86 l hfl N
    refine av_iload_n dX10_meanDelay_77 rfl ?_
    refine av_i2d dX10_meanDelay_78 ?_
    refine av_iload_n dX10_meanDelay_79 rfl ?_
    refine av_i2d dX10_meanDelay_80 ?_
    refine av_ddiv dX10_meanDelay_81 ?_
    refine av_goto (tgt := 86) dX10_meanDelay_82 (by decide) ?_
    exact vX10_meanDelay_86 l hfl N
  refine av_aload_n dX10_meanDelay_24 rfl ?_
  refine av_getr am_ci10 (by decide) am_f10_0 q414 dX10_meanDelay_25 ?_
  refine av_getr am_ci6 (by decide) am_f6_11 q466 dX10_meanDelay_28 ?_
  refine av_iload dX10_meanDelay_31 ?_
  refine av_iconst (v := 5) dX10_meanDelay_33 (by decide) ?_
  refine av_callV am_hT (mX7_get l hfl N) am_ci7 ⟨by decide +kernel, by decide +kernel, by decide +kernel⟩ q472 q86 q73 q87 q88 (by decide) (by decide) dX10_meanDelay_34 ?_
  refine av_istore dX10_meanDelay_37 (by decide) ?_
  refine av_iload dX10_meanDelay_39 ?_
  refine av_iconst (v := -1) dX10_meanDelay_41 (by decide) ?_
  refine av_iceq (tgt := 67) dX10_meanDelay_42 (by decide) ?_ ?_
  · exact vX10_meanDelay_67 l hfl N h18
  refine av_iload_n dX10_meanDelay_45 rfl ?_
  refine av_iload dX10_meanDelay_46 ?_
  refine av_aload_n dX10_meanDelay_48 rfl ?_
  refine av_getr am_ci10 (by decide) am_f10_0 q414 dX10_meanDelay_49 ?_
  refine av_getr am_ci6 (by decide) am_f6_11 q466 dX10_meanDelay_52 ?_
  refine av_iload dX10_meanDelay_55 ?_
  refine av_iconst (v := 4) dX10_meanDelay_57 (by decide) ?_
  refine av_callV am_hT (mX7_get l hfl N) am_ci7 ⟨by decide +kernel, by decide +kernel, by decide +kernel⟩ q472 q86 q73 q87 q88 (by decide) (by decide) dX10_meanDelay_58 ?_
  refine av_isub dX10_meanDelay_61 ?_
  refine av_iadd dX10_meanDelay_62 ?_
  refine av_istore_n dX10_meanDelay_63 rfl (by decide) ?_
  refine av_iinc dX10_meanDelay_64 (by decide) (by decide) ?_
  exact vX10_meanDelay_67 l hfl N h18
set_option maxRecDepth 20000 in
theorem vX10_meanDelay_0 (l : Launch) (hfl : l.stackTraces = false) (N : Nat)  : am_V l cX10_meanDelay 6 RX10 (am_E (some .double) yX10_meanDelay.name) 2 84 0 (kX10_meanDelay_0 N) := by
  refine av_live ?_
  refine av_iconst (v := 0) dX10_meanDelay_0 (by decide) ?_
  refine av_istore_n dX10_meanDelay_1 rfl (by decide) ?_
  refine av_iconst (v := 0) dX10_meanDelay_2 (by decide) ?_
  refine av_istore_n dX10_meanDelay_3 rfl (by decide) ?_
  refine av_aload_n dX10_meanDelay_4 rfl ?_
  refine av_getr am_ci10 (by decide) am_f10_0 q414 dX10_meanDelay_5 ?_
  refine av_getr am_ci6 (by decide) am_f6_11 q466 dX10_meanDelay_8 ?_
  refine av_callV am_hT (mX7_count l hfl N) am_ci7 ⟨by decide +kernel, by decide +kernel, by decide +kernel⟩ q467 q90 q73 q91 q92 (by decide) (by decide) dX10_meanDelay_11 ?_
  refine av_istore_n dX10_meanDelay_14 rfl (by decide) ?_
  refine av_iconst (v := 0) dX10_meanDelay_15 (by decide) ?_
  refine av_istore dX10_meanDelay_16 (by decide) ?_
  exact vX10_meanDelay_18 l hfl N
theorem mX10_meanDelay (l : Launch) (hfl : l.stackTraces = false) (N : Nat) : am_M l yX10_meanDelay cX10_meanDelay 6 (some .double) 2 84 (fX10_meanDelay N) := av_meth hfl (by decide +kernel) rfl (vX10_meanDelay_0 l hfl N)
/-! MessengerBoard.success()F -/
noncomputable def kX10_success_31 (N : Nat) : am_K := c_live [] <|
  c_fret
noncomputable def kX10_success_0 (N : Nat) : am_K := c_live [0] <|
  c_rld 0 <|
  c_getr 10 0 <|
  c_getr 6 11 <|
  c_callV 7 0 (fX7_count N) <|
  c_ist 1 <|
  c_ild 1 <|
  c_ifle (
  c_f FP.fconst0 <|
  kX10_success_31 N) <|
  c_rld 0 <|
  c_getr 10 0 <|
  c_i (2) <|
  c_callV 6 1 (fX6_ordersIn N) <|
  c_itf (fun x => FP.i2f x) <|
  c_ild 1 <|
  c_itf (fun x => FP.i2f x) <|
  c_fdiv <|
  kX10_success_31 N
noncomputable def fX10_success (N : Nat) : am_F := am_fn 2 (kX10_success_0 N)
set_option maxRecDepth 20000 in
theorem vX10_success_31 (l : Launch) (hfl : l.stackTraces = false) (N : Nat)  : am_V l cX10_success 2 RX10 (am_E (some .float) yX10_success.name) 3 108 31 (kX10_success_31 N) := by
  refine av_live ?_
  exact av_freturn am_hf dX10_success_31
set_option maxRecDepth 20000 in
theorem vX10_success_0 (l : Launch) (hfl : l.stackTraces = false) (N : Nat)  : am_V l cX10_success 2 RX10 (am_E (some .float) yX10_success.name) 3 108 0 (kX10_success_0 N) := by
  refine av_live ?_
  refine av_aload_n dX10_success_0 rfl ?_
  refine av_getr am_ci10 (by decide) am_f10_0 q414 dX10_success_1 ?_
  refine av_getr am_ci6 (by decide) am_f6_11 q466 dX10_success_4 ?_
  refine av_callV am_hT (mX7_count l hfl N) am_ci7 ⟨by decide +kernel, by decide +kernel, by decide +kernel⟩ q467 q90 q73 q91 q92 (by decide) (by decide) dX10_success_7 ?_
  refine av_istore_n dX10_success_10 rfl (by decide) ?_
  refine av_iload_n dX10_success_11 rfl ?_
  refine av_ifle (tgt := 30) dX10_success_12 (by decide) ?_ ?_
  · refine av_fconst0 dX10_success_30 ?_
    exact vX10_success_31 l hfl N
  refine av_aload_n dX10_success_15 rfl ?_
  refine av_getr am_ci10 (by decide) am_f10_0 q414 dX10_success_16 ?_
  refine av_iconst (v := 2) dX10_success_19 (by decide) ?_
  refine av_callV am_hT (mX6_ordersIn l hfl N) am_ci6 ⟨by decide +kernel, by decide +kernel, by decide +kernel⟩ q473 q474 q126 q475 q476 (by decide) (by decide) dX10_success_20 ?_
  refine av_i2f dX10_success_23 ?_
  refine av_iload_n dX10_success_24 rfl ?_
  refine av_i2f dX10_success_25 ?_
  refine av_fdiv dX10_success_26 ?_
  refine av_goto (tgt := 31) dX10_success_27 (by decide) ?_
  exact vX10_success_31 l hfl N
theorem mX10_success (l : Launch) (hfl : l.stackTraces = false) (N : Nat) : am_M l yX10_success cX10_success 2 (some .float) 3 108 (fX10_success N) := av_meth hfl (by decide +kernel) rfl (vX10_success_0 l hfl N)
/-! MessengerBoard.formattedByte(I)I -/
noncomputable def kX10_formattedByte_21 (N : Nat) : am_K := c_live [] <|
  c_i (-1) <|
  c_iret
noncomputable def kX10_formattedByte_0 (N : Nat) : am_K := c_live [0, 1] <|
  c_ild 1 <|
  c_iflt (
  kX10_formattedByte_21 N) <|
  c_ild 1 <|
  c_rld 0 <|
  c_geti 10 16 <|
  c_icge (
  kX10_formattedByte_21 N) <|
  c_ild 1 <|
  c_rld 0 <|
  c_getr 10 10 <|
  c_alen <|
  c_iclt (
  c_rld 0 <|
  c_getr 10 10 <|
  c_ild 1 <|
  c_ial <|
  c_iret) <|
  kX10_formattedByte_21 N
noncomputable def fX10_formattedByte (N : Nat) : am_F := am_fn 2 (kX10_formattedByte_0 N)
set_option maxRecDepth 20000 in
theorem vX10_formattedByte_21 (l : Launch) (hfl : l.stackTraces = false) (N : Nat)  : am_V l cX10_formattedByte 2 RX10 (am_E (some .int) yX10_formattedByte.name) 1 60 21 (kX10_formattedByte_21 N) := by
  refine av_live ?_
  refine av_iconst (v := -1) dX10_formattedByte_21 (by decide) ?_
  exact av_ireturn am_hi dX10_formattedByte_22
set_option maxRecDepth 20000 in
theorem vX10_formattedByte_0 (l : Launch) (hfl : l.stackTraces = false) (N : Nat)  : am_V l cX10_formattedByte 2 RX10 (am_E (some .int) yX10_formattedByte.name) 1 60 0 (kX10_formattedByte_0 N) := by
  refine av_live ?_
  refine av_iload_n dX10_formattedByte_0 rfl ?_
  refine av_iflt (tgt := 21) dX10_formattedByte_1 (by decide) ?_ ?_
  · exact vX10_formattedByte_21 l hfl N
  refine av_iload_n dX10_formattedByte_4 rfl ?_
  refine av_aload_n dX10_formattedByte_5 rfl ?_
  refine av_geti am_ci10 (by decide) am_f10_16 q477 dX10_formattedByte_6 ?_
  refine av_icge (tgt := 21) dX10_formattedByte_9 (by decide) ?_ ?_
  · exact vX10_formattedByte_21 l hfl N
  refine av_iload_n dX10_formattedByte_12 rfl ?_
  refine av_aload_n dX10_formattedByte_13 rfl ?_
  refine av_getr am_ci10 (by decide) am_f10_10 q459 dX10_formattedByte_14 ?_
  refine av_arraylength dX10_formattedByte_17 ?_
  refine av_iclt (tgt := 23) dX10_formattedByte_18 (by decide) ?_ ?_
  · refine av_aload_n dX10_formattedByte_23 rfl ?_
    refine av_getr am_ci10 (by decide) am_f10_10 q459 dX10_formattedByte_24 ?_
    refine av_iload_n dX10_formattedByte_27 rfl ?_
    refine av_iaload dX10_formattedByte_28 ?_
    exact av_ireturn am_hi dX10_formattedByte_29
  exact vX10_formattedByte_21 l hfl N
theorem mX10_formattedByte (l : Launch) (hfl : l.stackTraces = false) (N : Nat) : am_M l yX10_formattedByte cX10_formattedByte 2 (some .int) 1 60 (fX10_formattedByte N) := av_meth hfl (by decide +kernel) rfl (vX10_formattedByte_0 l hfl N)
/-! MessengerBoard.undoCount()I -/
noncomputable def kX10_undoCount_0 (N : Nat) : am_K := c_live [0] <|
  c_rld 0 <|
  c_getr 10 3 <|
  c_callV 3 0 (fX3_count N) <|
  c_iret
noncomputable def fX10_undoCount (N : Nat) : am_F := am_fn 1 (kX10_undoCount_0 N)
set_option maxRecDepth 20000 in
theorem vX10_undoCount_0 (l : Launch) (hfl : l.stackTraces = false) (N : Nat)  : am_V l cX10_undoCount 1 RX10 (am_E (some .int) yX10_undoCount.name) 2 80 0 (kX10_undoCount_0 N) := by
  refine av_live ?_
  refine av_aload_n dX10_undoCount_0 rfl ?_
  refine av_getr am_ci10 (by decide) am_f10_3 q427 dX10_undoCount_1 ?_
  refine av_callV am_hT (mX3_count l hfl N) am_ci3 ⟨by decide +kernel, by decide +kernel, by decide +kernel⟩ q478 q479 q424 q480 q481 (by decide) (by decide) dX10_undoCount_4 ?_
  exact av_ireturn am_hi dX10_undoCount_7
theorem mX10_undoCount (l : Launch) (hfl : l.stackTraces = false) (N : Nat) : am_M l yX10_undoCount cX10_undoCount 1 (some .int) 2 80 (fX10_undoCount N) := av_meth hfl (by decide +kernel) rfl (vX10_undoCount_0 l hfl N)
/-! MessengerBoard.undo()I -/
noncomputable def kX10_undo_0 (N : Nat) : am_K := c_live [0] <|
  c_rld 0 <|
  c_getr 10 3 <|
  c_rld 0 <|
  c_getr 10 0 <|
  c_callV 3 1 (fX3_bringBack N) <|
  c_ifne (
  c_rld 0 <|
  c_getr 10 4 <|
  c_callV 4 0 (fX4_forget N) <|
  c_rld 0 <|
  c_getr 10 3 <|
  c_callV 3 0 (fX3_count N) <|
  c_iret) <|
  c_i (-1) <|
  c_iret
noncomputable def fX10_undo (N : Nat) : am_F := am_fn 1 (kX10_undo_0 N)
set_option maxRecDepth 20000 in
theorem vX10_undo_0 (l : Launch) (hfl : l.stackTraces = false) (N : Nat)  : am_V l cX10_undo 1 RX10 (am_E (some .int) yX10_undo.name) 4 125 0 (kX10_undo_0 N) := by
  refine av_live ?_
  refine av_aload_n dX10_undo_0 rfl ?_
  refine av_getr am_ci10 (by decide) am_f10_3 q427 dX10_undo_1 ?_
  refine av_aload_n dX10_undo_4 rfl ?_
  refine av_getr am_ci10 (by decide) am_f10_0 q414 dX10_undo_5 ?_
  refine av_callV am_hT (mX3_bringBack l hfl N) am_ci3 ⟨by decide +kernel, by decide +kernel, by decide +kernel⟩ q482 q483 q424 q484 q485 (by decide) (by decide) dX10_undo_8 ?_
  refine av_ifne (tgt := 16) dX10_undo_11 (by decide) ?_ ?_
  · refine av_aload_n dX10_undo_16 rfl ?_
    refine av_getr am_ci10 (by decide) am_f10_4 q433 dX10_undo_17 ?_
    refine av_callV am_hT (mX4_forget l hfl N) am_ci4 ⟨by decide +kernel, by decide +kernel, by decide +kernel⟩ q486 q487 q185 q488 q489 (by decide) (by decide) dX10_undo_20 ?_
    refine av_aload_n dX10_undo_23 rfl ?_
    refine av_getr am_ci10 (by decide) am_f10_3 q427 dX10_undo_24 ?_
    refine av_callV am_hT (mX3_count l hfl N) am_ci3 ⟨by decide +kernel, by decide +kernel, by decide +kernel⟩ q478 q479 q424 q480 q481 (by decide) (by decide) dX10_undo_27 ?_
    exact av_ireturn am_hi dX10_undo_30
  refine av_iconst (v := -1) dX10_undo_14 (by decide) ?_
  exact av_ireturn am_hi dX10_undo_15
theorem mX10_undo (l : Launch) (hfl : l.stackTraces = false) (N : Nat) : am_M l yX10_undo cX10_undo 1 (some .int) 4 125 (fX10_undo N) := av_meth hfl (by decide +kernel) rfl (vX10_undo_0 l hfl N)
/-! MessengerBoard.saveSnapshot()V -/
noncomputable def kX10_saveSnapshot_36 (N : Nat) : am_K := c_live [0] <|
  c_rld 0 <|
  c_getr 10 11 <|
  c_rld 0 <|
  c_getr 10 0 <|
  c_callV 6 1 (fX6_copyFrom N) <|
  c_rld 0 <|
  c_getr 10 12 <|
  c_rld 0 <|
  c_getr 10 2 <|
  c_callV 9 1 (fX9_copyFrom N) <|
  c_rld 0 <|
  c_i (1) <|
  c_putz 10 13 <|
  c_vret
noncomputable def kX10_saveSnapshot_18 (N : Nat) : am_K := c_live [0] <|
  c_rld 0 <|
  c_getr 10 12 <|
  c_ifnonnull (
  kX10_saveSnapshot_36 N) <|
  c_rld 0 <|
  c_new 9 <|
  c_dup <|
  c_callI 0 (fX9_init N) <|
  c_putr 10 12 <|
  kX10_saveSnapshot_36 N
noncomputable def kX10_saveSnapshot_0 (N : Nat) : am_K := c_live [0] <|
  c_rld 0 <|
  c_getr 10 11 <|
  c_ifnonnull (
  kX10_saveSnapshot_18 N) <|
  c_rld 0 <|
  c_new 6 <|
  c_dup <|
  c_callI 0 (fX6_init N) <|
  c_putr 10 11 <|
  kX10_saveSnapshot_18 N
noncomputable def fX10_saveSnapshot (N : Nat) : am_F := am_fn 1 (kX10_saveSnapshot_0 N)
set_option maxRecDepth 20000 in
theorem vX10_saveSnapshot_36 (l : Launch) (hfl : l.stackTraces = false) (N : Nat)  : am_V l cX10_saveSnapshot 1 RX10 (am_E none yX10_saveSnapshot.name) 3 103 36 (kX10_saveSnapshot_36 N) := by
  refine av_live ?_
  refine av_aload_n dX10_saveSnapshot_36 rfl ?_
  refine av_getr am_ci10 (by decide) am_f10_11 q490 dX10_saveSnapshot_37 ?_
  refine av_aload_n dX10_saveSnapshot_40 rfl ?_
  refine av_getr am_ci10 (by decide) am_f10_0 q414 dX10_saveSnapshot_41 ?_
  refine av_callV am_hT (mX6_copyFrom l hfl N) am_ci6 ⟨by decide +kernel, by decide +kernel, by decide +kernel⟩ q492 q144 q126 q145 q146 (by decide) (by decide) dX10_saveSnapshot_44 ?_
  refine av_aload_n dX10_saveSnapshot_47 rfl ?_
  refine av_getr am_ci10 (by decide) am_f10_12 q491 dX10_saveSnapshot_48 ?_
  refine av_aload_n dX10_saveSnapshot_51 rfl ?_
  refine av_getr am_ci10 (by decide) am_f10_2 q421 dX10_saveSnapshot_52 ?_
  refine av_callV am_hT (mX9_copyFrom l hfl N) am_ci9 ⟨by decide +kernel, by decide +kernel, by decide +kernel⟩ q493 q494 q418 q495 q496 (by decide) (by decide) dX10_saveSnapshot_55 ?_
  refine av_aload_n dX10_saveSnapshot_58 rfl ?_
  refine av_iconst (v := 1) dX10_saveSnapshot_59 (by decide) ?_
  refine av_putz am_ci10 (by decide) am_f10_13 q497 (tyX10_ok 13 (by decide)) rfl dX10_saveSnapshot_60 ?_
  exact av_return_ am_hv dX10_saveSnapshot_63
set_option maxRecDepth 20000 in
theorem vX10_saveSnapshot_18 (l : Launch) (hfl : l.stackTraces = false) (N : Nat)  : am_V l cX10_saveSnapshot 1 RX10 (am_E none yX10_saveSnapshot.name) 3 103 18 (kX10_saveSnapshot_18 N) := by
  refine av_live ?_
  refine av_aload_n dX10_saveSnapshot_18 rfl ?_
  refine av_getr am_ci10 (by decide) am_f10_12 q491 dX10_saveSnapshot_19 ?_
  refine av_ifnonnull (tgt := 36) dX10_saveSnapshot_22 (by decide) ?_ ?_
  · exact vX10_saveSnapshot_36 l hfl N
  refine av_aload_n dX10_saveSnapshot_25 rfl ?_
  refine av_newobj am_ci9 q416 q417 q418 dX10_saveSnapshot_26 ?_
  refine av_dup dX10_saveSnapshot_29 ?_
  refine av_callIN (mX9_init l hfl N) rfl ⟨by decide +kernel, by decide +kernel, by decide +kernel⟩ n0 q419 q418 q420 (by decide) (by decide) dX10_saveSnapshot_30 ?_
  refine av_putr am_ci10 (by decide) am_f10_12 q491 (tyX10_ok 12 (by decide)) (fun _ => ⟨rfl, rfl⟩) rfl dX10_saveSnapshot_33 ?_
  exact vX10_saveSnapshot_36 l hfl N
set_option maxRecDepth 20000 in
theorem vX10_saveSnapshot_0 (l : Launch) (hfl : l.stackTraces = false) (N : Nat)  : am_V l cX10_saveSnapshot 1 RX10 (am_E none yX10_saveSnapshot.name) 3 103 0 (kX10_saveSnapshot_0 N) := by
  refine av_live ?_
  refine av_aload_n dX10_saveSnapshot_0 rfl ?_
  refine av_getr am_ci10 (by decide) am_f10_11 q490 dX10_saveSnapshot_1 ?_
  refine av_ifnonnull (tgt := 18) dX10_saveSnapshot_4 (by decide) ?_ ?_
  · exact vX10_saveSnapshot_18 l hfl N
  refine av_aload_n dX10_saveSnapshot_7 rfl ?_
  refine av_newobj am_ci6 q412 q147 q126 dX10_saveSnapshot_8 ?_
  refine av_dup dX10_saveSnapshot_11 ?_
  refine av_callI (mX6_init l hfl N) rfl ⟨by decide +kernel, by decide +kernel, by decide +kernel⟩ q413 q149 q126 q150 (by decide) (by decide) dX10_saveSnapshot_12 ?_
  refine av_putr am_ci10 (by decide) am_f10_11 q490 (tyX10_ok 11 (by decide)) (fun _ => ⟨rfl, rfl⟩) rfl dX10_saveSnapshot_15 ?_
  exact vX10_saveSnapshot_18 l hfl N
theorem mX10_saveSnapshot (l : Launch) (hfl : l.stackTraces = false) (N : Nat) : am_M l yX10_saveSnapshot cX10_saveSnapshot 1 none 3 103 (fX10_saveSnapshot N) := av_meth hfl (by decide +kernel) rfl (vX10_saveSnapshot_0 l hfl N)
/-! MessengerBoard.restoreSnapshot()Z -/
noncomputable def kX10_restoreSnapshot_21 (N : Nat) : am_K := c_live [] <|
  c_i (0) <|
  c_zret
noncomputable def kX10_restoreSnapshot_0 (N : Nat) : am_K := c_live [0] <|
  c_rld 0 <|
  c_geti 10 13 <|
  c_ifeq (
  kX10_restoreSnapshot_21 N) <|
  c_rld 0 <|
  c_getr 10 11 <|
  c_ifnull (
  kX10_restoreSnapshot_21 N) <|
  c_rld 0 <|
  c_getr 10 12 <|
  c_ifnonnull (
  c_rld 0 <|
  c_getr 10 0 <|
  c_rld 0 <|
  c_getr 10 11 <|
  c_callV 6 1 (fX6_copyFrom N) <|
  c_rld 0 <|
  c_getr 10 2 <|
  c_rld 0 <|
  c_getr 10 12 <|
  c_callV 9 1 (fX9_copyFrom N) <|
  c_rld 0 <|
  c_getr 10 4 <|
  c_callV 4 0 (fX4_forget N) <|
  c_rld 0 <|
  c_getr 10 3 <|
  c_callV 3 0 (fX3_clear N) <|
  c_i (1) <|
  c_zret) <|
  kX10_restoreSnapshot_21 N
noncomputable def fX10_restoreSnapshot (N : Nat) : am_F := am_fn 1 (kX10_restoreSnapshot_0 N)
set_option maxRecDepth 20000 in
theorem vX10_restoreSnapshot_21 (l : Launch) (hfl : l.stackTraces = false) (N : Nat)  : am_V l cX10_restoreSnapshot 1 RX10 (am_E (some .boolean) yX10_restoreSnapshot.name) 3 103 21 (kX10_restoreSnapshot_21 N) := by
  refine av_live ?_
  refine av_iconst (v := 0) dX10_restoreSnapshot_21 (by decide) ?_
  exact av_zreturn am_hz dX10_restoreSnapshot_22
set_option maxRecDepth 20000 in
theorem vX10_restoreSnapshot_0 (l : Launch) (hfl : l.stackTraces = false) (N : Nat)  : am_V l cX10_restoreSnapshot 1 RX10 (am_E (some .boolean) yX10_restoreSnapshot.name) 3 103 0 (kX10_restoreSnapshot_0 N) := by
  refine av_live ?_
  refine av_aload_n dX10_restoreSnapshot_0 rfl ?_
  refine av_geti am_ci10 (by decide) am_f10_13 q497 dX10_restoreSnapshot_1 ?_
  refine av_ifeq (tgt := 21) dX10_restoreSnapshot_4 (by decide) ?_ ?_
  · exact vX10_restoreSnapshot_21 l hfl N
  refine av_aload_n dX10_restoreSnapshot_7 rfl ?_
  refine av_getr am_ci10 (by decide) am_f10_11 q490 dX10_restoreSnapshot_8 ?_
  refine av_ifnull (tgt := 21) dX10_restoreSnapshot_11 (by decide) ?_ ?_
  · exact vX10_restoreSnapshot_21 l hfl N
  refine av_aload_n dX10_restoreSnapshot_14 rfl ?_
  refine av_getr am_ci10 (by decide) am_f10_12 q491 dX10_restoreSnapshot_15 ?_
  refine av_ifnonnull (tgt := 23) dX10_restoreSnapshot_18 (by decide) ?_ ?_
  · refine av_aload_n dX10_restoreSnapshot_23 rfl ?_
    refine av_getr am_ci10 (by decide) am_f10_0 q414 dX10_restoreSnapshot_24 ?_
    refine av_aload_n dX10_restoreSnapshot_27 rfl ?_
    refine av_getr am_ci10 (by decide) am_f10_11 q490 dX10_restoreSnapshot_28 ?_
    refine av_callV am_hT (mX6_copyFrom l hfl N) am_ci6 ⟨by decide +kernel, by decide +kernel, by decide +kernel⟩ q492 q144 q126 q145 q146 (by decide) (by decide) dX10_restoreSnapshot_31 ?_
    refine av_aload_n dX10_restoreSnapshot_34 rfl ?_
    refine av_getr am_ci10 (by decide) am_f10_2 q421 dX10_restoreSnapshot_35 ?_
    refine av_aload_n dX10_restoreSnapshot_38 rfl ?_
    refine av_getr am_ci10 (by decide) am_f10_12 q491 dX10_restoreSnapshot_39 ?_
    refine av_callV am_hT (mX9_copyFrom l hfl N) am_ci9 ⟨by decide +kernel, by decide +kernel, by decide +kernel⟩ q493 q494 q418 q495 q496 (by decide) (by decide) dX10_restoreSnapshot_42 ?_
    refine av_aload_n dX10_restoreSnapshot_45 rfl ?_
    refine av_getr am_ci10 (by decide) am_f10_4 q433 dX10_restoreSnapshot_46 ?_
    refine av_callV am_hT (mX4_forget l hfl N) am_ci4 ⟨by decide +kernel, by decide +kernel, by decide +kernel⟩ q486 q487 q185 q488 q489 (by decide) (by decide) dX10_restoreSnapshot_49 ?_
    refine av_aload_n dX10_restoreSnapshot_52 rfl ?_
    refine av_getr am_ci10 (by decide) am_f10_3 q427 dX10_restoreSnapshot_53 ?_
    refine av_callV am_hT (mX3_clear l hfl N) am_ci3 ⟨by decide +kernel, by decide +kernel, by decide +kernel⟩ q498 q499 q424 q500 q501 (by decide) (by decide) dX10_restoreSnapshot_56 ?_
    refine av_iconst (v := 1) dX10_restoreSnapshot_59 (by decide) ?_
    exact av_zreturn am_hz dX10_restoreSnapshot_60
  exact vX10_restoreSnapshot_21 l hfl N
theorem mX10_restoreSnapshot (l : Launch) (hfl : l.stackTraces = false) (N : Nat) : am_M l yX10_restoreSnapshot cX10_restoreSnapshot 1 (some .boolean) 3 103 (fX10_restoreSnapshot N) := av_meth hfl (by decide +kernel) rfl (vX10_restoreSnapshot_0 l hfl N)
/-! MessengerBoard.load(I)I -/
noncomputable def kX10_load_12 (N : Nat) : am_K := c_live [] <|
  c_throw "java/lang/IllegalArgumentException"
noncomputable def kX10_load_0 (N : Nat) : am_K := c_live [0, 1] <|
  c_ild 1 <|
  c_iflt (
  kX10_load_12 N) <|
  c_ild 1 <|
  c_rld 0 <|
  c_geti 10 14 <|
  c_icle (
  c_rld 0 <|
  c_i (0) <|
  c_puti 10 14 <|
  c_rld 0 <|
  c_getr 10 8 <|
  c_ild 1 <|
  c_callV 0 1 (fX0_readText N) <|
  c_ist 2 <|
  c_rld 0 <|
  c_rld 0 <|
  c_getr 10 7 <|
  c_callV 8 0 (fX8_errorPlace N) <|
  c_puti 10 15 <|
  c_ild 2 <|
  c_ifeq (
  c_rld 0 <|
  c_getr 10 0 <|
  c_rld 0 <|
  c_getr 10 1 <|
  c_callV 6 1 (fX6_copyFrom N) <|
  c_rld 0 <|
  c_getr 10 4 <|
  c_callV 4 0 (fX4_forget N) <|
  c_rld 0 <|
  c_getr 10 3 <|
  c_callV 3 0 (fX3_clear N) <|
  c_rld 0 <|
  c_i (0) <|
  c_putz 10 13 <|
  c_rld 0 <|
  c_getr 10 0 <|
  c_getr 6 8 <|
  c_callV 7 0 (fX7_count N) <|
  c_iret) <|
  c_i (-10) <|
  c_ild 2 <|
  c_ii (fun x y => x - y) <|
  c_iret) <|
  kX10_load_12 N
noncomputable def fX10_load (N : Nat) : am_F := am_fn 3 (kX10_load_0 N)
set_option maxRecDepth 20000 in
theorem vX10_load_12 (l : Launch) (hfl : l.stackTraces = false) (N : Nat)  : am_V l cX10_load 3 RX10 (am_E (some .int) yX10_load.name) 8 216 12 (kX10_load_12 N) := by
  refine av_live ?_
  exact av_throw (names := ["java/lang/Exception"]) am_x0_98 am_x1_98 am_x2_98 am_x5_98 (by decide +kernel) (by decide +kernel) (by decide +kernel) q502 q503 t0 am_at_98 am_go_98 dX10_load_12 dX10_load_15 dX10_load_16 dX10_load_18 dX10_load_21 (by decide) (by decide)
set_option maxRecDepth 20000 in
theorem vX10_load_0 (l : Launch) (hfl : l.stackTraces = false) (N : Nat)  : am_V l cX10_load 3 RX10 (am_E (some .int) yX10_load.name) 8 216 0 (kX10_load_0 N) := by
  refine av_live ?_
  refine av_iload_n dX10_load_0 rfl ?_
  refine av_iflt (tgt := 12) dX10_load_1 (by decide) ?_ ?_
  · exact vX10_load_12 l hfl N
  refine av_iload_n dX10_load_4 rfl ?_
  refine av_aload_n dX10_load_5 rfl ?_
  refine av_geti am_ci10 (by decide) am_f10_14 q461 dX10_load_6 ?_
  refine av_icle (tgt := 22) dX10_load_9 (by decide) ?_ ?_
  · refine av_aload_n dX10_load_22 rfl ?_
    refine av_iconst (v := 0) dX10_load_23 (by decide) ?_
    refine av_puti am_ci10 (by decide) am_f10_14 q461 (tyX10_ok 14 (by decide)) rfl dX10_load_24 ?_
    refine av_aload_n dX10_load_27 rfl ?_
    refine av_getr am_ci10 (by decide) am_f10_8 q452 dX10_load_28 ?_
    refine av_iload_n dX10_load_31 rfl ?_
    refine av_callV am_hT (mX0_readText l hfl N) am_ci0 ⟨by decide +kernel, by decide +kernel, by decide +kernel⟩ q504 q505 q266 q506 q507 (by decide) (by decide) dX10_load_32 ?_
    refine av_istore_n dX10_load_35 rfl (by decide) ?_
    refine av_aload_n dX10_load_36 rfl ?_
    refine av_aload_n dX10_load_37 rfl ?_
    refine av_getr am_ci10 (by decide) am_f10_7 q446 dX10_load_38 ?_
    refine av_callV am_hT (mX8_errorPlace l hfl N) am_ci8 ⟨by decide +kernel, by decide +kernel, by decide +kernel⟩ q508 q509 q53 q510 q511 (by decide) (by decide) dX10_load_41 ?_
    refine av_puti am_ci10 (by decide) am_f10_15 q460 (tyX10_ok 15 (by decide)) rfl dX10_load_44 ?_
    refine av_iload_n dX10_load_47 rfl ?_
    refine av_ifeq (tgt := 56) dX10_load_48 (by decide) ?_ ?_
    · refine av_aload_n dX10_load_56 rfl ?_
      refine av_getr am_ci10 (by decide) am_f10_0 q414 dX10_load_57 ?_
      refine av_aload_n dX10_load_60 rfl ?_
      refine av_getr am_ci10 (by decide) am_f10_1 q415 dX10_load_61 ?_
      refine av_callV am_hT (mX6_copyFrom l hfl N) am_ci6 ⟨by decide +kernel, by decide +kernel, by decide +kernel⟩ q492 q144 q126 q145 q146 (by decide) (by decide) dX10_load_64 ?_
      refine av_aload_n dX10_load_67 rfl ?_
      refine av_getr am_ci10 (by decide) am_f10_4 q433 dX10_load_68 ?_
      refine av_callV am_hT (mX4_forget l hfl N) am_ci4 ⟨by decide +kernel, by decide +kernel, by decide +kernel⟩ q486 q487 q185 q488 q489 (by decide) (by decide) dX10_load_71 ?_
      refine av_aload_n dX10_load_74 rfl ?_
      refine av_getr am_ci10 (by decide) am_f10_3 q427 dX10_load_75 ?_
      refine av_callV am_hT (mX3_clear l hfl N) am_ci3 ⟨by decide +kernel, by decide +kernel, by decide +kernel⟩ q498 q499 q424 q500 q501 (by decide) (by decide) dX10_load_78 ?_
      refine av_aload_n dX10_load_81 rfl ?_
      refine av_iconst (v := 0) dX10_load_82 (by decide) ?_
      refine av_putz am_ci10 (by decide) am_f10_13 q497 (tyX10_ok 13 (by decide)) rfl dX10_load_83 ?_
      refine av_aload_n dX10_load_86 rfl ?_
      refine av_getr am_ci10 (by decide) am_f10_0 q414 dX10_load_87 ?_
      refine av_getr am_ci6 (by decide) am_f6_8 q512 dX10_load_90 ?_
      refine av_callV am_hT (mX7_count l hfl N) am_ci7 ⟨by decide +kernel, by decide +kernel, by decide +kernel⟩ q467 q90 q73 q91 q92 (by decide) (by decide) dX10_load_93 ?_
      exact av_ireturn am_hi dX10_load_96
    refine av_bipush (v := -10) dX10_load_51 (by decide) ?_
    refine av_iload_n dX10_load_53 rfl ?_
    refine av_isub dX10_load_54 ?_
    exact av_ireturn am_hi dX10_load_55
  exact vX10_load_12 l hfl N
theorem mX10_load (l : Launch) (hfl : l.stackTraces = false) (N : Nat) : am_M l yX10_load cX10_load 3 (some .int) 8 216 (fX10_load N) := av_meth hfl (by decide +kernel) rfl (vX10_load_0 l hfl N)
/-! MessengerBoard.size(I)I -/
noncomputable def kX10_size_0 (N : Nat) : am_K := c_live [0, 1] <|
  c_ild 1 <|
  c_sw (0) 12 (fun i => ([
(  c_rld 0 <|
  c_getr 10 0 <|
  c_geti 6 0 <|
  c_iret),
(  c_rld 0 <|
  c_getr 10 0 <|
  c_geti 6 1 <|
  c_iret),
(  c_rld 0 <|
  c_getr 10 0 <|
  c_getr 6 8 <|
  c_callV 7 0 (fX7_count N) <|
  c_iret),
(  c_rld 0 <|
  c_getr 10 0 <|
  c_getr 6 9 <|
  c_callV 7 0 (fX7_count N) <|
  c_iret),
(  c_rld 0 <|
  c_getr 10 0 <|
  c_getr 6 11 <|
  c_callV 7 0 (fX7_count N) <|
  c_iret),
(  c_rld 0 <|
  c_getr 10 0 <|
  c_geti 6 4 <|
  c_iret),
(  c_rld 0 <|
  c_getr 10 0 <|
  c_geti 6 6 <|
  c_iret),
(  c_rld 0 <|
  c_getr 10 0 <|
  c_getr 6 12 <|
  c_callV 7 0 (fX7_count N) <|
  c_iret),
(  c_rld 0 <|
  c_getr 10 0 <|
  c_getr 6 10 <|
  c_callV 7 0 (fX7_count N) <|
  c_iret),
(  c_rld 0 <|
  c_getr 10 0 <|
  c_geti 6 5 <|
  c_iret),
(  c_rld 0 <|
  c_getr 10 0 <|
  c_geti 6 2 <|
  c_iret),
(  c_rld 0 <|
  c_getr 10 0 <|
  c_geti 6 3 <|
  c_iret)] : List am_K).getD i (fun _ _ _ => none)) <|
  c_throw "java/util/NoSuchElementException"
noncomputable def fX10_size (N : Nat) : am_F := am_fn 2 (kX10_size_0 N)
set_option maxRecDepth 20000 in
theorem vX10_size_0 (l : Launch) (hfl : l.stackTraces = false) (N : Nat)  : am_V l cX10_size 2 RX10 (am_E (some .int) yX10_size.name) 8 100 0 (kX10_size_0 N) := by
  refine av_live ?_
  refine av_iload_n dX10_size_0 rfl ?_
  refine av_sw (n := 12) (tgt := 175) (fun i => ([64, 72, 80, 91, 102, 113, 121, 129, 140, 151, 159, 167] : List Nat).getD i 0) dX10_size_1 (by decide) (by decide) ?_ (by decide +kernel) ?_
  · exact av_throw (names := ["java/lang/Exception"]) am_x0_168 am_x1_168 am_x2_168 am_x5_168 (by decide +kernel) (by decide +kernel) (by decide +kernel) q523 q524 t8 am_at_168 am_go_168 dX10_size_175 dX10_size_178 dX10_size_179 dX10_size_181 dX10_size_184 (by decide) (by decide)
  · intro i hi
    match i, hi with
    | 0, _ =>
      show am_V _ _ _ _ _ _ _ 64 (
  c_rld 0 <|
  c_getr 10 0 <|
  c_geti 6 0 <|
  c_iret)
      refine av_aload_n dX10_size_64 rfl ?_
      refine av_getr am_ci10 (by decide) am_f10_0 q414 dX10_size_65 ?_
      refine av_geti am_ci6 (by decide) am_f6_0 q513 dX10_size_68 ?_
      exact av_ireturn am_hi dX10_size_71
    | 1, _ =>
      show am_V _ _ _ _ _ _ _ 72 (
  c_rld 0 <|
  c_getr 10 0 <|
  c_geti 6 1 <|
  c_iret)
      refine av_aload_n dX10_size_72 rfl ?_
      refine av_getr am_ci10 (by decide) am_f10_0 q414 dX10_size_73 ?_
      refine av_geti am_ci6 (by decide) am_f6_1 q514 dX10_size_76 ?_
      exact av_ireturn am_hi dX10_size_79
    | 2, _ =>
      show am_V _ _ _ _ _ _ _ 80 (
  c_rld 0 <|
  c_getr 10 0 <|
  c_getr 6 8 <|
  c_callV 7 0 (fX7_count N) <|
  c_iret)
      refine av_aload_n dX10_size_80 rfl ?_
      refine av_getr am_ci10 (by decide) am_f10_0 q414 dX10_size_81 ?_
      refine av_getr am_ci6 (by decide) am_f6_8 q512 dX10_size_84 ?_
      refine av_callV am_hT (mX7_count l hfl N) am_ci7 ⟨by decide +kernel, by decide +kernel, by decide +kernel⟩ q467 q90 q73 q91 q92 (by decide) (by decide) dX10_size_87 ?_
      exact av_ireturn am_hi dX10_size_90
    | 3, _ =>
      show am_V _ _ _ _ _ _ _ 91 (
  c_rld 0 <|
  c_getr 10 0 <|
  c_getr 6 9 <|
  c_callV 7 0 (fX7_count N) <|
  c_iret)
      refine av_aload_n dX10_size_91 rfl ?_
      refine av_getr am_ci10 (by decide) am_f10_0 q414 dX10_size_92 ?_
      refine av_getr am_ci6 (by decide) am_f6_9 q515 dX10_size_95 ?_
      refine av_callV am_hT (mX7_count l hfl N) am_ci7 ⟨by decide +kernel, by decide +kernel, by decide +kernel⟩ q467 q90 q73 q91 q92 (by decide) (by decide) dX10_size_98 ?_
      exact av_ireturn am_hi dX10_size_101
    | 4, _ =>
      show am_V _ _ _ _ _ _ _ 102 (
  c_rld 0 <|
  c_getr 10 0 <|
  c_getr 6 11 <|
  c_callV 7 0 (fX7_count N) <|
  c_iret)
      refine av_aload_n dX10_size_102 rfl ?_
      refine av_getr am_ci10 (by decide) am_f10_0 q414 dX10_size_103 ?_
      refine av_getr am_ci6 (by decide) am_f6_11 q466 dX10_size_106 ?_
      refine av_callV am_hT (mX7_count l hfl N) am_ci7 ⟨by decide +kernel, by decide +kernel, by decide +kernel⟩ q467 q90 q73 q91 q92 (by decide) (by decide) dX10_size_109 ?_
      exact av_ireturn am_hi dX10_size_112
    | 5, _ =>
      show am_V _ _ _ _ _ _ _ 113 (
  c_rld 0 <|
  c_getr 10 0 <|
  c_geti 6 4 <|
  c_iret)
      refine av_aload_n dX10_size_113 rfl ?_
      refine av_getr am_ci10 (by decide) am_f10_0 q414 dX10_size_114 ?_
      refine av_geti am_ci6 (by decide) am_f6_4 q516 dX10_size_117 ?_
      exact av_ireturn am_hi dX10_size_120
    | 6, _ =>
      show am_V _ _ _ _ _ _ _ 121 (
  c_rld 0 <|
  c_getr 10 0 <|
  c_geti 6 6 <|
  c_iret)
      refine av_aload_n dX10_size_121 rfl ?_
      refine av_getr am_ci10 (by decide) am_f10_0 q414 dX10_size_122 ?_
      refine av_geti am_ci6 (by decide) am_f6_6 q517 dX10_size_125 ?_
      exact av_ireturn am_hi dX10_size_128
    | 7, _ =>
      show am_V _ _ _ _ _ _ _ 129 (
  c_rld 0 <|
  c_getr 10 0 <|
  c_getr 6 12 <|
  c_callV 7 0 (fX7_count N) <|
  c_iret)
      refine av_aload_n dX10_size_129 rfl ?_
      refine av_getr am_ci10 (by decide) am_f10_0 q414 dX10_size_130 ?_
      refine av_getr am_ci6 (by decide) am_f6_12 q518 dX10_size_133 ?_
      refine av_callV am_hT (mX7_count l hfl N) am_ci7 ⟨by decide +kernel, by decide +kernel, by decide +kernel⟩ q467 q90 q73 q91 q92 (by decide) (by decide) dX10_size_136 ?_
      exact av_ireturn am_hi dX10_size_139
    | 8, _ =>
      show am_V _ _ _ _ _ _ _ 140 (
  c_rld 0 <|
  c_getr 10 0 <|
  c_getr 6 10 <|
  c_callV 7 0 (fX7_count N) <|
  c_iret)
      refine av_aload_n dX10_size_140 rfl ?_
      refine av_getr am_ci10 (by decide) am_f10_0 q414 dX10_size_141 ?_
      refine av_getr am_ci6 (by decide) am_f6_10 q519 dX10_size_144 ?_
      refine av_callV am_hT (mX7_count l hfl N) am_ci7 ⟨by decide +kernel, by decide +kernel, by decide +kernel⟩ q467 q90 q73 q91 q92 (by decide) (by decide) dX10_size_147 ?_
      exact av_ireturn am_hi dX10_size_150
    | 9, _ =>
      show am_V _ _ _ _ _ _ _ 151 (
  c_rld 0 <|
  c_getr 10 0 <|
  c_geti 6 5 <|
  c_iret)
      refine av_aload_n dX10_size_151 rfl ?_
      refine av_getr am_ci10 (by decide) am_f10_0 q414 dX10_size_152 ?_
      refine av_geti am_ci6 (by decide) am_f6_5 q520 dX10_size_155 ?_
      exact av_ireturn am_hi dX10_size_158
    | 10, _ =>
      show am_V _ _ _ _ _ _ _ 159 (
  c_rld 0 <|
  c_getr 10 0 <|
  c_geti 6 2 <|
  c_iret)
      refine av_aload_n dX10_size_159 rfl ?_
      refine av_getr am_ci10 (by decide) am_f10_0 q414 dX10_size_160 ?_
      refine av_geti am_ci6 (by decide) am_f6_2 q521 dX10_size_163 ?_
      exact av_ireturn am_hi dX10_size_166
    | 11, _ =>
      show am_V _ _ _ _ _ _ _ 167 (
  c_rld 0 <|
  c_getr 10 0 <|
  c_geti 6 3 <|
  c_iret)
      refine av_aload_n dX10_size_167 rfl ?_
      refine av_getr am_ci10 (by decide) am_f10_0 q414 dX10_size_168 ?_
      refine av_geti am_ci6 (by decide) am_f6_3 q522 dX10_size_171 ?_
      exact av_ireturn am_hi dX10_size_174
    | i + 12, hi => exact absurd hi (by omega)
theorem mX10_size (l : Launch) (hfl : l.stackTraces = false) (N : Nat) : am_M l yX10_size cX10_size 2 (some .int) 8 100 (fX10_size N) := av_meth hfl (by decide +kernel) rfl (vX10_size_0 l hfl N)
/-! MessengerBoard.needRow(LMessengerBoard$Table;I)V -/
noncomputable def kX10_needRow_12 (N : Nat) : am_K := c_live [] <|
  c_throw "java/util/NoSuchElementException"
noncomputable def kX10_needRow_0 (N : Nat) : am_K := c_live [0, 1] <|
  c_ild 1 <|
  c_iflt (
  kX10_needRow_12 N) <|
  c_ild 1 <|
  c_rld 0 <|
  c_callV 7 0 (fX7_count N) <|
  c_iclt (
  c_vret) <|
  kX10_needRow_12 N
noncomputable def fX10_needRow (N : Nat) : am_F := am_fn 2 (kX10_needRow_0 N)
set_option maxRecDepth 20000 in
theorem vX10_needRow_12 (l : Launch) (hfl : l.stackTraces = false) (N : Nat)  : am_V l cX10_needRow 2 RX10 (am_E none yX10_needRow.name) 8 100 12 (kX10_needRow_12 N) := by
  refine av_live ?_
  exact av_throww (names := ["java/lang/Exception"]) am_x0_168 am_x1_168 am_x2_168 am_x5_168 (by decide +kernel) (by decide +kernel) (by decide +kernel) q523 q524 t9 am_at_168 am_go_168 dX10_needRow_12 dX10_needRow_15 dX10_needRow_16 dX10_needRow_19 dX10_needRow_22 (by decide) (by decide)
set_option maxRecDepth 20000 in
theorem vX10_needRow_0 (l : Launch) (hfl : l.stackTraces = false) (N : Nat)  : am_V l cX10_needRow 2 RX10 (am_E none yX10_needRow.name) 8 100 0 (kX10_needRow_0 N) := by
  refine av_live ?_
  refine av_iload_n dX10_needRow_0 rfl ?_
  refine av_iflt (tgt := 12) dX10_needRow_1 (by decide) ?_ ?_
  · exact vX10_needRow_12 l hfl N
  refine av_iload_n dX10_needRow_4 rfl ?_
  refine av_aload_n dX10_needRow_5 rfl ?_
  refine av_callV am_hT (mX7_count l hfl N) am_ci7 ⟨by decide +kernel, by decide +kernel, by decide +kernel⟩ q467 q90 q73 q91 q92 (by decide) (by decide) dX10_needRow_6 ?_
  refine av_iclt (tgt := 23) dX10_needRow_9 (by decide) ?_ ?_
  · exact av_return_ am_hv dX10_needRow_23
  exact vX10_needRow_12 l hfl N
theorem mX10_needRow (l : Launch) (hfl : l.stackTraces = false) (N : Nat) : am_M l yX10_needRow cX10_needRow 2 none 8 100 (fX10_needRow N) := av_meth hfl (by decide +kernel) rfl (vX10_needRow_0 l hfl N)
/-! MessengerBoard.needColumn(II)V -/
noncomputable def kX10_needColumn_9 (N : Nat) : am_K := c_live [] <|
  c_throw "java/util/NoSuchElementException"
noncomputable def kX10_needColumn_0 (N : Nat) : am_K := c_live [0, 1] <|
  c_ild 0 <|
  c_iflt (
  kX10_needColumn_9 N) <|
  c_ild 0 <|
  c_ild 1 <|
  c_iclt (
  c_vret) <|
  kX10_needColumn_9 N
noncomputable def fX10_needColumn (N : Nat) : am_F := am_fn 2 (kX10_needColumn_0 N)
set_option maxRecDepth 20000 in
theorem vX10_needColumn_9 (l : Launch) (hfl : l.stackTraces = false) (N : Nat)  : am_V l cX10_needColumn 2 RX10 (am_E none yX10_needColumn.name) 8 100 9 (kX10_needColumn_9 N) := by
  refine av_live ?_
  exact av_throww (names := ["java/lang/Exception"]) am_x0_168 am_x1_168 am_x2_168 am_x5_168 (by decide +kernel) (by decide +kernel) (by decide +kernel) q523 q524 t10 am_at_168 am_go_168 dX10_needColumn_9 dX10_needColumn_12 dX10_needColumn_13 dX10_needColumn_16 dX10_needColumn_19 (by decide) (by decide)
set_option maxRecDepth 20000 in
theorem vX10_needColumn_0 (l : Launch) (hfl : l.stackTraces = false) (N : Nat)  : am_V l cX10_needColumn 2 RX10 (am_E none yX10_needColumn.name) 8 100 0 (kX10_needColumn_0 N) := by
  refine av_live ?_
  refine av_iload_n dX10_needColumn_0 rfl ?_
  refine av_iflt (tgt := 9) dX10_needColumn_1 (by decide) ?_ ?_
  · exact vX10_needColumn_9 l hfl N
  refine av_iload_n dX10_needColumn_4 rfl ?_
  refine av_iload_n dX10_needColumn_5 rfl ?_
  refine av_iclt (tgt := 20) dX10_needColumn_6 (by decide) ?_ ?_
  · exact av_return_ am_hv dX10_needColumn_20
  exact vX10_needColumn_9 l hfl N
theorem mX10_needColumn (l : Launch) (hfl : l.stackTraces = false) (N : Nat) : am_M l yX10_needColumn cX10_needColumn 2 none 8 100 (fX10_needColumn N) := av_meth hfl (by decide +kernel) rfl (vX10_needColumn_0 l hfl N)
/-! MessengerBoard.unit(II)I -/
noncomputable def kX10_unit_0 (N : Nat) : am_K := c_live [0, 1, 2] <|
  c_rld 0 <|
  c_getr 10 0 <|
  c_getr 6 8 <|
  c_ild 1 <|
  c_callS 2 (fX10_needRow N) <|
  c_ild 2 <|
  c_i (6) <|
  c_callS 2 (fX10_needColumn N) <|
  c_ild 2 <|
  c_i (4) <|
  c_icne (
  c_ild 2 <|
  c_i (5) <|
  c_icne (
  c_rld 0 <|
  c_getr 10 0 <|
  c_getr 6 8 <|
  c_ild 1 <|
  c_ild 2 <|
  c_callV 7 2 (fX7_get N) <|
  c_iret) <|
  c_rld 0 <|
  c_getr 10 0 <|
  c_ild 1 <|
  c_callV 6 1 (fX6_awaitedBy N) <|
  c_iret) <|
  c_rld 0 <|
  c_getr 10 0 <|
  c_ild 1 <|
  c_callV 6 1 (fX6_obeyedBy N) <|
  c_iret
noncomputable def fX10_unit (N : Nat) : am_F := am_fn 3 (kX10_unit_0 N)
set_option maxRecDepth 20000 in
theorem vX10_unit_0 (l : Launch) (hfl : l.stackTraces = false) (N : Nat)  : am_V l cX10_unit 3 RX10 (am_E (some .int) yX10_unit.name) 9 121 0 (kX10_unit_0 N) := by
  refine av_live ?_
  refine av_aload_n dX10_unit_0 rfl ?_
  refine av_getr am_ci10 (by decide) am_f10_0 q414 dX10_unit_1 ?_
  refine av_getr am_ci6 (by decide) am_f6_8 q512 dX10_unit_4 ?_
  refine av_iload_n dX10_unit_7 rfl ?_
  refine av_callS am_hT (mX10_needRow l hfl N) ⟨by decide +kernel, by decide +kernel, by decide +kernel⟩ q525 q526 q111 q527 (by decide) (by decide) dX10_unit_8 ?_
  refine av_iload_n dX10_unit_11 rfl ?_
  refine av_bipush (v := 6) dX10_unit_12 (by decide) ?_
  refine av_callS am_hT (mX10_needColumn l hfl N) ⟨by decide +kernel, by decide +kernel, by decide +kernel⟩ q528 q529 q111 q530 (by decide) (by decide) dX10_unit_14 ?_
  refine av_iload_n dX10_unit_17 rfl ?_
  refine av_iconst (v := 4) dX10_unit_18 (by decide) ?_
  refine av_icne (tgt := 31) dX10_unit_19 (by decide) ?_ ?_
  · refine av_iload_n dX10_unit_31 rfl ?_
    refine av_iconst (v := 5) dX10_unit_32 (by decide) ?_
    refine av_icne (tgt := 45) dX10_unit_33 (by decide) ?_ ?_
    · refine av_aload_n dX10_unit_45 rfl ?_
      refine av_getr am_ci10 (by decide) am_f10_0 q414 dX10_unit_46 ?_
      refine av_getr am_ci6 (by decide) am_f6_8 q512 dX10_unit_49 ?_
      refine av_iload_n dX10_unit_52 rfl ?_
      refine av_iload_n dX10_unit_53 rfl ?_
      refine av_callV am_hT (mX7_get l hfl N) am_ci7 ⟨by decide +kernel, by decide +kernel, by decide +kernel⟩ q472 q86 q73 q87 q88 (by decide) (by decide) dX10_unit_54 ?_
      exact av_ireturn am_hi dX10_unit_57
    refine av_aload_n dX10_unit_36 rfl ?_
    refine av_getr am_ci10 (by decide) am_f10_0 q414 dX10_unit_37 ?_
    refine av_iload_n dX10_unit_40 rfl ?_
    refine av_callV am_hT (mX6_awaitedBy l hfl N) am_ci6 ⟨by decide +kernel, by decide +kernel, by decide +kernel⟩ q531 q532 q126 q533 q534 (by decide) (by decide) dX10_unit_41 ?_
    exact av_ireturn am_hi dX10_unit_44
  refine av_aload_n dX10_unit_22 rfl ?_
  refine av_getr am_ci10 (by decide) am_f10_0 q414 dX10_unit_23 ?_
  refine av_iload_n dX10_unit_26 rfl ?_
  refine av_callV am_hT (mX6_obeyedBy l hfl N) am_ci6 ⟨by decide +kernel, by decide +kernel, by decide +kernel⟩ q535 q202 q126 q203 q204 (by decide) (by decide) dX10_unit_27 ?_
  exact av_ireturn am_hi dX10_unit_30
theorem mX10_unit (l : Launch) (hfl : l.stackTraces = false) (N : Nat) : am_M l yX10_unit cX10_unit 3 (some .int) 9 121 (fX10_unit N) := av_meth hfl (by decide +kernel) rfl (vX10_unit_0 l hfl N)
/-! MessengerBoard.picket(II)I -/
noncomputable def kX10_picket_46 (N : Nat) : am_K := c_live [] <|
  c_iret
noncomputable def kX10_picket_0 (N : Nat) : am_K := c_live [0, 1, 2] <|
  c_rld 0 <|
  c_getr 10 0 <|
  c_getr 6 9 <|
  c_ild 1 <|
  c_callS 2 (fX10_needRow N) <|
  c_ild 2 <|
  c_i (8) <|
  c_callS 2 (fX10_needColumn N) <|
  c_ild 2 <|
  c_i (6) <|
  c_icne (
  c_rld 0 <|
  c_getr 10 0 <|
  c_getr 6 9 <|
  c_ild 1 <|
  c_ild 2 <|
  c_callV 7 2 (fX7_get N) <|
  c_iret) <|
  c_rld 0 <|
  c_getr 10 0 <|
  c_ild 1 <|
  c_rld 0 <|
  c_getr 10 0 <|
  c_geti 6 4 <|
  c_callV 6 2 (fX6_watches N) <|
  c_ifeq (
  c_i (0) <|
  kX10_picket_46 N) <|
  c_i (1) <|
  kX10_picket_46 N
noncomputable def fX10_picket (N : Nat) : am_F := am_fn 3 (kX10_picket_0 N)
set_option maxRecDepth 20000 in
theorem vX10_picket_46 (l : Launch) (hfl : l.stackTraces = false) (N : Nat)  : am_V l cX10_picket 3 RX10 (am_E (some .int) yX10_picket.name) 9 121 46 (kX10_picket_46 N) := by
  refine av_live ?_
  exact av_ireturn am_hi dX10_picket_46
set_option maxRecDepth 20000 in
theorem vX10_picket_0 (l : Launch) (hfl : l.stackTraces = false) (N : Nat)  : am_V l cX10_picket 3 RX10 (am_E (some .int) yX10_picket.name) 9 121 0 (kX10_picket_0 N) := by
  refine av_live ?_
  refine av_aload_n dX10_picket_0 rfl ?_
  refine av_getr am_ci10 (by decide) am_f10_0 q414 dX10_picket_1 ?_
  refine av_getr am_ci6 (by decide) am_f6_9 q515 dX10_picket_4 ?_
  refine av_iload_n dX10_picket_7 rfl ?_
  refine av_callS am_hT (mX10_needRow l hfl N) ⟨by decide +kernel, by decide +kernel, by decide +kernel⟩ q525 q526 q111 q527 (by decide) (by decide) dX10_picket_8 ?_
  refine av_iload_n dX10_picket_11 rfl ?_
  refine av_bipush (v := 8) dX10_picket_12 (by decide) ?_
  refine av_callS am_hT (mX10_needColumn l hfl N) ⟨by decide +kernel, by decide +kernel, by decide +kernel⟩ q528 q529 q111 q530 (by decide) (by decide) dX10_picket_14 ?_
  refine av_iload_n dX10_picket_17 rfl ?_
  refine av_bipush (v := 6) dX10_picket_18 (by decide) ?_
  refine av_icne (tgt := 47) dX10_picket_20 (by decide) ?_ ?_
  · refine av_aload_n dX10_picket_47 rfl ?_
    refine av_getr am_ci10 (by decide) am_f10_0 q414 dX10_picket_48 ?_
    refine av_getr am_ci6 (by decide) am_f6_9 q515 dX10_picket_51 ?_
    refine av_iload_n dX10_picket_54 rfl ?_
    refine av_iload_n dX10_picket_55 rfl ?_
    refine av_callV am_hT (mX7_get l hfl N) am_ci7 ⟨by decide +kernel, by decide +kernel, by decide +kernel⟩ q472 q86 q73 q87 q88 (by decide) (by decide) dX10_picket_56 ?_
    exact av_ireturn am_hi dX10_picket_59
  refine av_aload_n dX10_picket_23 rfl ?_
  refine av_getr am_ci10 (by decide) am_f10_0 q414 dX10_picket_24 ?_
  refine av_iload_n dX10_picket_27 rfl ?_
  refine av_aload_n dX10_picket_28 rfl ?_
  refine av_getr am_ci10 (by decide) am_f10_0 q414 dX10_picket_29 ?_
  refine av_geti am_ci6 (by decide) am_f6_4 q516 dX10_picket_32 ?_
  refine av_callV am_hT (mX6_watches l hfl N) am_ci6 ⟨by decide +kernel, by decide +kernel, by decide +kernel⟩ q536 q125 q126 q127 q128 (by decide) (by decide) dX10_picket_35 ?_
  refine av_ifeq (tgt := 45) dX10_picket_38 (by decide) ?_ ?_
  · refine av_iconst (v := 0) dX10_picket_45 (by decide) ?_
    exact vX10_picket_46 l hfl N
  refine av_iconst (v := 1) dX10_picket_41 (by decide) ?_
  refine av_goto (tgt := 46) dX10_picket_42 (by decide) ?_
  exact vX10_picket_46 l hfl N
theorem mX10_picket (l : Launch) (hfl : l.stackTraces = false) (N : Nat) : am_M l yX10_picket cX10_picket 3 (some .int) 9 121 (fX10_picket N) := av_meth hfl (by decide +kernel) rfl (vX10_picket_0 l hfl N)
/-! MessengerBoard.order(II)I -/
noncomputable def kX10_order_0 (N : Nat) : am_K := c_live [0, 1, 2] <|
  c_rld 0 <|
  c_getr 10 0 <|
  c_getr 6 11 <|
  c_ild 1 <|
  c_callS 2 (fX10_needRow N) <|
  c_ild 2 <|
  c_i (10) <|
  c_callS 2 (fX10_needColumn N) <|
  c_rld 0 <|
  c_getr 10 0 <|
  c_getr 6 11 <|
  c_ild 1 <|
  c_ild 2 <|
  c_callV 7 2 (fX7_get N) <|
  c_iret
noncomputable def fX10_order (N : Nat) : am_F := am_fn 3 (kX10_order_0 N)
set_option maxRecDepth 20000 in
theorem vX10_order_0 (l : Launch) (hfl : l.stackTraces = false) (N : Nat)  : am_V l cX10_order 3 RX10 (am_E (some .int) yX10_order.name) 9 121 0 (kX10_order_0 N) := by
  refine av_live ?_
  refine av_aload_n dX10_order_0 rfl ?_
  refine av_getr am_ci10 (by decide) am_f10_0 q414 dX10_order_1 ?_
  refine av_getr am_ci6 (by decide) am_f6_11 q466 dX10_order_4 ?_
  refine av_iload_n dX10_order_7 rfl ?_
  refine av_callS am_hT (mX10_needRow l hfl N) ⟨by decide +kernel, by decide +kernel, by decide +kernel⟩ q525 q526 q111 q527 (by decide) (by decide) dX10_order_8 ?_
  refine av_iload_n dX10_order_11 rfl ?_
  refine av_bipush (v := 10) dX10_order_12 (by decide) ?_
  refine av_callS am_hT (mX10_needColumn l hfl N) ⟨by decide +kernel, by decide +kernel, by decide +kernel⟩ q528 q529 q111 q530 (by decide) (by decide) dX10_order_14 ?_
  refine av_aload_n dX10_order_17 rfl ?_
  refine av_getr am_ci10 (by decide) am_f10_0 q414 dX10_order_18 ?_
  refine av_getr am_ci6 (by decide) am_f6_11 q466 dX10_order_21 ?_
  refine av_iload_n dX10_order_24 rfl ?_
  refine av_iload_n dX10_order_25 rfl ?_
  refine av_callV am_hT (mX7_get l hfl N) am_ci7 ⟨by decide +kernel, by decide +kernel, by decide +kernel⟩ q472 q86 q73 q87 q88 (by decide) (by decide) dX10_order_26 ?_
  exact av_ireturn am_hi dX10_order_29
theorem mX10_order (l : Launch) (hfl : l.stackTraces = false) (N : Nat) : am_M l yX10_order cX10_order 3 (some .int) 9 121 (fX10_order N) := av_meth hfl (by decide +kernel) rfl (vX10_order_0 l hfl N)
/-! MessengerBoard.plan(II)I -/
noncomputable def kX10_plan_0 (N : Nat) : am_K := c_live [0, 1, 2] <|
  c_rld 0 <|
  c_getr 10 0 <|
  c_getr 6 10 <|
  c_ild 1 <|
  c_callS 2 (fX10_needRow N) <|
  c_ild 2 <|
  c_i (4) <|
  c_callS 2 (fX10_needColumn N) <|
  c_rld 0 <|
  c_getr 10 0 <|
  c_getr 6 10 <|
  c_ild 1 <|
  c_ild 2 <|
  c_callV 7 2 (fX7_get N) <|
  c_iret
noncomputable def fX10_plan (N : Nat) : am_F := am_fn 3 (kX10_plan_0 N)
set_option maxRecDepth 20000 in
theorem vX10_plan_0 (l : Launch) (hfl : l.stackTraces = false) (N : Nat)  : am_V l cX10_plan 3 RX10 (am_E (some .int) yX10_plan.name) 9 121 0 (kX10_plan_0 N) := by
  refine av_live ?_
  refine av_aload_n dX10_plan_0 rfl ?_
  refine av_getr am_ci10 (by decide) am_f10_0 q414 dX10_plan_1 ?_
  refine av_getr am_ci6 (by decide) am_f6_10 q519 dX10_plan_4 ?_
  refine av_iload_n dX10_plan_7 rfl ?_
  refine av_callS am_hT (mX10_needRow l hfl N) ⟨by decide +kernel, by decide +kernel, by decide +kernel⟩ q525 q526 q111 q527 (by decide) (by decide) dX10_plan_8 ?_
  refine av_iload_n dX10_plan_11 rfl ?_
  refine av_iconst (v := 4) dX10_plan_12 (by decide) ?_
  refine av_callS am_hT (mX10_needColumn l hfl N) ⟨by decide +kernel, by decide +kernel, by decide +kernel⟩ q528 q529 q111 q530 (by decide) (by decide) dX10_plan_13 ?_
  refine av_aload_n dX10_plan_16 rfl ?_
  refine av_getr am_ci10 (by decide) am_f10_0 q414 dX10_plan_17 ?_
  refine av_getr am_ci6 (by decide) am_f6_10 q519 dX10_plan_20 ?_
  refine av_iload_n dX10_plan_23 rfl ?_
  refine av_iload_n dX10_plan_24 rfl ?_
  refine av_callV am_hT (mX7_get l hfl N) am_ci7 ⟨by decide +kernel, by decide +kernel, by decide +kernel⟩ q472 q86 q73 q87 q88 (by decide) (by decide) dX10_plan_25 ?_
  exact av_ireturn am_hi dX10_plan_28
theorem mX10_plan (l : Launch) (hfl : l.stackTraces = false) (N : Nat) : am_M l yX10_plan cX10_plan 3 (some .int) 9 121 (fX10_plan N) := av_meth hfl (by decide +kernel) rfl (vX10_plan_0 l hfl N)
/-! MessengerBoard.event(II)I -/
noncomputable def kX10_event_0 (N : Nat) : am_K := c_live [0, 1, 2] <|
  c_rld 0 <|
  c_getr 10 0 <|
  c_getr 6 12 <|
  c_ild 1 <|
  c_callS 2 (fX10_needRow N) <|
  c_ild 2 <|
  c_i (3) <|
  c_callS 2 (fX10_needColumn N) <|
  c_rld 0 <|
  c_getr 10 0 <|
  c_getr 6 12 <|
  c_ild 1 <|
  c_ild 2 <|
  c_callV 7 2 (fX7_get N) <|
  c_iret
noncomputable def fX10_event (N : Nat) : am_F := am_fn 3 (kX10_event_0 N)
set_option maxRecDepth 20000 in
theorem vX10_event_0 (l : Launch) (hfl : l.stackTraces = false) (N : Nat)  : am_V l cX10_event 3 RX10 (am_E (some .int) yX10_event.name) 9 121 0 (kX10_event_0 N) := by
  refine av_live ?_
  refine av_aload_n dX10_event_0 rfl ?_
  refine av_getr am_ci10 (by decide) am_f10_0 q414 dX10_event_1 ?_
  refine av_getr am_ci6 (by decide) am_f6_12 q518 dX10_event_4 ?_
  refine av_iload_n dX10_event_7 rfl ?_
  refine av_callS am_hT (mX10_needRow l hfl N) ⟨by decide +kernel, by decide +kernel, by decide +kernel⟩ q525 q526 q111 q527 (by decide) (by decide) dX10_event_8 ?_
  refine av_iload_n dX10_event_11 rfl ?_
  refine av_iconst (v := 3) dX10_event_12 (by decide) ?_
  refine av_callS am_hT (mX10_needColumn l hfl N) ⟨by decide +kernel, by decide +kernel, by decide +kernel⟩ q528 q529 q111 q530 (by decide) (by decide) dX10_event_13 ?_
  refine av_aload_n dX10_event_16 rfl ?_
  refine av_getr am_ci10 (by decide) am_f10_0 q414 dX10_event_17 ?_
  refine av_getr am_ci6 (by decide) am_f6_12 q518 dX10_event_20 ?_
  refine av_iload_n dX10_event_23 rfl ?_
  refine av_iload_n dX10_event_24 rfl ?_
  refine av_callV am_hT (mX7_get l hfl N) am_ci7 ⟨by decide +kernel, by decide +kernel, by decide +kernel⟩ q472 q86 q73 q87 q88 (by decide) (by decide) dX10_event_25 ?_
  exact av_ireturn am_hi dX10_event_28
theorem mX10_event (l : Launch) (hfl : l.stackTraces = false) (N : Nat) : am_M l yX10_event cX10_event 3 (some .int) 9 121 (fX10_event N) := av_meth hfl (by decide +kernel) rfl (vX10_event_0 l hfl N)
/-! MessengerBoard.orders(I)I -/
noncomputable def kX10_orders_10 (N : Nat) : am_K := c_live [] <|
  c_throw "java/lang/IllegalArgumentException"
noncomputable def kX10_orders_0 (N : Nat) : am_K := c_live [0, 1] <|
  c_ild 1 <|
  c_iflt (
  kX10_orders_10 N) <|
  c_ild 1 <|
  c_i (6) <|
  c_icle (
  c_rld 0 <|
  c_getr 10 0 <|
  c_ild 1 <|
  c_callV 6 1 (fX6_ordersIn N) <|
  c_iret) <|
  kX10_orders_10 N
noncomputable def fX10_orders (N : Nat) : am_F := am_fn 2 (kX10_orders_0 N)
set_option maxRecDepth 20000 in
theorem vX10_orders_10 (l : Launch) (hfl : l.stackTraces = false) (N : Nat)  : am_V l cX10_orders 2 RX10 (am_E (some .int) yX10_orders.name) 8 108 10 (kX10_orders_10 N) := by
  refine av_live ?_
  exact av_throw (names := ["java/lang/Exception"]) am_x0_98 am_x1_98 am_x2_98 am_x5_98 (by decide +kernel) (by decide +kernel) (by decide +kernel) q502 q503 t11 am_at_98 am_go_98 dX10_orders_10 dX10_orders_13 dX10_orders_14 dX10_orders_16 dX10_orders_19 (by decide) (by decide)
set_option maxRecDepth 20000 in
theorem vX10_orders_0 (l : Launch) (hfl : l.stackTraces = false) (N : Nat)  : am_V l cX10_orders 2 RX10 (am_E (some .int) yX10_orders.name) 8 108 0 (kX10_orders_0 N) := by
  refine av_live ?_
  refine av_iload_n dX10_orders_0 rfl ?_
  refine av_iflt (tgt := 10) dX10_orders_1 (by decide) ?_ ?_
  · exact vX10_orders_10 l hfl N
  refine av_iload_n dX10_orders_4 rfl ?_
  refine av_bipush (v := 6) dX10_orders_5 (by decide) ?_
  refine av_icle (tgt := 20) dX10_orders_7 (by decide) ?_ ?_
  · refine av_aload_n dX10_orders_20 rfl ?_
    refine av_getr am_ci10 (by decide) am_f10_0 q414 dX10_orders_21 ?_
    refine av_iload_n dX10_orders_24 rfl ?_
    refine av_callV am_hT (mX6_ordersIn l hfl N) am_ci6 ⟨by decide +kernel, by decide +kernel, by decide +kernel⟩ q473 q474 q126 q475 q476 (by decide) (by decide) dX10_orders_25 ?_
    exact av_ireturn am_hi dX10_orders_28
  exact vX10_orders_10 l hfl N
theorem mX10_orders (l : Launch) (hfl : l.stackTraces = false) (N : Nat) : am_M l yX10_orders cX10_orders 2 (some .int) 8 108 (fX10_orders N) := av_meth hfl (by decide +kernel) rfl (vX10_orders_0 l hfl N)
/-! MessengerBoard.needCell(II)V -/
noncomputable def kX10_needCell_0 (N : Nat) : am_K := c_live [0, 1, 2] <|
  c_rld 0 <|
  c_getr 10 0 <|
  c_ild 1 <|
  c_ild 2 <|
  c_callV 6 2 (fX6_hasCell N) <|
  c_ifne (
  c_vret) <|
  c_throw "java/util/NoSuchElementException"
noncomputable def fX10_needCell (N : Nat) : am_F := am_fn 3 (kX10_needCell_0 N)
set_option maxRecDepth 20000 in
theorem vX10_needCell_0 (l : Launch) (hfl : l.stackTraces = false) (N : Nat)  : am_V l cX10_needCell 3 RX10 (am_E none yX10_needCell.name) 8 100 0 (kX10_needCell_0 N) := by
  refine av_live ?_
  refine av_aload_n dX10_needCell_0 rfl ?_
  refine av_getr am_ci10 (by decide) am_f10_0 q414 dX10_needCell_1 ?_
  refine av_iload_n dX10_needCell_4 rfl ?_
  refine av_iload_n dX10_needCell_5 rfl ?_
  refine av_callV am_hT (mX6_hasCell l hfl N) am_ci6 ⟨by decide +kernel, by decide +kernel, by decide +kernel⟩ q537 q538 q126 q539 q540 (by decide) (by decide) dX10_needCell_6 ?_
  refine av_ifne (tgt := 23) dX10_needCell_9 (by decide) ?_ ?_
  · exact av_return_ am_hv dX10_needCell_23
  exact av_throww (names := ["java/lang/Exception"]) am_x0_168 am_x1_168 am_x2_168 am_x5_168 (by decide +kernel) (by decide +kernel) (by decide +kernel) q523 q524 t12 am_at_168 am_go_168 dX10_needCell_12 dX10_needCell_15 dX10_needCell_16 dX10_needCell_19 dX10_needCell_22 (by decide) (by decide)
theorem mX10_needCell (l : Launch) (hfl : l.stackTraces = false) (N : Nat) : am_M l yX10_needCell cX10_needCell 3 none 8 100 (fX10_needCell N) := av_meth hfl (by decide +kernel) rfl (vX10_needCell_0 l hfl N)
/-! MessengerBoard.isWall(II)Z -/
noncomputable def kX10_isWall_0 (N : Nat) : am_K := c_live [0, 1, 2] <|
  c_rld 0 <|
  c_ild 1 <|
  c_ild 2 <|
  c_callV 10 2 (fX10_needCell N) <|
  c_rld 0 <|
  c_getr 10 0 <|
  c_ild 1 <|
  c_ild 2 <|
  c_callV 6 2 (fX6_walled N) <|
  c_zret
noncomputable def fX10_isWall (N : Nat) : am_F := am_fn 3 (kX10_isWall_0 N)
set_option maxRecDepth 20000 in
theorem vX10_isWall_0 (l : Launch) (hfl : l.stackTraces = false) (N : Nat)  : am_V l cX10_isWall 3 RX10 (am_E (some .boolean) yX10_isWall.name) 9 122 0 (kX10_isWall_0 N) := by
  refine av_live ?_
  refine av_aload_n dX10_isWall_0 rfl ?_
  refine av_iload_n dX10_isWall_1 rfl ?_
  refine av_iload_n dX10_isWall_2 rfl ?_
  refine av_callV am_hT (mX10_needCell l hfl N) am_ci10 ⟨by decide +kernel, by decide +kernel, by decide +kernel⟩ q541 q542 q111 q543 q544 (by decide) (by decide) dX10_isWall_3 ?_
  refine av_aload_n dX10_isWall_6 rfl ?_
  refine av_getr am_ci10 (by decide) am_f10_0 q414 dX10_isWall_7 ?_
  refine av_iload_n dX10_isWall_10 rfl ?_
  refine av_iload_n dX10_isWall_11 rfl ?_
  refine av_callV am_hT (mX6_walled l hfl N) am_ci6 ⟨by decide +kernel, by decide +kernel, by decide +kernel⟩ q545 q164 q126 q165 q166 (by decide) (by decide) dX10_isWall_12 ?_
  exact av_zreturn am_hz dX10_isWall_15
theorem mX10_isWall (l : Launch) (hfl : l.stackTraces = false) (N : Nat) : am_M l yX10_isWall cX10_isWall 3 (some .boolean) 9 122 (fX10_isWall N) := av_meth hfl (by decide +kernel) rfl (vX10_isWall_0 l hfl N)
/-! MessengerBoard.isWatched(III)Z -/
noncomputable def kX10_isWatched_39 (N : Nat) : am_K := c_live [] <|
  c_zret
noncomputable def kX10_isWatched_0 (N : Nat) : am_K := c_live [0, 1, 2, 3] <|
  c_rld 0 <|
  c_ild 1 <|
  c_ild 2 <|
  c_callV 10 2 (fX10_needCell N) <|
  c_ild 3 <|
  c_ifge (
  c_rld 0 <|
  c_getr 10 0 <|
  c_ild 1 <|
  c_ild 2 <|
  c_ild 3 <|
  c_callV 6 3 (fX6_watcher N) <|
  c_i (-1) <|
  c_iceq (
  c_i (0) <|
  kX10_isWatched_39 N) <|
  c_i (1) <|
  kX10_isWatched_39 N) <|
  c_throw "java/lang/IllegalArgumentException"
noncomputable def fX10_isWatched (N : Nat) : am_F := am_fn 4 (kX10_isWatched_0 N)
set_option maxRecDepth 20000 in
theorem vX10_isWatched_39 (l : Launch) (hfl : l.stackTraces = false) (N : Nat)  : am_V l cX10_isWatched 4 RX10 (am_E (some .boolean) yX10_isWatched.name) 9 135 39 (kX10_isWatched_39 N) := by
  refine av_live ?_
  exact av_zreturn am_hz dX10_isWatched_39
set_option maxRecDepth 20000 in
theorem vX10_isWatched_0 (l : Launch) (hfl : l.stackTraces = false) (N : Nat)  : am_V l cX10_isWatched 4 RX10 (am_E (some .boolean) yX10_isWatched.name) 9 135 0 (kX10_isWatched_0 N) := by
  refine av_live ?_
  refine av_aload_n dX10_isWatched_0 rfl ?_
  refine av_iload_n dX10_isWatched_1 rfl ?_
  refine av_iload_n dX10_isWatched_2 rfl ?_
  refine av_callV am_hT (mX10_needCell l hfl N) am_ci10 ⟨by decide +kernel, by decide +kernel, by decide +kernel⟩ q541 q542 q111 q543 q544 (by decide) (by decide) dX10_isWatched_3 ?_
  refine av_iload_n dX10_isWatched_6 rfl ?_
  refine av_ifge (tgt := 20) dX10_isWatched_7 (by decide) ?_ ?_
  · refine av_aload_n dX10_isWatched_20 rfl ?_
    refine av_getr am_ci10 (by decide) am_f10_0 q414 dX10_isWatched_21 ?_
    refine av_iload_n dX10_isWatched_24 rfl ?_
    refine av_iload_n dX10_isWatched_25 rfl ?_
    refine av_iload_n dX10_isWatched_26 rfl ?_
    refine av_callV am_hT (mX6_watcher l hfl N) am_ci6 ⟨by decide +kernel, by decide +kernel, by decide +kernel⟩ q546 q219 q126 q220 q221 (by decide) (by decide) dX10_isWatched_27 ?_
    refine av_iconst (v := -1) dX10_isWatched_30 (by decide) ?_
    refine av_iceq (tgt := 38) dX10_isWatched_31 (by decide) ?_ ?_
    · refine av_iconst (v := 0) dX10_isWatched_38 (by decide) ?_
      exact vX10_isWatched_39 l hfl N
    refine av_iconst (v := 1) dX10_isWatched_34 (by decide) ?_
    refine av_goto (tgt := 39) dX10_isWatched_35 (by decide) ?_
    exact vX10_isWatched_39 l hfl N
  exact av_throw (names := ["java/lang/Exception"]) am_x0_98 am_x1_98 am_x2_98 am_x5_98 (by decide +kernel) (by decide +kernel) (by decide +kernel) q502 q503 t13 am_at_98 am_go_98 dX10_isWatched_10 dX10_isWatched_13 dX10_isWatched_14 dX10_isWatched_16 dX10_isWatched_19 (by decide) (by decide)
theorem mX10_isWatched (l : Launch) (hfl : l.stackTraces = false) (N : Nat) : am_M l yX10_isWatched cX10_isWatched 4 (some .boolean) 9 135 (fX10_isWatched N) := av_meth hfl (by decide +kernel) rfl (vX10_isWatched_0 l hfl N)
/-! MessengerBoard.distance(IIII)I -/
noncomputable def kX10_distance_0 (N : Nat) : am_K := c_live [0, 1, 2, 3, 4] <|
  c_rld 0 <|
  c_ild 1 <|
  c_ild 2 <|
  c_callV 10 2 (fX10_needCell N) <|
  c_rld 0 <|
  c_ild 3 <|
  c_ild 4 <|
  c_callV 10 2 (fX10_needCell N) <|
  c_rld 0 <|
  c_getr 10 4 <|
  c_ild 1 <|
  c_ild 2 <|
  c_callS 2 (fX10_cellAt N) <|
  c_ild 3 <|
  c_ild 4 <|
  c_callS 2 (fX10_cellAt N) <|
  c_callV 4 2 (fX4_between N) <|
  c_iret
noncomputable def fX10_distance (N : Nat) : am_F := am_fn 5 (kX10_distance_0 N)
set_option maxRecDepth 20000 in
theorem vX10_distance_0 (l : Launch) (hfl : l.stackTraces = false) (N : Nat)  : am_V l cX10_distance 5 RX10 (am_E (some .int) yX10_distance.name) 9 135 0 (kX10_distance_0 N) := by
  refine av_live ?_
  refine av_aload_n dX10_distance_0 rfl ?_
  refine av_iload_n dX10_distance_1 rfl ?_
  refine av_iload_n dX10_distance_2 rfl ?_
  refine av_callV am_hT (mX10_needCell l hfl N) am_ci10 ⟨by decide +kernel, by decide +kernel, by decide +kernel⟩ q541 q542 q111 q543 q544 (by decide) (by decide) dX10_distance_3 ?_
  refine av_aload_n dX10_distance_6 rfl ?_
  refine av_iload_n dX10_distance_7 rfl ?_
  refine av_iload dX10_distance_8 ?_
  refine av_callV am_hT (mX10_needCell l hfl N) am_ci10 ⟨by decide +kernel, by decide +kernel, by decide +kernel⟩ q541 q542 q111 q543 q544 (by decide) (by decide) dX10_distance_10 ?_
  refine av_aload_n dX10_distance_13 rfl ?_
  refine av_getr am_ci10 (by decide) am_f10_4 q433 dX10_distance_14 ?_
  refine av_iload_n dX10_distance_17 rfl ?_
  refine av_iload_n dX10_distance_18 rfl ?_
  refine av_callS am_hT (mX10_cellAt l hfl N) ⟨by decide +kernel, by decide +kernel, by decide +kernel⟩ q547 q110 q111 q112 (by decide) (by decide) dX10_distance_19 ?_
  refine av_iload_n dX10_distance_22 rfl ?_
  refine av_iload dX10_distance_23 ?_
  refine av_callS am_hT (mX10_cellAt l hfl N) ⟨by decide +kernel, by decide +kernel, by decide +kernel⟩ q547 q110 q111 q112 (by decide) (by decide) dX10_distance_25 ?_
  refine av_callV am_hT (mX4_between l hfl N) am_ci4 ⟨by decide +kernel, by decide +kernel, by decide +kernel⟩ q548 q549 q185 q550 q551 (by decide) (by decide) dX10_distance_28 ?_
  exact av_ireturn am_hi dX10_distance_31
theorem mX10_distance (l : Launch) (hfl : l.stackTraces = false) (N : Nat) : am_M l yX10_distance cX10_distance 5 (some .int) 9 135 (fX10_distance N) := av_meth hfl (by decide +kernel) rfl (vX10_distance_0 l hfl N)
/-! MessengerBoard.step(IIII)I -/
noncomputable def kX10_step_56 (N : Nat) : am_K := c_live [] <|
  c_iret
noncomputable def kX10_step_0 (N : Nat) : am_K := c_live [0, 1, 2, 3, 4] <|
  c_rld 0 <|
  c_ild 1 <|
  c_ild 2 <|
  c_callV 10 2 (fX10_needCell N) <|
  c_rld 0 <|
  c_ild 3 <|
  c_ild 4 <|
  c_callV 10 2 (fX10_needCell N) <|
  c_rld 0 <|
  c_getr 10 4 <|
  c_ild 1 <|
  c_ild 2 <|
  c_callS 2 (fX10_cellAt N) <|
  c_ild 3 <|
  c_ild 4 <|
  c_callS 2 (fX10_cellAt N) <|
  c_callV 4 2 (fX4_nextCell N) <|
  c_ist 5 <|
  c_ild 5 <|
  c_i (-1) <|
  c_icne (
  c_ild 5 <|
  c_callS 1 (fX10_xOf N) <|
  c_ild 5 <|
  c_callS 1 (fX10_yOf N) <|
  c_callS 2 (fX10_nameOf N) <|
  kX10_step_56 N) <|
  c_i (-1) <|
  kX10_step_56 N
noncomputable def fX10_step (N : Nat) : am_F := am_fn 6 (kX10_step_0 N)
set_option maxRecDepth 20000 in
theorem vX10_step_56 (l : Launch) (hfl : l.stackTraces = false) (N : Nat)  : am_V l cX10_step 6 RX10 (am_E (some .int) yX10_step.name) 9 139 56 (kX10_step_56 N) := by
  refine av_live ?_
  exact av_ireturn am_hi dX10_step_56
set_option maxRecDepth 20000 in
theorem vX10_step_0 (l : Launch) (hfl : l.stackTraces = false) (N : Nat)  : am_V l cX10_step 6 RX10 (am_E (some .int) yX10_step.name) 9 139 0 (kX10_step_0 N) := by
  refine av_live ?_
  refine av_aload_n dX10_step_0 rfl ?_
  refine av_iload_n dX10_step_1 rfl ?_
  refine av_iload_n dX10_step_2 rfl ?_
  refine av_callV am_hT (mX10_needCell l hfl N) am_ci10 ⟨by decide +kernel, by decide +kernel, by decide +kernel⟩ q541 q542 q111 q543 q544 (by decide) (by decide) dX10_step_3 ?_
  refine av_aload_n dX10_step_6 rfl ?_
  refine av_iload_n dX10_step_7 rfl ?_
  refine av_iload dX10_step_8 ?_
  refine av_callV am_hT (mX10_needCell l hfl N) am_ci10 ⟨by decide +kernel, by decide +kernel, by decide +kernel⟩ q541 q542 q111 q543 q544 (by decide) (by decide) dX10_step_10 ?_
  refine av_aload_n dX10_step_13 rfl ?_
  refine av_getr am_ci10 (by decide) am_f10_4 q433 dX10_step_14 ?_
  refine av_iload_n dX10_step_17 rfl ?_
  refine av_iload_n dX10_step_18 rfl ?_
  refine av_callS am_hT (mX10_cellAt l hfl N) ⟨by decide +kernel, by decide +kernel, by decide +kernel⟩ q547 q110 q111 q112 (by decide) (by decide) dX10_step_19 ?_
  refine av_iload_n dX10_step_22 rfl ?_
  refine av_iload dX10_step_23 ?_
  refine av_callS am_hT (mX10_cellAt l hfl N) ⟨by decide +kernel, by decide +kernel, by decide +kernel⟩ q547 q110 q111 q112 (by decide) (by decide) dX10_step_25 ?_
  refine av_callV am_hT (mX4_nextCell l hfl N) am_ci4 ⟨by decide +kernel, by decide +kernel, by decide +kernel⟩ q552 q215 q185 q216 q217 (by decide) (by decide) dX10_step_28 ?_
  refine av_istore dX10_step_31 (by decide) ?_
  refine av_iload dX10_step_33 ?_
  refine av_iconst (v := -1) dX10_step_35 (by decide) ?_
  refine av_icne (tgt := 43) dX10_step_36 (by decide) ?_ ?_
  · refine av_iload dX10_step_43 ?_
    refine av_callS am_hT (mX10_xOf l hfl N) ⟨by decide +kernel, by decide +kernel, by decide +kernel⟩ q553 q159 q111 q160 (by decide) (by decide) dX10_step_45 ?_
    refine av_iload dX10_step_48 ?_
    refine av_callS am_hT (mX10_yOf l hfl N) ⟨by decide +kernel, by decide +kernel, by decide +kernel⟩ q554 q161 q111 q162 (by decide) (by decide) dX10_step_50 ?_
    refine av_callS am_hT (mX10_nameOf l hfl N) ⟨by decide +kernel, by decide +kernel, by decide +kernel⟩ q555 q136 q111 q137 (by decide) (by decide) dX10_step_53 ?_
    exact vX10_step_56 l hfl N
  refine av_iconst (v := -1) dX10_step_39 (by decide) ?_
  refine av_goto (tgt := 56) dX10_step_40 (by decide) ?_
  exact vX10_step_56 l hfl N
theorem mX10_step (l : Launch) (hfl : l.stackTraces = false) (N : Nat) : am_M l yX10_step cX10_step 6 (some .int) 9 139 (fX10_step N) := av_meth hfl (by decide +kernel) rfl (vX10_step_0 l hfl N)
/-! MessengerBoard.needPastTurn(I)V -/
noncomputable def kX10_needPastTurn_15 (N : Nat) : am_K := c_live [] <|
  c_throw "java/lang/IllegalArgumentException"
noncomputable def kX10_needPastTurn_0 (N : Nat) : am_K := c_live [0, 1] <|
  c_ild 1 <|
  c_iflt (
  kX10_needPastTurn_15 N) <|
  c_ild 1 <|
  c_rld 0 <|
  c_getr 10 0 <|
  c_geti 6 4 <|
  c_icle (
  c_vret) <|
  kX10_needPastTurn_15 N
noncomputable def fX10_needPastTurn (N : Nat) : am_F := am_fn 2 (kX10_needPastTurn_0 N)
set_option maxRecDepth 20000 in
theorem vX10_needPastTurn_15 (l : Launch) (hfl : l.stackTraces = false) (N : Nat)  : am_V l cX10_needPastTurn 2 RX10 (am_E none yX10_needPastTurn.name) 8 100 15 (kX10_needPastTurn_15 N) := by
  refine av_live ?_
  exact av_throw (names := ["java/lang/Exception"]) am_x0_98 am_x1_98 am_x2_98 am_x5_98 (by decide +kernel) (by decide +kernel) (by decide +kernel) q502 q503 t13 am_at_98 am_go_98 dX10_needPastTurn_15 dX10_needPastTurn_18 dX10_needPastTurn_19 dX10_needPastTurn_21 dX10_needPastTurn_24 (by decide) (by decide)
set_option maxRecDepth 20000 in
theorem vX10_needPastTurn_0 (l : Launch) (hfl : l.stackTraces = false) (N : Nat)  : am_V l cX10_needPastTurn 2 RX10 (am_E none yX10_needPastTurn.name) 8 100 0 (kX10_needPastTurn_0 N) := by
  refine av_live ?_
  refine av_iload_n dX10_needPastTurn_0 rfl ?_
  refine av_iflt (tgt := 15) dX10_needPastTurn_1 (by decide) ?_ ?_
  · exact vX10_needPastTurn_15 l hfl N
  refine av_iload_n dX10_needPastTurn_4 rfl ?_
  refine av_aload_n dX10_needPastTurn_5 rfl ?_
  refine av_getr am_ci10 (by decide) am_f10_0 q414 dX10_needPastTurn_6 ?_
  refine av_geti am_ci6 (by decide) am_f6_4 q516 dX10_needPastTurn_9 ?_
  refine av_icle (tgt := 25) dX10_needPastTurn_12 (by decide) ?_ ?_
  · exact av_return_ am_hv dX10_needPastTurn_25
  exact vX10_needPastTurn_15 l hfl N
theorem mX10_needPastTurn (l : Launch) (hfl : l.stackTraces = false) (N : Nat) : am_M l yX10_needPastTurn cX10_needPastTurn 2 none 8 100 (fX10_needPastTurn N) := av_meth hfl (by decide +kernel) rfl (vX10_needPastTurn_0 l hfl N)
/-! MessengerBoard.wasAt(II)I -/
noncomputable def kX10_wasAt_0 (N : Nat) : am_K := c_live [0, 1, 2] <|
  c_rld 0 <|
  c_getr 10 0 <|
  c_getr 6 8 <|
  c_ild 1 <|
  c_callS 2 (fX10_needRow N) <|
  c_rld 0 <|
  c_ild 2 <|
  c_callV 10 1 (fX10_needPastTurn N) <|
  c_ild 2 <|
  c_rld 0 <|
  c_getr 10 0 <|
  c_geti 6 4 <|
  c_icne (
  c_rld 0 <|
  c_getr 10 2 <|
  c_ild 1 <|
  c_ild 2 <|
  c_callV 9 2 (fX9_placeOf N) <|
  c_iret) <|
  c_rld 0 <|
  c_getr 10 0 <|
  c_getr 6 8 <|
  c_ild 1 <|
  c_i (0) <|
  c_callV 7 2 (fX7_get N) <|
  c_rld 0 <|
  c_getr 10 0 <|
  c_getr 6 8 <|
  c_ild 1 <|
  c_i (1) <|
  c_callV 7 2 (fX7_get N) <|
  c_callS 2 (fX10_nameOf N) <|
  c_iret
noncomputable def fX10_wasAt (N : Nat) : am_F := am_fn 3 (kX10_wasAt_0 N)
set_option maxRecDepth 20000 in
theorem vX10_wasAt_0 (l : Launch) (hfl : l.stackTraces = false) (N : Nat)  : am_V l cX10_wasAt 3 RX10 (am_E (some .int) yX10_wasAt.name) 9 121 0 (kX10_wasAt_0 N) := by
  refine av_live ?_
  refine av_aload_n dX10_wasAt_0 rfl ?_
  refine av_getr am_ci10 (by decide) am_f10_0 q414 dX10_wasAt_1 ?_
  refine av_getr am_ci6 (by decide) am_f6_8 q512 dX10_wasAt_4 ?_
  refine av_iload_n dX10_wasAt_7 rfl ?_
  refine av_callS am_hT (mX10_needRow l hfl N) ⟨by decide +kernel, by decide +kernel, by decide +kernel⟩ q525 q526 q111 q527 (by decide) (by decide) dX10_wasAt_8 ?_
  refine av_aload_n dX10_wasAt_11 rfl ?_
  refine av_iload_n dX10_wasAt_12 rfl ?_
  refine av_callV am_hT (mX10_needPastTurn l hfl N) am_ci10 ⟨by decide +kernel, by decide +kernel, by decide +kernel⟩ q556 q557 q111 q558 q559 (by decide) (by decide) dX10_wasAt_13 ?_
  refine av_iload_n dX10_wasAt_16 rfl ?_
  refine av_aload_n dX10_wasAt_17 rfl ?_
  refine av_getr am_ci10 (by decide) am_f10_0 q414 dX10_wasAt_18 ?_
  refine av_geti am_ci6 (by decide) am_f6_4 q516 dX10_wasAt_21 ?_
  refine av_icne (tgt := 55) dX10_wasAt_24 (by decide) ?_ ?_
  · refine av_aload_n dX10_wasAt_55 rfl ?_
    refine av_getr am_ci10 (by decide) am_f10_2 q421 dX10_wasAt_56 ?_
    refine av_iload_n dX10_wasAt_59 rfl ?_
    refine av_iload_n dX10_wasAt_60 rfl ?_
    refine av_callV am_hT (mX9_placeOf l hfl N) am_ci9 ⟨by decide +kernel, by decide +kernel, by decide +kernel⟩ q560 q561 q418 q562 q563 (by decide) (by decide) dX10_wasAt_61 ?_
    exact av_ireturn am_hi dX10_wasAt_64
  refine av_aload_n dX10_wasAt_27 rfl ?_
  refine av_getr am_ci10 (by decide) am_f10_0 q414 dX10_wasAt_28 ?_
  refine av_getr am_ci6 (by decide) am_f6_8 q512 dX10_wasAt_31 ?_
  refine av_iload_n dX10_wasAt_34 rfl ?_
  refine av_iconst (v := 0) dX10_wasAt_35 (by decide) ?_
  refine av_callV am_hT (mX7_get l hfl N) am_ci7 ⟨by decide +kernel, by decide +kernel, by decide +kernel⟩ q472 q86 q73 q87 q88 (by decide) (by decide) dX10_wasAt_36 ?_
  refine av_aload_n dX10_wasAt_39 rfl ?_
  refine av_getr am_ci10 (by decide) am_f10_0 q414 dX10_wasAt_40 ?_
  refine av_getr am_ci6 (by decide) am_f6_8 q512 dX10_wasAt_43 ?_
  refine av_iload_n dX10_wasAt_46 rfl ?_
  refine av_iconst (v := 1) dX10_wasAt_47 (by decide) ?_
  refine av_callV am_hT (mX7_get l hfl N) am_ci7 ⟨by decide +kernel, by decide +kernel, by decide +kernel⟩ q472 q86 q73 q87 q88 (by decide) (by decide) dX10_wasAt_48 ?_
  refine av_callS am_hT (mX10_nameOf l hfl N) ⟨by decide +kernel, by decide +kernel, by decide +kernel⟩ q555 q136 q111 q137 (by decide) (by decide) dX10_wasAt_51 ?_
  exact av_ireturn am_hi dX10_wasAt_54
theorem mX10_wasAt (l : Launch) (hfl : l.stackTraces = false) (N : Nat) : am_M l yX10_wasAt cX10_wasAt 3 (some .int) 9 121 (fX10_wasAt N) := av_meth hfl (by decide +kernel) rfl (vX10_wasAt_0 l hfl N)
/-! MessengerBoard.stateAt(II)I -/
noncomputable def kX10_stateAt_106 (N : Nat) (r51 : am_K) : am_K := c_live [0, 1, 2, 3, 4, 5] <|
  c_inc 5 (1) <|
  c_live [0, 1, 2, 3, 4, 5] r51
noncomputable def bX10_stateAt_51 (N : Nat) (r51 : am_K) : am_K :=
  c_ild 5 <|
  c_ild 4 <|
  c_icge (
  c_ild 3 <|
  c_iret) <|
  c_rld 0 <|
  c_getr 10 0 <|
  c_getr 6 12 <|
  c_ild 5 <|
  c_i (1) <|
  c_callV 7 2 (fX7_get N) <|
  c_ild 1 <|
  c_icne (
  kX10_stateAt_106 N r51) <|
  c_rld 0 <|
  c_getr 10 0 <|
  c_getr 6 12 <|
  c_ild 5 <|
  c_i (0) <|
  c_callV 7 2 (fX7_get N) <|
  c_ild 2 <|
  c_icge (
  kX10_stateAt_106 N r51) <|
  c_rld 0 <|
  c_getr 10 0 <|
  c_getr 6 12 <|
  c_ild 5 <|
  c_i (2) <|
  c_callV 7 2 (fX7_get N) <|
  c_ist 3 <|
  kX10_stateAt_106 N r51
noncomputable def kX10_stateAt_51 (N : Nat) : am_K := c_live [0, 1, 2, 3, 4, 5] (am_loop (bX10_stateAt_51 N) N)
noncomputable def kX10_stateAt_0 (N : Nat) : am_K := c_live [0, 1, 2] <|
  c_rld 0 <|
  c_getr 10 0 <|
  c_getr 6 11 <|
  c_ild 1 <|
  c_callS 2 (fX10_needRow N) <|
  c_rld 0 <|
  c_ild 2 <|
  c_callV 10 1 (fX10_needPastTurn N) <|
  c_ild 2 <|
  c_rld 0 <|
  c_getr 10 0 <|
  c_getr 6 11 <|
  c_ild 1 <|
  c_i (4) <|
  c_callV 7 2 (fX7_get N) <|
  c_icgt (
  c_i (0) <|
  c_ist 3 <|
  c_rld 0 <|
  c_getr 10 0 <|
  c_getr 6 12 <|
  c_callV 7 0 (fX7_count N) <|
  c_ist 4 <|
  c_i (0) <|
  c_ist 5 <|
  kX10_stateAt_51 N) <|
  c_i (-1) <|
  c_iret
noncomputable def fX10_stateAt (N : Nat) : am_F := am_fn 6 (kX10_stateAt_0 N)
set_option maxRecDepth 20000 in
theorem vX10_stateAt_106 (l : Launch) (hfl : l.stackTraces = false) (N : Nat)  {r51 : am_K} (h51 : am_V l cX10_stateAt 6 RX10 (am_E (some .int) yX10_stateAt.name) 9 121 51 r51) : am_V l cX10_stateAt 6 RX10 (am_E (some .int) yX10_stateAt.name) 9 121 106 (kX10_stateAt_106 N r51) := by
  refine av_live ?_
  refine av_iinc dX10_stateAt_106 (by decide) (by decide) ?_
  refine av_goto (tgt := 51) dX10_stateAt_109 (by decide) ?_
  exact av_live h51
set_option maxRecDepth 20000 in
theorem vX10_stateAt_51 (l : Launch) (hfl : l.stackTraces = false) (N : Nat)  : am_V l cX10_stateAt 6 RX10 (am_E (some .int) yX10_stateAt.name) 9 121 51 (kX10_stateAt_51 N) := by
  refine av_live ?_
  refine av_loop (fun r51 h51 => ?_) N
  refine av_iload dX10_stateAt_51 ?_
  refine av_iload dX10_stateAt_53 ?_
  refine av_icge (tgt := 112) dX10_stateAt_55 (by decide) ?_ ?_
  · refine av_iload_n dX10_stateAt_112 rfl ?_
    exact av_ireturn am_hi dX10_stateAt_113
  refine av_aload_n dX10_stateAt_58 rfl ?_
  refine av_getr am_ci10 (by decide) am_f10_0 q414 dX10_stateAt_59 ?_
  refine av_getr am_ci6 (by decide) am_f6_12 q518 dX10_stateAt_62 ?_
  refine av_iload dX10_stateAt_65 ?_
  refine av_iconst (v := 1) dX10_stateAt_67 (by decide) ?_
  refine av_callV am_hT (mX7_get l hfl N) am_ci7 ⟨by decide +kernel, by decide +kernel, by decide +kernel⟩ q472 q86 q73 q87 q88 (by decide) (by decide) dX10_stateAt_68 ?_
  refine av_iload_n dX10_stateAt_71 rfl ?_
  refine av_icne (tgt := 106) dX10_stateAt_72 (by decide) ?_ ?_
  · exact vX10_stateAt_106 l hfl N h51
  refine av_aload_n dX10_stateAt_75 rfl ?_
  refine av_getr am_ci10 (by decide) am_f10_0 q414 dX10_stateAt_76 ?_
  refine av_getr am_ci6 (by decide) am_f6_12 q518 dX10_stateAt_79 ?_
  refine av_iload dX10_stateAt_82 ?_
  refine av_iconst (v := 0) dX10_stateAt_84 (by decide) ?_
  refine av_callV am_hT (mX7_get l hfl N) am_ci7 ⟨by decide +kernel, by decide +kernel, by decide +kernel⟩ q472 q86 q73 q87 q88 (by decide) (by decide) dX10_stateAt_85 ?_
  refine av_iload_n dX10_stateAt_88 rfl ?_
  refine av_icge (tgt := 106) dX10_stateAt_89 (by decide) ?_ ?_
  · exact vX10_stateAt_106 l hfl N h51
  refine av_aload_n dX10_stateAt_92 rfl ?_
  refine av_getr am_ci10 (by decide) am_f10_0 q414 dX10_stateAt_93 ?_
  refine av_getr am_ci6 (by decide) am_f6_12 q518 dX10_stateAt_96 ?_
  refine av_iload dX10_stateAt_99 ?_
  refine av_iconst (v := 2) dX10_stateAt_101 (by decide) ?_
  refine av_callV am_hT (mX7_get l hfl N) am_ci7 ⟨by decide +kernel, by decide +kernel, by decide +kernel⟩ q472 q86 q73 q87 q88 (by decide) (by decide) dX10_stateAt_102 ?_
  refine av_istore_n dX10_stateAt_105 rfl (by decide) ?_
  exact vX10_stateAt_106 l hfl N h51
set_option maxRecDepth 20000 in
theorem vX10_stateAt_0 (l : Launch) (hfl : l.stackTraces = false) (N : Nat)  : am_V l cX10_stateAt 6 RX10 (am_E (some .int) yX10_stateAt.name) 9 121 0 (kX10_stateAt_0 N) := by
  refine av_live ?_
  refine av_aload_n dX10_stateAt_0 rfl ?_
  refine av_getr am_ci10 (by decide) am_f10_0 q414 dX10_stateAt_1 ?_
  refine av_getr am_ci6 (by decide) am_f6_11 q466 dX10_stateAt_4 ?_
  refine av_iload_n dX10_stateAt_7 rfl ?_
  refine av_callS am_hT (mX10_needRow l hfl N) ⟨by decide +kernel, by decide +kernel, by decide +kernel⟩ q525 q526 q111 q527 (by decide) (by decide) dX10_stateAt_8 ?_
  refine av_aload_n dX10_stateAt_11 rfl ?_
  refine av_iload_n dX10_stateAt_12 rfl ?_
  refine av_callV am_hT (mX10_needPastTurn l hfl N) am_ci10 ⟨by decide +kernel, by decide +kernel, by decide +kernel⟩ q556 q557 q111 q558 q559 (by decide) (by decide) dX10_stateAt_13 ?_
  refine av_iload_n dX10_stateAt_16 rfl ?_
  refine av_aload_n dX10_stateAt_17 rfl ?_
  refine av_getr am_ci10 (by decide) am_f10_0 q414 dX10_stateAt_18 ?_
  refine av_getr am_ci6 (by decide) am_f6_11 q466 dX10_stateAt_21 ?_
  refine av_iload_n dX10_stateAt_24 rfl ?_
  refine av_iconst (v := 4) dX10_stateAt_25 (by decide) ?_
  refine av_callV am_hT (mX7_get l hfl N) am_ci7 ⟨by decide +kernel, by decide +kernel, by decide +kernel⟩ q472 q86 q73 q87 q88 (by decide) (by decide) dX10_stateAt_26 ?_
  refine av_icgt (tgt := 34) dX10_stateAt_29 (by decide) ?_ ?_
  · refine av_iconst (v := 0) dX10_stateAt_34 (by decide) ?_
    refine av_istore_n dX10_stateAt_35 rfl (by decide) ?_
    refine av_aload_n dX10_stateAt_36 rfl ?_
    refine av_getr am_ci10 (by decide) am_f10_0 q414 dX10_stateAt_37 ?_
    refine av_getr am_ci6 (by decide) am_f6_12 q518 dX10_stateAt_40 ?_
    refine av_callV am_hT (mX7_count l hfl N) am_ci7 ⟨by decide +kernel, by decide +kernel, by decide +kernel⟩ q467 q90 q73 q91 q92 (by decide) (by decide) dX10_stateAt_43 ?_
    refine av_istore dX10_stateAt_46 (by decide) ?_
    refine av_iconst (v := 0) dX10_stateAt_48 (by decide) ?_
    refine av_istore dX10_stateAt_49 (by decide) ?_
    exact vX10_stateAt_51 l hfl N
  refine av_iconst (v := -1) dX10_stateAt_32 (by decide) ?_
  exact av_ireturn am_hi dX10_stateAt_33
theorem mX10_stateAt (l : Launch) (hfl : l.stackTraces = false) (N : Nat) : am_M l yX10_stateAt cX10_stateAt 6 (some .int) 9 121 (fX10_stateAt N) := av_meth hfl (by decide +kernel) rfl (vX10_stateAt_0 l hfl N)
/-! MessengerBoard.needGoal(III)V -/
noncomputable def kX10_needGoal_0 (N : Nat) : am_K := c_live [0, 1, 2, 3] <|
  c_rld 0 <|
  c_getr 10 0 <|
  c_getr 6 8 <|
  c_ild 1 <|
  c_callS 2 (fX10_needRow N) <|
  c_rld 0 <|
  c_ild 2 <|
  c_ild 3 <|
  c_callV 10 2 (fX10_needCell N) <|
  c_rld 0 <|
  c_getr 10 0 <|
  c_ild 2 <|
  c_ild 3 <|
  c_callV 6 2 (fX6_walled N) <|
  c_ifeq (
  c_vret) <|
  c_throw "java/lang/IllegalArgumentException"
noncomputable def fX10_needGoal (N : Nat) : am_F := am_fn 4 (kX10_needGoal_0 N)
set_option maxRecDepth 20000 in
theorem vX10_needGoal_0 (l : Launch) (hfl : l.stackTraces = false) (N : Nat)  : am_V l cX10_needGoal 4 RX10 (am_E none yX10_needGoal.name) 9 122 0 (kX10_needGoal_0 N) := by
  refine av_live ?_
  refine av_aload_n dX10_needGoal_0 rfl ?_
  refine av_getr am_ci10 (by decide) am_f10_0 q414 dX10_needGoal_1 ?_
  refine av_getr am_ci6 (by decide) am_f6_8 q512 dX10_needGoal_4 ?_
  refine av_iload_n dX10_needGoal_7 rfl ?_
  refine av_callS am_hT (mX10_needRow l hfl N) ⟨by decide +kernel, by decide +kernel, by decide +kernel⟩ q525 q526 q111 q527 (by decide) (by decide) dX10_needGoal_8 ?_
  refine av_aload_n dX10_needGoal_11 rfl ?_
  refine av_iload_n dX10_needGoal_12 rfl ?_
  refine av_iload_n dX10_needGoal_13 rfl ?_
  refine av_callV am_hT (mX10_needCell l hfl N) am_ci10 ⟨by decide +kernel, by decide +kernel, by decide +kernel⟩ q541 q542 q111 q543 q544 (by decide) (by decide) dX10_needGoal_14 ?_
  refine av_aload_n dX10_needGoal_17 rfl ?_
  refine av_getr am_ci10 (by decide) am_f10_0 q414 dX10_needGoal_18 ?_
  refine av_iload_n dX10_needGoal_21 rfl ?_
  refine av_iload_n dX10_needGoal_22 rfl ?_
  refine av_callV am_hT (mX6_walled l hfl N) am_ci6 ⟨by decide +kernel, by decide +kernel, by decide +kernel⟩ q545 q164 q126 q165 q166 (by decide) (by decide) dX10_needGoal_23 ?_
  refine av_ifeq (tgt := 40) dX10_needGoal_26 (by decide) ?_ ?_
  · exact av_return_ am_hv dX10_needGoal_40
  exact av_throww (names := ["java/lang/Exception"]) am_x0_98 am_x1_98 am_x2_98 am_x5_98 (by decide +kernel) (by decide +kernel) (by decide +kernel) q502 q503 t14 am_at_98 am_go_98 dX10_needGoal_29 dX10_needGoal_32 dX10_needGoal_33 dX10_needGoal_36 dX10_needGoal_39 (by decide) (by decide)
theorem mX10_needGoal (l : Launch) (hfl : l.stackTraces = false) (N : Nat) : am_M l yX10_needGoal cX10_needGoal 4 none 9 122 (fX10_needGoal N) := av_meth hfl (by decide +kernel) rfl (vX10_needGoal_0 l hfl N)
/-! MessengerBoard.needTurns(II)V -/
noncomputable def kX10_needTurns_11 (N : Nat) : am_K := c_live [] <|
  c_throw "java/lang/IllegalArgumentException"
noncomputable def kX10_needTurns_0 (N : Nat) : am_K := c_live [0, 1] <|
  c_ild 0 <|
  c_ild 1 <|
  c_iclt (
  kX10_needTurns_11 N) <|
  c_ild 0 <|
  c_i (60) <|
  c_icle (
  c_vret) <|
  kX10_needTurns_11 N
noncomputable def fX10_needTurns (N : Nat) : am_F := am_fn 2 (kX10_needTurns_0 N)
set_option maxRecDepth 20000 in
theorem vX10_needTurns_11 (l : Launch) (hfl : l.stackTraces = false) (N : Nat)  : am_V l cX10_needTurns 2 RX10 (am_E none yX10_needTurns.name) 8 100 11 (kX10_needTurns_11 N) := by
  refine av_live ?_
  exact av_throww (names := ["java/lang/Exception"]) am_x0_98 am_x1_98 am_x2_98 am_x5_98 (by decide +kernel) (by decide +kernel) (by decide +kernel) q502 q503 t15 am_at_98 am_go_98 dX10_needTurns_11 dX10_needTurns_14 dX10_needTurns_15 dX10_needTurns_18 dX10_needTurns_21 (by decide) (by decide)
set_option maxRecDepth 20000 in
theorem vX10_needTurns_0 (l : Launch) (hfl : l.stackTraces = false) (N : Nat)  : am_V l cX10_needTurns 2 RX10 (am_E none yX10_needTurns.name) 8 100 0 (kX10_needTurns_0 N) := by
  refine av_live ?_
  refine av_iload_n dX10_needTurns_0 rfl ?_
  refine av_iload_n dX10_needTurns_1 rfl ?_
  refine av_iclt (tgt := 11) dX10_needTurns_2 (by decide) ?_ ?_
  · exact vX10_needTurns_11 l hfl N
  refine av_iload_n dX10_needTurns_5 rfl ?_
  refine av_bipush (v := 60) dX10_needTurns_6 (by decide) ?_
  refine av_icle (tgt := 22) dX10_needTurns_8 (by decide) ?_ ?_
  · exact av_return_ am_hv dX10_needTurns_22
  exact vX10_needTurns_11 l hfl N
theorem mX10_needTurns (l : Launch) (hfl : l.stackTraces = false) (N : Nat) : am_M l yX10_needTurns cX10_needTurns 2 none 8 100 (fX10_needTurns N) := av_meth hfl (by decide +kernel) rfl (vX10_needTurns_0 l hfl N)
/-! MessengerBoard.wouldBe(IIII)I -/
noncomputable def bX10_wouldBe_47 (N : Nat) (r47 : am_K) : am_K :=
  c_ild 6 <|
  c_ild 4 <|
  c_icge (
  c_rld 0 <|
  c_getr 10 1 <|
  c_getr 6 11 <|
  c_ild 5 <|
  c_i (3) <|
  c_callV 7 2 (fX7_get N) <|
  c_iret) <|
  c_rld 0 <|
  c_getr 10 5 <|
  c_rld 0 <|
  c_getr 10 1 <|
  c_callV 1 1 (fX1_passTurn N) <|
  c_inc 6 (1) <|
  c_live [0, 4, 5, 6] r47
noncomputable def kX10_wouldBe_47 (N : Nat) : am_K := c_live [0, 4, 5, 6] (am_loop (bX10_wouldBe_47 N) N)
noncomputable def kX10_wouldBe_0 (N : Nat) : am_K := c_live [0, 1, 2, 3, 4] <|
  c_rld 0 <|
  c_ild 1 <|
  c_ild 2 <|
  c_ild 3 <|
  c_callV 10 3 (fX10_needGoal N) <|
  c_ild 4 <|
  c_i (0) <|
  c_callS 2 (fX10_needTurns N) <|
  c_rld 0 <|
  c_getr 10 1 <|
  c_rld 0 <|
  c_getr 10 0 <|
  c_callV 6 1 (fX6_copyFrom N) <|
  c_rld 0 <|
  c_getr 10 1 <|
  c_ild 1 <|
  c_ild 2 <|
  c_ild 3 <|
  c_callV 6 3 (fX6_addOrder N) <|
  c_ist 5 <|
  c_ild 5 <|
  c_i (-1) <|
  c_icne (
  c_i (0) <|
  c_ist 6 <|
  kX10_wouldBe_47 N) <|
  c_i (-1) <|
  c_iret
noncomputable def fX10_wouldBe (N : Nat) : am_F := am_fn 7 (kX10_wouldBe_0 N)
set_option maxRecDepth 20000 in
theorem vX10_wouldBe_47 (l : Launch) (hfl : l.stackTraces = false) (N : Nat)  : am_V l cX10_wouldBe 7 RX10 (am_E (some .int) yX10_wouldBe.name) 10 192 47 (kX10_wouldBe_47 N) := by
  refine av_live ?_
  refine av_loop (fun r47 h47 => ?_) N
  refine av_iload dX10_wouldBe_47 ?_
  refine av_iload dX10_wouldBe_49 ?_
  refine av_icge (tgt := 71) dX10_wouldBe_51 (by decide) ?_ ?_
  · refine av_aload_n dX10_wouldBe_71 rfl ?_
    refine av_getr am_ci10 (by decide) am_f10_1 q415 dX10_wouldBe_72 ?_
    refine av_getr am_ci6 (by decide) am_f6_11 q466 dX10_wouldBe_75 ?_
    refine av_iload dX10_wouldBe_78 ?_
    refine av_iconst (v := 3) dX10_wouldBe_80 (by decide) ?_
    refine av_callV am_hT (mX7_get l hfl N) am_ci7 ⟨by decide +kernel, by decide +kernel, by decide +kernel⟩ q472 q86 q73 q87 q88 (by decide) (by decide) dX10_wouldBe_81 ?_
    exact av_ireturn am_hi dX10_wouldBe_84
  refine av_aload_n dX10_wouldBe_54 rfl ?_
  refine av_getr am_ci10 (by decide) am_f10_5 q439 dX10_wouldBe_55 ?_
  refine av_aload_n dX10_wouldBe_58 rfl ?_
  refine av_getr am_ci10 (by decide) am_f10_1 q415 dX10_wouldBe_59 ?_
  refine av_callV am_hT (mX1_passTurn l hfl N) am_ci1 ⟨by decide +kernel, by decide +kernel, by decide +kernel⟩ q572 q573 q211 q574 q575 (by decide) (by decide) dX10_wouldBe_62 ?_
  refine av_iinc dX10_wouldBe_65 (by decide) (by decide) ?_
  refine av_goto (tgt := 47) dX10_wouldBe_68 (by decide) ?_
  exact av_live h47
set_option maxRecDepth 20000 in
theorem vX10_wouldBe_0 (l : Launch) (hfl : l.stackTraces = false) (N : Nat)  : am_V l cX10_wouldBe 7 RX10 (am_E (some .int) yX10_wouldBe.name) 10 192 0 (kX10_wouldBe_0 N) := by
  refine av_live ?_
  refine av_aload_n dX10_wouldBe_0 rfl ?_
  refine av_iload_n dX10_wouldBe_1 rfl ?_
  refine av_iload_n dX10_wouldBe_2 rfl ?_
  refine av_iload_n dX10_wouldBe_3 rfl ?_
  refine av_callV am_hT (mX10_needGoal l hfl N) am_ci10 ⟨by decide +kernel, by decide +kernel, by decide +kernel⟩ q564 q565 q111 q566 q567 (by decide) (by decide) dX10_wouldBe_4 ?_
  refine av_iload dX10_wouldBe_7 ?_
  refine av_iconst (v := 0) dX10_wouldBe_9 (by decide) ?_
  refine av_callS am_hT (mX10_needTurns l hfl N) ⟨by decide +kernel, by decide +kernel, by decide +kernel⟩ q568 q569 q111 q570 (by decide) (by decide) dX10_wouldBe_10 ?_
  refine av_aload_n dX10_wouldBe_13 rfl ?_
  refine av_getr am_ci10 (by decide) am_f10_1 q415 dX10_wouldBe_14 ?_
  refine av_aload_n dX10_wouldBe_17 rfl ?_
  refine av_getr am_ci10 (by decide) am_f10_0 q414 dX10_wouldBe_18 ?_
  refine av_callV am_hT (mX6_copyFrom l hfl N) am_ci6 ⟨by decide +kernel, by decide +kernel, by decide +kernel⟩ q492 q144 q126 q145 q146 (by decide) (by decide) dX10_wouldBe_21 ?_
  refine av_aload_n dX10_wouldBe_24 rfl ?_
  refine av_getr am_ci10 (by decide) am_f10_1 q415 dX10_wouldBe_25 ?_
  refine av_iload_n dX10_wouldBe_28 rfl ?_
  refine av_iload_n dX10_wouldBe_29 rfl ?_
  refine av_iload_n dX10_wouldBe_30 rfl ?_
  refine av_callV am_hT (mX6_addOrder l hfl N) am_ci6 ⟨by decide +kernel, by decide +kernel, by decide +kernel⟩ q571 q195 q126 q196 q197 (by decide) (by decide) dX10_wouldBe_31 ?_
  refine av_istore dX10_wouldBe_34 (by decide) ?_
  refine av_iload dX10_wouldBe_36 ?_
  refine av_iconst (v := -1) dX10_wouldBe_38 (by decide) ?_
  refine av_icne (tgt := 44) dX10_wouldBe_39 (by decide) ?_ ?_
  · refine av_iconst (v := 0) dX10_wouldBe_44 (by decide) ?_
    refine av_istore dX10_wouldBe_45 (by decide) ?_
    exact vX10_wouldBe_47 l hfl N
  refine av_iconst (v := -1) dX10_wouldBe_42 (by decide) ?_
  exact av_ireturn am_hi dX10_wouldBe_43
theorem mX10_wouldBe (l : Launch) (hfl : l.stackTraces = false) (N : Nat) : am_M l yX10_wouldBe cX10_wouldBe 7 (some .int) 10 192 (fX10_wouldBe N) := av_meth hfl (by decide +kernel) rfl (vX10_wouldBe_0 l hfl N)
/-! MessengerBoard.arrivalAfter(IIII)I -/
noncomputable def bX10_arrivalAfter_61 (N : Nat) (r61 : am_K) : am_K :=
  c_ild 6 <|
  c_i (30) <|
  c_icgt (
  c_i (-1) <|
  c_iret) <|
  c_rld 0 <|
  c_getr 10 5 <|
  c_rld 0 <|
  c_getr 10 1 <|
  c_callV 1 1 (fX1_passTurn N) <|
  c_rld 0 <|
  c_getr 10 1 <|
  c_getr 6 11 <|
  c_ild 5 <|
  c_i (3) <|
  c_callV 7 2 (fX7_get N) <|
  c_ifeq (
  c_inc 6 (1) <|
  c_live [0, 5, 6] r61) <|
  c_rld 0 <|
  c_getr 10 1 <|
  c_getr 6 11 <|
  c_ild 5 <|
  c_i (5) <|
  c_callV 7 2 (fX7_get N) <|
  c_iret
noncomputable def kX10_arrivalAfter_61 (N : Nat) : am_K := c_live [0, 5, 6] (am_loop (bX10_arrivalAfter_61 N) N)
noncomputable def bX10_arrivalAfter_14 (N : Nat) (r14 : am_K) : am_K :=
  c_ild 5 <|
  c_ild 1 <|
  c_icge (
  c_rld 0 <|
  c_getr 10 1 <|
  c_ild 2 <|
  c_ild 3 <|
  c_ild 4 <|
  c_callV 6 3 (fX6_addOrder N) <|
  c_ist 5 <|
  c_ild 5 <|
  c_i (-1) <|
  c_icne (
  c_i (0) <|
  c_ist 6 <|
  kX10_arrivalAfter_61 N) <|
  c_i (-1) <|
  c_iret) <|
  c_rld 0 <|
  c_getr 10 5 <|
  c_rld 0 <|
  c_getr 10 1 <|
  c_callV 1 1 (fX1_passTurn N) <|
  c_inc 5 (1) <|
  c_live [0, 1, 2, 3, 4, 5] r14
noncomputable def kX10_arrivalAfter_14 (N : Nat) : am_K := c_live [0, 1, 2, 3, 4, 5] (am_loop (bX10_arrivalAfter_14 N) N)
noncomputable def kX10_arrivalAfter_0 (N : Nat) : am_K := c_live [0, 1, 2, 3, 4] <|
  c_rld 0 <|
  c_getr 10 1 <|
  c_rld 0 <|
  c_getr 10 0 <|
  c_callV 6 1 (fX6_copyFrom N) <|
  c_i (0) <|
  c_ist 5 <|
  kX10_arrivalAfter_14 N
noncomputable def fX10_arrivalAfter (N : Nat) : am_F := am_fn 7 (kX10_arrivalAfter_0 N)
set_option maxRecDepth 20000 in
theorem vX10_arrivalAfter_61 (l : Launch) (hfl : l.stackTraces = false) (N : Nat)  : am_V l cX10_arrivalAfter 7 RX10 (am_E (some .int) yX10_arrivalAfter.name) 6 192 61 (kX10_arrivalAfter_61 N) := by
  refine av_live ?_
  refine av_loop (fun r61 h61 => ?_) N
  refine av_iload dX10_arrivalAfter_61 ?_
  refine av_bipush (v := 30) dX10_arrivalAfter_63 (by decide) ?_
  refine av_icgt (tgt := 115) dX10_arrivalAfter_65 (by decide) ?_ ?_
  · refine av_iconst (v := -1) dX10_arrivalAfter_115 (by decide) ?_
    exact av_ireturn am_hi dX10_arrivalAfter_116
  refine av_aload_n dX10_arrivalAfter_68 rfl ?_
  refine av_getr am_ci10 (by decide) am_f10_5 q439 dX10_arrivalAfter_69 ?_
  refine av_aload_n dX10_arrivalAfter_72 rfl ?_
  refine av_getr am_ci10 (by decide) am_f10_1 q415 dX10_arrivalAfter_73 ?_
  refine av_callV am_hT (mX1_passTurn l hfl N) am_ci1 ⟨by decide +kernel, by decide +kernel, by decide +kernel⟩ q572 q573 q211 q574 q575 (by decide) (by decide) dX10_arrivalAfter_76 ?_
  refine av_aload_n dX10_arrivalAfter_79 rfl ?_
  refine av_getr am_ci10 (by decide) am_f10_1 q415 dX10_arrivalAfter_80 ?_
  refine av_getr am_ci6 (by decide) am_f6_11 q466 dX10_arrivalAfter_83 ?_
  refine av_iload dX10_arrivalAfter_86 ?_
  refine av_iconst (v := 3) dX10_arrivalAfter_88 (by decide) ?_
  refine av_callV am_hT (mX7_get l hfl N) am_ci7 ⟨by decide +kernel, by decide +kernel, by decide +kernel⟩ q472 q86 q73 q87 q88 (by decide) (by decide) dX10_arrivalAfter_89 ?_
  refine av_ifeq (tgt := 109) dX10_arrivalAfter_92 (by decide) ?_ ?_
  · refine av_iinc dX10_arrivalAfter_109 (by decide) (by decide) ?_
    refine av_goto (tgt := 61) dX10_arrivalAfter_112 (by decide) ?_
    exact av_live h61
  refine av_aload_n dX10_arrivalAfter_95 rfl ?_
  refine av_getr am_ci10 (by decide) am_f10_1 q415 dX10_arrivalAfter_96 ?_
  refine av_getr am_ci6 (by decide) am_f6_11 q466 dX10_arrivalAfter_99 ?_
  refine av_iload dX10_arrivalAfter_102 ?_
  refine av_iconst (v := 5) dX10_arrivalAfter_104 (by decide) ?_
  refine av_callV am_hT (mX7_get l hfl N) am_ci7 ⟨by decide +kernel, by decide +kernel, by decide +kernel⟩ q472 q86 q73 q87 q88 (by decide) (by decide) dX10_arrivalAfter_105 ?_
  exact av_ireturn am_hi dX10_arrivalAfter_108
set_option maxRecDepth 20000 in
theorem vX10_arrivalAfter_14 (l : Launch) (hfl : l.stackTraces = false) (N : Nat)  : am_V l cX10_arrivalAfter 7 RX10 (am_E (some .int) yX10_arrivalAfter.name) 6 192 14 (kX10_arrivalAfter_14 N) := by
  refine av_live ?_
  refine av_loop (fun r14 h14 => ?_) N
  refine av_iload dX10_arrivalAfter_14 ?_
  refine av_iload_n dX10_arrivalAfter_16 rfl ?_
  refine av_icge (tgt := 37) dX10_arrivalAfter_17 (by decide) ?_ ?_
  · refine av_aload_n dX10_arrivalAfter_37 rfl ?_
    refine av_getr am_ci10 (by decide) am_f10_1 q415 dX10_arrivalAfter_38 ?_
    refine av_iload_n dX10_arrivalAfter_41 rfl ?_
    refine av_iload_n dX10_arrivalAfter_42 rfl ?_
    refine av_iload dX10_arrivalAfter_43 ?_
    refine av_callV am_hT (mX6_addOrder l hfl N) am_ci6 ⟨by decide +kernel, by decide +kernel, by decide +kernel⟩ q571 q195 q126 q196 q197 (by decide) (by decide) dX10_arrivalAfter_45 ?_
    refine av_istore dX10_arrivalAfter_48 (by decide) ?_
    refine av_iload dX10_arrivalAfter_50 ?_
    refine av_iconst (v := -1) dX10_arrivalAfter_52 (by decide) ?_
    refine av_icne (tgt := 58) dX10_arrivalAfter_53 (by decide) ?_ ?_
    · refine av_iconst (v := 0) dX10_arrivalAfter_58 (by decide) ?_
      refine av_istore dX10_arrivalAfter_59 (by decide) ?_
      exact vX10_arrivalAfter_61 l hfl N
    refine av_iconst (v := -1) dX10_arrivalAfter_56 (by decide) ?_
    exact av_ireturn am_hi dX10_arrivalAfter_57
  refine av_aload_n dX10_arrivalAfter_20 rfl ?_
  refine av_getr am_ci10 (by decide) am_f10_5 q439 dX10_arrivalAfter_21 ?_
  refine av_aload_n dX10_arrivalAfter_24 rfl ?_
  refine av_getr am_ci10 (by decide) am_f10_1 q415 dX10_arrivalAfter_25 ?_
  refine av_callV am_hT (mX1_passTurn l hfl N) am_ci1 ⟨by decide +kernel, by decide +kernel, by decide +kernel⟩ q572 q573 q211 q574 q575 (by decide) (by decide) dX10_arrivalAfter_28 ?_
  refine av_iinc dX10_arrivalAfter_31 (by decide) (by decide) ?_
  refine av_goto (tgt := 14) dX10_arrivalAfter_34 (by decide) ?_
  exact av_live h14
set_option maxRecDepth 20000 in
theorem vX10_arrivalAfter_0 (l : Launch) (hfl : l.stackTraces = false) (N : Nat)  : am_V l cX10_arrivalAfter 7 RX10 (am_E (some .int) yX10_arrivalAfter.name) 6 192 0 (kX10_arrivalAfter_0 N) := by
  refine av_live ?_
  refine av_aload_n dX10_arrivalAfter_0 rfl ?_
  refine av_getr am_ci10 (by decide) am_f10_1 q415 dX10_arrivalAfter_1 ?_
  refine av_aload_n dX10_arrivalAfter_4 rfl ?_
  refine av_getr am_ci10 (by decide) am_f10_0 q414 dX10_arrivalAfter_5 ?_
  refine av_callV am_hT (mX6_copyFrom l hfl N) am_ci6 ⟨by decide +kernel, by decide +kernel, by decide +kernel⟩ q492 q144 q126 q145 q146 (by decide) (by decide) dX10_arrivalAfter_8 ?_
  refine av_iconst (v := 0) dX10_arrivalAfter_11 (by decide) ?_
  refine av_istore dX10_arrivalAfter_12 (by decide) ?_
  exact vX10_arrivalAfter_14 l hfl N
theorem mX10_arrivalAfter (l : Launch) (hfl : l.stackTraces = false) (N : Nat) : am_M l yX10_arrivalAfter cX10_arrivalAfter 7 (some .int) 6 192 (fX10_arrivalAfter N) := av_meth hfl (by decide +kernel) rfl (vX10_arrivalAfter_0 l hfl N)
/-! MessengerBoard.wouldArrive(III)I -/
noncomputable def kX10_wouldArrive_0 (N : Nat) : am_K := c_live [0, 1, 2, 3] <|
  c_rld 0 <|
  c_ild 1 <|
  c_ild 2 <|
  c_ild 3 <|
  c_callV 10 3 (fX10_needGoal N) <|
  c_rld 0 <|
  c_i (0) <|
  c_ild 1 <|
  c_ild 2 <|
  c_ild 3 <|
  c_callV 10 4 (fX10_arrivalAfter N) <|
  c_iret
noncomputable def fX10_wouldArrive (N : Nat) : am_F := am_fn 4 (kX10_wouldArrive_0 N)
set_option maxRecDepth 20000 in
theorem vX10_wouldArrive_0 (l : Launch) (hfl : l.stackTraces = false) (N : Nat)  : am_V l cX10_wouldArrive 4 RX10 (am_E (some .int) yX10_wouldArrive.name) 10 218 0 (kX10_wouldArrive_0 N) := by
  refine av_live ?_
  refine av_aload_n dX10_wouldArrive_0 rfl ?_
  refine av_iload_n dX10_wouldArrive_1 rfl ?_
  refine av_iload_n dX10_wouldArrive_2 rfl ?_
  refine av_iload_n dX10_wouldArrive_3 rfl ?_
  refine av_callV am_hT (mX10_needGoal l hfl N) am_ci10 ⟨by decide +kernel, by decide +kernel, by decide +kernel⟩ q564 q565 q111 q566 q567 (by decide) (by decide) dX10_wouldArrive_4 ?_
  refine av_aload_n dX10_wouldArrive_7 rfl ?_
  refine av_iconst (v := 0) dX10_wouldArrive_8 (by decide) ?_
  refine av_iload_n dX10_wouldArrive_9 rfl ?_
  refine av_iload_n dX10_wouldArrive_10 rfl ?_
  refine av_iload_n dX10_wouldArrive_11 rfl ?_
  refine av_callV am_hT (mX10_arrivalAfter l hfl N) am_ci10 ⟨by decide +kernel, by decide +kernel, by decide +kernel⟩ q576 q577 q111 q578 q579 (by decide) (by decide) dX10_wouldArrive_12 ?_
  exact av_ireturn am_hi dX10_wouldArrive_15
theorem mX10_wouldArrive (l : Launch) (hfl : l.stackTraces = false) (N : Nat) : am_M l yX10_wouldArrive cX10_wouldArrive 4 (some .int) 10 218 (fX10_wouldArrive N) := av_meth hfl (by decide +kernel) rfl (vX10_wouldArrive_0 l hfl N)
/-! MessengerBoard.bestDelay(III)I -/
noncomputable def bX10_bestDelay_10 (N : Nat) (r10 : am_K) : am_K :=
  c_ild 4 <|
  c_i (15) <|
  c_icgt (
  c_i (-1) <|
  c_iret) <|
  c_rld 0 <|
  c_ild 4 <|
  c_ild 1 <|
  c_ild 2 <|
  c_ild 3 <|
  c_callV 10 4 (fX10_arrivalAfter N) <|
  c_i (-1) <|
  c_iceq (
  c_inc 4 (1) <|
  c_live [0, 1, 2, 3, 4] r10) <|
  c_ild 4 <|
  c_iret
noncomputable def kX10_bestDelay_10 (N : Nat) : am_K := c_live [0, 1, 2, 3, 4] (am_loop (bX10_bestDelay_10 N) N)
noncomputable def kX10_bestDelay_0 (N : Nat) : am_K := c_live [0, 1, 2, 3] <|
  c_rld 0 <|
  c_ild 1 <|
  c_ild 2 <|
  c_ild 3 <|
  c_callV 10 3 (fX10_needGoal N) <|
  c_i (0) <|
  c_ist 4 <|
  kX10_bestDelay_10 N
noncomputable def fX10_bestDelay (N : Nat) : am_F := am_fn 5 (kX10_bestDelay_0 N)
set_option maxRecDepth 20000 in
theorem vX10_bestDelay_10 (l : Launch) (hfl : l.stackTraces = false) (N : Nat)  : am_V l cX10_bestDelay 5 RX10 (am_E (some .int) yX10_bestDelay.name) 10 218 10 (kX10_bestDelay_10 N) := by
  refine av_live ?_
  refine av_loop (fun r10 h10 => ?_) N
  refine av_iload dX10_bestDelay_10 ?_
  refine av_bipush (v := 15) dX10_bestDelay_12 (by decide) ?_
  refine av_icgt (tgt := 39) dX10_bestDelay_14 (by decide) ?_ ?_
  · refine av_iconst (v := -1) dX10_bestDelay_39 (by decide) ?_
    exact av_ireturn am_hi dX10_bestDelay_40
  refine av_aload_n dX10_bestDelay_17 rfl ?_
  refine av_iload dX10_bestDelay_18 ?_
  refine av_iload_n dX10_bestDelay_20 rfl ?_
  refine av_iload_n dX10_bestDelay_21 rfl ?_
  refine av_iload_n dX10_bestDelay_22 rfl ?_
  refine av_callV am_hT (mX10_arrivalAfter l hfl N) am_ci10 ⟨by decide +kernel, by decide +kernel, by decide +kernel⟩ q576 q577 q111 q578 q579 (by decide) (by decide) dX10_bestDelay_23 ?_
  refine av_iconst (v := -1) dX10_bestDelay_26 (by decide) ?_
  refine av_iceq (tgt := 33) dX10_bestDelay_27 (by decide) ?_ ?_
  · refine av_iinc dX10_bestDelay_33 (by decide) (by decide) ?_
    refine av_goto (tgt := 10) dX10_bestDelay_36 (by decide) ?_
    exact av_live h10
  refine av_iload dX10_bestDelay_30 ?_
  exact av_ireturn am_hi dX10_bestDelay_32
set_option maxRecDepth 20000 in
theorem vX10_bestDelay_0 (l : Launch) (hfl : l.stackTraces = false) (N : Nat)  : am_V l cX10_bestDelay 5 RX10 (am_E (some .int) yX10_bestDelay.name) 10 218 0 (kX10_bestDelay_0 N) := by
  refine av_live ?_
  refine av_aload_n dX10_bestDelay_0 rfl ?_
  refine av_iload_n dX10_bestDelay_1 rfl ?_
  refine av_iload_n dX10_bestDelay_2 rfl ?_
  refine av_iload_n dX10_bestDelay_3 rfl ?_
  refine av_callV am_hT (mX10_needGoal l hfl N) am_ci10 ⟨by decide +kernel, by decide +kernel, by decide +kernel⟩ q564 q565 q111 q566 q567 (by decide) (by decide) dX10_bestDelay_4 ?_
  refine av_iconst (v := 0) dX10_bestDelay_7 (by decide) ?_
  refine av_istore dX10_bestDelay_8 (by decide) ?_
  exact vX10_bestDelay_10 l hfl N
theorem mX10_bestDelay (l : Launch) (hfl : l.stackTraces = false) (N : Nat) : am_M l yX10_bestDelay cX10_bestDelay 5 (some .int) 10 218 (fX10_bestDelay N) := av_meth hfl (by decide +kernel) rfl (vX10_bestDelay_0 l hfl N)
/-! MessengerBoard.failing(I)I -/
noncomputable def kX10_failing_120 (N : Nat) (r56 : am_K) : am_K := c_live [0, 2, 3, 4] <|
  c_inc 4 (1) <|
  c_live [0, 2, 3, 4] r56
noncomputable def kX10_failing_94 (N : Nat) (r56 : am_K) : am_K := c_live [0, 2, 3, 4] <|
  c_ist 6 <|
  c_ild 6 <|
  c_ifeq (
  kX10_failing_120 N r56) <|
  c_rld 0 <|
  c_getr 10 0 <|
  c_getr 6 11 <|
  c_ild 4 <|
  c_i (3) <|
  c_callV 7 2 (fX7_get N) <|
  c_ifne (
  kX10_failing_120 N r56) <|
  c_inc 2 (1) <|
  kX10_failing_120 N r56
noncomputable def kX10_failing_89 (N : Nat) (r56 : am_K) : am_K := c_live [0, 2, 3, 4] <|
  c_i (1) <|
  kX10_failing_94 N r56
noncomputable def bX10_failing_56 (N : Nat) (r56 : am_K) : am_K :=
  c_ild 4 <|
  c_ild 3 <|
  c_icge (
  c_ild 2 <|
  c_iret) <|
  c_rld 0 <|
  c_getr 10 1 <|
  c_getr 6 11 <|
  c_ild 4 <|
  c_i (3) <|
  c_callV 7 2 (fX7_get N) <|
  c_ist 5 <|
  c_ild 5 <|
  c_i (4) <|
  c_iceq (
  kX10_failing_89 N r56) <|
  c_ild 5 <|
  c_i (5) <|
  c_icne (
  c_i (0) <|
  kX10_failing_94 N r56) <|
  kX10_failing_89 N r56
noncomputable def kX10_failing_56 (N : Nat) : am_K := c_live [0, 2, 3, 4] (am_loop (bX10_failing_56 N) N)
noncomputable def bX10_failing_18 (N : Nat) (r18 : am_K) : am_K :=
  c_ild 2 <|
  c_ild 1 <|
  c_icge (
  c_i (0) <|
  c_ist 2 <|
  c_rld 0 <|
  c_getr 10 0 <|
  c_getr 6 11 <|
  c_callV 7 0 (fX7_count N) <|
  c_ist 3 <|
  c_i (0) <|
  c_ist 4 <|
  kX10_failing_56 N) <|
  c_rld 0 <|
  c_getr 10 5 <|
  c_rld 0 <|
  c_getr 10 1 <|
  c_callV 1 1 (fX1_passTurn N) <|
  c_inc 2 (1) <|
  c_live [0, 1, 2] r18
noncomputable def kX10_failing_18 (N : Nat) : am_K := c_live [0, 1, 2] (am_loop (bX10_failing_18 N) N)
noncomputable def kX10_failing_0 (N : Nat) : am_K := c_live [0, 1] <|
  c_ild 1 <|
  c_i (0) <|
  c_callS 2 (fX10_needTurns N) <|
  c_rld 0 <|
  c_getr 10 1 <|
  c_rld 0 <|
  c_getr 10 0 <|
  c_callV 6 1 (fX6_copyFrom N) <|
  c_i (0) <|
  c_ist 2 <|
  kX10_failing_18 N
noncomputable def fX10_failing (N : Nat) : am_F := am_fn 7 (kX10_failing_0 N)
set_option maxRecDepth 20000 in
theorem vX10_failing_120 (l : Launch) (hfl : l.stackTraces = false) (N : Nat)  {r56 : am_K} (h56 : am_V l cX10_failing 7 RX10 (am_E (some .int) yX10_failing.name) 9 192 56 r56) : am_V l cX10_failing 7 RX10 (am_E (some .int) yX10_failing.name) 9 192 120 (kX10_failing_120 N r56) := by
  refine av_live ?_
  refine av_iinc dX10_failing_120 (by decide) (by decide) ?_
  refine av_goto (tgt := 56) dX10_failing_123 (by decide) ?_
  exact av_live h56
set_option maxRecDepth 20000 in
theorem vX10_failing_94 (l : Launch) (hfl : l.stackTraces = false) (N : Nat)  {r56 : am_K} (h56 : am_V l cX10_failing 7 RX10 (am_E (some .int) yX10_failing.name) 9 192 56 r56) : am_V l cX10_failing 7 RX10 (am_E (some .int) yX10_failing.name) 9 192 94 (kX10_failing_94 N r56) := by
  refine av_live ?_
  refine av_istore dX10_failing_94 (by decide) ?_
  refine av_iload dX10_failing_96 ?_
  refine av_ifeq (tgt := 120) dX10_failing_98 (by decide) ?_ ?_
  · exact vX10_failing_120 l hfl N h56
  refine av_aload_n dX10_failing_101 rfl ?_
  refine av_getr am_ci10 (by decide) am_f10_0 q414 dX10_failing_102 ?_
  refine av_getr am_ci6 (by decide) am_f6_11 q466 dX10_failing_105 ?_
  refine av_iload dX10_failing_108 ?_
  refine av_iconst (v := 3) dX10_failing_110 (by decide) ?_
  refine av_callV am_hT (mX7_get l hfl N) am_ci7 ⟨by decide +kernel, by decide +kernel, by decide +kernel⟩ q472 q86 q73 q87 q88 (by decide) (by decide) dX10_failing_111 ?_
  refine av_ifne (tgt := 120) dX10_failing_114 (by decide) ?_ ?_
  · exact vX10_failing_120 l hfl N h56
  refine av_iinc dX10_failing_117 (by decide) (by decide) ?_
  exact vX10_failing_120 l hfl N h56
set_option maxRecDepth 20000 in
theorem vX10_failing_89 (l : Launch) (hfl : l.stackTraces = false) (N : Nat)  {r56 : am_K} (h56 : am_V l cX10_failing 7 RX10 (am_E (some .int) yX10_failing.name) 9 192 56 r56) : am_V l cX10_failing 7 RX10 (am_E (some .int) yX10_failing.name) 9 192 89 (kX10_failing_89 N r56) := by
  refine av_live ?_
  refine av_iconst (v := 1) dX10_failing_89 (by decide) ?_
  refine av_goto (tgt := 94) dX10_failing_90 (by decide) ?_
  exact vX10_failing_94 l hfl N h56
set_option maxRecDepth 20000 in
theorem vX10_failing_56 (l : Launch) (hfl : l.stackTraces = false) (N : Nat)  : am_V l cX10_failing 7 RX10 (am_E (some .int) yX10_failing.name) 9 192 56 (kX10_failing_56 N) := by
  refine av_live ?_
  refine av_loop (fun r56 h56 => ?_) N
  refine av_iload dX10_failing_56 ?_
  refine av_iload_n dX10_failing_58 rfl ?_
  refine av_icge (tgt := 126) dX10_failing_59 (by decide) ?_ ?_
  · refine av_iload_n dX10_failing_126 rfl ?_
    exact av_ireturn am_hi dX10_failing_127
  refine av_aload_n dX10_failing_62 rfl ?_
  refine av_getr am_ci10 (by decide) am_f10_1 q415 dX10_failing_63 ?_
  refine av_getr am_ci6 (by decide) am_f6_11 q466 dX10_failing_66 ?_
  refine av_iload dX10_failing_69 ?_
  refine av_iconst (v := 3) dX10_failing_71 (by decide) ?_
  refine av_callV am_hT (mX7_get l hfl N) am_ci7 ⟨by decide +kernel, by decide +kernel, by decide +kernel⟩ q472 q86 q73 q87 q88 (by decide) (by decide) dX10_failing_72 ?_
  refine av_istore dX10_failing_75 (by decide) ?_
  refine av_iload dX10_failing_77 ?_
  refine av_iconst (v := 4) dX10_failing_79 (by decide) ?_
  refine av_iceq (tgt := 89) dX10_failing_80 (by decide) ?_ ?_
  · exact vX10_failing_89 l hfl N h56
  refine av_iload dX10_failing_83 ?_
  refine av_iconst (v := 5) dX10_failing_85 (by decide) ?_
  refine av_icne (tgt := 93) dX10_failing_86 (by decide) ?_ ?_
  · refine av_iconst (v := 0) dX10_failing_93 (by decide) ?_
    exact vX10_failing_94 l hfl N h56
  exact vX10_failing_89 l hfl N h56
set_option maxRecDepth 20000 in
theorem vX10_failing_18 (l : Launch) (hfl : l.stackTraces = false) (N : Nat)  : am_V l cX10_failing 7 RX10 (am_E (some .int) yX10_failing.name) 9 192 18 (kX10_failing_18 N) := by
  refine av_live ?_
  refine av_loop (fun r18 h18 => ?_) N
  refine av_iload_n dX10_failing_18 rfl ?_
  refine av_iload_n dX10_failing_19 rfl ?_
  refine av_icge (tgt := 40) dX10_failing_20 (by decide) ?_ ?_
  · refine av_iconst (v := 0) dX10_failing_40 (by decide) ?_
    refine av_istore_n dX10_failing_41 rfl (by decide) ?_
    refine av_aload_n dX10_failing_42 rfl ?_
    refine av_getr am_ci10 (by decide) am_f10_0 q414 dX10_failing_43 ?_
    refine av_getr am_ci6 (by decide) am_f6_11 q466 dX10_failing_46 ?_
    refine av_callV am_hT (mX7_count l hfl N) am_ci7 ⟨by decide +kernel, by decide +kernel, by decide +kernel⟩ q467 q90 q73 q91 q92 (by decide) (by decide) dX10_failing_49 ?_
    refine av_istore_n dX10_failing_52 rfl (by decide) ?_
    refine av_iconst (v := 0) dX10_failing_53 (by decide) ?_
    refine av_istore dX10_failing_54 (by decide) ?_
    exact vX10_failing_56 l hfl N
  refine av_aload_n dX10_failing_23 rfl ?_
  refine av_getr am_ci10 (by decide) am_f10_5 q439 dX10_failing_24 ?_
  refine av_aload_n dX10_failing_27 rfl ?_
  refine av_getr am_ci10 (by decide) am_f10_1 q415 dX10_failing_28 ?_
  refine av_callV am_hT (mX1_passTurn l hfl N) am_ci1 ⟨by decide +kernel, by decide +kernel, by decide +kernel⟩ q572 q573 q211 q574 q575 (by decide) (by decide) dX10_failing_31 ?_
  refine av_iinc dX10_failing_34 (by decide) (by decide) ?_
  refine av_goto (tgt := 18) dX10_failing_37 (by decide) ?_
  exact av_live h18
set_option maxRecDepth 20000 in
theorem vX10_failing_0 (l : Launch) (hfl : l.stackTraces = false) (N : Nat)  : am_V l cX10_failing 7 RX10 (am_E (some .int) yX10_failing.name) 9 192 0 (kX10_failing_0 N) := by
  refine av_live ?_
  refine av_iload_n dX10_failing_0 rfl ?_
  refine av_iconst (v := 0) dX10_failing_1 (by decide) ?_
  refine av_callS am_hT (mX10_needTurns l hfl N) ⟨by decide +kernel, by decide +kernel, by decide +kernel⟩ q568 q569 q111 q570 (by decide) (by decide) dX10_failing_2 ?_
  refine av_aload_n dX10_failing_5 rfl ?_
  refine av_getr am_ci10 (by decide) am_f10_1 q415 dX10_failing_6 ?_
  refine av_aload_n dX10_failing_9 rfl ?_
  refine av_getr am_ci10 (by decide) am_f10_0 q414 dX10_failing_10 ?_
  refine av_callV am_hT (mX6_copyFrom l hfl N) am_ci6 ⟨by decide +kernel, by decide +kernel, by decide +kernel⟩ q492 q144 q126 q145 q146 (by decide) (by decide) dX10_failing_13 ?_
  refine av_iconst (v := 0) dX10_failing_16 (by decide) ?_
  refine av_istore_n dX10_failing_17 rfl (by decide) ?_
  exact vX10_failing_18 l hfl N
theorem mX10_failing (l : Launch) (hfl : l.stackTraces = false) (N : Nat) : am_M l yX10_failing cX10_failing 7 (some .int) 9 192 (fX10_failing N) := av_meth hfl (by decide +kernel) rfl (vX10_failing_0 l hfl N)
/-! MessengerBoard.pass(I)I -/
noncomputable def bX10_pass_47 (N : Nat) (r47 : am_K) : am_K :=
  c_ild 3 <|
  c_ild 1 <|
  c_icge (
  c_rld 0 <|
  c_getr 10 0 <|
  c_getr 6 12 <|
  c_callV 7 0 (fX7_count N) <|
  c_ild 2 <|
  c_ii (fun x y => x - y) <|
  c_iret) <|
  c_rld 0 <|
  c_getr 10 2 <|
  c_rld 0 <|
  c_getr 10 0 <|
  c_callV 9 1 (fX9_record N) <|
  c_rld 0 <|
  c_getr 10 5 <|
  c_rld 0 <|
  c_getr 10 0 <|
  c_callV 1 1 (fX1_passTurn N) <|
  c_inc 3 (1) <|
  c_live [0, 1, 2, 3] r47
noncomputable def kX10_pass_47 (N : Nat) : am_K := c_live [0, 1, 2, 3] (am_loop (bX10_pass_47 N) N)
noncomputable def kX10_pass_0 (N : Nat) : am_K := c_live [0, 1] <|
  c_ild 1 <|
  c_i (1) <|
  c_callS 2 (fX10_needTurns N) <|
  c_rld 0 <|
  c_getr 10 0 <|
  c_geti 6 4 <|
  c_i (500) <|
  c_ild 1 <|
  c_ii (fun x y => x - y) <|
  c_icle (
  c_rld 0 <|
  c_getr 10 3 <|
  c_rld 0 <|
  c_getr 10 0 <|
  c_callV 3 1 (fX3_remember N) <|
  c_rld 0 <|
  c_getr 10 0 <|
  c_getr 6 12 <|
  c_callV 7 0 (fX7_count N) <|
  c_ist 2 <|
  c_i (0) <|
  c_ist 3 <|
  kX10_pass_47 N) <|
  c_i (-2) <|
  c_iret
noncomputable def fX10_pass (N : Nat) : am_F := am_fn 4 (kX10_pass_0 N)
set_option maxRecDepth 20000 in
theorem vX10_pass_47 (l : Launch) (hfl : l.stackTraces = false) (N : Nat)  : am_V l cX10_pass 4 RX10 (am_E (some .int) yX10_pass.name) 9 192 47 (kX10_pass_47 N) := by
  refine av_live ?_
  refine av_loop (fun r47 h47 => ?_) N
  refine av_iload_n dX10_pass_47 rfl ?_
  refine av_iload_n dX10_pass_48 rfl ?_
  refine av_icge (tgt := 80) dX10_pass_49 (by decide) ?_ ?_
  · refine av_aload_n dX10_pass_80 rfl ?_
    refine av_getr am_ci10 (by decide) am_f10_0 q414 dX10_pass_81 ?_
    refine av_getr am_ci6 (by decide) am_f6_12 q518 dX10_pass_84 ?_
    refine av_callV am_hT (mX7_count l hfl N) am_ci7 ⟨by decide +kernel, by decide +kernel, by decide +kernel⟩ q467 q90 q73 q91 q92 (by decide) (by decide) dX10_pass_87 ?_
    refine av_iload_n dX10_pass_90 rfl ?_
    refine av_isub dX10_pass_91 ?_
    exact av_ireturn am_hi dX10_pass_92
  refine av_aload_n dX10_pass_52 rfl ?_
  refine av_getr am_ci10 (by decide) am_f10_2 q421 dX10_pass_53 ?_
  refine av_aload_n dX10_pass_56 rfl ?_
  refine av_getr am_ci10 (by decide) am_f10_0 q414 dX10_pass_57 ?_
  refine av_callV am_hT (mX9_record l hfl N) am_ci9 ⟨by decide +kernel, by decide +kernel, by decide +kernel⟩ q584 q585 q418 q586 q587 (by decide) (by decide) dX10_pass_60 ?_
  refine av_aload_n dX10_pass_63 rfl ?_
  refine av_getr am_ci10 (by decide) am_f10_5 q439 dX10_pass_64 ?_
  refine av_aload_n dX10_pass_67 rfl ?_
  refine av_getr am_ci10 (by decide) am_f10_0 q414 dX10_pass_68 ?_
  refine av_callV am_hT (mX1_passTurn l hfl N) am_ci1 ⟨by decide +kernel, by decide +kernel, by decide +kernel⟩ q572 q573 q211 q574 q575 (by decide) (by decide) dX10_pass_71 ?_
  refine av_iinc dX10_pass_74 (by decide) (by decide) ?_
  refine av_goto (tgt := 47) dX10_pass_77 (by decide) ?_
  exact av_live h47
set_option maxRecDepth 20000 in
theorem vX10_pass_0 (l : Launch) (hfl : l.stackTraces = false) (N : Nat)  : am_V l cX10_pass 4 RX10 (am_E (some .int) yX10_pass.name) 9 192 0 (kX10_pass_0 N) := by
  refine av_live ?_
  refine av_iload_n dX10_pass_0 rfl ?_
  refine av_iconst (v := 1) dX10_pass_1 (by decide) ?_
  refine av_callS am_hT (mX10_needTurns l hfl N) ⟨by decide +kernel, by decide +kernel, by decide +kernel⟩ q568 q569 q111 q570 (by decide) (by decide) dX10_pass_2 ?_
  refine av_aload_n dX10_pass_5 rfl ?_
  refine av_getr am_ci10 (by decide) am_f10_0 q414 dX10_pass_6 ?_
  refine av_geti am_ci6 (by decide) am_f6_4 q516 dX10_pass_9 ?_
  refine av_sipush (v := 500) dX10_pass_12 (by decide) ?_
  refine av_iload_n dX10_pass_15 rfl ?_
  refine av_isub dX10_pass_16 ?_
  refine av_icle (tgt := 23) dX10_pass_17 (by decide) ?_ ?_
  · refine av_aload_n dX10_pass_23 rfl ?_
    refine av_getr am_ci10 (by decide) am_f10_3 q427 dX10_pass_24 ?_
    refine av_aload_n dX10_pass_27 rfl ?_
    refine av_getr am_ci10 (by decide) am_f10_0 q414 dX10_pass_28 ?_
    refine av_callV am_hT (mX3_remember l hfl N) am_ci3 ⟨by decide +kernel, by decide +kernel, by decide +kernel⟩ q580 q581 q424 q582 q583 (by decide) (by decide) dX10_pass_31 ?_
    refine av_aload_n dX10_pass_34 rfl ?_
    refine av_getr am_ci10 (by decide) am_f10_0 q414 dX10_pass_35 ?_
    refine av_getr am_ci6 (by decide) am_f6_12 q518 dX10_pass_38 ?_
    refine av_callV am_hT (mX7_count l hfl N) am_ci7 ⟨by decide +kernel, by decide +kernel, by decide +kernel⟩ q467 q90 q73 q91 q92 (by decide) (by decide) dX10_pass_41 ?_
    refine av_istore_n dX10_pass_44 rfl (by decide) ?_
    refine av_iconst (v := 0) dX10_pass_45 (by decide) ?_
    refine av_istore_n dX10_pass_46 rfl (by decide) ?_
    exact vX10_pass_47 l hfl N
  refine av_bipush (v := -2) dX10_pass_20 (by decide) ?_
  exact av_ireturn am_hi dX10_pass_22
theorem mX10_pass (l : Launch) (hfl : l.stackTraces = false) (N : Nat) : am_M l yX10_pass cX10_pass 4 (some .int) 9 192 (fX10_pass N) := av_meth hfl (by decide +kernel) rfl (vX10_pass_0 l hfl N)
/-! MessengerBoard.send(III)I -/
noncomputable def kX10_send_0 (N : Nat) : am_K := c_live [0, 1, 2, 3] <|
  c_rld 0 <|
  c_ild 1 <|
  c_ild 2 <|
  c_ild 3 <|
  c_callV 10 3 (fX10_needGoal N) <|
  c_rld 0 <|
  c_getr 10 0 <|
  c_getr 6 11 <|
  c_callV 7 0 (fX7_count N) <|
  c_i (40) <|
  c_iclt (
  c_rld 0 <|
  c_getr 10 3 <|
  c_rld 0 <|
  c_getr 10 0 <|
  c_callV 3 1 (fX3_remember N) <|
  c_rld 0 <|
  c_getr 10 0 <|
  c_ild 1 <|
  c_ild 2 <|
  c_ild 3 <|
  c_callV 6 3 (fX6_addOrder N) <|
  c_iret) <|
  c_i (-3) <|
  c_iret
noncomputable def fX10_send (N : Nat) : am_F := am_fn 4 (kX10_send_0 N)
set_option maxRecDepth 20000 in
theorem vX10_send_0 (l : Launch) (hfl : l.stackTraces = false) (N : Nat)  : am_V l cX10_send 4 RX10 (am_E (some .int) yX10_send.name) 10 145 0 (kX10_send_0 N) := by
  refine av_live ?_
  refine av_aload_n dX10_send_0 rfl ?_
  refine av_iload_n dX10_send_1 rfl ?_
  refine av_iload_n dX10_send_2 rfl ?_
  refine av_iload_n dX10_send_3 rfl ?_
  refine av_callV am_hT (mX10_needGoal l hfl N) am_ci10 ⟨by decide +kernel, by decide +kernel, by decide +kernel⟩ q564 q565 q111 q566 q567 (by decide) (by decide) dX10_send_4 ?_
  refine av_aload_n dX10_send_7 rfl ?_
  refine av_getr am_ci10 (by decide) am_f10_0 q414 dX10_send_8 ?_
  refine av_getr am_ci6 (by decide) am_f6_11 q466 dX10_send_11 ?_
  refine av_callV am_hT (mX7_count l hfl N) am_ci7 ⟨by decide +kernel, by decide +kernel, by decide +kernel⟩ q467 q90 q73 q91 q92 (by decide) (by decide) dX10_send_14 ?_
  refine av_bipush (v := 40) dX10_send_17 (by decide) ?_
  refine av_iclt (tgt := 25) dX10_send_19 (by decide) ?_ ?_
  · refine av_aload_n dX10_send_25 rfl ?_
    refine av_getr am_ci10 (by decide) am_f10_3 q427 dX10_send_26 ?_
    refine av_aload_n dX10_send_29 rfl ?_
    refine av_getr am_ci10 (by decide) am_f10_0 q414 dX10_send_30 ?_
    refine av_callV am_hT (mX3_remember l hfl N) am_ci3 ⟨by decide +kernel, by decide +kernel, by decide +kernel⟩ q580 q581 q424 q582 q583 (by decide) (by decide) dX10_send_33 ?_
    refine av_aload_n dX10_send_36 rfl ?_
    refine av_getr am_ci10 (by decide) am_f10_0 q414 dX10_send_37 ?_
    refine av_iload_n dX10_send_40 rfl ?_
    refine av_iload_n dX10_send_41 rfl ?_
    refine av_iload_n dX10_send_42 rfl ?_
    refine av_callV am_hT (mX6_addOrder l hfl N) am_ci6 ⟨by decide +kernel, by decide +kernel, by decide +kernel⟩ q571 q195 q126 q196 q197 (by decide) (by decide) dX10_send_43 ?_
    exact av_ireturn am_hi dX10_send_46
  refine av_bipush (v := -3) dX10_send_22 (by decide) ?_
  exact av_ireturn am_hi dX10_send_24
theorem mX10_send (l : Launch) (hfl : l.stackTraces = false) (N : Nat) : am_M l yX10_send cX10_send 4 (some .int) 10 145 (fX10_send N) := av_meth hfl (by decide +kernel) rfl (vX10_send_0 l hfl N)
/-! MessengerBoard.wall(II)I -/
noncomputable def kX10_wall_43 (N : Nat) : am_K := c_live [] <|
  c_i (-2) <|
  c_iret
noncomputable def kX10_wall_0 (N : Nat) : am_K := c_live [0, 1, 2] <|
  c_rld 0 <|
  c_ild 1 <|
  c_ild 2 <|
  c_callV 10 2 (fX10_needCell N) <|
  c_rld 0 <|
  c_getr 10 0 <|
  c_ild 1 <|
  c_ild 2 <|
  c_callV 6 2 (fX6_isHeadquarters N) <|
  c_ifne (
  kX10_wall_43 N) <|
  c_rld 0 <|
  c_getr 10 0 <|
  c_ild 1 <|
  c_ild 2 <|
  c_callV 6 2 (fX6_lowestUnitAt N) <|
  c_i (-1) <|
  c_icne (
  kX10_wall_43 N) <|
  c_rld 0 <|
  c_getr 10 0 <|
  c_ild 1 <|
  c_ild 2 <|
  c_callV 6 2 (fX6_hasMessengerAt N) <|
  c_ifeq (
  c_rld 0 <|
  c_getr 10 0 <|
  c_ild 1 <|
  c_ild 2 <|
  c_callV 6 2 (fX6_isGoal N) <|
  c_ifeq (
  c_rld 0 <|
  c_getr 10 3 <|
  c_rld 0 <|
  c_getr 10 0 <|
  c_callV 3 1 (fX3_remember N) <|
  c_rld 0 <|
  c_getr 10 0 <|
  c_ild 1 <|
  c_ild 2 <|
  c_callV 6 2 (fX6_turnWall N) <|
  c_rld 0 <|
  c_getr 10 4 <|
  c_callV 4 0 (fX4_forget N) <|
  c_rld 0 <|
  c_getr 10 0 <|
  c_geti 6 6 <|
  c_iret) <|
  c_i (-3) <|
  c_iret) <|
  kX10_wall_43 N
noncomputable def fX10_wall (N : Nat) : am_F := am_fn 3 (kX10_wall_0 N)
set_option maxRecDepth 20000 in
theorem vX10_wall_43 (l : Launch) (hfl : l.stackTraces = false) (N : Nat)  : am_V l cX10_wall 3 RX10 (am_E (some .int) yX10_wall.name) 9 125 43 (kX10_wall_43 N) := by
  refine av_live ?_
  refine av_bipush (v := -2) dX10_wall_43 (by decide) ?_
  exact av_ireturn am_hi dX10_wall_45
set_option maxRecDepth 20000 in
theorem vX10_wall_0 (l : Launch) (hfl : l.stackTraces = false) (N : Nat)  : am_V l cX10_wall 3 RX10 (am_E (some .int) yX10_wall.name) 9 125 0 (kX10_wall_0 N) := by
  refine av_live ?_
  refine av_aload_n dX10_wall_0 rfl ?_
  refine av_iload_n dX10_wall_1 rfl ?_
  refine av_iload_n dX10_wall_2 rfl ?_
  refine av_callV am_hT (mX10_needCell l hfl N) am_ci10 ⟨by decide +kernel, by decide +kernel, by decide +kernel⟩ q541 q542 q111 q543 q544 (by decide) (by decide) dX10_wall_3 ?_
  refine av_aload_n dX10_wall_6 rfl ?_
  refine av_getr am_ci10 (by decide) am_f10_0 q414 dX10_wall_7 ?_
  refine av_iload_n dX10_wall_10 rfl ?_
  refine av_iload_n dX10_wall_11 rfl ?_
  refine av_callV am_hT (mX6_isHeadquarters l hfl N) am_ci6 ⟨by decide +kernel, by decide +kernel, by decide +kernel⟩ q588 q284 q126 q285 q286 (by decide) (by decide) dX10_wall_12 ?_
  refine av_ifne (tgt := 43) dX10_wall_15 (by decide) ?_ ?_
  · exact vX10_wall_43 l hfl N
  refine av_aload_n dX10_wall_18 rfl ?_
  refine av_getr am_ci10 (by decide) am_f10_0 q414 dX10_wall_19 ?_
  refine av_iload_n dX10_wall_22 rfl ?_
  refine av_iload_n dX10_wall_23 rfl ?_
  refine av_callV am_hT (mX6_lowestUnitAt l hfl N) am_ci6 ⟨by decide +kernel, by decide +kernel, by decide +kernel⟩ q589 q288 q126 q289 q290 (by decide) (by decide) dX10_wall_24 ?_
  refine av_iconst (v := -1) dX10_wall_27 (by decide) ?_
  refine av_icne (tgt := 43) dX10_wall_28 (by decide) ?_ ?_
  · exact vX10_wall_43 l hfl N
  refine av_aload_n dX10_wall_31 rfl ?_
  refine av_getr am_ci10 (by decide) am_f10_0 q414 dX10_wall_32 ?_
  refine av_iload_n dX10_wall_35 rfl ?_
  refine av_iload_n dX10_wall_36 rfl ?_
  refine av_callV am_hT (mX6_hasMessengerAt l hfl N) am_ci6 ⟨by decide +kernel, by decide +kernel, by decide +kernel⟩ q590 q591 q126 q592 q593 (by decide) (by decide) dX10_wall_37 ?_
  refine av_ifeq (tgt := 46) dX10_wall_40 (by decide) ?_ ?_
  · refine av_aload_n dX10_wall_46 rfl ?_
    refine av_getr am_ci10 (by decide) am_f10_0 q414 dX10_wall_47 ?_
    refine av_iload_n dX10_wall_50 rfl ?_
    refine av_iload_n dX10_wall_51 rfl ?_
    refine av_callV am_hT (mX6_isGoal l hfl N) am_ci6 ⟨by decide +kernel, by decide +kernel, by decide +kernel⟩ q594 q595 q126 q596 q597 (by decide) (by decide) dX10_wall_52 ?_
    refine av_ifeq (tgt := 61) dX10_wall_55 (by decide) ?_ ?_
    · refine av_aload_n dX10_wall_61 rfl ?_
      refine av_getr am_ci10 (by decide) am_f10_3 q427 dX10_wall_62 ?_
      refine av_aload_n dX10_wall_65 rfl ?_
      refine av_getr am_ci10 (by decide) am_f10_0 q414 dX10_wall_66 ?_
      refine av_callV am_hT (mX3_remember l hfl N) am_ci3 ⟨by decide +kernel, by decide +kernel, by decide +kernel⟩ q580 q581 q424 q582 q583 (by decide) (by decide) dX10_wall_69 ?_
      refine av_aload_n dX10_wall_72 rfl ?_
      refine av_getr am_ci10 (by decide) am_f10_0 q414 dX10_wall_73 ?_
      refine av_iload_n dX10_wall_76 rfl ?_
      refine av_iload_n dX10_wall_77 rfl ?_
      refine av_callV am_hT (mX6_turnWall l hfl N) am_ci6 ⟨by decide +kernel, by decide +kernel, by decide +kernel⟩ q598 q280 q126 q281 q282 (by decide) (by decide) dX10_wall_78 ?_
      refine av_aload_n dX10_wall_81 rfl ?_
      refine av_getr am_ci10 (by decide) am_f10_4 q433 dX10_wall_82 ?_
      refine av_callV am_hT (mX4_forget l hfl N) am_ci4 ⟨by decide +kernel, by decide +kernel, by decide +kernel⟩ q486 q487 q185 q488 q489 (by decide) (by decide) dX10_wall_85 ?_
      refine av_aload_n dX10_wall_88 rfl ?_
      refine av_getr am_ci10 (by decide) am_f10_0 q414 dX10_wall_89 ?_
      refine av_geti am_ci6 (by decide) am_f6_6 q517 dX10_wall_92 ?_
      exact av_ireturn am_hi dX10_wall_95
    refine av_bipush (v := -3) dX10_wall_58 (by decide) ?_
    exact av_ireturn am_hi dX10_wall_60
  exact vX10_wall_43 l hfl N
theorem mX10_wall (l : Launch) (hfl : l.stackTraces = false) (N : Nat) : am_M l yX10_wall cX10_wall 3 (some .int) 9 125 (fX10_wall N) := av_meth hfl (by decide +kernel) rfl (vX10_wall_0 l hfl N)
/-! MessengerBoard.movePicket(III)I -/
noncomputable def kX10_movePicket_77 (N : Nat) : am_K := c_live [] <|
  c_iret
noncomputable def kX10_movePicket_0 (N : Nat) : am_K := c_live [0, 1, 2, 3] <|
  c_rld 0 <|
  c_getr 10 0 <|
  c_getr 6 9 <|
  c_ild 1 <|
  c_callS 2 (fX10_needRow N) <|
  c_rld 0 <|
  c_ild 2 <|
  c_ild 3 <|
  c_callV 10 2 (fX10_needCell N) <|
  c_rld 0 <|
  c_getr 10 3 <|
  c_rld 0 <|
  c_getr 10 0 <|
  c_callV 3 1 (fX3_remember N) <|
  c_rld 0 <|
  c_getr 10 0 <|
  c_getr 6 9 <|
  c_ild 1 <|
  c_i (0) <|
  c_ild 2 <|
  c_callV 7 3 (fX7_put N) <|
  c_rld 0 <|
  c_getr 10 0 <|
  c_getr 6 9 <|
  c_ild 1 <|
  c_i (1) <|
  c_ild 3 <|
  c_callV 7 3 (fX7_put N) <|
  c_rld 0 <|
  c_getr 10 0 <|
  c_ild 1 <|
  c_rld 0 <|
  c_getr 10 0 <|
  c_geti 6 4 <|
  c_callV 6 2 (fX6_watches N) <|
  c_ifeq (
  c_i (0) <|
  kX10_movePicket_77 N) <|
  c_i (1) <|
  kX10_movePicket_77 N
noncomputable def fX10_movePicket (N : Nat) : am_F := am_fn 4 (kX10_movePicket_0 N)
set_option maxRecDepth 20000 in
theorem vX10_movePicket_77 (l : Launch) (hfl : l.stackTraces = false) (N : Nat)  : am_V l cX10_movePicket 4 RX10 (am_E (some .int) yX10_movePicket.name) 9 125 77 (kX10_movePicket_77 N) := by
  refine av_live ?_
  exact av_ireturn am_hi dX10_movePicket_77
set_option maxRecDepth 20000 in
theorem vX10_movePicket_0 (l : Launch) (hfl : l.stackTraces = false) (N : Nat)  : am_V l cX10_movePicket 4 RX10 (am_E (some .int) yX10_movePicket.name) 9 125 0 (kX10_movePicket_0 N) := by
  refine av_live ?_
  refine av_aload_n dX10_movePicket_0 rfl ?_
  refine av_getr am_ci10 (by decide) am_f10_0 q414 dX10_movePicket_1 ?_
  refine av_getr am_ci6 (by decide) am_f6_9 q515 dX10_movePicket_4 ?_
  refine av_iload_n dX10_movePicket_7 rfl ?_
  refine av_callS am_hT (mX10_needRow l hfl N) ⟨by decide +kernel, by decide +kernel, by decide +kernel⟩ q525 q526 q111 q527 (by decide) (by decide) dX10_movePicket_8 ?_
  refine av_aload_n dX10_movePicket_11 rfl ?_
  refine av_iload_n dX10_movePicket_12 rfl ?_
  refine av_iload_n dX10_movePicket_13 rfl ?_
  refine av_callV am_hT (mX10_needCell l hfl N) am_ci10 ⟨by decide +kernel, by decide +kernel, by decide +kernel⟩ q541 q542 q111 q543 q544 (by decide) (by decide) dX10_movePicket_14 ?_
  refine av_aload_n dX10_movePicket_17 rfl ?_
  refine av_getr am_ci10 (by decide) am_f10_3 q427 dX10_movePicket_18 ?_
  refine av_aload_n dX10_movePicket_21 rfl ?_
  refine av_getr am_ci10 (by decide) am_f10_0 q414 dX10_movePicket_22 ?_
  refine av_callV am_hT (mX3_remember l hfl N) am_ci3 ⟨by decide +kernel, by decide +kernel, by decide +kernel⟩ q580 q581 q424 q582 q583 (by decide) (by decide) dX10_movePicket_25 ?_
  refine av_aload_n dX10_movePicket_28 rfl ?_
  refine av_getr am_ci10 (by decide) am_f10_0 q414 dX10_movePicket_29 ?_
  refine av_getr am_ci6 (by decide) am_f6_9 q515 dX10_movePicket_32 ?_
  refine av_iload_n dX10_movePicket_35 rfl ?_
  refine av_iconst (v := 0) dX10_movePicket_36 (by decide) ?_
  refine av_iload_n dX10_movePicket_37 rfl ?_
  refine av_callV am_hT (mX7_put l hfl N) am_ci7 ⟨by decide +kernel, by decide +kernel, by decide +kernel⟩ q599 q118 q73 q119 q120 (by decide) (by decide) dX10_movePicket_38 ?_
  refine av_aload_n dX10_movePicket_41 rfl ?_
  refine av_getr am_ci10 (by decide) am_f10_0 q414 dX10_movePicket_42 ?_
  refine av_getr am_ci6 (by decide) am_f6_9 q515 dX10_movePicket_45 ?_
  refine av_iload_n dX10_movePicket_48 rfl ?_
  refine av_iconst (v := 1) dX10_movePicket_49 (by decide) ?_
  refine av_iload_n dX10_movePicket_50 rfl ?_
  refine av_callV am_hT (mX7_put l hfl N) am_ci7 ⟨by decide +kernel, by decide +kernel, by decide +kernel⟩ q599 q118 q73 q119 q120 (by decide) (by decide) dX10_movePicket_51 ?_
  refine av_aload_n dX10_movePicket_54 rfl ?_
  refine av_getr am_ci10 (by decide) am_f10_0 q414 dX10_movePicket_55 ?_
  refine av_iload_n dX10_movePicket_58 rfl ?_
  refine av_aload_n dX10_movePicket_59 rfl ?_
  refine av_getr am_ci10 (by decide) am_f10_0 q414 dX10_movePicket_60 ?_
  refine av_geti am_ci6 (by decide) am_f6_4 q516 dX10_movePicket_63 ?_
  refine av_callV am_hT (mX6_watches l hfl N) am_ci6 ⟨by decide +kernel, by decide +kernel, by decide +kernel⟩ q536 q125 q126 q127 q128 (by decide) (by decide) dX10_movePicket_66 ?_
  refine av_ifeq (tgt := 76) dX10_movePicket_69 (by decide) ?_ ?_
  · refine av_iconst (v := 0) dX10_movePicket_76 (by decide) ?_
    exact vX10_movePicket_77 l hfl N
  refine av_iconst (v := 1) dX10_movePicket_72 (by decide) ?_
  refine av_goto (tgt := 77) dX10_movePicket_73 (by decide) ?_
  exact vX10_movePicket_77 l hfl N
theorem mX10_movePicket (l : Launch) (hfl : l.stackTraces = false) (N : Nat) : am_M l yX10_movePicket cX10_movePicket 4 (some .int) 9 125 (fX10_movePicket N) := av_meth hfl (by decide +kernel) rfl (vX10_movePicket_0 l hfl N)
/-! MessengerBoard.movePlan(II)I -/
noncomputable def kX10_movePlan_29 (N : Nat) : am_K := c_live [] <|
  c_throw "java/lang/IllegalArgumentException"
noncomputable def kX10_movePlan_0 (N : Nat) : am_K := c_live [0, 1, 2] <|
  c_rld 0 <|
  c_getr 10 0 <|
  c_getr 6 10 <|
  c_ild 1 <|
  c_callS 2 (fX10_needRow N) <|
  c_ild 2 <|
  c_rld 0 <|
  c_getr 10 0 <|
  c_geti 6 4 <|
  c_iclt (
  kX10_movePlan_29 N) <|
  c_ild 2 <|
  c_i (500) <|
  c_iclt (
  c_rld 0 <|
  c_getr 10 0 <|
  c_getr 6 10 <|
  c_ild 1 <|
  c_i (3) <|
  c_callV 7 2 (fX7_get N) <|
  c_ist 3 <|
  c_ild 3 <|
  c_rld 0 <|
  c_getr 10 0 <|
  c_geti 6 4 <|
  c_icge (
  c_rld 0 <|
  c_getr 10 3 <|
  c_rld 0 <|
  c_getr 10 0 <|
  c_callV 3 1 (fX3_remember N) <|
  c_rld 0 <|
  c_getr 10 0 <|
  c_getr 6 10 <|
  c_ild 1 <|
  c_i (3) <|
  c_ild 2 <|
  c_callV 7 3 (fX7_put N) <|
  c_ild 3 <|
  c_iret) <|
  c_i (-2) <|
  c_iret) <|
  kX10_movePlan_29 N
noncomputable def fX10_movePlan (N : Nat) : am_F := am_fn 4 (kX10_movePlan_0 N)
set_option maxRecDepth 20000 in
theorem vX10_movePlan_29 (l : Launch) (hfl : l.stackTraces = false) (N : Nat)  : am_V l cX10_movePlan 4 RX10 (am_E (some .int) yX10_movePlan.name) 9 125 29 (kX10_movePlan_29 N) := by
  refine av_live ?_
  exact av_throww (names := ["java/lang/Exception"]) am_x0_98 am_x1_98 am_x2_98 am_x5_98 (by decide +kernel) (by decide +kernel) (by decide +kernel) q502 q503 t16 am_at_98 am_go_98 dX10_movePlan_29 dX10_movePlan_32 dX10_movePlan_33 dX10_movePlan_36 dX10_movePlan_39 (by decide) (by decide)
set_option maxRecDepth 20000 in
theorem vX10_movePlan_0 (l : Launch) (hfl : l.stackTraces = false) (N : Nat)  : am_V l cX10_movePlan 4 RX10 (am_E (some .int) yX10_movePlan.name) 9 125 0 (kX10_movePlan_0 N) := by
  refine av_live ?_
  refine av_aload_n dX10_movePlan_0 rfl ?_
  refine av_getr am_ci10 (by decide) am_f10_0 q414 dX10_movePlan_1 ?_
  refine av_getr am_ci6 (by decide) am_f6_10 q519 dX10_movePlan_4 ?_
  refine av_iload_n dX10_movePlan_7 rfl ?_
  refine av_callS am_hT (mX10_needRow l hfl N) ⟨by decide +kernel, by decide +kernel, by decide +kernel⟩ q525 q526 q111 q527 (by decide) (by decide) dX10_movePlan_8 ?_
  refine av_iload_n dX10_movePlan_11 rfl ?_
  refine av_aload_n dX10_movePlan_12 rfl ?_
  refine av_getr am_ci10 (by decide) am_f10_0 q414 dX10_movePlan_13 ?_
  refine av_geti am_ci6 (by decide) am_f6_4 q516 dX10_movePlan_16 ?_
  refine av_iclt (tgt := 29) dX10_movePlan_19 (by decide) ?_ ?_
  · exact vX10_movePlan_29 l hfl N
  refine av_iload_n dX10_movePlan_22 rfl ?_
  refine av_sipush (v := 500) dX10_movePlan_23 (by decide) ?_
  refine av_iclt (tgt := 40) dX10_movePlan_26 (by decide) ?_ ?_
  · refine av_aload_n dX10_movePlan_40 rfl ?_
    refine av_getr am_ci10 (by decide) am_f10_0 q414 dX10_movePlan_41 ?_
    refine av_getr am_ci6 (by decide) am_f6_10 q519 dX10_movePlan_44 ?_
    refine av_iload_n dX10_movePlan_47 rfl ?_
    refine av_iconst (v := 3) dX10_movePlan_48 (by decide) ?_
    refine av_callV am_hT (mX7_get l hfl N) am_ci7 ⟨by decide +kernel, by decide +kernel, by decide +kernel⟩ q472 q86 q73 q87 q88 (by decide) (by decide) dX10_movePlan_49 ?_
    refine av_istore_n dX10_movePlan_52 rfl (by decide) ?_
    refine av_iload_n dX10_movePlan_53 rfl ?_
    refine av_aload_n dX10_movePlan_54 rfl ?_
    refine av_getr am_ci10 (by decide) am_f10_0 q414 dX10_movePlan_55 ?_
    refine av_geti am_ci6 (by decide) am_f6_4 q516 dX10_movePlan_58 ?_
    refine av_icge (tgt := 67) dX10_movePlan_61 (by decide) ?_ ?_
    · refine av_aload_n dX10_movePlan_67 rfl ?_
      refine av_getr am_ci10 (by decide) am_f10_3 q427 dX10_movePlan_68 ?_
      refine av_aload_n dX10_movePlan_71 rfl ?_
      refine av_getr am_ci10 (by decide) am_f10_0 q414 dX10_movePlan_72 ?_
      refine av_callV am_hT (mX3_remember l hfl N) am_ci3 ⟨by decide +kernel, by decide +kernel, by decide +kernel⟩ q580 q581 q424 q582 q583 (by decide) (by decide) dX10_movePlan_75 ?_
      refine av_aload_n dX10_movePlan_78 rfl ?_
      refine av_getr am_ci10 (by decide) am_f10_0 q414 dX10_movePlan_79 ?_
      refine av_getr am_ci6 (by decide) am_f6_10 q519 dX10_movePlan_82 ?_
      refine av_iload_n dX10_movePlan_85 rfl ?_
      refine av_iconst (v := 3) dX10_movePlan_86 (by decide) ?_
      refine av_iload_n dX10_movePlan_87 rfl ?_
      refine av_callV am_hT (mX7_put l hfl N) am_ci7 ⟨by decide +kernel, by decide +kernel, by decide +kernel⟩ q599 q118 q73 q119 q120 (by decide) (by decide) dX10_movePlan_88 ?_
      refine av_iload_n dX10_movePlan_91 rfl ?_
      exact av_ireturn am_hi dX10_movePlan_92
    refine av_bipush (v := -2) dX10_movePlan_64 (by decide) ?_
    exact av_ireturn am_hi dX10_movePlan_66
  exact vX10_movePlan_29 l hfl N
theorem mX10_movePlan (l : Launch) (hfl : l.stackTraces = false) (N : Nat) : am_M l yX10_movePlan cX10_movePlan 4 (some .int) 9 125 (fX10_movePlan N) := av_meth hfl (by decide +kernel) rfl (vX10_movePlan_0 l hfl N)
/-! MessengerBoard.setPatience(I)I -/
noncomputable def kX10_setPatience_11 (N : Nat) : am_K := c_live [] <|
  c_throw "java/lang/IllegalArgumentException"
noncomputable def kX10_setPatience_0 (N : Nat) : am_K := c_live [0, 1] <|
  c_ild 1 <|
  c_i (1) <|
  c_iclt (
  kX10_setPatience_11 N) <|
  c_ild 1 <|
  c_i (30) <|
  c_icle (
  c_rld 0 <|
  c_getr 10 3 <|
  c_rld 0 <|
  c_getr 10 0 <|
  c_callV 3 1 (fX3_remember N) <|
  c_rld 0 <|
  c_getr 10 0 <|
  c_geti 6 5 <|
  c_ist 2 <|
  c_rld 0 <|
  c_getr 10 0 <|
  c_ild 1 <|
  c_puti 6 5 <|
  c_ild 2 <|
  c_iret) <|
  kX10_setPatience_11 N
noncomputable def fX10_setPatience (N : Nat) : am_F := am_fn 3 (kX10_setPatience_0 N)
set_option maxRecDepth 20000 in
theorem vX10_setPatience_11 (l : Launch) (hfl : l.stackTraces = false) (N : Nat)  : am_V l cX10_setPatience 3 RX10 (am_E (some .int) yX10_setPatience.name) 8 125 11 (kX10_setPatience_11 N) := by
  refine av_live ?_
  exact av_throww (names := ["java/lang/Exception"]) am_x0_98 am_x1_98 am_x2_98 am_x5_98 (by decide +kernel) (by decide +kernel) (by decide +kernel) q502 q503 t17 am_at_98 am_go_98 dX10_setPatience_11 dX10_setPatience_14 dX10_setPatience_15 dX10_setPatience_18 dX10_setPatience_21 (by decide) (by decide)
set_option maxRecDepth 20000 in
theorem vX10_setPatience_0 (l : Launch) (hfl : l.stackTraces = false) (N : Nat)  : am_V l cX10_setPatience 3 RX10 (am_E (some .int) yX10_setPatience.name) 8 125 0 (kX10_setPatience_0 N) := by
  refine av_live ?_
  refine av_iload_n dX10_setPatience_0 rfl ?_
  refine av_iconst (v := 1) dX10_setPatience_1 (by decide) ?_
  refine av_iclt (tgt := 11) dX10_setPatience_2 (by decide) ?_ ?_
  · exact vX10_setPatience_11 l hfl N
  refine av_iload_n dX10_setPatience_5 rfl ?_
  refine av_bipush (v := 30) dX10_setPatience_6 (by decide) ?_
  refine av_icle (tgt := 22) dX10_setPatience_8 (by decide) ?_ ?_
  · refine av_aload_n dX10_setPatience_22 rfl ?_
    refine av_getr am_ci10 (by decide) am_f10_3 q427 dX10_setPatience_23 ?_
    refine av_aload_n dX10_setPatience_26 rfl ?_
    refine av_getr am_ci10 (by decide) am_f10_0 q414 dX10_setPatience_27 ?_
    refine av_callV am_hT (mX3_remember l hfl N) am_ci3 ⟨by decide +kernel, by decide +kernel, by decide +kernel⟩ q580 q581 q424 q582 q583 (by decide) (by decide) dX10_setPatience_30 ?_
    refine av_aload_n dX10_setPatience_33 rfl ?_
    refine av_getr am_ci10 (by decide) am_f10_0 q414 dX10_setPatience_34 ?_
    refine av_geti am_ci6 (by decide) am_f6_5 q520 dX10_setPatience_37 ?_
    refine av_istore_n dX10_setPatience_40 rfl (by decide) ?_
    refine av_aload_n dX10_setPatience_41 rfl ?_
    refine av_getr am_ci10 (by decide) am_f10_0 q414 dX10_setPatience_42 ?_
    refine av_iload_n dX10_setPatience_45 rfl ?_
    refine av_puti am_ci6 (by decide) am_f6_5 q520 (tyX6_ok 5 (by decide)) rfl dX10_setPatience_46 ?_
    refine av_iload_n dX10_setPatience_49 rfl ?_
    exact av_ireturn am_hi dX10_setPatience_50
  exact vX10_setPatience_11 l hfl N
theorem mX10_setPatience (l : Launch) (hfl : l.stackTraces = false) (N : Nat) : am_M l yX10_setPatience cX10_setPatience 3 (some .int) 8 125 (fX10_setPatience N) := av_meth hfl (by decide +kernel) rfl (vX10_setPatience_0 l hfl N)
/-! MessengerBoard.signAt(II)I -/
noncomputable def kX10_signAt_92 (N : Nat) : am_K := c_live [] <|
  c_iret
noncomputable def kX10_signAt_0 (N : Nat) : am_K := c_live [0, 1, 2] <|
  c_rld 0 <|
  c_getr 10 0 <|
  c_ild 1 <|
  c_ild 2 <|
  c_callV 6 2 (fX6_lowestUnitAt N) <|
  c_ist 3 <|
  c_ild 3 <|
  c_i (-1) <|
  c_iceq (
  c_rld 0 <|
  c_getr 10 0 <|
  c_ild 1 <|
  c_ild 2 <|
  c_callV 6 2 (fX6_hasMessengerAt N) <|
  c_ifeq (
  c_rld 0 <|
  c_getr 10 0 <|
  c_ild 1 <|
  c_ild 2 <|
  c_callV 6 2 (fX6_isHeadquarters N) <|
  c_ifeq (
  c_rld 0 <|
  c_getr 10 0 <|
  c_ild 1 <|
  c_ild 2 <|
  c_rld 0 <|
  c_getr 10 0 <|
  c_geti 6 4 <|
  c_callV 6 3 (fX6_watcher N) <|
  c_i (-1) <|
  c_iceq (
  c_rld 0 <|
  c_getr 10 0 <|
  c_ild 1 <|
  c_ild 2 <|
  c_callV 6 2 (fX6_walled N) <|
  c_ifeq (
  c_i (46) <|
  kX10_signAt_92 N) <|
  c_i (35) <|
  kX10_signAt_92 N) <|
  c_i (33) <|
  c_iret) <|
  c_i (104) <|
  c_iret) <|
  c_i (109) <|
  c_iret) <|
  c_i (48) <|
  c_ild 3 <|
  c_ii (fun x y => x + y) <|
  c_iret
noncomputable def fX10_signAt (N : Nat) : am_F := am_fn 4 (kX10_signAt_0 N)
set_option maxRecDepth 20000 in
theorem vX10_signAt_92 (l : Launch) (hfl : l.stackTraces = false) (N : Nat)  : am_V l cX10_signAt 4 RX10 (am_E (some .int) yX10_signAt.name) 4 135 92 (kX10_signAt_92 N) := by
  refine av_live ?_
  exact av_ireturn am_hi dX10_signAt_92
set_option maxRecDepth 20000 in
theorem vX10_signAt_0 (l : Launch) (hfl : l.stackTraces = false) (N : Nat)  : am_V l cX10_signAt 4 RX10 (am_E (some .int) yX10_signAt.name) 4 135 0 (kX10_signAt_0 N) := by
  refine av_live ?_
  refine av_aload_n dX10_signAt_0 rfl ?_
  refine av_getr am_ci10 (by decide) am_f10_0 q414 dX10_signAt_1 ?_
  refine av_iload_n dX10_signAt_4 rfl ?_
  refine av_iload_n dX10_signAt_5 rfl ?_
  refine av_callV am_hT (mX6_lowestUnitAt l hfl N) am_ci6 ⟨by decide +kernel, by decide +kernel, by decide +kernel⟩ q589 q288 q126 q289 q290 (by decide) (by decide) dX10_signAt_6 ?_
  refine av_istore_n dX10_signAt_9 rfl (by decide) ?_
  refine av_iload_n dX10_signAt_10 rfl ?_
  refine av_iconst (v := -1) dX10_signAt_11 (by decide) ?_
  refine av_iceq (tgt := 20) dX10_signAt_12 (by decide) ?_ ?_
  · refine av_aload_n dX10_signAt_20 rfl ?_
    refine av_getr am_ci10 (by decide) am_f10_0 q414 dX10_signAt_21 ?_
    refine av_iload_n dX10_signAt_24 rfl ?_
    refine av_iload_n dX10_signAt_25 rfl ?_
    refine av_callV am_hT (mX6_hasMessengerAt l hfl N) am_ci6 ⟨by decide +kernel, by decide +kernel, by decide +kernel⟩ q590 q591 q126 q592 q593 (by decide) (by decide) dX10_signAt_26 ?_
    refine av_ifeq (tgt := 35) dX10_signAt_29 (by decide) ?_ ?_
    · refine av_aload_n dX10_signAt_35 rfl ?_
      refine av_getr am_ci10 (by decide) am_f10_0 q414 dX10_signAt_36 ?_
      refine av_iload_n dX10_signAt_39 rfl ?_
      refine av_iload_n dX10_signAt_40 rfl ?_
      refine av_callV am_hT (mX6_isHeadquarters l hfl N) am_ci6 ⟨by decide +kernel, by decide +kernel, by decide +kernel⟩ q588 q284 q126 q285 q286 (by decide) (by decide) dX10_signAt_41 ?_
      refine av_ifeq (tgt := 50) dX10_signAt_44 (by decide) ?_ ?_
      · refine av_aload_n dX10_signAt_50 rfl ?_
        refine av_getr am_ci10 (by decide) am_f10_0 q414 dX10_signAt_51 ?_
        refine av_iload_n dX10_signAt_54 rfl ?_
        refine av_iload_n dX10_signAt_55 rfl ?_
        refine av_aload_n dX10_signAt_56 rfl ?_
        refine av_getr am_ci10 (by decide) am_f10_0 q414 dX10_signAt_57 ?_
        refine av_geti am_ci6 (by decide) am_f6_4 q516 dX10_signAt_60 ?_
        refine av_callV am_hT (mX6_watcher l hfl N) am_ci6 ⟨by decide +kernel, by decide +kernel, by decide +kernel⟩ q546 q219 q126 q220 q221 (by decide) (by decide) dX10_signAt_63 ?_
        refine av_iconst (v := -1) dX10_signAt_66 (by decide) ?_
        refine av_iceq (tgt := 73) dX10_signAt_67 (by decide) ?_ ?_
        · refine av_aload_n dX10_signAt_73 rfl ?_
          refine av_getr am_ci10 (by decide) am_f10_0 q414 dX10_signAt_74 ?_
          refine av_iload_n dX10_signAt_77 rfl ?_
          refine av_iload_n dX10_signAt_78 rfl ?_
          refine av_callV am_hT (mX6_walled l hfl N) am_ci6 ⟨by decide +kernel, by decide +kernel, by decide +kernel⟩ q545 q164 q126 q165 q166 (by decide) (by decide) dX10_signAt_79 ?_
          refine av_ifeq (tgt := 90) dX10_signAt_82 (by decide) ?_ ?_
          · refine av_bipush (v := 46) dX10_signAt_90 (by decide) ?_
            exact vX10_signAt_92 l hfl N
          refine av_bipush (v := 35) dX10_signAt_85 (by decide) ?_
          refine av_goto (tgt := 92) dX10_signAt_87 (by decide) ?_
          exact vX10_signAt_92 l hfl N
        refine av_bipush (v := 33) dX10_signAt_70 (by decide) ?_
        exact av_ireturn am_hi dX10_signAt_72
      refine av_bipush (v := 104) dX10_signAt_47 (by decide) ?_
      exact av_ireturn am_hi dX10_signAt_49
    refine av_bipush (v := 109) dX10_signAt_32 (by decide) ?_
    exact av_ireturn am_hi dX10_signAt_34
  refine av_bipush (v := 48) dX10_signAt_15 (by decide) ?_
  refine av_iload_n dX10_signAt_17 rfl ?_
  refine av_iadd dX10_signAt_18 ?_
  exact av_ireturn am_hi dX10_signAt_19
theorem mX10_signAt (l : Launch) (hfl : l.stackTraces = false) (N : Nat) : am_M l yX10_signAt cX10_signAt 4 (some .int) 4 135 (fX10_signAt N) := av_meth hfl (by decide +kernel) rfl (vX10_signAt_0 l hfl N)
/-! MessengerBoard.format(I)I -/
noncomputable def kX10_format_15 (N : Nat) : am_K := c_live [] <|
  c_throw "java/util/NoSuchElementException"
noncomputable def bX10_format_47 (N : Nat) (r47 : am_K) : am_K :=
  c_ild 2 <|
  c_rld 0 <|
  c_geti 10 16 <|
  c_icge (
  c_rld 0 <|
  c_geti 10 16 <|
  c_iret) <|
  c_rld 0 <|
  c_getr 10 10 <|
  c_ild 2 <|
  c_rld 0 <|
  c_ild 2 <|
  c_ild 1 <|
  c_callV 10 2 (fX10_signAt N) <|
  c_ias <|
  c_inc 2 (1) <|
  c_live [0, 1, 2] r47
noncomputable def kX10_format_47 (N : Nat) : am_K := c_live [0, 1, 2] (am_loop (bX10_format_47 N) N)
noncomputable def kX10_format_0 (N : Nat) : am_K := c_live [0, 1] <|
  c_ild 1 <|
  c_iflt (
  kX10_format_15 N) <|
  c_ild 1 <|
  c_rld 0 <|
  c_getr 10 0 <|
  c_geti 6 1 <|
  c_iclt (
  c_rld 0 <|
  c_rld 0 <|
  c_getr 10 0 <|
  c_geti 6 0 <|
  c_rld 0 <|
  c_getr 10 10 <|
  c_alen <|
  c_min <|
  c_puti 10 16 <|
  c_i (0) <|
  c_ist 2 <|
  kX10_format_47 N) <|
  kX10_format_15 N
noncomputable def fX10_format (N : Nat) : am_F := am_fn 3 (kX10_format_0 N)
set_option maxRecDepth 20000 in
theorem vX10_format_15 (l : Launch) (hfl : l.stackTraces = false) (N : Nat)  : am_V l cX10_format 3 RX10 (am_E (some .int) yX10_format.name) 8 158 15 (kX10_format_15 N) := by
  refine av_live ?_
  exact av_throww (names := ["java/lang/Exception"]) am_x0_168 am_x1_168 am_x2_168 am_x5_168 (by decide +kernel) (by decide +kernel) (by decide +kernel) q523 q524 t18 am_at_168 am_go_168 dX10_format_15 dX10_format_18 dX10_format_19 dX10_format_22 dX10_format_25 (by decide) (by decide)
set_option maxRecDepth 20000 in
theorem vX10_format_47 (l : Launch) (hfl : l.stackTraces = false) (N : Nat)  : am_V l cX10_format 3 RX10 (am_E (some .int) yX10_format.name) 8 158 47 (kX10_format_47 N) := by
  refine av_live ?_
  refine av_loop (fun r47 h47 => ?_) N
  refine av_iload_n dX10_format_47 rfl ?_
  refine av_aload_n dX10_format_48 rfl ?_
  refine av_geti am_ci10 (by decide) am_f10_16 q477 dX10_format_49 ?_
  refine av_icge (tgt := 73) dX10_format_52 (by decide) ?_ ?_
  · refine av_aload_n dX10_format_73 rfl ?_
    refine av_geti am_ci10 (by decide) am_f10_16 q477 dX10_format_74 ?_
    exact av_ireturn am_hi dX10_format_77
  refine av_aload_n dX10_format_55 rfl ?_
  refine av_getr am_ci10 (by decide) am_f10_10 q459 dX10_format_56 ?_
  refine av_iload_n dX10_format_59 rfl ?_
  refine av_aload_n dX10_format_60 rfl ?_
  refine av_iload_n dX10_format_61 rfl ?_
  refine av_iload_n dX10_format_62 rfl ?_
  refine av_callV am_hT (mX10_signAt l hfl N) am_ci10 ⟨by decide +kernel, by decide +kernel, by decide +kernel⟩ q601 q602 q111 q603 q604 (by decide) (by decide) dX10_format_63 ?_
  refine av_iastore dX10_format_66 ?_
  refine av_iinc dX10_format_67 (by decide) (by decide) ?_
  refine av_goto (tgt := 47) dX10_format_70 (by decide) ?_
  exact av_live h47
set_option maxRecDepth 20000 in
theorem vX10_format_0 (l : Launch) (hfl : l.stackTraces = false) (N : Nat)  : am_V l cX10_format 3 RX10 (am_E (some .int) yX10_format.name) 8 158 0 (kX10_format_0 N) := by
  refine av_live ?_
  refine av_iload_n dX10_format_0 rfl ?_
  refine av_iflt (tgt := 15) dX10_format_1 (by decide) ?_ ?_
  · exact vX10_format_15 l hfl N
  refine av_iload_n dX10_format_4 rfl ?_
  refine av_aload_n dX10_format_5 rfl ?_
  refine av_getr am_ci10 (by decide) am_f10_0 q414 dX10_format_6 ?_
  refine av_geti am_ci6 (by decide) am_f6_1 q514 dX10_format_9 ?_
  refine av_iclt (tgt := 26) dX10_format_12 (by decide) ?_ ?_
  · refine av_aload_n dX10_format_26 rfl ?_
    refine av_aload_n dX10_format_27 rfl ?_
    refine av_getr am_ci10 (by decide) am_f10_0 q414 dX10_format_28 ?_
    refine av_geti am_ci6 (by decide) am_f6_0 q513 dX10_format_31 ?_
    refine av_aload_n dX10_format_34 rfl ?_
    refine av_getr am_ci10 (by decide) am_f10_10 q459 dX10_format_35 ?_
    refine av_arraylength dX10_format_38 ?_
    refine av_min q600 q41 q42 q43 (by decide) (by decide) dX10_format_39 ?_
    refine av_puti am_ci10 (by decide) am_f10_16 q477 (tyX10_ok 16 (by decide)) rfl dX10_format_42 ?_
    refine av_iconst (v := 0) dX10_format_45 (by decide) ?_
    refine av_istore_n dX10_format_46 rfl (by decide) ?_
    exact vX10_format_47 l hfl N
  exact vX10_format_15 l hfl N
theorem mX10_format (l : Launch) (hfl : l.stackTraces = false) (N : Nat) : am_M l yX10_format cX10_format 3 (some .int) 8 158 (fX10_format N) := av_meth hfl (by decide +kernel) rfl (vX10_format_0 l hfl N)
/-! MessengerBoard.query(I)I -/
noncomputable def kX10_query_19 (N : Nat) : am_K := c_live [] <|
  c_throw "java/lang/IllegalArgumentException"
noncomputable def kX10_query_0 (N : Nat) : am_K := c_live [0, 1] <|
  c_ild 1 <|
  c_iflt (
  kX10_query_19 N) <|
  c_ild 1 <|
  c_i (200) <|
  c_icgt (
  kX10_query_19 N) <|
  c_ild 1 <|
  c_rld 0 <|
  c_geti 10 14 <|
  c_icle (
  c_rld 0 <|
  c_i (0) <|
  c_puti 10 14 <|
  c_rld 0 <|
  c_getr 10 9 <|
  c_ild 1 <|
  c_callV 5 1 (fX5_answer N) <|
  c_ist 2 <|
  c_rld 0 <|
  c_rld 0 <|
  c_getr 10 7 <|
  c_callV 8 0 (fX8_errorPlace N) <|
  c_puti 10 15 <|
  c_ild 2 <|
  c_iret) <|
  kX10_query_19 N
noncomputable def fX10_query (N : Nat) : am_F := am_fn 3 (kX10_query_0 N)
set_option maxRecDepth 20000 in
theorem vX10_query_19 (l : Launch) (hfl : l.stackTraces = false) (N : Nat)  : am_V l cX10_query 3 RX10 (am_E (some .int) yX10_query.name) 57 2848 19 (kX10_query_19 N) := by
  refine av_live ?_
  exact av_throw (names := ["java/lang/Exception"]) am_x0_98 am_x1_98 am_x2_98 am_x5_98 (by decide +kernel) (by decide +kernel) (by decide +kernel) q502 q503 t0 am_at_98 am_go_98 dX10_query_19 dX10_query_22 dX10_query_23 dX10_query_25 dX10_query_28 (by decide) (by decide)
set_option maxRecDepth 20000 in
theorem vX10_query_0 (l : Launch) (hfl : l.stackTraces = false) (N : Nat)  : am_V l cX10_query 3 RX10 (am_E (some .int) yX10_query.name) 57 2848 0 (kX10_query_0 N) := by
  refine av_live ?_
  refine av_iload_n dX10_query_0 rfl ?_
  refine av_iflt (tgt := 19) dX10_query_1 (by decide) ?_ ?_
  · exact vX10_query_19 l hfl N
  refine av_iload_n dX10_query_4 rfl ?_
  refine av_sipush (v := 200) dX10_query_5 (by decide) ?_
  refine av_icgt (tgt := 19) dX10_query_8 (by decide) ?_ ?_
  · exact vX10_query_19 l hfl N
  refine av_iload_n dX10_query_11 rfl ?_
  refine av_aload_n dX10_query_12 rfl ?_
  refine av_geti am_ci10 (by decide) am_f10_14 q461 dX10_query_13 ?_
  refine av_icle (tgt := 29) dX10_query_16 (by decide) ?_ ?_
  · refine av_aload_n dX10_query_29 rfl ?_
    refine av_iconst (v := 0) dX10_query_30 (by decide) ?_
    refine av_puti am_ci10 (by decide) am_f10_14 q461 (tyX10_ok 14 (by decide)) rfl dX10_query_31 ?_
    refine av_aload_n dX10_query_34 rfl ?_
    refine av_getr am_ci10 (by decide) am_f10_9 q458 dX10_query_35 ?_
    refine av_iload_n dX10_query_38 rfl ?_
    refine av_callV am_hT (mX5_answer l hfl N) am_ci5 ⟨by decide +kernel, by decide +kernel, by decide +kernel⟩ q605 q606 q368 q607 q608 (by decide) (by decide) dX10_query_39 ?_
    refine av_istore_n dX10_query_42 rfl (by decide) ?_
    refine av_aload_n dX10_query_43 rfl ?_
    refine av_aload_n dX10_query_44 rfl ?_
    refine av_getr am_ci10 (by decide) am_f10_7 q446 dX10_query_45 ?_
    refine av_callV am_hT (mX8_errorPlace l hfl N) am_ci8 ⟨by decide +kernel, by decide +kernel, by decide +kernel⟩ q508 q509 q53 q510 q511 (by decide) (by decide) dX10_query_48 ?_
    refine av_puti am_ci10 (by decide) am_f10_15 q460 (tyX10_ok 15 (by decide)) rfl dX10_query_51 ?_
    refine av_iload_n dX10_query_54 rfl ?_
    exact av_ireturn am_hi dX10_query_55
  exact vX10_query_19 l hfl N
theorem mX10_query (l : Launch) (hfl : l.stackTraces = false) (N : Nat) : am_M l yX10_query cX10_query 3 (some .int) 57 2848 (fX10_query N) := av_meth hfl (by decide +kernel) rfl (vX10_query_0 l hfl N)
