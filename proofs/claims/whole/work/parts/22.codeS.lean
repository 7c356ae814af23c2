/-! MessengerBoard$Situation.<init>()V -/
noncomputable def kX6_init_0 (N : Nat) : am_K := c_live [0] <|
  c_rld 0 <|
  c_oinit <|
  c_rld 0 <|
  c_i (144) <|
  c_newa 20 <|
  c_putr 6 7 <|
  c_rld 0 <|
  c_new 7 <|
  c_dup <|
  c_i (6) <|
  c_i (4) <|
  c_callI 2 (fX7_init N) <|
  c_putr 6 8 <|
  c_rld 0 <|
  c_new 7 <|
  c_dup <|
  c_i (4) <|
  c_i (8) <|
  c_callI 2 (fX7_init N) <|
  c_putr 6 9 <|
  c_rld 0 <|
  c_new 7 <|
  c_dup <|
  c_i (20) <|
  c_i (4) <|
  c_callI 2 (fX7_init N) <|
  c_putr 6 10 <|
  c_rld 0 <|
  c_new 7 <|
  c_dup <|
  c_i (40) <|
  c_i (10) <|
  c_callI 2 (fX7_init N) <|
  c_putr 6 11 <|
  c_rld 0 <|
  c_new 7 <|
  c_dup <|
  c_i (80) <|
  c_i (3) <|
  c_callI 2 (fX7_init N) <|
  c_putr 6 12 <|
  c_rld 0 <|
  c_i (3) <|
  c_puti 6 0 <|
  c_rld 0 <|
  c_i (3) <|
  c_puti 6 1 <|
  c_rld 0 <|
  c_i (30) <|
  c_puti 6 5 <|
  c_vret
noncomputable def fX6_init (N : Nat) : am_F := am_fn 1 (kX6_init_0 N)
set_option maxRecDepth 20000 in
theorem vX6_init_0 (l : Launch) (hfl : l.stackTraces = false) (N : Nat)  : am_V l cX6_init 1 RX6 (am_E none yX6_init.name) 2 83 0 (kX6_init_0 N) := by
  refine av_live ?_
  refine av_aload_n dX6_init_0 rfl ?_
  refine av_objInit q69 q25 q26 (by decide) (by decide) dX6_init_1 ?_
  refine av_aload_n dX6_init_4 rfl ?_
  refine av_sipush (v := 144) dX6_init_5 (by decide) ?_
  refine av_newarr_int q29 dX6_init_8 ?_
  refine av_putrF am_ci6 (by decide) am_f6_7 q70 (tyX6_ok 7 (by decide)) (fun _ => ⟨rfl, rfl⟩) ⟨rfl, rfl⟩ dX6_init_10 ?_
  refine av_aload_n dX6_init_13 rfl ?_
  refine av_newobj am_ci7 q71 q72 q73 dX6_init_14 ?_
  refine av_dup dX6_init_17 ?_
  refine av_bipush (v := 6) dX6_init_18 (by decide) ?_
  refine av_iconst (v := 4) dX6_init_20 (by decide) ?_
  refine av_callI (mX7_init l hfl N) rfl ⟨by decide +kernel, by decide +kernel, by decide +kernel⟩ q74 q75 q73 q76 (by decide) (by decide) dX6_init_21 ?_
  refine av_putrF am_ci6 (by decide) am_f6_8 q77 (tyX6_ok 8 (by decide)) (fun _ => ⟨rfl, rfl⟩) ⟨rfl, rfl⟩ dX6_init_24 ?_
  refine av_aload_n dX6_init_27 rfl ?_
  refine av_newobj am_ci7 q71 q72 q73 dX6_init_28 ?_
  refine av_dup dX6_init_31 ?_
  refine av_iconst (v := 4) dX6_init_32 (by decide) ?_
  refine av_bipush (v := 8) dX6_init_33 (by decide) ?_
  refine av_callI (mX7_init l hfl N) rfl ⟨by decide +kernel, by decide +kernel, by decide +kernel⟩ q74 q75 q73 q76 (by decide) (by decide) dX6_init_35 ?_
  refine av_putrF am_ci6 (by decide) am_f6_9 q78 (tyX6_ok 9 (by decide)) (fun _ => ⟨rfl, rfl⟩) ⟨rfl, rfl⟩ dX6_init_38 ?_
  refine av_aload_n dX6_init_41 rfl ?_
  refine av_newobj am_ci7 q71 q72 q73 dX6_init_42 ?_
  refine av_dup dX6_init_45 ?_
  refine av_bipush (v := 20) dX6_init_46 (by decide) ?_
  refine av_iconst (v := 4) dX6_init_48 (by decide) ?_
  refine av_callI (mX7_init l hfl N) rfl ⟨by decide +kernel, by decide +kernel, by decide +kernel⟩ q74 q75 q73 q76 (by decide) (by decide) dX6_init_49 ?_
  refine av_putrF am_ci6 (by decide) am_f6_10 q79 (tyX6_ok 10 (by decide)) (fun _ => ⟨rfl, rfl⟩) ⟨rfl, rfl⟩ dX6_init_52 ?_
  refine av_aload_n dX6_init_55 rfl ?_
  refine av_newobj am_ci7 q71 q72 q73 dX6_init_56 ?_
  refine av_dup dX6_init_59 ?_
  refine av_bipush (v := 40) dX6_init_60 (by decide) ?_
  refine av_bipush (v := 10) dX6_init_62 (by decide) ?_
  refine av_callI (mX7_init l hfl N) rfl ⟨by decide +kernel, by decide +kernel, by decide +kernel⟩ q74 q75 q73 q76 (by decide) (by decide) dX6_init_64 ?_
  refine av_putrF am_ci6 (by decide) am_f6_11 q80 (tyX6_ok 11 (by decide)) (fun _ => ⟨rfl, rfl⟩) ⟨rfl, rfl⟩ dX6_init_67 ?_
  refine av_aload_n dX6_init_70 rfl ?_
  refine av_newobj am_ci7 q71 q72 q73 dX6_init_71 ?_
  refine av_dup dX6_init_74 ?_
  refine av_bipush (v := 80) dX6_init_75 (by decide) ?_
  refine av_iconst (v := 3) dX6_init_77 (by decide) ?_
  refine av_callI (mX7_init l hfl N) rfl ⟨by decide +kernel, by decide +kernel, by decide +kernel⟩ q74 q75 q73 q76 (by decide) (by decide) dX6_init_78 ?_
  refine av_putrF am_ci6 (by decide) am_f6_12 q81 (tyX6_ok 12 (by decide)) (fun _ => ⟨rfl, rfl⟩) ⟨rfl, rfl⟩ dX6_init_81 ?_
  refine av_aload_n dX6_init_84 rfl ?_
  refine av_iconst (v := 3) dX6_init_85 (by decide) ?_
  refine av_puti am_ci6 (by decide) am_f6_0 q82 (tyX6_ok 0 (by decide)) rfl dX6_init_86 ?_
  refine av_aload_n dX6_init_89 rfl ?_
  refine av_iconst (v := 3) dX6_init_90 (by decide) ?_
  refine av_puti am_ci6 (by decide) am_f6_1 q83 (tyX6_ok 1 (by decide)) rfl dX6_init_91 ?_
  refine av_aload_n dX6_init_94 rfl ?_
  refine av_bipush (v := 30) dX6_init_95 (by decide) ?_
  refine av_puti am_ci6 (by decide) am_f6_5 q84 (tyX6_ok 5 (by decide)) rfl dX6_init_97 ?_
  exact av_return_ am_hv dX6_init_100
theorem mX6_init (l : Launch) (hfl : l.stackTraces = false) (N : Nat) : am_M l yX6_init cX6_init 1 none 2 83 (fX6_init N) := av_meth hfl (by decide +kernel) rfl (vX6_init_0 l hfl N)
/-! MessengerBoard$Situation.overtakes(II)Z -/
noncomputable def kX6_overtakes_54 (N : Nat) : am_K := c_live [] <|
  c_zret
noncomputable def kX6_overtakes_53 (N : Nat) : am_K := c_live [] <|
  c_i (0) <|
  kX6_overtakes_54 N
noncomputable def kX6_overtakes_0 (N : Nat) : am_K := c_live [0, 1, 2] <|
  c_rld 0 <|
  c_getr 6 11 <|
  c_ild 1 <|
  c_i (5) <|
  c_callV 7 2 (fX7_get N) <|
  c_ist 3 <|
  c_ild 3 <|
  c_i (-1) <|
  c_iceq (
  kX6_overtakes_53 N) <|
  c_ild 3 <|
  c_rld 0 <|
  c_getr 6 11 <|
  c_ild 2 <|
  c_i (5) <|
  c_callV 7 2 (fX7_get N) <|
  c_icge (
  kX6_overtakes_53 N) <|
  c_rld 0 <|
  c_getr 6 11 <|
  c_ild 1 <|
  c_i (0) <|
  c_callV 7 2 (fX7_get N) <|
  c_rld 0 <|
  c_getr 6 11 <|
  c_ild 2 <|
  c_i (0) <|
  c_callV 7 2 (fX7_get N) <|
  c_icne (
  kX6_overtakes_53 N) <|
  c_i (1) <|
  kX6_overtakes_54 N
noncomputable def fX6_overtakes (N : Nat) : am_F := am_fn 4 (kX6_overtakes_0 N)
set_option maxRecDepth 20000 in
theorem vX6_overtakes_54 (l : Launch) (hfl : l.stackTraces = false) (N : Nat)  : am_V l cX6_overtakes 4 RX6 (am_E (some .boolean) yX6_overtakes.name) 2 84 54 (kX6_overtakes_54 N) := by
  refine av_live ?_
  exact av_zreturn am_hz dX6_overtakes_54
set_option maxRecDepth 20000 in
theorem vX6_overtakes_53 (l : Launch) (hfl : l.stackTraces = false) (N : Nat)  : am_V l cX6_overtakes 4 RX6 (am_E (some .boolean) yX6_overtakes.name) 2 84 53 (kX6_overtakes_53 N) := by
  refine av_live ?_
  refine av_iconst (v := 0) dX6_overtakes_53 (by decide) ?_
  exact vX6_overtakes_54 l hfl N
set_option maxRecDepth 20000 in
theorem vX6_overtakes_0 (l : Launch) (hfl : l.stackTraces = false) (N : Nat)  : am_V l cX6_overtakes 4 RX6 (am_E (some .boolean) yX6_overtakes.name) 2 84 0 (kX6_overtakes_0 N) := by
  refine av_live ?_
  refine av_aload_n dX6_overtakes_0 rfl ?_
  refine av_getr am_ci6 (by decide) am_f6_11 q80 dX6_overtakes_1 ?_
  refine av_iload_n dX6_overtakes_4 rfl ?_
  refine av_iconst (v := 5) dX6_overtakes_5 (by decide) ?_
  refine av_callV am_hT (mX7_get l hfl N) am_ci7 ⟨by decide +kernel, by decide +kernel, by decide +kernel⟩ q85 q86 q73 q87 q88 (by decide) (by decide) dX6_overtakes_6 ?_
  refine av_istore_n dX6_overtakes_9 rfl (by decide) ?_
  refine av_iload_n dX6_overtakes_10 rfl ?_
  refine av_iconst (v := -1) dX6_overtakes_11 (by decide) ?_
  refine av_iceq (tgt := 53) dX6_overtakes_12 (by decide) ?_ ?_
  · exact vX6_overtakes_53 l hfl N
  refine av_iload_n dX6_overtakes_15 rfl ?_
  refine av_aload_n dX6_overtakes_16 rfl ?_
  refine av_getr am_ci6 (by decide) am_f6_11 q80 dX6_overtakes_17 ?_
  refine av_iload_n dX6_overtakes_20 rfl ?_
  refine av_iconst (v := 5) dX6_overtakes_21 (by decide) ?_
  refine av_callV am_hT (mX7_get l hfl N) am_ci7 ⟨by decide +kernel, by decide +kernel, by decide +kernel⟩ q85 q86 q73 q87 q88 (by decide) (by decide) dX6_overtakes_22 ?_
  refine av_icge (tgt := 53) dX6_overtakes_25 (by decide) ?_ ?_
  · exact vX6_overtakes_53 l hfl N
  refine av_aload_n dX6_overtakes_28 rfl ?_
  refine av_getr am_ci6 (by decide) am_f6_11 q80 dX6_overtakes_29 ?_
  refine av_iload_n dX6_overtakes_32 rfl ?_
  refine av_iconst (v := 0) dX6_overtakes_33 (by decide) ?_
  refine av_callV am_hT (mX7_get l hfl N) am_ci7 ⟨by decide +kernel, by decide +kernel, by decide +kernel⟩ q85 q86 q73 q87 q88 (by decide) (by decide) dX6_overtakes_34 ?_
  refine av_aload_n dX6_overtakes_37 rfl ?_
  refine av_getr am_ci6 (by decide) am_f6_11 q80 dX6_overtakes_38 ?_
  refine av_iload_n dX6_overtakes_41 rfl ?_
  refine av_iconst (v := 0) dX6_overtakes_42 (by decide) ?_
  refine av_callV am_hT (mX7_get l hfl N) am_ci7 ⟨by decide +kernel, by decide +kernel, by decide +kernel⟩ q85 q86 q73 q87 q88 (by decide) (by decide) dX6_overtakes_43 ?_
  refine av_icne (tgt := 53) dX6_overtakes_46 (by decide) ?_ ?_
  · exact vX6_overtakes_53 l hfl N
  refine av_iconst (v := 1) dX6_overtakes_49 (by decide) ?_
  refine av_goto (tgt := 54) dX6_overtakes_50 (by decide) ?_
  exact vX6_overtakes_54 l hfl N
theorem mX6_overtakes (l : Launch) (hfl : l.stackTraces = false) (N : Nat) : am_M l yX6_overtakes cX6_overtakes 4 (some .boolean) 2 84 (fX6_overtakes N) := av_meth hfl (by decide +kernel) rfl (vX6_overtakes_0 l hfl N)
/-! MessengerBoard$Situation.ordersIn(I)I -/
noncomputable def kX6_ordersIn_36 (N : Nat) (r13 : am_K) : am_K := c_live [0, 1, 2, 3, 4] <|
  c_inc 4 (1) <|
  c_live [0, 1, 2, 3, 4] r13
noncomputable def bX6_ordersIn_13 (N : Nat) (r13 : am_K) : am_K :=
  c_ild 4 <|
  c_ild 3 <|
  c_icge (
  c_ild 2 <|
  c_iret) <|
  c_rld 0 <|
  c_getr 6 11 <|
  c_ild 4 <|
  c_i (3) <|
  c_callV 7 2 (fX7_get N) <|
  c_ild 1 <|
  c_icne (
  kX6_ordersIn_36 N r13) <|
  c_inc 2 (1) <|
  kX6_ordersIn_36 N r13
noncomputable def kX6_ordersIn_13 (N : Nat) : am_K := c_live [0, 1, 2, 3, 4] (am_loop (bX6_ordersIn_13 N) N)
noncomputable def kX6_ordersIn_0 (N : Nat) : am_K := c_live [0, 1] <|
  c_i (0) <|
  c_ist 2 <|
  c_rld 0 <|
  c_getr 6 11 <|
  c_callV 7 0 (fX7_count N) <|
  c_ist 3 <|
  c_i (0) <|
  c_ist 4 <|
  kX6_ordersIn_13 N
noncomputable def fX6_ordersIn (N : Nat) : am_F := am_fn 5 (kX6_ordersIn_0 N)
set_option maxRecDepth 20000 in
theorem vX6_ordersIn_36 (l : Launch) (hfl : l.stackTraces = false) (N : Nat)  {r13 : am_K} (h13 : am_V l cX6_ordersIn 5 RX6 (am_E (some .int) yX6_ordersIn.name) 2 84 13 r13) : am_V l cX6_ordersIn 5 RX6 (am_E (some .int) yX6_ordersIn.name) 2 84 36 (kX6_ordersIn_36 N r13) := by
  refine av_live ?_
  refine av_iinc dX6_ordersIn_36 (by decide) (by decide) ?_
  refine av_goto (tgt := 13) dX6_ordersIn_39 (by decide) ?_
  exact av_live h13
set_option maxRecDepth 20000 in
theorem vX6_ordersIn_13 (l : Launch) (hfl : l.stackTraces = false) (N : Nat)  : am_V l cX6_ordersIn 5 RX6 (am_E (some .int) yX6_ordersIn.name) 2 84 13 (kX6_ordersIn_13 N) := by
  refine av_live ?_
  refine av_loop (fun r13 h13 => ?_) N
  refine av_iload dX6_ordersIn_13 ?_
  refine av_iload_n dX6_ordersIn_15 rfl ?_
  refine av_icge (tgt := 42) dX6_ordersIn_16 (by decide) ?_ ?_
  · refine av_iload_n dX6_ordersIn_42 rfl ?_
    exact av_ireturn am_hi dX6_ordersIn_43
  refine av_aload_n dX6_ordersIn_19 rfl ?_
  refine av_getr am_ci6 (by decide) am_f6_11 q80 dX6_ordersIn_20 ?_
  refine av_iload dX6_ordersIn_23 ?_
  refine av_iconst (v := 3) dX6_ordersIn_25 (by decide) ?_
  refine av_callV am_hT (mX7_get l hfl N) am_ci7 ⟨by decide +kernel, by decide +kernel, by decide +kernel⟩ q85 q86 q73 q87 q88 (by decide) (by decide) dX6_ordersIn_26 ?_
  refine av_iload_n dX6_ordersIn_29 rfl ?_
  refine av_icne (tgt := 36) dX6_ordersIn_30 (by decide) ?_ ?_
  · exact vX6_ordersIn_36 l hfl N h13
  refine av_iinc dX6_ordersIn_33 (by decide) (by decide) ?_
  exact vX6_ordersIn_36 l hfl N h13
set_option maxRecDepth 20000 in
theorem vX6_ordersIn_0 (l : Launch) (hfl : l.stackTraces = false) (N : Nat)  : am_V l cX6_ordersIn 5 RX6 (am_E (some .int) yX6_ordersIn.name) 2 84 0 (kX6_ordersIn_0 N) := by
  refine av_live ?_
  refine av_iconst (v := 0) dX6_ordersIn_0 (by decide) ?_
  refine av_istore_n dX6_ordersIn_1 rfl (by decide) ?_
  refine av_aload_n dX6_ordersIn_2 rfl ?_
  refine av_getr am_ci6 (by decide) am_f6_11 q80 dX6_ordersIn_3 ?_
  refine av_callV am_hT (mX7_count l hfl N) am_ci7 ⟨by decide +kernel, by decide +kernel, by decide +kernel⟩ q89 q90 q73 q91 q92 (by decide) (by decide) dX6_ordersIn_6 ?_
  refine av_istore_n dX6_ordersIn_9 rfl (by decide) ?_
  refine av_iconst (v := 0) dX6_ordersIn_10 (by decide) ?_
  refine av_istore dX6_ordersIn_11 (by decide) ?_
  exact vX6_ordersIn_13 l hfl N
theorem mX6_ordersIn (l : Launch) (hfl : l.stackTraces = false) (N : Nat) : am_M l yX6_ordersIn cX6_ordersIn 5 (some .int) 2 84 (fX6_ordersIn N) := av_meth hfl (by decide +kernel) rfl (vX6_ordersIn_0 l hfl N)
/-! MessengerBoard$Situation.copyFrom(LMessengerBoard$Situation;)V -/
noncomputable def kX6_copyFrom_0 (N : Nat) : am_K := c_live [0, 1] <|
  c_rld 0 <|
  c_rld 1 <|
  c_geti 6 0 <|
  c_puti 6 0 <|
  c_rld 0 <|
  c_rld 1 <|
  c_geti 6 1 <|
  c_puti 6 1 <|
  c_rld 0 <|
  c_rld 1 <|
  c_geti 6 2 <|
  c_puti 6 2 <|
  c_rld 0 <|
  c_rld 1 <|
  c_geti 6 3 <|
  c_puti 6 3 <|
  c_rld 0 <|
  c_rld 1 <|
  c_geti 6 4 <|
  c_puti 6 4 <|
  c_rld 0 <|
  c_rld 1 <|
  c_geti 6 5 <|
  c_puti 6 5 <|
  c_rld 0 <|
  c_rld 1 <|
  c_geti 6 6 <|
  c_puti 6 6 <|
  c_rld 1 <|
  c_getr 6 7 <|
  c_i (0) <|
  c_rld 0 <|
  c_getr 6 7 <|
  c_i (0) <|
  c_i (144) <|
  c_copy <|
  c_rld 0 <|
  c_getr 6 8 <|
  c_rld 1 <|
  c_getr 6 8 <|
  c_callV 7 1 (fX7_copyFrom N) <|
  c_rld 0 <|
  c_getr 6 9 <|
  c_rld 1 <|
  c_getr 6 9 <|
  c_callV 7 1 (fX7_copyFrom N) <|
  c_rld 0 <|
  c_getr 6 10 <|
  c_rld 1 <|
  c_getr 6 10 <|
  c_callV 7 1 (fX7_copyFrom N) <|
  c_rld 0 <|
  c_getr 6 11 <|
  c_rld 1 <|
  c_getr 6 11 <|
  c_callV 7 1 (fX7_copyFrom N) <|
  c_rld 0 <|
  c_getr 6 12 <|
  c_rld 1 <|
  c_getr 6 12 <|
  c_callV 7 1 (fX7_copyFrom N) <|
  c_vret
noncomputable def fX6_copyFrom (N : Nat) : am_F := am_fn 2 (kX6_copyFrom_0 N)
set_option maxRecDepth 20000 in
theorem vX6_copyFrom_0 (l : Launch) (hfl : l.stackTraces = false) (N : Nat)  : am_V l cX6_copyFrom 2 RX6 (am_E none yX6_copyFrom.name) 2 82 0 (kX6_copyFrom_0 N) := by
  refine av_live ?_
  refine av_aload_n dX6_copyFrom_0 rfl ?_
  refine av_aload_n dX6_copyFrom_1 rfl ?_
  refine av_geti am_ci6 (by decide) am_f6_0 q82 dX6_copyFrom_2 ?_
  refine av_puti am_ci6 (by decide) am_f6_0 q82 (tyX6_ok 0 (by decide)) rfl dX6_copyFrom_5 ?_
  refine av_aload_n dX6_copyFrom_8 rfl ?_
  refine av_aload_n dX6_copyFrom_9 rfl ?_
  refine av_geti am_ci6 (by decide) am_f6_1 q83 dX6_copyFrom_10 ?_
  refine av_puti am_ci6 (by decide) am_f6_1 q83 (tyX6_ok 1 (by decide)) rfl dX6_copyFrom_13 ?_
  refine av_aload_n dX6_copyFrom_16 rfl ?_
  refine av_aload_n dX6_copyFrom_17 rfl ?_
  refine av_geti am_ci6 (by decide) am_f6_2 q93 dX6_copyFrom_18 ?_
  refine av_puti am_ci6 (by decide) am_f6_2 q93 (tyX6_ok 2 (by decide)) rfl dX6_copyFrom_21 ?_
  refine av_aload_n dX6_copyFrom_24 rfl ?_
  refine av_aload_n dX6_copyFrom_25 rfl ?_
  refine av_geti am_ci6 (by decide) am_f6_3 q94 dX6_copyFrom_26 ?_
  refine av_puti am_ci6 (by decide) am_f6_3 q94 (tyX6_ok 3 (by decide)) rfl dX6_copyFrom_29 ?_
  refine av_aload_n dX6_copyFrom_32 rfl ?_
  refine av_aload_n dX6_copyFrom_33 rfl ?_
  refine av_geti am_ci6 (by decide) am_f6_4 q95 dX6_copyFrom_34 ?_
  refine av_puti am_ci6 (by decide) am_f6_4 q95 (tyX6_ok 4 (by decide)) rfl dX6_copyFrom_37 ?_
  refine av_aload_n dX6_copyFrom_40 rfl ?_
  refine av_aload_n dX6_copyFrom_41 rfl ?_
  refine av_geti am_ci6 (by decide) am_f6_5 q84 dX6_copyFrom_42 ?_
  refine av_puti am_ci6 (by decide) am_f6_5 q84 (tyX6_ok 5 (by decide)) rfl dX6_copyFrom_45 ?_
  refine av_aload_n dX6_copyFrom_48 rfl ?_
  refine av_aload_n dX6_copyFrom_49 rfl ?_
  refine av_geti am_ci6 (by decide) am_f6_6 q96 dX6_copyFrom_50 ?_
  refine av_puti am_ci6 (by decide) am_f6_6 q96 (tyX6_ok 6 (by decide)) rfl dX6_copyFrom_53 ?_
  refine av_aload_n dX6_copyFrom_56 rfl ?_
  refine av_getr am_ci6 (by decide) am_f6_7 q70 dX6_copyFrom_57 ?_
  refine av_iconst (v := 0) dX6_copyFrom_60 (by decide) ?_
  refine av_aload_n dX6_copyFrom_61 rfl ?_
  refine av_getr am_ci6 (by decide) am_f6_7 q70 dX6_copyFrom_62 ?_
  refine av_iconst (v := 0) dX6_copyFrom_65 (by decide) ?_
  refine av_sipush (v := 144) dX6_copyFrom_66 (by decide) ?_
  refine av_copy q97 q33 q34 q35 (by decide) (by decide +kernel) dX6_copyFrom_69 ?_
  refine av_aload_n dX6_copyFrom_72 rfl ?_
  refine av_getr am_ci6 (by decide) am_f6_8 q77 dX6_copyFrom_73 ?_
  refine av_aload_n dX6_copyFrom_76 rfl ?_
  refine av_getr am_ci6 (by decide) am_f6_8 q77 dX6_copyFrom_77 ?_
  refine av_callV am_hT (mX7_copyFrom l hfl N) am_ci7 ⟨by decide +kernel, by decide +kernel, by decide +kernel⟩ q98 q99 q73 q100 q101 (by decide) (by decide) dX6_copyFrom_80 ?_
  refine av_aload_n dX6_copyFrom_83 rfl ?_
  refine av_getr am_ci6 (by decide) am_f6_9 q78 dX6_copyFrom_84 ?_
  refine av_aload_n dX6_copyFrom_87 rfl ?_
  refine av_getr am_ci6 (by decide) am_f6_9 q78 dX6_copyFrom_88 ?_
  refine av_callV am_hT (mX7_copyFrom l hfl N) am_ci7 ⟨by decide +kernel, by decide +kernel, by decide +kernel⟩ q98 q99 q73 q100 q101 (by decide) (by decide) dX6_copyFrom_91 ?_
  refine av_aload_n dX6_copyFrom_94 rfl ?_
  refine av_getr am_ci6 (by decide) am_f6_10 q79 dX6_copyFrom_95 ?_
  refine av_aload_n dX6_copyFrom_98 rfl ?_
  refine av_getr am_ci6 (by decide) am_f6_10 q79 dX6_copyFrom_99 ?_
  refine av_callV am_hT (mX7_copyFrom l hfl N) am_ci7 ⟨by decide +kernel, by decide +kernel, by decide +kernel⟩ q98 q99 q73 q100 q101 (by decide) (by decide) dX6_copyFrom_102 ?_
  refine av_aload_n dX6_copyFrom_105 rfl ?_
  refine av_getr am_ci6 (by decide) am_f6_11 q80 dX6_copyFrom_106 ?_
  refine av_aload_n dX6_copyFrom_109 rfl ?_
  refine av_getr am_ci6 (by decide) am_f6_11 q80 dX6_copyFrom_110 ?_
  refine av_callV am_hT (mX7_copyFrom l hfl N) am_ci7 ⟨by decide +kernel, by decide +kernel, by decide +kernel⟩ q98 q99 q73 q100 q101 (by decide) (by decide) dX6_copyFrom_113 ?_
  refine av_aload_n dX6_copyFrom_116 rfl ?_
  refine av_getr am_ci6 (by decide) am_f6_12 q81 dX6_copyFrom_117 ?_
  refine av_aload_n dX6_copyFrom_120 rfl ?_
  refine av_getr am_ci6 (by decide) am_f6_12 q81 dX6_copyFrom_121 ?_
  refine av_callV am_hT (mX7_copyFrom l hfl N) am_ci7 ⟨by decide +kernel, by decide +kernel, by decide +kernel⟩ q98 q99 q73 q100 q101 (by decide) (by decide) dX6_copyFrom_124 ?_
  exact av_return_ am_hv dX6_copyFrom_127
theorem mX6_copyFrom (l : Launch) (hfl : l.stackTraces = false) (N : Nat) : am_M l yX6_copyFrom cX6_copyFrom 2 none 2 82 (fX6_copyFrom N) := av_meth hfl (by decide +kernel) rfl (vX6_copyFrom_0 l hfl N)
/-! MessengerBoard$Situation.begin()V -/
noncomputable def kX6_begin_0 (N : Nat) : am_K := c_live [0] <|
  c_rld 0 <|
  c_i (3) <|
  c_puti 6 0 <|
  c_rld 0 <|
  c_i (3) <|
  c_puti 6 1 <|
  c_rld 0 <|
  c_i (0) <|
  c_puti 6 2 <|
  c_rld 0 <|
  c_i (0) <|
  c_puti 6 3 <|
  c_rld 0 <|
  c_i (0) <|
  c_puti 6 4 <|
  c_rld 0 <|
  c_i (30) <|
  c_puti 6 5 <|
  c_rld 0 <|
  c_i (0) <|
  c_puti 6 6 <|
  c_rld 0 <|
  c_getr 6 7 <|
  c_i (0) <|
  c_callS 2 (fJ7_fill_53178 N) <|
  c_rld 0 <|
  c_getr 6 8 <|
  c_callV 7 0 (fX7_clear N) <|
  c_rld 0 <|
  c_getr 6 9 <|
  c_callV 7 0 (fX7_clear N) <|
  c_rld 0 <|
  c_getr 6 10 <|
  c_callV 7 0 (fX7_clear N) <|
  c_rld 0 <|
  c_getr 6 11 <|
  c_callV 7 0 (fX7_clear N) <|
  c_rld 0 <|
  c_getr 6 12 <|
  c_callV 7 0 (fX7_clear N) <|
  c_vret
noncomputable def fX6_begin (N : Nat) : am_F := am_fn 1 (kX6_begin_0 N)
set_option maxRecDepth 20000 in
theorem vX6_begin_0 (l : Launch) (hfl : l.stackTraces = false) (N : Nat)  : am_V l cX6_begin 1 RX6 (am_E none yX6_begin.name) 2 83 0 (kX6_begin_0 N) := by
  refine av_live ?_
  refine av_aload_n dX6_begin_0 rfl ?_
  refine av_iconst (v := 3) dX6_begin_1 (by decide) ?_
  refine av_puti am_ci6 (by decide) am_f6_0 q82 (tyX6_ok 0 (by decide)) rfl dX6_begin_2 ?_
  refine av_aload_n dX6_begin_5 rfl ?_
  refine av_iconst (v := 3) dX6_begin_6 (by decide) ?_
  refine av_puti am_ci6 (by decide) am_f6_1 q83 (tyX6_ok 1 (by decide)) rfl dX6_begin_7 ?_
  refine av_aload_n dX6_begin_10 rfl ?_
  refine av_iconst (v := 0) dX6_begin_11 (by decide) ?_
  refine av_puti am_ci6 (by decide) am_f6_2 q93 (tyX6_ok 2 (by decide)) rfl dX6_begin_12 ?_
  refine av_aload_n dX6_begin_15 rfl ?_
  refine av_iconst (v := 0) dX6_begin_16 (by decide) ?_
  refine av_puti am_ci6 (by decide) am_f6_3 q94 (tyX6_ok 3 (by decide)) rfl dX6_begin_17 ?_
  refine av_aload_n dX6_begin_20 rfl ?_
  refine av_iconst (v := 0) dX6_begin_21 (by decide) ?_
  refine av_puti am_ci6 (by decide) am_f6_4 q95 (tyX6_ok 4 (by decide)) rfl dX6_begin_22 ?_
  refine av_aload_n dX6_begin_25 rfl ?_
  refine av_bipush (v := 30) dX6_begin_26 (by decide) ?_
  refine av_puti am_ci6 (by decide) am_f6_5 q84 (tyX6_ok 5 (by decide)) rfl dX6_begin_28 ?_
  refine av_aload_n dX6_begin_31 rfl ?_
  refine av_iconst (v := 0) dX6_begin_32 (by decide) ?_
  refine av_puti am_ci6 (by decide) am_f6_6 q96 (tyX6_ok 6 (by decide)) rfl dX6_begin_33 ?_
  refine av_aload_n dX6_begin_36 rfl ?_
  refine av_getr am_ci6 (by decide) am_f6_7 q70 dX6_begin_37 ?_
  refine av_iconst (v := 0) dX6_begin_40 (by decide) ?_
  refine av_callS am_hT (mJ7_fill_53178 l hfl N) ⟨by decide +kernel, by decide +kernel, by decide +kernel⟩ q102 q103 q104 q105 (by decide) (by decide) dX6_begin_41 ?_
  refine av_aload_n dX6_begin_44 rfl ?_
  refine av_getr am_ci6 (by decide) am_f6_8 q77 dX6_begin_45 ?_
  refine av_callV am_hT (mX7_clear l hfl N) am_ci7 ⟨by decide +kernel, by decide +kernel, by decide +kernel⟩ q106 q107 q73 q108 q109 (by decide) (by decide) dX6_begin_48 ?_
  refine av_aload_n dX6_begin_51 rfl ?_
  refine av_getr am_ci6 (by decide) am_f6_9 q78 dX6_begin_52 ?_
  refine av_callV am_hT (mX7_clear l hfl N) am_ci7 ⟨by decide +kernel, by decide +kernel, by decide +kernel⟩ q106 q107 q73 q108 q109 (by decide) (by decide) dX6_begin_55 ?_
  refine av_aload_n dX6_begin_58 rfl ?_
  refine av_getr am_ci6 (by decide) am_f6_10 q79 dX6_begin_59 ?_
  refine av_callV am_hT (mX7_clear l hfl N) am_ci7 ⟨by decide +kernel, by decide +kernel, by decide +kernel⟩ q106 q107 q73 q108 q109 (by decide) (by decide) dX6_begin_62 ?_
  refine av_aload_n dX6_begin_65 rfl ?_
  refine av_getr am_ci6 (by decide) am_f6_11 q80 dX6_begin_66 ?_
  refine av_callV am_hT (mX7_clear l hfl N) am_ci7 ⟨by decide +kernel, by decide +kernel, by decide +kernel⟩ q106 q107 q73 q108 q109 (by decide) (by decide) dX6_begin_69 ?_
  refine av_aload_n dX6_begin_72 rfl ?_
  refine av_getr am_ci6 (by decide) am_f6_12 q81 dX6_begin_73 ?_
  refine av_callV am_hT (mX7_clear l hfl N) am_ci7 ⟨by decide +kernel, by decide +kernel, by decide +kernel⟩ q106 q107 q73 q108 q109 (by decide) (by decide) dX6_begin_76 ?_
  exact av_return_ am_hv dX6_begin_79
theorem mX6_begin (l : Launch) (hfl : l.stackTraces = false) (N : Nat) : am_M l yX6_begin cX6_begin 1 none 2 83 (fX6_begin N) := av_meth hfl (by decide +kernel) rfl (vX6_begin_0 l hfl N)
/-! MessengerBoard$Situation.walled(II)Z -/
noncomputable def kX6_walled_34 (N : Nat) : am_K := c_live [] <|
  c_zret
noncomputable def kX6_walled_33 (N : Nat) : am_K := c_live [] <|
  c_i (0) <|
  kX6_walled_34 N
noncomputable def kX6_walled_0 (N : Nat) : am_K := c_live [0, 1, 2] <|
  c_i (12) <|
  c_ild 2 <|
  c_ii (fun x y => x * y) <|
  c_ild 1 <|
  c_ii (fun x y => x + y) <|
  c_ist 3 <|
  c_ild 3 <|
  c_iflt (
  kX6_walled_33 N) <|
  c_ild 3 <|
  c_rld 0 <|
  c_getr 6 7 <|
  c_alen <|
  c_icge (
  kX6_walled_33 N) <|
  c_rld 0 <|
  c_getr 6 7 <|
  c_ild 3 <|
  c_ial <|
  c_ifeq (
  kX6_walled_33 N) <|
  c_i (1) <|
  kX6_walled_34 N
noncomputable def fX6_walled (N : Nat) : am_F := am_fn 4 (kX6_walled_0 N)
set_option maxRecDepth 20000 in
theorem vX6_walled_34 (l : Launch) (hfl : l.stackTraces = false) (N : Nat)  : am_V l cX6_walled 4 RX6 (am_E (some .boolean) yX6_walled.name) 1 60 34 (kX6_walled_34 N) := by
  refine av_live ?_
  exact av_zreturn am_hz dX6_walled_34
set_option maxRecDepth 20000 in
theorem vX6_walled_33 (l : Launch) (hfl : l.stackTraces = false) (N : Nat)  : am_V l cX6_walled 4 RX6 (am_E (some .boolean) yX6_walled.name) 1 60 33 (kX6_walled_33 N) := by
  refine av_live ?_
  refine av_iconst (v := 0) dX6_walled_33 (by decide) ?_
  exact vX6_walled_34 l hfl N
set_option maxRecDepth 20000 in
theorem vX6_walled_0 (l : Launch) (hfl : l.stackTraces = false) (N : Nat)  : am_V l cX6_walled 4 RX6 (am_E (some .boolean) yX6_walled.name) 1 60 0 (kX6_walled_0 N) := by
  refine av_live ?_
  refine av_bipush (v := 12) dX6_walled_0 (by decide) ?_
  refine av_iload_n dX6_walled_2 rfl ?_
  refine av_imul dX6_walled_3 ?_
  refine av_iload_n dX6_walled_4 rfl ?_
  refine av_iadd dX6_walled_5 ?_
  refine av_istore_n dX6_walled_6 rfl (by decide) ?_
  refine av_iload_n dX6_walled_7 rfl ?_
  refine av_iflt (tgt := 33) dX6_walled_8 (by decide) ?_ ?_
  · exact vX6_walled_33 l hfl N
  refine av_iload_n dX6_walled_11 rfl ?_
  refine av_aload_n dX6_walled_12 rfl ?_
  refine av_getr am_ci6 (by decide) am_f6_7 q70 dX6_walled_13 ?_
  refine av_arraylength dX6_walled_16 ?_
  refine av_icge (tgt := 33) dX6_walled_17 (by decide) ?_ ?_
  · exact vX6_walled_33 l hfl N
  refine av_aload_n dX6_walled_20 rfl ?_
  refine av_getr am_ci6 (by decide) am_f6_7 q70 dX6_walled_21 ?_
  refine av_iload_n dX6_walled_24 rfl ?_
  refine av_iaload dX6_walled_25 ?_
  refine av_ifeq (tgt := 33) dX6_walled_26 (by decide) ?_ ?_
  · exact vX6_walled_33 l hfl N
  refine av_iconst (v := 1) dX6_walled_29 (by decide) ?_
  refine av_goto (tgt := 34) dX6_walled_30 (by decide) ?_
  exact vX6_walled_34 l hfl N
theorem mX6_walled (l : Launch) (hfl : l.stackTraces = false) (N : Nat) : am_M l yX6_walled cX6_walled 4 (some .boolean) 1 60 (fX6_walled N) := av_meth hfl (by decide +kernel) rfl (vX6_walled_0 l hfl N)
/-! MessengerBoard$Situation.isHeadquarters(II)Z -/
noncomputable def kX6_isHeadquarters_21 (N : Nat) : am_K := c_live [] <|
  c_zret
noncomputable def kX6_isHeadquarters_20 (N : Nat) : am_K := c_live [] <|
  c_i (0) <|
  kX6_isHeadquarters_21 N
noncomputable def kX6_isHeadquarters_0 (N : Nat) : am_K := c_live [0, 1, 2] <|
  c_ild 1 <|
  c_rld 0 <|
  c_geti 6 2 <|
  c_icne (
  kX6_isHeadquarters_20 N) <|
  c_ild 2 <|
  c_rld 0 <|
  c_geti 6 3 <|
  c_icne (
  kX6_isHeadquarters_20 N) <|
  c_i (1) <|
  kX6_isHeadquarters_21 N
noncomputable def fX6_isHeadquarters (N : Nat) : am_F := am_fn 3 (kX6_isHeadquarters_0 N)
set_option maxRecDepth 20000 in
theorem vX6_isHeadquarters_21 (l : Launch) (hfl : l.stackTraces = false) (N : Nat)  : am_V l cX6_isHeadquarters 3 RX6 (am_E (some .boolean) yX6_isHeadquarters.name) 1 60 21 (kX6_isHeadquarters_21 N) := by
  refine av_live ?_
  exact av_zreturn am_hz dX6_isHeadquarters_21
set_option maxRecDepth 20000 in
theorem vX6_isHeadquarters_20 (l : Launch) (hfl : l.stackTraces = false) (N : Nat)  : am_V l cX6_isHeadquarters 3 RX6 (am_E (some .boolean) yX6_isHeadquarters.name) 1 60 20 (kX6_isHeadquarters_20 N) := by
  refine av_live ?_
  refine av_iconst (v := 0) dX6_isHeadquarters_20 (by decide) ?_
  exact vX6_isHeadquarters_21 l hfl N
set_option maxRecDepth 20000 in
theorem vX6_isHeadquarters_0 (l : Launch) (hfl : l.stackTraces = false) (N : Nat)  : am_V l cX6_isHeadquarters 3 RX6 (am_E (some .boolean) yX6_isHeadquarters.name) 1 60 0 (kX6_isHeadquarters_0 N) := by
  refine av_live ?_
  refine av_iload_n dX6_isHeadquarters_0 rfl ?_
  refine av_aload_n dX6_isHeadquarters_1 rfl ?_
  refine av_geti am_ci6 (by decide) am_f6_2 q93 dX6_isHeadquarters_2 ?_
  refine av_icne (tgt := 20) dX6_isHeadquarters_5 (by decide) ?_ ?_
  · exact vX6_isHeadquarters_20 l hfl N
  refine av_iload_n dX6_isHeadquarters_8 rfl ?_
  refine av_aload_n dX6_isHeadquarters_9 rfl ?_
  refine av_geti am_ci6 (by decide) am_f6_3 q94 dX6_isHeadquarters_10 ?_
  refine av_icne (tgt := 20) dX6_isHeadquarters_13 (by decide) ?_ ?_
  · exact vX6_isHeadquarters_20 l hfl N
  refine av_iconst (v := 1) dX6_isHeadquarters_16 (by decide) ?_
  refine av_goto (tgt := 21) dX6_isHeadquarters_17 (by decide) ?_
  exact vX6_isHeadquarters_21 l hfl N
theorem mX6_isHeadquarters (l : Launch) (hfl : l.stackTraces = false) (N : Nat) : am_M l yX6_isHeadquarters cX6_isHeadquarters 3 (some .boolean) 1 60 (fX6_isHeadquarters N) := av_meth hfl (by decide +kernel) rfl (vX6_isHeadquarters_0 l hfl N)
/-! MessengerBoard$Situation.lowestUnitAt(II)I -/
noncomputable def kX6_lowestUnitAt_48 (N : Nat) (r11 : am_K) : am_K := c_live [0, 1, 2, 3, 4] <|
  c_inc 4 (1) <|
  c_live [0, 1, 2, 3, 4] r11
noncomputable def bX6_lowestUnitAt_11 (N : Nat) (r11 : am_K) : am_K :=
  c_ild 4 <|
  c_ild 3 <|
  c_icge (
  c_i (-1) <|
  c_iret) <|
  c_rld 0 <|
  c_getr 6 8 <|
  c_ild 4 <|
  c_i (0) <|
  c_callV 7 2 (fX7_get N) <|
  c_ild 1 <|
  c_icne (
  kX6_lowestUnitAt_48 N r11) <|
  c_rld 0 <|
  c_getr 6 8 <|
  c_ild 4 <|
  c_i (1) <|
  c_callV 7 2 (fX7_get N) <|
  c_ild 2 <|
  c_icne (
  kX6_lowestUnitAt_48 N r11) <|
  c_ild 4 <|
  c_iret
noncomputable def kX6_lowestUnitAt_11 (N : Nat) : am_K := c_live [0, 1, 2, 3, 4] (am_loop (bX6_lowestUnitAt_11 N) N)
noncomputable def kX6_lowestUnitAt_0 (N : Nat) : am_K := c_live [0, 1, 2] <|
  c_rld 0 <|
  c_getr 6 8 <|
  c_callV 7 0 (fX7_count N) <|
  c_ist 3 <|
  c_i (0) <|
  c_ist 4 <|
  kX6_lowestUnitAt_11 N
noncomputable def fX6_lowestUnitAt (N : Nat) : am_F := am_fn 5 (kX6_lowestUnitAt_0 N)
set_option maxRecDepth 20000 in
theorem vX6_lowestUnitAt_48 (l : Launch) (hfl : l.stackTraces = false) (N : Nat)  {r11 : am_K} (h11 : am_V l cX6_lowestUnitAt 5 RX6 (am_E (some .int) yX6_lowestUnitAt.name) 2 84 11 r11) : am_V l cX6_lowestUnitAt 5 RX6 (am_E (some .int) yX6_lowestUnitAt.name) 2 84 48 (kX6_lowestUnitAt_48 N r11) := by
  refine av_live ?_
  refine av_iinc dX6_lowestUnitAt_48 (by decide) (by decide) ?_
  refine av_goto (tgt := 11) dX6_lowestUnitAt_51 (by decide) ?_
  exact av_live h11
set_option maxRecDepth 20000 in
theorem vX6_lowestUnitAt_11 (l : Launch) (hfl : l.stackTraces = false) (N : Nat)  : am_V l cX6_lowestUnitAt 5 RX6 (am_E (some .int) yX6_lowestUnitAt.name) 2 84 11 (kX6_lowestUnitAt_11 N) := by
  refine av_live ?_
  refine av_loop (fun r11 h11 => ?_) N
  refine av_iload dX6_lowestUnitAt_11 ?_
  refine av_iload_n dX6_lowestUnitAt_13 rfl ?_
  refine av_icge (tgt := 54) dX6_lowestUnitAt_14 (by decide) ?_ ?_
  · refine av_iconst (v := -1) dX6_lowestUnitAt_54 (by decide) ?_
    exact av_ireturn am_hi dX6_lowestUnitAt_55
  refine av_aload_n dX6_lowestUnitAt_17 rfl ?_
  refine av_getr am_ci6 (by decide) am_f6_8 q77 dX6_lowestUnitAt_18 ?_
  refine av_iload dX6_lowestUnitAt_21 ?_
  refine av_iconst (v := 0) dX6_lowestUnitAt_23 (by decide) ?_
  refine av_callV am_hT (mX7_get l hfl N) am_ci7 ⟨by decide +kernel, by decide +kernel, by decide +kernel⟩ q85 q86 q73 q87 q88 (by decide) (by decide) dX6_lowestUnitAt_24 ?_
  refine av_iload_n dX6_lowestUnitAt_27 rfl ?_
  refine av_icne (tgt := 48) dX6_lowestUnitAt_28 (by decide) ?_ ?_
  · exact vX6_lowestUnitAt_48 l hfl N h11
  refine av_aload_n dX6_lowestUnitAt_31 rfl ?_
  refine av_getr am_ci6 (by decide) am_f6_8 q77 dX6_lowestUnitAt_32 ?_
  refine av_iload dX6_lowestUnitAt_35 ?_
  refine av_iconst (v := 1) dX6_lowestUnitAt_37 (by decide) ?_
  refine av_callV am_hT (mX7_get l hfl N) am_ci7 ⟨by decide +kernel, by decide +kernel, by decide +kernel⟩ q85 q86 q73 q87 q88 (by decide) (by decide) dX6_lowestUnitAt_38 ?_
  refine av_iload_n dX6_lowestUnitAt_41 rfl ?_
  refine av_icne (tgt := 48) dX6_lowestUnitAt_42 (by decide) ?_ ?_
  · exact vX6_lowestUnitAt_48 l hfl N h11
  refine av_iload dX6_lowestUnitAt_45 ?_
  exact av_ireturn am_hi dX6_lowestUnitAt_47
set_option maxRecDepth 20000 in
theorem vX6_lowestUnitAt_0 (l : Launch) (hfl : l.stackTraces = false) (N : Nat)  : am_V l cX6_lowestUnitAt 5 RX6 (am_E (some .int) yX6_lowestUnitAt.name) 2 84 0 (kX6_lowestUnitAt_0 N) := by
  refine av_live ?_
  refine av_aload_n dX6_lowestUnitAt_0 rfl ?_
  refine av_getr am_ci6 (by decide) am_f6_8 q77 dX6_lowestUnitAt_1 ?_
  refine av_callV am_hT (mX7_count l hfl N) am_ci7 ⟨by decide +kernel, by decide +kernel, by decide +kernel⟩ q89 q90 q73 q91 q92 (by decide) (by decide) dX6_lowestUnitAt_4 ?_
  refine av_istore_n dX6_lowestUnitAt_7 rfl (by decide) ?_
  refine av_iconst (v := 0) dX6_lowestUnitAt_8 (by decide) ?_
  refine av_istore dX6_lowestUnitAt_9 (by decide) ?_
  exact vX6_lowestUnitAt_11 l hfl N
theorem mX6_lowestUnitAt (l : Launch) (hfl : l.stackTraces = false) (N : Nat) : am_M l yX6_lowestUnitAt cX6_lowestUnitAt 5 (some .int) 2 84 (fX6_lowestUnitAt N) := av_meth hfl (by decide +kernel) rfl (vX6_lowestUnitAt_0 l hfl N)
/-! MessengerBoard.cellAt(II)I -/
noncomputable def kX10_cellAt_0 (N : Nat) : am_K := c_live [0, 1] <|
  c_i (12) <|
  c_ild 1 <|
  c_ii (fun x y => x * y) <|
  c_ild 0 <|
  c_ii (fun x y => x + y) <|
  c_iret
noncomputable def fX10_cellAt (N : Nat) : am_F := am_fn 2 (kX10_cellAt_0 N)
set_option maxRecDepth 20000 in
theorem vX10_cellAt_0 (l : Launch) (hfl : l.stackTraces = false) (N : Nat)  : am_V l cX10_cellAt 2 RX10 (am_E (some .int) yX10_cellAt.name) 1 60 0 (kX10_cellAt_0 N) := by
  refine av_live ?_
  refine av_bipush (v := 12) dX10_cellAt_0 (by decide) ?_
  refine av_iload_n dX10_cellAt_2 rfl ?_
  refine av_imul dX10_cellAt_3 ?_
  refine av_iload_n dX10_cellAt_4 rfl ?_
  refine av_iadd dX10_cellAt_5 ?_
  exact av_ireturn am_hi dX10_cellAt_6
theorem mX10_cellAt (l : Launch) (hfl : l.stackTraces = false) (N : Nat) : am_M l yX10_cellAt cX10_cellAt 2 (some .int) 1 60 (fX10_cellAt N) := av_meth hfl (by decide +kernel) rfl (vX10_cellAt_0 l hfl N)
/-! MessengerBoard$Situation.turnWall(II)V -/
noncomputable def kX6_turnWall_56 (N : Nat) : am_K := c_live [] <|
  c_vret
noncomputable def kX6_turnWall_52 (N : Nat) : am_K := c_live [] <|
  c_ii (fun x y => x + y) <|
  c_puti 6 6 <|
  kX6_turnWall_56 N
noncomputable def kX6_turnWall_0 (N : Nat) : am_K := c_live [0, 1, 2] <|
  c_ild 1 <|
  c_ild 2 <|
  c_callSN 2 (fX10_cellAt N) <|
  c_ist 3 <|
  c_ild 3 <|
  c_iflt (
  kX6_turnWall_56 N) <|
  c_ild 3 <|
  c_rld 0 <|
  c_getr 6 7 <|
  c_alen <|
  c_icge (
  kX6_turnWall_56 N) <|
  c_rld 0 <|
  c_getr 6 7 <|
  c_ild 3 <|
  c_i (1) <|
  c_rld 0 <|
  c_getr 6 7 <|
  c_ild 3 <|
  c_ial <|
  c_ii (fun x y => x - y) <|
  c_ias <|
  c_rld 0 <|
  c_dup <|
  c_geti 6 6 <|
  c_rld 0 <|
  c_getr 6 7 <|
  c_ild 3 <|
  c_ial <|
  c_ifeq (
  c_i (-1) <|
  kX6_turnWall_52 N) <|
  c_i (1) <|
  kX6_turnWall_52 N
noncomputable def fX6_turnWall (N : Nat) : am_F := am_fn 4 (kX6_turnWall_0 N)
set_option maxRecDepth 20000 in
theorem vX6_turnWall_56 (l : Launch) (hfl : l.stackTraces = false) (N : Nat)  : am_V l cX6_turnWall 4 RX6 (am_E none yX6_turnWall.name) 2 81 56 (kX6_turnWall_56 N) := by
  refine av_live ?_
  exact av_return_ am_hv dX6_turnWall_56
set_option maxRecDepth 20000 in
theorem vX6_turnWall_52 (l : Launch) (hfl : l.stackTraces = false) (N : Nat)  : am_V l cX6_turnWall 4 RX6 (am_E none yX6_turnWall.name) 2 81 52 (kX6_turnWall_52 N) := by
  refine av_live ?_
  refine av_iadd dX6_turnWall_52 ?_
  refine av_puti am_ci6 (by decide) am_f6_6 q96 (tyX6_ok 6 (by decide)) rfl dX6_turnWall_53 ?_
  exact vX6_turnWall_56 l hfl N
set_option maxRecDepth 20000 in
theorem vX6_turnWall_0 (l : Launch) (hfl : l.stackTraces = false) (N : Nat)  : am_V l cX6_turnWall 4 RX6 (am_E none yX6_turnWall.name) 2 81 0 (kX6_turnWall_0 N) := by
  refine av_live ?_
  refine av_iload_n dX6_turnWall_0 rfl ?_
  refine av_iload_n dX6_turnWall_1 rfl ?_
  refine av_callSN (mX10_cellAt l hfl N) ⟨by decide +kernel, by decide +kernel, by decide +kernel⟩ n2 q110 q111 q112 (by decide) (by decide) dX6_turnWall_2 ?_
  refine av_istore_n dX6_turnWall_5 rfl (by decide) ?_
  refine av_iload_n dX6_turnWall_6 rfl ?_
  refine av_iflt (tgt := 56) dX6_turnWall_7 (by decide) ?_ ?_
  · exact vX6_turnWall_56 l hfl N
  refine av_iload_n dX6_turnWall_10 rfl ?_
  refine av_aload_n dX6_turnWall_11 rfl ?_
  refine av_getr am_ci6 (by decide) am_f6_7 q70 dX6_turnWall_12 ?_
  refine av_arraylength dX6_turnWall_15 ?_
  refine av_icge (tgt := 56) dX6_turnWall_16 (by decide) ?_ ?_
  · exact vX6_turnWall_56 l hfl N
  refine av_aload_n dX6_turnWall_19 rfl ?_
  refine av_getr am_ci6 (by decide) am_f6_7 q70 dX6_turnWall_20 ?_
  refine av_iload_n dX6_turnWall_23 rfl ?_
  refine av_iconst (v := 1) dX6_turnWall_24 (by decide) ?_
  refine av_aload_n dX6_turnWall_25 rfl ?_
  refine av_getr am_ci6 (by decide) am_f6_7 q70 dX6_turnWall_26 ?_
  refine av_iload_n dX6_turnWall_29 rfl ?_
  refine av_iaload dX6_turnWall_30 ?_
  refine av_isub dX6_turnWall_31 ?_
  refine av_iastore dX6_turnWall_32 ?_
  refine av_aload_n dX6_turnWall_33 rfl ?_
  refine av_dup dX6_turnWall_34 ?_
  refine av_geti am_ci6 (by decide) am_f6_6 q96 dX6_turnWall_35 ?_
  refine av_aload_n dX6_turnWall_38 rfl ?_
  refine av_getr am_ci6 (by decide) am_f6_7 q70 dX6_turnWall_39 ?_
  refine av_iload_n dX6_turnWall_42 rfl ?_
  refine av_iaload dX6_turnWall_43 ?_
  refine av_ifeq (tgt := 51) dX6_turnWall_44 (by decide) ?_ ?_
  · refine av_iconst (v := -1) dX6_turnWall_51 (by decide) ?_
    exact vX6_turnWall_52 l hfl N
  refine av_iconst (v := 1) dX6_turnWall_47 (by decide) ?_
  refine av_goto (tgt := 52) dX6_turnWall_48 (by decide) ?_
  exact vX6_turnWall_52 l hfl N
theorem mX6_turnWall (l : Launch) (hfl : l.stackTraces = false) (N : Nat) : am_M l yX6_turnWall cX6_turnWall 4 none 2 81 (fX6_turnWall N) := av_meth hfl (by decide +kernel) rfl (vX6_turnWall_0 l hfl N)
/-! MessengerBoard$Situation.addUnit(III)I -/
noncomputable def kX6_addUnit_0 (N : Nat) : am_K := c_live [0, 1, 2, 3] <|
  c_rld 0 <|
  c_getr 6 8 <|
  c_callV 7 0 (fX7_add N) <|
  c_ist 4 <|
  c_rld 0 <|
  c_getr 6 8 <|
  c_ild 4 <|
  c_i (0) <|
  c_ild 1 <|
  c_callV 7 3 (fX7_put N) <|
  c_rld 0 <|
  c_getr 6 8 <|
  c_ild 4 <|
  c_i (1) <|
  c_ild 2 <|
  c_callV 7 3 (fX7_put N) <|
  c_rld 0 <|
  c_getr 6 8 <|
  c_ild 4 <|
  c_i (2) <|
  c_ild 3 <|
  c_callV 7 3 (fX7_put N) <|
  c_rld 0 <|
  c_getr 6 8 <|
  c_ild 4 <|
  c_i (3) <|
  c_i (-1) <|
  c_callV 7 3 (fX7_put N) <|
  c_ild 4 <|
  c_iret
noncomputable def fX6_addUnit (N : Nat) : am_F := am_fn 5 (kX6_addUnit_0 N)
set_option maxRecDepth 20000 in
theorem vX6_addUnit_0 (l : Launch) (hfl : l.stackTraces = false) (N : Nat)  : am_V l cX6_addUnit 5 RX6 (am_E (some .int) yX6_addUnit.name) 2 85 0 (kX6_addUnit_0 N) := by
  refine av_live ?_
  refine av_aload_n dX6_addUnit_0 rfl ?_
  refine av_getr am_ci6 (by decide) am_f6_8 q77 dX6_addUnit_1 ?_
  refine av_callV am_hT (mX7_add l hfl N) am_ci7 ⟨by decide +kernel, by decide +kernel, by decide +kernel⟩ q113 q114 q73 q115 q116 (by decide) (by decide) dX6_addUnit_4 ?_
  refine av_istore dX6_addUnit_7 (by decide) ?_
  refine av_aload_n dX6_addUnit_9 rfl ?_
  refine av_getr am_ci6 (by decide) am_f6_8 q77 dX6_addUnit_10 ?_
  refine av_iload dX6_addUnit_13 ?_
  refine av_iconst (v := 0) dX6_addUnit_15 (by decide) ?_
  refine av_iload_n dX6_addUnit_16 rfl ?_
  refine av_callV am_hT (mX7_put l hfl N) am_ci7 ⟨by decide +kernel, by decide +kernel, by decide +kernel⟩ q117 q118 q73 q119 q120 (by decide) (by decide) dX6_addUnit_17 ?_
  refine av_aload_n dX6_addUnit_20 rfl ?_
  refine av_getr am_ci6 (by decide) am_f6_8 q77 dX6_addUnit_21 ?_
  refine av_iload dX6_addUnit_24 ?_
  refine av_iconst (v := 1) dX6_addUnit_26 (by decide) ?_
  refine av_iload_n dX6_addUnit_27 rfl ?_
  refine av_callV am_hT (mX7_put l hfl N) am_ci7 ⟨by decide +kernel, by decide +kernel, by decide +kernel⟩ q117 q118 q73 q119 q120 (by decide) (by decide) dX6_addUnit_28 ?_
  refine av_aload_n dX6_addUnit_31 rfl ?_
  refine av_getr am_ci6 (by decide) am_f6_8 q77 dX6_addUnit_32 ?_
  refine av_iload dX6_addUnit_35 ?_
  refine av_iconst (v := 2) dX6_addUnit_37 (by decide) ?_
  refine av_iload_n dX6_addUnit_38 rfl ?_
  refine av_callV am_hT (mX7_put l hfl N) am_ci7 ⟨by decide +kernel, by decide +kernel, by decide +kernel⟩ q117 q118 q73 q119 q120 (by decide) (by decide) dX6_addUnit_39 ?_
  refine av_aload_n dX6_addUnit_42 rfl ?_
  refine av_getr am_ci6 (by decide) am_f6_8 q77 dX6_addUnit_43 ?_
  refine av_iload dX6_addUnit_46 ?_
  refine av_iconst (v := 3) dX6_addUnit_48 (by decide) ?_
  refine av_iconst (v := -1) dX6_addUnit_49 (by decide) ?_
  refine av_callV am_hT (mX7_put l hfl N) am_ci7 ⟨by decide +kernel, by decide +kernel, by decide +kernel⟩ q117 q118 q73 q119 q120 (by decide) (by decide) dX6_addUnit_50 ?_
  refine av_iload dX6_addUnit_53 ?_
  exact av_ireturn am_hi dX6_addUnit_55
theorem mX6_addUnit (l : Launch) (hfl : l.stackTraces = false) (N : Nat) : am_M l yX6_addUnit cX6_addUnit 5 (some .int) 2 85 (fX6_addUnit N) := av_meth hfl (by decide +kernel) rfl (vX6_addUnit_0 l hfl N)
/-! MessengerBoard$Situation.obeyedBy(I)I -/
noncomputable def kX6_obeyedBy_28 (N : Nat) : am_K := c_live [] <|
  c_iret
noncomputable def kX6_obeyedBy_0 (N : Nat) : am_K := c_live [0, 1] <|
  c_rld 0 <|
  c_getr 6 8 <|
  c_ild 1 <|
  c_i (3) <|
  c_callV 7 2 (fX7_get N) <|
  c_ist 2 <|
  c_rld 0 <|
  c_getr 6 11 <|
  c_ild 2 <|
  c_i (3) <|
  c_callV 7 2 (fX7_get N) <|
  c_i (1) <|
  c_icne (
  c_i (-1) <|
  kX6_obeyedBy_28 N) <|
  c_ild 2 <|
  kX6_obeyedBy_28 N
noncomputable def fX6_obeyedBy (N : Nat) : am_F := am_fn 3 (kX6_obeyedBy_0 N)
set_option maxRecDepth 20000 in
theorem vX6_obeyedBy_28 (l : Launch) (hfl : l.stackTraces = false) (N : Nat)  : am_V l cX6_obeyedBy 3 RX6 (am_E (some .int) yX6_obeyedBy.name) 2 84 28 (kX6_obeyedBy_28 N) := by
  refine av_live ?_
  exact av_ireturn am_hi dX6_obeyedBy_28
set_option maxRecDepth 20000 in
theorem vX6_obeyedBy_0 (l : Launch) (hfl : l.stackTraces = false) (N : Nat)  : am_V l cX6_obeyedBy 3 RX6 (am_E (some .int) yX6_obeyedBy.name) 2 84 0 (kX6_obeyedBy_0 N) := by
  refine av_live ?_
  refine av_aload_n dX6_obeyedBy_0 rfl ?_
  refine av_getr am_ci6 (by decide) am_f6_8 q77 dX6_obeyedBy_1 ?_
  refine av_iload_n dX6_obeyedBy_4 rfl ?_
  refine av_iconst (v := 3) dX6_obeyedBy_5 (by decide) ?_
  refine av_callV am_hT (mX7_get l hfl N) am_ci7 ⟨by decide +kernel, by decide +kernel, by decide +kernel⟩ q85 q86 q73 q87 q88 (by decide) (by decide) dX6_obeyedBy_6 ?_
  refine av_istore_n dX6_obeyedBy_9 rfl (by decide) ?_
  refine av_aload_n dX6_obeyedBy_10 rfl ?_
  refine av_getr am_ci6 (by decide) am_f6_11 q80 dX6_obeyedBy_11 ?_
  refine av_iload_n dX6_obeyedBy_14 rfl ?_
  refine av_iconst (v := 3) dX6_obeyedBy_15 (by decide) ?_
  refine av_callV am_hT (mX7_get l hfl N) am_ci7 ⟨by decide +kernel, by decide +kernel, by decide +kernel⟩ q85 q86 q73 q87 q88 (by decide) (by decide) dX6_obeyedBy_16 ?_
  refine av_iconst (v := 1) dX6_obeyedBy_19 (by decide) ?_
  refine av_icne (tgt := 27) dX6_obeyedBy_20 (by decide) ?_ ?_
  · refine av_iconst (v := -1) dX6_obeyedBy_27 (by decide) ?_
    exact vX6_obeyedBy_28 l hfl N
  refine av_iload_n dX6_obeyedBy_23 rfl ?_
  refine av_goto (tgt := 28) dX6_obeyedBy_24 (by decide) ?_
  exact vX6_obeyedBy_28 l hfl N
theorem mX6_obeyedBy (l : Launch) (hfl : l.stackTraces = false) (N : Nat) : am_M l yX6_obeyedBy cX6_obeyedBy 3 (some .int) 2 84 (fX6_obeyedBy N) := av_meth hfl (by decide +kernel) rfl (vX6_obeyedBy_0 l hfl N)
/-! MessengerBoard$Situation.awaitedBy(I)I -/
noncomputable def kX6_awaitedBy_49 (N : Nat) (r13 : am_K) : am_K := c_live [0, 1, 2, 3, 4] <|
  c_inc 4 (1) <|
  c_live [0, 1, 2, 3, 4] r13
noncomputable def bX6_awaitedBy_13 (N : Nat) (r13 : am_K) : am_K :=
  c_ild 4 <|
  c_ild 3 <|
  c_icge (
  c_ild 2 <|
  c_iret) <|
  c_rld 0 <|
  c_getr 6 11 <|
  c_ild 4 <|
  c_i (0) <|
  c_callV 7 2 (fX7_get N) <|
  c_ild 1 <|
  c_icne (
  kX6_awaitedBy_49 N r13) <|
  c_rld 0 <|
  c_getr 6 11 <|
  c_ild 4 <|
  c_i (3) <|
  c_callV 7 2 (fX7_get N) <|
  c_ifne (
  kX6_awaitedBy_49 N r13) <|
  c_inc 2 (1) <|
  kX6_awaitedBy_49 N r13
noncomputable def kX6_awaitedBy_13 (N : Nat) : am_K := c_live [0, 1, 2, 3, 4] (am_loop (bX6_awaitedBy_13 N) N)
noncomputable def kX6_awaitedBy_0 (N : Nat) : am_K := c_live [0, 1] <|
  c_i (0) <|
  c_ist 2 <|
  c_rld 0 <|
  c_getr 6 11 <|
  c_callV 7 0 (fX7_count N) <|
  c_ist 3 <|
  c_i (0) <|
  c_ist 4 <|
  kX6_awaitedBy_13 N
noncomputable def fX6_awaitedBy (N : Nat) : am_F := am_fn 5 (kX6_awaitedBy_0 N)
set_option maxRecDepth 20000 in
theorem vX6_awaitedBy_49 (l : Launch) (hfl : l.stackTraces = false) (N : Nat)  {r13 : am_K} (h13 : am_V l cX6_awaitedBy 5 RX6 (am_E (some .int) yX6_awaitedBy.name) 2 84 13 r13) : am_V l cX6_awaitedBy 5 RX6 (am_E (some .int) yX6_awaitedBy.name) 2 84 49 (kX6_awaitedBy_49 N r13) := by
  refine av_live ?_
  refine av_iinc dX6_awaitedBy_49 (by decide) (by decide) ?_
  refine av_goto (tgt := 13) dX6_awaitedBy_52 (by decide) ?_
  exact av_live h13
set_option maxRecDepth 20000 in
theorem vX6_awaitedBy_13 (l : Launch) (hfl : l.stackTraces = false) (N : Nat)  : am_V l cX6_awaitedBy 5 RX6 (am_E (some .int) yX6_awaitedBy.name) 2 84 13 (kX6_awaitedBy_13 N) := by
  refine av_live ?_
  refine av_loop (fun r13 h13 => ?_) N
  refine av_iload dX6_awaitedBy_13 ?_
  refine av_iload_n dX6_awaitedBy_15 rfl ?_
  refine av_icge (tgt := 55) dX6_awaitedBy_16 (by decide) ?_ ?_
  · refine av_iload_n dX6_awaitedBy_55 rfl ?_
    exact av_ireturn am_hi dX6_awaitedBy_56
  refine av_aload_n dX6_awaitedBy_19 rfl ?_
  refine av_getr am_ci6 (by decide) am_f6_11 q80 dX6_awaitedBy_20 ?_
  refine av_iload dX6_awaitedBy_23 ?_
  refine av_iconst (v := 0) dX6_awaitedBy_25 (by decide) ?_
  refine av_callV am_hT (mX7_get l hfl N) am_ci7 ⟨by decide +kernel, by decide +kernel, by decide +kernel⟩ q85 q86 q73 q87 q88 (by decide) (by decide) dX6_awaitedBy_26 ?_
  refine av_iload_n dX6_awaitedBy_29 rfl ?_
  refine av_icne (tgt := 49) dX6_awaitedBy_30 (by decide) ?_ ?_
  · exact vX6_awaitedBy_49 l hfl N h13
  refine av_aload_n dX6_awaitedBy_33 rfl ?_
  refine av_getr am_ci6 (by decide) am_f6_11 q80 dX6_awaitedBy_34 ?_
  refine av_iload dX6_awaitedBy_37 ?_
  refine av_iconst (v := 3) dX6_awaitedBy_39 (by decide) ?_
  refine av_callV am_hT (mX7_get l hfl N) am_ci7 ⟨by decide +kernel, by decide +kernel, by decide +kernel⟩ q85 q86 q73 q87 q88 (by decide) (by decide) dX6_awaitedBy_40 ?_
  refine av_ifne (tgt := 49) dX6_awaitedBy_43 (by decide) ?_ ?_
  · exact vX6_awaitedBy_49 l hfl N h13
  refine av_iinc dX6_awaitedBy_46 (by decide) (by decide) ?_
  exact vX6_awaitedBy_49 l hfl N h13
set_option maxRecDepth 20000 in
theorem vX6_awaitedBy_0 (l : Launch) (hfl : l.stackTraces = false) (N : Nat)  : am_V l cX6_awaitedBy 5 RX6 (am_E (some .int) yX6_awaitedBy.name) 2 84 0 (kX6_awaitedBy_0 N) := by
  refine av_live ?_
  refine av_iconst (v := 0) dX6_awaitedBy_0 (by decide) ?_
  refine av_istore_n dX6_awaitedBy_1 rfl (by decide) ?_
  refine av_aload_n dX6_awaitedBy_2 rfl ?_
  refine av_getr am_ci6 (by decide) am_f6_11 q80 dX6_awaitedBy_3 ?_
  refine av_callV am_hT (mX7_count l hfl N) am_ci7 ⟨by decide +kernel, by decide +kernel, by decide +kernel⟩ q89 q90 q73 q91 q92 (by decide) (by decide) dX6_awaitedBy_6 ?_
  refine av_istore_n dX6_awaitedBy_9 rfl (by decide) ?_
  refine av_iconst (v := 0) dX6_awaitedBy_10 (by decide) ?_
  refine av_istore dX6_awaitedBy_11 (by decide) ?_
  exact vX6_awaitedBy_13 l hfl N
theorem mX6_awaitedBy (l : Launch) (hfl : l.stackTraces = false) (N : Nat) : am_M l yX6_awaitedBy cX6_awaitedBy 5 (some .int) 2 84 (fX6_awaitedBy N) := av_meth hfl (by decide +kernel) rfl (vX6_awaitedBy_0 l hfl N)
/-! MessengerBoard$Situation.watches(II)Z -/
noncomputable def kX6_watches_18 (N : Nat) : am_K := c_live [] <|
  c_i (0) <|
  c_zret
noncomputable def kX6_watches_58 (N : Nat) : am_K := c_live [] <|
  c_zret
noncomputable def kX6_watches_57 (N : Nat) : am_K := c_live [] <|
  c_i (0) <|
  kX6_watches_58 N
noncomputable def kX6_watches_0 (N : Nat) : am_K := c_live [0, 1, 2] <|
  c_rld 0 <|
  c_getr 6 9 <|
  c_ild 1 <|
  c_i (3) <|
  c_callV 7 2 (fX7_get N) <|
  c_ist 3 <|
  c_ild 3 <|
  c_ifle (
  kX6_watches_18 N) <|
  c_ild 2 <|
  c_ifge (
  c_ild 2 <|
  c_ild 3 <|
  c_irem <|
  c_ist 4 <|
  c_ild 4 <|
  c_rld 0 <|
  c_getr 6 9 <|
  c_ild 1 <|
  c_i (4) <|
  c_callV 7 2 (fX7_get N) <|
  c_iclt (
  kX6_watches_57 N) <|
  c_ild 4 <|
  c_rld 0 <|
  c_getr 6 9 <|
  c_ild 1 <|
  c_i (5) <|
  c_callV 7 2 (fX7_get N) <|
  c_icgt (
  kX6_watches_57 N) <|
  c_i (1) <|
  kX6_watches_58 N) <|
  kX6_watches_18 N
noncomputable def fX6_watches (N : Nat) : am_F := am_fn 5 (kX6_watches_0 N)
set_option maxRecDepth 20000 in
theorem vX6_watches_18 (l : Launch) (hfl : l.stackTraces = false) (N : Nat)  : am_V l cX6_watches 5 RX6 (am_E (some .boolean) yX6_watches.name) 2 84 18 (kX6_watches_18 N) := by
  refine av_live ?_
  refine av_iconst (v := 0) dX6_watches_18 (by decide) ?_
  exact av_zreturn am_hz dX6_watches_19
set_option maxRecDepth 20000 in
theorem vX6_watches_58 (l : Launch) (hfl : l.stackTraces = false) (N : Nat)  : am_V l cX6_watches 5 RX6 (am_E (some .boolean) yX6_watches.name) 2 84 58 (kX6_watches_58 N) := by
  refine av_live ?_
  exact av_zreturn am_hz dX6_watches_58
set_option maxRecDepth 20000 in
theorem vX6_watches_57 (l : Launch) (hfl : l.stackTraces = false) (N : Nat)  : am_V l cX6_watches 5 RX6 (am_E (some .boolean) yX6_watches.name) 2 84 57 (kX6_watches_57 N) := by
  refine av_live ?_
  refine av_iconst (v := 0) dX6_watches_57 (by decide) ?_
  exact vX6_watches_58 l hfl N
set_option maxRecDepth 20000 in
theorem vX6_watches_0 (l : Launch) (hfl : l.stackTraces = false) (N : Nat)  : am_V l cX6_watches 5 RX6 (am_E (some .boolean) yX6_watches.name) 2 84 0 (kX6_watches_0 N) := by
  refine av_live ?_
  refine av_aload_n dX6_watches_0 rfl ?_
  refine av_getr am_ci6 (by decide) am_f6_9 q78 dX6_watches_1 ?_
  refine av_iload_n dX6_watches_4 rfl ?_
  refine av_iconst (v := 3) dX6_watches_5 (by decide) ?_
  refine av_callV am_hT (mX7_get l hfl N) am_ci7 ⟨by decide +kernel, by decide +kernel, by decide +kernel⟩ q85 q86 q73 q87 q88 (by decide) (by decide) dX6_watches_6 ?_
  refine av_istore_n dX6_watches_9 rfl (by decide) ?_
  refine av_iload_n dX6_watches_10 rfl ?_
  refine av_ifle (tgt := 18) dX6_watches_11 (by decide) ?_ ?_
  · exact vX6_watches_18 l hfl N
  refine av_iload_n dX6_watches_14 rfl ?_
  refine av_ifge (tgt := 20) dX6_watches_15 (by decide) ?_ ?_
  · refine av_iload_n dX6_watches_20 rfl ?_
    refine av_iload_n dX6_watches_21 rfl ?_
    refine av_irem dX6_watches_22 ?_
    refine av_istore dX6_watches_23 (by decide) ?_
    refine av_iload dX6_watches_25 ?_
    refine av_aload_n dX6_watches_27 rfl ?_
    refine av_getr am_ci6 (by decide) am_f6_9 q78 dX6_watches_28 ?_
    refine av_iload_n dX6_watches_31 rfl ?_
    refine av_iconst (v := 4) dX6_watches_32 (by decide) ?_
    refine av_callV am_hT (mX7_get l hfl N) am_ci7 ⟨by decide +kernel, by decide +kernel, by decide +kernel⟩ q85 q86 q73 q87 q88 (by decide) (by decide) dX6_watches_33 ?_
    refine av_iclt (tgt := 57) dX6_watches_36 (by decide) ?_ ?_
    · exact vX6_watches_57 l hfl N
    refine av_iload dX6_watches_39 ?_
    refine av_aload_n dX6_watches_41 rfl ?_
    refine av_getr am_ci6 (by decide) am_f6_9 q78 dX6_watches_42 ?_
    refine av_iload_n dX6_watches_45 rfl ?_
    refine av_iconst (v := 5) dX6_watches_46 (by decide) ?_
    refine av_callV am_hT (mX7_get l hfl N) am_ci7 ⟨by decide +kernel, by decide +kernel, by decide +kernel⟩ q85 q86 q73 q87 q88 (by decide) (by decide) dX6_watches_47 ?_
    refine av_icgt (tgt := 57) dX6_watches_50 (by decide) ?_ ?_
    · exact vX6_watches_57 l hfl N
    refine av_iconst (v := 1) dX6_watches_53 (by decide) ?_
    refine av_goto (tgt := 58) dX6_watches_54 (by decide) ?_
    exact vX6_watches_58 l hfl N
  exact vX6_watches_18 l hfl N
theorem mX6_watches (l : Launch) (hfl : l.stackTraces = false) (N : Nat) : am_M l yX6_watches cX6_watches 5 (some .boolean) 2 84 (fX6_watches N) := av_meth hfl (by decide +kernel) rfl (vX6_watches_0 l hfl N)
/-! MessengerBoard$Situation.hasCell(II)Z -/
noncomputable def kX6_hasCell_29 (N : Nat) : am_K := c_live [] <|
  c_zret
noncomputable def kX6_hasCell_28 (N : Nat) : am_K := c_live [] <|
  c_i (0) <|
  kX6_hasCell_29 N
noncomputable def kX6_hasCell_0 (N : Nat) : am_K := c_live [0, 1, 2] <|
  c_ild 1 <|
  c_iflt (
  kX6_hasCell_28 N) <|
  c_ild 1 <|
  c_rld 0 <|
  c_geti 6 0 <|
  c_icge (
  kX6_hasCell_28 N) <|
  c_ild 2 <|
  c_iflt (
  kX6_hasCell_28 N) <|
  c_ild 2 <|
  c_rld 0 <|
  c_geti 6 1 <|
  c_icge (
  kX6_hasCell_28 N) <|
  c_i (1) <|
  kX6_hasCell_29 N
noncomputable def fX6_hasCell (N : Nat) : am_F := am_fn 3 (kX6_hasCell_0 N)
set_option maxRecDepth 20000 in
theorem vX6_hasCell_29 (l : Launch) (hfl : l.stackTraces = false) (N : Nat)  : am_V l cX6_hasCell 3 RX6 (am_E (some .boolean) yX6_hasCell.name) 1 60 29 (kX6_hasCell_29 N) := by
  refine av_live ?_
  exact av_zreturn am_hz dX6_hasCell_29
set_option maxRecDepth 20000 in
theorem vX6_hasCell_28 (l : Launch) (hfl : l.stackTraces = false) (N : Nat)  : am_V l cX6_hasCell 3 RX6 (am_E (some .boolean) yX6_hasCell.name) 1 60 28 (kX6_hasCell_28 N) := by
  refine av_live ?_
  refine av_iconst (v := 0) dX6_hasCell_28 (by decide) ?_
  exact vX6_hasCell_29 l hfl N
set_option maxRecDepth 20000 in
theorem vX6_hasCell_0 (l : Launch) (hfl : l.stackTraces = false) (N : Nat)  : am_V l cX6_hasCell 3 RX6 (am_E (some .boolean) yX6_hasCell.name) 1 60 0 (kX6_hasCell_0 N) := by
  refine av_live ?_
  refine av_iload_n dX6_hasCell_0 rfl ?_
  refine av_iflt (tgt := 28) dX6_hasCell_1 (by decide) ?_ ?_
  · exact vX6_hasCell_28 l hfl N
  refine av_iload_n dX6_hasCell_4 rfl ?_
  refine av_aload_n dX6_hasCell_5 rfl ?_
  refine av_geti am_ci6 (by decide) am_f6_0 q82 dX6_hasCell_6 ?_
  refine av_icge (tgt := 28) dX6_hasCell_9 (by decide) ?_ ?_
  · exact vX6_hasCell_28 l hfl N
  refine av_iload_n dX6_hasCell_12 rfl ?_
  refine av_iflt (tgt := 28) dX6_hasCell_13 (by decide) ?_ ?_
  · exact vX6_hasCell_28 l hfl N
  refine av_iload_n dX6_hasCell_16 rfl ?_
  refine av_aload_n dX6_hasCell_17 rfl ?_
  refine av_geti am_ci6 (by decide) am_f6_1 q83 dX6_hasCell_18 ?_
  refine av_icge (tgt := 28) dX6_hasCell_21 (by decide) ?_ ?_
  · exact vX6_hasCell_28 l hfl N
  refine av_iconst (v := 1) dX6_hasCell_24 (by decide) ?_
  refine av_goto (tgt := 29) dX6_hasCell_25 (by decide) ?_
  exact vX6_hasCell_29 l hfl N
theorem mX6_hasCell (l : Launch) (hfl : l.stackTraces = false) (N : Nat) : am_M l yX6_hasCell cX6_hasCell 3 (some .boolean) 1 60 (fX6_hasCell N) := av_meth hfl (by decide +kernel) rfl (vX6_hasCell_0 l hfl N)
/-! MessengerBoard$Situation.watcher(III)I -/
noncomputable def kX6_watcher_96 (N : Nat) (r12 : am_K) : am_K := c_live [0, 1, 2, 3, 4, 5] <|
  c_inc 5 (1) <|
  c_live [0, 1, 2, 3, 4, 5] r12
noncomputable def kX6_watcher_76 (N : Nat) (r12 : am_K) : am_K := c_live [0, 1, 2, 3, 4, 5] <|
  c_ist 7 <|
  c_ild 7 <|
  c_ifeq (
  kX6_watcher_96 N r12) <|
  c_rld 0 <|
  c_ild 5 <|
  c_ild 3 <|
  c_callV 6 2 (fX6_watches N) <|
  c_ifeq (
  kX6_watcher_96 N r12) <|
  c_ild 5 <|
  c_iret
noncomputable def kX6_watcher_75 (N : Nat) (r12 : am_K) : am_K := c_live [0, 1, 2, 3, 4, 5] <|
  c_i (0) <|
  kX6_watcher_76 N r12
noncomputable def bX6_watcher_12 (N : Nat) (r12 : am_K) : am_K :=
  c_ild 5 <|
  c_ild 4 <|
  c_icge (
  c_i (-1) <|
  c_iret) <|
  c_rld 0 <|
  c_getr 6 9 <|
  c_ild 5 <|
  c_i (2) <|
  c_callV 7 2 (fX7_get N) <|
  c_ist 6 <|
  c_ild 1 <|
  c_rld 0 <|
  c_getr 6 9 <|
  c_ild 5 <|
  c_i (0) <|
  c_callV 7 2 (fX7_get N) <|
  c_ii (fun x y => x - y) <|
  c_abs <|
  c_ild 6 <|
  c_icgt (
  kX6_watcher_75 N r12) <|
  c_ild 2 <|
  c_rld 0 <|
  c_getr 6 9 <|
  c_ild 5 <|
  c_i (1) <|
  c_callV 7 2 (fX7_get N) <|
  c_ii (fun x y => x - y) <|
  c_abs <|
  c_ild 6 <|
  c_icgt (
  kX6_watcher_75 N r12) <|
  c_i (1) <|
  kX6_watcher_76 N r12
noncomputable def kX6_watcher_12 (N : Nat) : am_K := c_live [0, 1, 2, 3, 4, 5] (am_loop (bX6_watcher_12 N) N)
noncomputable def kX6_watcher_0 (N : Nat) : am_K := c_live [0, 1, 2, 3] <|
  c_rld 0 <|
  c_getr 6 9 <|
  c_callV 7 0 (fX7_count N) <|
  c_ist 4 <|
  c_i (0) <|
  c_ist 5 <|
  kX6_watcher_12 N
noncomputable def fX6_watcher (N : Nat) : am_F := am_fn 8 (kX6_watcher_0 N)
set_option maxRecDepth 20000 in
theorem vX6_watcher_96 (l : Launch) (hfl : l.stackTraces = false) (N : Nat)  {r12 : am_K} (h12 : am_V l cX6_watcher 8 RX6 (am_E (some .int) yX6_watcher.name) 3 108 12 r12) : am_V l cX6_watcher 8 RX6 (am_E (some .int) yX6_watcher.name) 3 108 96 (kX6_watcher_96 N r12) := by
  refine av_live ?_
  refine av_iinc dX6_watcher_96 (by decide) (by decide) ?_
  refine av_goto (tgt := 12) dX6_watcher_99 (by decide) ?_
  exact av_live h12
set_option maxRecDepth 20000 in
theorem vX6_watcher_76 (l : Launch) (hfl : l.stackTraces = false) (N : Nat)  {r12 : am_K} (h12 : am_V l cX6_watcher 8 RX6 (am_E (some .int) yX6_watcher.name) 3 108 12 r12) : am_V l cX6_watcher 8 RX6 (am_E (some .int) yX6_watcher.name) 3 108 76 (kX6_watcher_76 N r12) := by
  refine av_live ?_
  refine av_istore dX6_watcher_76 (by decide) ?_
  refine av_iload dX6_watcher_78 ?_
  refine av_ifeq (tgt := 96) dX6_watcher_80 (by decide) ?_ ?_
  · exact vX6_watcher_96 l hfl N h12
  refine av_aload_n dX6_watcher_83 rfl ?_
  refine av_iload dX6_watcher_84 ?_
  refine av_iload_n dX6_watcher_86 rfl ?_
  refine av_callV am_hT (mX6_watches l hfl N) am_ci6 ⟨by decide +kernel, by decide +kernel, by decide +kernel⟩ q124 q125 q126 q127 q128 (by decide) (by decide) dX6_watcher_87 ?_
  refine av_ifeq (tgt := 96) dX6_watcher_90 (by decide) ?_ ?_
  · exact vX6_watcher_96 l hfl N h12
  refine av_iload dX6_watcher_93 ?_
  exact av_ireturn am_hi dX6_watcher_95
set_option maxRecDepth 20000 in
theorem vX6_watcher_75 (l : Launch) (hfl : l.stackTraces = false) (N : Nat)  {r12 : am_K} (h12 : am_V l cX6_watcher 8 RX6 (am_E (some .int) yX6_watcher.name) 3 108 12 r12) : am_V l cX6_watcher 8 RX6 (am_E (some .int) yX6_watcher.name) 3 108 75 (kX6_watcher_75 N r12) := by
  refine av_live ?_
  refine av_iconst (v := 0) dX6_watcher_75 (by decide) ?_
  exact vX6_watcher_76 l hfl N h12
set_option maxRecDepth 20000 in
theorem vX6_watcher_12 (l : Launch) (hfl : l.stackTraces = false) (N : Nat)  : am_V l cX6_watcher 8 RX6 (am_E (some .int) yX6_watcher.name) 3 108 12 (kX6_watcher_12 N) := by
  refine av_live ?_
  refine av_loop (fun r12 h12 => ?_) N
  refine av_iload dX6_watcher_12 ?_
  refine av_iload dX6_watcher_14 ?_
  refine av_icge (tgt := 102) dX6_watcher_16 (by decide) ?_ ?_
  · refine av_iconst (v := -1) dX6_watcher_102 (by decide) ?_
    exact av_ireturn am_hi dX6_watcher_103
  refine av_aload_n dX6_watcher_19 rfl ?_
  refine av_getr am_ci6 (by decide) am_f6_9 q78 dX6_watcher_20 ?_
  refine av_iload dX6_watcher_23 ?_
  refine av_iconst (v := 2) dX6_watcher_25 (by decide) ?_
  refine av_callV am_hT (mX7_get l hfl N) am_ci7 ⟨by decide +kernel, by decide +kernel, by decide +kernel⟩ q85 q86 q73 q87 q88 (by decide) (by decide) dX6_watcher_26 ?_
  refine av_istore dX6_watcher_29 (by decide) ?_
  refine av_iload_n dX6_watcher_31 rfl ?_
  refine av_aload_n dX6_watcher_32 rfl ?_
  refine av_getr am_ci6 (by decide) am_f6_9 q78 dX6_watcher_33 ?_
  refine av_iload dX6_watcher_36 ?_
  refine av_iconst (v := 0) dX6_watcher_38 (by decide) ?_
  refine av_callV am_hT (mX7_get l hfl N) am_ci7 ⟨by decide +kernel, by decide +kernel, by decide +kernel⟩ q85 q86 q73 q87 q88 (by decide) (by decide) dX6_watcher_39 ?_
  refine av_isub dX6_watcher_42 ?_
  refine av_abs q121 q122 q42 q123 (by decide) (by decide) dX6_watcher_43 ?_
  refine av_iload dX6_watcher_46 ?_
  refine av_icgt (tgt := 75) dX6_watcher_48 (by decide) ?_ ?_
  · exact vX6_watcher_75 l hfl N h12
  refine av_iload_n dX6_watcher_51 rfl ?_
  refine av_aload_n dX6_watcher_52 rfl ?_
  refine av_getr am_ci6 (by decide) am_f6_9 q78 dX6_watcher_53 ?_
  refine av_iload dX6_watcher_56 ?_
  refine av_iconst (v := 1) dX6_watcher_58 (by decide) ?_
  refine av_callV am_hT (mX7_get l hfl N) am_ci7 ⟨by decide +kernel, by decide +kernel, by decide +kernel⟩ q85 q86 q73 q87 q88 (by decide) (by decide) dX6_watcher_59 ?_
  refine av_isub dX6_watcher_62 ?_
  refine av_abs q121 q122 q42 q123 (by decide) (by decide) dX6_watcher_63 ?_
  refine av_iload dX6_watcher_66 ?_
  refine av_icgt (tgt := 75) dX6_watcher_68 (by decide) ?_ ?_
  · exact vX6_watcher_75 l hfl N h12
  refine av_iconst (v := 1) dX6_watcher_71 (by decide) ?_
  refine av_goto (tgt := 76) dX6_watcher_72 (by decide) ?_
  exact vX6_watcher_76 l hfl N h12
set_option maxRecDepth 20000 in
theorem vX6_watcher_0 (l : Launch) (hfl : l.stackTraces = false) (N : Nat)  : am_V l cX6_watcher 8 RX6 (am_E (some .int) yX6_watcher.name) 3 108 0 (kX6_watcher_0 N) := by
  refine av_live ?_
  refine av_aload_n dX6_watcher_0 rfl ?_
  refine av_getr am_ci6 (by decide) am_f6_9 q78 dX6_watcher_1 ?_
  refine av_callV am_hT (mX7_count l hfl N) am_ci7 ⟨by decide +kernel, by decide +kernel, by decide +kernel⟩ q89 q90 q73 q91 q92 (by decide) (by decide) dX6_watcher_4 ?_
  refine av_istore dX6_watcher_7 (by decide) ?_
  refine av_iconst (v := 0) dX6_watcher_9 (by decide) ?_
  refine av_istore dX6_watcher_10 (by decide) ?_
  exact vX6_watcher_12 l hfl N
theorem mX6_watcher (l : Launch) (hfl : l.stackTraces = false) (N : Nat) : am_M l yX6_watcher cX6_watcher 8 (some .int) 3 108 (fX6_watcher N) := av_meth hfl (by decide +kernel) rfl (vX6_watcher_0 l hfl N)
/-! MessengerBoard$Situation.freeBeside(II)I -/
noncomputable def kX6_freeBeside_76 (N : Nat) : am_K := c_live [] <|
  c_i (-1) <|
  c_iret
noncomputable def kX6_freeBeside_118 (N : Nat) : am_K := c_live [] <|
  c_iret
noncomputable def kX6_freeBeside_117 (N : Nat) : am_K := c_live [] <|
  c_i (-1) <|
  kX6_freeBeside_118 N
noncomputable def kX6_freeBeside_47 (N : Nat) : am_K := c_live [0, 3] <|
  c_ii (fun x y => x + y) <|
  c_ist 4 <|
  c_ild 3 <|
  c_iflt (
  kX6_freeBeside_76 N) <|
  c_ild 3 <|
  c_rld 0 <|
  c_geti 6 0 <|
  c_icge (
  kX6_freeBeside_76 N) <|
  c_ild 4 <|
  c_iflt (
  kX6_freeBeside_76 N) <|
  c_ild 4 <|
  c_rld 0 <|
  c_geti 6 1 <|
  c_iclt (
  c_i (12) <|
  c_ild 4 <|
  c_ii (fun x y => x * y) <|
  c_ild 3 <|
  c_ii (fun x y => x + y) <|
  c_ist 5 <|
  c_ild 5 <|
  c_iflt (
  kX6_freeBeside_117 N) <|
  c_ild 5 <|
  c_rld 0 <|
  c_getr 6 7 <|
  c_alen <|
  c_icge (
  kX6_freeBeside_117 N) <|
  c_rld 0 <|
  c_getr 6 7 <|
  c_ild 5 <|
  c_ial <|
  c_ifne (
  kX6_freeBeside_117 N) <|
  c_ild 5 <|
  kX6_freeBeside_118 N) <|
  kX6_freeBeside_76 N
noncomputable def kX6_freeBeside_23 (N : Nat) : am_K := c_live [0, 1, 2] <|
  c_ii (fun x y => x + y) <|
  c_ist 3 <|
  c_ild 1 <|
  c_i (12) <|
  c_idiv <|
  c_ild 2 <|
  c_i (2) <|
  c_icne (
  c_ild 2 <|
  c_ifne (
  c_i (0) <|
  kX6_freeBeside_47 N) <|
  c_i (-1) <|
  kX6_freeBeside_47 N) <|
  c_i (1) <|
  kX6_freeBeside_47 N
noncomputable def kX6_freeBeside_0 (N : Nat) : am_K := c_live [0, 1, 2] <|
  c_ild 1 <|
  c_i (12) <|
  c_irem <|
  c_ild 2 <|
  c_i (1) <|
  c_icne (
  c_ild 2 <|
  c_i (3) <|
  c_icne (
  c_i (0) <|
  kX6_freeBeside_23 N) <|
  c_i (-1) <|
  kX6_freeBeside_23 N) <|
  c_i (1) <|
  kX6_freeBeside_23 N
noncomputable def fX6_freeBeside (N : Nat) : am_F := am_fn 6 (kX6_freeBeside_0 N)
set_option maxRecDepth 20000 in
theorem vX6_freeBeside_76 (l : Launch) (hfl : l.stackTraces = false) (N : Nat)  : am_V l cX6_freeBeside 6 RX6 (am_E (some .int) yX6_freeBeside.name) 1 60 76 (kX6_freeBeside_76 N) := by
  refine av_live ?_
  refine av_iconst (v := -1) dX6_freeBeside_76 (by decide) ?_
  exact av_ireturn am_hi dX6_freeBeside_77
set_option maxRecDepth 20000 in
theorem vX6_freeBeside_118 (l : Launch) (hfl : l.stackTraces = false) (N : Nat)  : am_V l cX6_freeBeside 6 RX6 (am_E (some .int) yX6_freeBeside.name) 1 60 118 (kX6_freeBeside_118 N) := by
  refine av_live ?_
  exact av_ireturn am_hi dX6_freeBeside_118
set_option maxRecDepth 20000 in
theorem vX6_freeBeside_117 (l : Launch) (hfl : l.stackTraces = false) (N : Nat)  : am_V l cX6_freeBeside 6 RX6 (am_E (some .int) yX6_freeBeside.name) 1 60 117 (kX6_freeBeside_117 N) := by
  refine av_live ?_
  refine av_iconst (v := -1) dX6_freeBeside_117 (by decide) ?_
  exact vX6_freeBeside_118 l hfl N
set_option maxRecDepth 20000 in
theorem vX6_freeBeside_47 (l : Launch) (hfl : l.stackTraces = false) (N : Nat)  : am_V l cX6_freeBeside 6 RX6 (am_E (some .int) yX6_freeBeside.name) 1 60 47 (kX6_freeBeside_47 N) := by
  refine av_live ?_
  refine av_iadd dX6_freeBeside_47 ?_
  refine av_istore dX6_freeBeside_48 (by decide) ?_
  refine av_iload_n dX6_freeBeside_50 rfl ?_
  refine av_iflt (tgt := 76) dX6_freeBeside_51 (by decide) ?_ ?_
  · exact vX6_freeBeside_76 l hfl N
  refine av_iload_n dX6_freeBeside_54 rfl ?_
  refine av_aload_n dX6_freeBeside_55 rfl ?_
  refine av_geti am_ci6 (by decide) am_f6_0 q82 dX6_freeBeside_56 ?_
  refine av_icge (tgt := 76) dX6_freeBeside_59 (by decide) ?_ ?_
  · exact vX6_freeBeside_76 l hfl N
  refine av_iload dX6_freeBeside_62 ?_
  refine av_iflt (tgt := 76) dX6_freeBeside_64 (by decide) ?_ ?_
  · exact vX6_freeBeside_76 l hfl N
  refine av_iload dX6_freeBeside_67 ?_
  refine av_aload_n dX6_freeBeside_69 rfl ?_
  refine av_geti am_ci6 (by decide) am_f6_1 q83 dX6_freeBeside_70 ?_
  refine av_iclt (tgt := 78) dX6_freeBeside_73 (by decide) ?_ ?_
  · refine av_bipush (v := 12) dX6_freeBeside_78 (by decide) ?_
    refine av_iload dX6_freeBeside_80 ?_
    refine av_imul dX6_freeBeside_82 ?_
    refine av_iload_n dX6_freeBeside_83 rfl ?_
    refine av_iadd dX6_freeBeside_84 ?_
    refine av_istore dX6_freeBeside_85 (by decide) ?_
    refine av_iload dX6_freeBeside_87 ?_
    refine av_iflt (tgt := 117) dX6_freeBeside_89 (by decide) ?_ ?_
    · exact vX6_freeBeside_117 l hfl N
    refine av_iload dX6_freeBeside_92 ?_
    refine av_aload_n dX6_freeBeside_94 rfl ?_
    refine av_getr am_ci6 (by decide) am_f6_7 q70 dX6_freeBeside_95 ?_
    refine av_arraylength dX6_freeBeside_98 ?_
    refine av_icge (tgt := 117) dX6_freeBeside_99 (by decide) ?_ ?_
    · exact vX6_freeBeside_117 l hfl N
    refine av_aload_n dX6_freeBeside_102 rfl ?_
    refine av_getr am_ci6 (by decide) am_f6_7 q70 dX6_freeBeside_103 ?_
    refine av_iload dX6_freeBeside_106 ?_
    refine av_iaload dX6_freeBeside_108 ?_
    refine av_ifne (tgt := 117) dX6_freeBeside_109 (by decide) ?_ ?_
    · exact vX6_freeBeside_117 l hfl N
    refine av_iload dX6_freeBeside_112 ?_
    refine av_goto (tgt := 118) dX6_freeBeside_114 (by decide) ?_
    exact vX6_freeBeside_118 l hfl N
  exact vX6_freeBeside_76 l hfl N
set_option maxRecDepth 20000 in
theorem vX6_freeBeside_23 (l : Launch) (hfl : l.stackTraces = false) (N : Nat)  : am_V l cX6_freeBeside 6 RX6 (am_E (some .int) yX6_freeBeside.name) 1 60 23 (kX6_freeBeside_23 N) := by
  refine av_live ?_
  refine av_iadd dX6_freeBeside_23 ?_
  refine av_istore_n dX6_freeBeside_24 rfl (by decide) ?_
  refine av_iload_n dX6_freeBeside_25 rfl ?_
  refine av_bipush (v := 12) dX6_freeBeside_26 (by decide) ?_
  refine av_idiv dX6_freeBeside_28 ?_
  refine av_iload_n dX6_freeBeside_29 rfl ?_
  refine av_iconst (v := 2) dX6_freeBeside_30 (by decide) ?_
  refine av_icne (tgt := 38) dX6_freeBeside_31 (by decide) ?_ ?_
  · refine av_iload_n dX6_freeBeside_38 rfl ?_
    refine av_ifne (tgt := 46) dX6_freeBeside_39 (by decide) ?_ ?_
    · refine av_iconst (v := 0) dX6_freeBeside_46 (by decide) ?_
      exact vX6_freeBeside_47 l hfl N
    refine av_iconst (v := -1) dX6_freeBeside_42 (by decide) ?_
    refine av_goto (tgt := 47) dX6_freeBeside_43 (by decide) ?_
    exact vX6_freeBeside_47 l hfl N
  refine av_iconst (v := 1) dX6_freeBeside_34 (by decide) ?_
  refine av_goto (tgt := 47) dX6_freeBeside_35 (by decide) ?_
  exact vX6_freeBeside_47 l hfl N
set_option maxRecDepth 20000 in
theorem vX6_freeBeside_0 (l : Launch) (hfl : l.stackTraces = false) (N : Nat)  : am_V l cX6_freeBeside 6 RX6 (am_E (some .int) yX6_freeBeside.name) 1 60 0 (kX6_freeBeside_0 N) := by
  refine av_live ?_
  refine av_iload_n dX6_freeBeside_0 rfl ?_
  refine av_bipush (v := 12) dX6_freeBeside_1 (by decide) ?_
  refine av_irem dX6_freeBeside_3 ?_
  refine av_iload_n dX6_freeBeside_4 rfl ?_
  refine av_iconst (v := 1) dX6_freeBeside_5 (by decide) ?_
  refine av_icne (tgt := 13) dX6_freeBeside_6 (by decide) ?_ ?_
  · refine av_iload_n dX6_freeBeside_13 rfl ?_
    refine av_iconst (v := 3) dX6_freeBeside_14 (by decide) ?_
    refine av_icne (tgt := 22) dX6_freeBeside_15 (by decide) ?_ ?_
    · refine av_iconst (v := 0) dX6_freeBeside_22 (by decide) ?_
      exact vX6_freeBeside_23 l hfl N
    refine av_iconst (v := -1) dX6_freeBeside_18 (by decide) ?_
    refine av_goto (tgt := 23) dX6_freeBeside_19 (by decide) ?_
    exact vX6_freeBeside_23 l hfl N
  refine av_iconst (v := 1) dX6_freeBeside_9 (by decide) ?_
  refine av_goto (tgt := 23) dX6_freeBeside_10 (by decide) ?_
  exact vX6_freeBeside_23 l hfl N
theorem mX6_freeBeside (l : Launch) (hfl : l.stackTraces = false) (N : Nat) : am_M l yX6_freeBeside cX6_freeBeside 6 (some .int) 1 60 (fX6_freeBeside N) := av_meth hfl (by decide +kernel) rfl (vX6_freeBeside_0 l hfl N)
/-! MessengerBoard$Situation.addOrder(III)I -/
noncomputable def kX6_addOrder_0 (N : Nat) : am_K := c_live [0, 1, 2, 3] <|
  c_rld 0 <|
  c_getr 6 11 <|
  c_callV 7 0 (fX7_add N) <|
  c_ist 4 <|
  c_rld 0 <|
  c_getr 6 11 <|
  c_ild 4 <|
  c_i (0) <|
  c_ild 1 <|
  c_callV 7 3 (fX7_put N) <|
  c_rld 0 <|
  c_getr 6 11 <|
  c_ild 4 <|
  c_i (1) <|
  c_ild 2 <|
  c_callV 7 3 (fX7_put N) <|
  c_rld 0 <|
  c_getr 6 11 <|
  c_ild 4 <|
  c_i (2) <|
  c_ild 3 <|
  c_callV 7 3 (fX7_put N) <|
  c_rld 0 <|
  c_getr 6 11 <|
  c_ild 4 <|
  c_i (3) <|
  c_i (0) <|
  c_callV 7 3 (fX7_put N) <|
  c_rld 0 <|
  c_getr 6 11 <|
  c_ild 4 <|
  c_i (4) <|
  c_rld 0 <|
  c_geti 6 4 <|
  c_callV 7 3 (fX7_put N) <|
  c_rld 0 <|
  c_getr 6 11 <|
  c_ild 4 <|
  c_i (5) <|
  c_i (-1) <|
  c_callV 7 3 (fX7_put N) <|
  c_rld 0 <|
  c_getr 6 11 <|
  c_ild 4 <|
  c_i (6) <|
  c_i (-1) <|
  c_callV 7 3 (fX7_put N) <|
  c_rld 0 <|
  c_getr 6 11 <|
  c_ild 4 <|
  c_i (7) <|
  c_rld 0 <|
  c_geti 6 2 <|
  c_callV 7 3 (fX7_put N) <|
  c_rld 0 <|
  c_getr 6 11 <|
  c_ild 4 <|
  c_i (8) <|
  c_rld 0 <|
  c_geti 6 3 <|
  c_callV 7 3 (fX7_put N) <|
  c_rld 0 <|
  c_getr 6 11 <|
  c_ild 4 <|
  c_i (9) <|
  c_i (0) <|
  c_callV 7 3 (fX7_put N) <|
  c_ild 4 <|
  c_iret
noncomputable def fX6_addOrder (N : Nat) : am_F := am_fn 5 (kX6_addOrder_0 N)
set_option maxRecDepth 20000 in
theorem vX6_addOrder_0 (l : Launch) (hfl : l.stackTraces = false) (N : Nat)  : am_V l cX6_addOrder 5 RX6 (am_E (some .int) yX6_addOrder.name) 2 85 0 (kX6_addOrder_0 N) := by
  refine av_live ?_
  refine av_aload_n dX6_addOrder_0 rfl ?_
  refine av_getr am_ci6 (by decide) am_f6_11 q80 dX6_addOrder_1 ?_
  refine av_callV am_hT (mX7_add l hfl N) am_ci7 ⟨by decide +kernel, by decide +kernel, by decide +kernel⟩ q113 q114 q73 q115 q116 (by decide) (by decide) dX6_addOrder_4 ?_
  refine av_istore dX6_addOrder_7 (by decide) ?_
  refine av_aload_n dX6_addOrder_9 rfl ?_
  refine av_getr am_ci6 (by decide) am_f6_11 q80 dX6_addOrder_10 ?_
  refine av_iload dX6_addOrder_13 ?_
  refine av_iconst (v := 0) dX6_addOrder_15 (by decide) ?_
  refine av_iload_n dX6_addOrder_16 rfl ?_
  refine av_callV am_hT (mX7_put l hfl N) am_ci7 ⟨by decide +kernel, by decide +kernel, by decide +kernel⟩ q117 q118 q73 q119 q120 (by decide) (by decide) dX6_addOrder_17 ?_
  refine av_aload_n dX6_addOrder_20 rfl ?_
  refine av_getr am_ci6 (by decide) am_f6_11 q80 dX6_addOrder_21 ?_
  refine av_iload dX6_addOrder_24 ?_
  refine av_iconst (v := 1) dX6_addOrder_26 (by decide) ?_
  refine av_iload_n dX6_addOrder_27 rfl ?_
  refine av_callV am_hT (mX7_put l hfl N) am_ci7 ⟨by decide +kernel, by decide +kernel, by decide +kernel⟩ q117 q118 q73 q119 q120 (by decide) (by decide) dX6_addOrder_28 ?_
  refine av_aload_n dX6_addOrder_31 rfl ?_
  refine av_getr am_ci6 (by decide) am_f6_11 q80 dX6_addOrder_32 ?_
  refine av_iload dX6_addOrder_35 ?_
  refine av_iconst (v := 2) dX6_addOrder_37 (by decide) ?_
  refine av_iload_n dX6_addOrder_38 rfl ?_
  refine av_callV am_hT (mX7_put l hfl N) am_ci7 ⟨by decide +kernel, by decide +kernel, by decide +kernel⟩ q117 q118 q73 q119 q120 (by decide) (by decide) dX6_addOrder_39 ?_
  refine av_aload_n dX6_addOrder_42 rfl ?_
  refine av_getr am_ci6 (by decide) am_f6_11 q80 dX6_addOrder_43 ?_
  refine av_iload dX6_addOrder_46 ?_
  refine av_iconst (v := 3) dX6_addOrder_48 (by decide) ?_
  refine av_iconst (v := 0) dX6_addOrder_49 (by decide) ?_
  refine av_callV am_hT (mX7_put l hfl N) am_ci7 ⟨by decide +kernel, by decide +kernel, by decide +kernel⟩ q117 q118 q73 q119 q120 (by decide) (by decide) dX6_addOrder_50 ?_
  refine av_aload_n dX6_addOrder_53 rfl ?_
  refine av_getr am_ci6 (by decide) am_f6_11 q80 dX6_addOrder_54 ?_
  refine av_iload dX6_addOrder_57 ?_
  refine av_iconst (v := 4) dX6_addOrder_59 (by decide) ?_
  refine av_aload_n dX6_addOrder_60 rfl ?_
  refine av_geti am_ci6 (by decide) am_f6_4 q95 dX6_addOrder_61 ?_
  refine av_callV am_hT (mX7_put l hfl N) am_ci7 ⟨by decide +kernel, by decide +kernel, by decide +kernel⟩ q117 q118 q73 q119 q120 (by decide) (by decide) dX6_addOrder_64 ?_
  refine av_aload_n dX6_addOrder_67 rfl ?_
  refine av_getr am_ci6 (by decide) am_f6_11 q80 dX6_addOrder_68 ?_
  refine av_iload dX6_addOrder_71 ?_
  refine av_iconst (v := 5) dX6_addOrder_73 (by decide) ?_
  refine av_iconst (v := -1) dX6_addOrder_74 (by decide) ?_
  refine av_callV am_hT (mX7_put l hfl N) am_ci7 ⟨by decide +kernel, by decide +kernel, by decide +kernel⟩ q117 q118 q73 q119 q120 (by decide) (by decide) dX6_addOrder_75 ?_
  refine av_aload_n dX6_addOrder_78 rfl ?_
  refine av_getr am_ci6 (by decide) am_f6_11 q80 dX6_addOrder_79 ?_
  refine av_iload dX6_addOrder_82 ?_
  refine av_bipush (v := 6) dX6_addOrder_84 (by decide) ?_
  refine av_iconst (v := -1) dX6_addOrder_86 (by decide) ?_
  refine av_callV am_hT (mX7_put l hfl N) am_ci7 ⟨by decide +kernel, by decide +kernel, by decide +kernel⟩ q117 q118 q73 q119 q120 (by decide) (by decide) dX6_addOrder_87 ?_
  refine av_aload_n dX6_addOrder_90 rfl ?_
  refine av_getr am_ci6 (by decide) am_f6_11 q80 dX6_addOrder_91 ?_
  refine av_iload dX6_addOrder_94 ?_
  refine av_bipush (v := 7) dX6_addOrder_96 (by decide) ?_
  refine av_aload_n dX6_addOrder_98 rfl ?_
  refine av_geti am_ci6 (by decide) am_f6_2 q93 dX6_addOrder_99 ?_
  refine av_callV am_hT (mX7_put l hfl N) am_ci7 ⟨by decide +kernel, by decide +kernel, by decide +kernel⟩ q117 q118 q73 q119 q120 (by decide) (by decide) dX6_addOrder_102 ?_
  refine av_aload_n dX6_addOrder_105 rfl ?_
  refine av_getr am_ci6 (by decide) am_f6_11 q80 dX6_addOrder_106 ?_
  refine av_iload dX6_addOrder_109 ?_
  refine av_bipush (v := 8) dX6_addOrder_111 (by decide) ?_
  refine av_aload_n dX6_addOrder_113 rfl ?_
  refine av_geti am_ci6 (by decide) am_f6_3 q94 dX6_addOrder_114 ?_
  refine av_callV am_hT (mX7_put l hfl N) am_ci7 ⟨by decide +kernel, by decide +kernel, by decide +kernel⟩ q117 q118 q73 q119 q120 (by decide) (by decide) dX6_addOrder_117 ?_
  refine av_aload_n dX6_addOrder_120 rfl ?_
  refine av_getr am_ci6 (by decide) am_f6_11 q80 dX6_addOrder_121 ?_
  refine av_iload dX6_addOrder_124 ?_
  refine av_bipush (v := 9) dX6_addOrder_126 (by decide) ?_
  refine av_iconst (v := 0) dX6_addOrder_128 (by decide) ?_
  refine av_callV am_hT (mX7_put l hfl N) am_ci7 ⟨by decide +kernel, by decide +kernel, by decide +kernel⟩ q117 q118 q73 q119 q120 (by decide) (by decide) dX6_addOrder_129 ?_
  refine av_iload dX6_addOrder_132 ?_
  exact av_ireturn am_hi dX6_addOrder_134
theorem mX6_addOrder (l : Launch) (hfl : l.stackTraces = false) (N : Nat) : am_M l yX6_addOrder cX6_addOrder 5 (some .int) 2 85 (fX6_addOrder N) := av_meth hfl (by decide +kernel) rfl (vX6_addOrder_0 l hfl N)
/-! MessengerBoard$Situation.changeOrder(II)V -/
noncomputable def kX6_changeOrder_29 (N : Nat) : am_K := c_live [0, 1, 2] <|
  c_rld 0 <|
  c_getr 6 12 <|
  c_callV 7 0 (fX7_add N) <|
  c_ist 3 <|
  c_rld 0 <|
  c_getr 6 12 <|
  c_ild 3 <|
  c_i (0) <|
  c_rld 0 <|
  c_geti 6 4 <|
  c_callV 7 3 (fX7_put N) <|
  c_rld 0 <|
  c_getr 6 12 <|
  c_ild 3 <|
  c_i (1) <|
  c_ild 1 <|
  c_callV 7 3 (fX7_put N) <|
  c_rld 0 <|
  c_getr 6 12 <|
  c_ild 3 <|
  c_i (2) <|
  c_ild 2 <|
  c_callV 7 3 (fX7_put N) <|
  c_vret
noncomputable def kX6_changeOrder_0 (N : Nat) : am_K := c_live [0, 1, 2] <|
  c_rld 0 <|
  c_getr 6 11 <|
  c_ild 1 <|
  c_i (3) <|
  c_ild 2 <|
  c_callV 7 3 (fX7_put N) <|
  c_ild 2 <|
  c_i (1) <|
  c_iceq (
  kX6_changeOrder_29 N) <|
  c_rld 0 <|
  c_getr 6 11 <|
  c_ild 1 <|
  c_i (6) <|
  c_rld 0 <|
  c_geti 6 4 <|
  c_callV 7 3 (fX7_put N) <|
  kX6_changeOrder_29 N
noncomputable def fX6_changeOrder (N : Nat) : am_F := am_fn 4 (kX6_changeOrder_0 N)
set_option maxRecDepth 20000 in
theorem vX6_changeOrder_29 (l : Launch) (hfl : l.stackTraces = false) (N : Nat)  : am_V l cX6_changeOrder 4 RX6 (am_E none yX6_changeOrder.name) 2 85 29 (kX6_changeOrder_29 N) := by
  refine av_live ?_
  refine av_aload_n dX6_changeOrder_29 rfl ?_
  refine av_getr am_ci6 (by decide) am_f6_12 q81 dX6_changeOrder_30 ?_
  refine av_callV am_hT (mX7_add l hfl N) am_ci7 ⟨by decide +kernel, by decide +kernel, by decide +kernel⟩ q113 q114 q73 q115 q116 (by decide) (by decide) dX6_changeOrder_33 ?_
  refine av_istore_n dX6_changeOrder_36 rfl (by decide) ?_
  refine av_aload_n dX6_changeOrder_37 rfl ?_
  refine av_getr am_ci6 (by decide) am_f6_12 q81 dX6_changeOrder_38 ?_
  refine av_iload_n dX6_changeOrder_41 rfl ?_
  refine av_iconst (v := 0) dX6_changeOrder_42 (by decide) ?_
  refine av_aload_n dX6_changeOrder_43 rfl ?_
  refine av_geti am_ci6 (by decide) am_f6_4 q95 dX6_changeOrder_44 ?_
  refine av_callV am_hT (mX7_put l hfl N) am_ci7 ⟨by decide +kernel, by decide +kernel, by decide +kernel⟩ q117 q118 q73 q119 q120 (by decide) (by decide) dX6_changeOrder_47 ?_
  refine av_aload_n dX6_changeOrder_50 rfl ?_
  refine av_getr am_ci6 (by decide) am_f6_12 q81 dX6_changeOrder_51 ?_
  refine av_iload_n dX6_changeOrder_54 rfl ?_
  refine av_iconst (v := 1) dX6_changeOrder_55 (by decide) ?_
  refine av_iload_n dX6_changeOrder_56 rfl ?_
  refine av_callV am_hT (mX7_put l hfl N) am_ci7 ⟨by decide +kernel, by decide +kernel, by decide +kernel⟩ q117 q118 q73 q119 q120 (by decide) (by decide) dX6_changeOrder_57 ?_
  refine av_aload_n dX6_changeOrder_60 rfl ?_
  refine av_getr am_ci6 (by decide) am_f6_12 q81 dX6_changeOrder_61 ?_
  refine av_iload_n dX6_changeOrder_64 rfl ?_
  refine av_iconst (v := 2) dX6_changeOrder_65 (by decide) ?_
  refine av_iload_n dX6_changeOrder_66 rfl ?_
  refine av_callV am_hT (mX7_put l hfl N) am_ci7 ⟨by decide +kernel, by decide +kernel, by decide +kernel⟩ q117 q118 q73 q119 q120 (by decide) (by decide) dX6_changeOrder_67 ?_
  exact av_return_ am_hv dX6_changeOrder_70
set_option maxRecDepth 20000 in
theorem vX6_changeOrder_0 (l : Launch) (hfl : l.stackTraces = false) (N : Nat)  : am_V l cX6_changeOrder 4 RX6 (am_E none yX6_changeOrder.name) 2 85 0 (kX6_changeOrder_0 N) := by
  refine av_live ?_
  refine av_aload_n dX6_changeOrder_0 rfl ?_
  refine av_getr am_ci6 (by decide) am_f6_11 q80 dX6_changeOrder_1 ?_
  refine av_iload_n dX6_changeOrder_4 rfl ?_
  refine av_iconst (v := 3) dX6_changeOrder_5 (by decide) ?_
  refine av_iload_n dX6_changeOrder_6 rfl ?_
  refine av_callV am_hT (mX7_put l hfl N) am_ci7 ⟨by decide +kernel, by decide +kernel, by decide +kernel⟩ q117 q118 q73 q119 q120 (by decide) (by decide) dX6_changeOrder_7 ?_
  refine av_iload_n dX6_changeOrder_10 rfl ?_
  refine av_iconst (v := 1) dX6_changeOrder_11 (by decide) ?_
  refine av_iceq (tgt := 29) dX6_changeOrder_12 (by decide) ?_ ?_
  · exact vX6_changeOrder_29 l hfl N
  refine av_aload_n dX6_changeOrder_15 rfl ?_
  refine av_getr am_ci6 (by decide) am_f6_11 q80 dX6_changeOrder_16 ?_
  refine av_iload_n dX6_changeOrder_19 rfl ?_
  refine av_bipush (v := 6) dX6_changeOrder_20 (by decide) ?_
  refine av_aload_n dX6_changeOrder_22 rfl ?_
  refine av_geti am_ci6 (by decide) am_f6_4 q95 dX6_changeOrder_23 ?_
  refine av_callV am_hT (mX7_put l hfl N) am_ci7 ⟨by decide +kernel, by decide +kernel, by decide +kernel⟩ q117 q118 q73 q119 q120 (by decide) (by decide) dX6_changeOrder_26 ?_
  exact vX6_changeOrder_29 l hfl N
theorem mX6_changeOrder (l : Launch) (hfl : l.stackTraces = false) (N : Nat) : am_M l yX6_changeOrder cX6_changeOrder 4 none 2 85 (fX6_changeOrder N) := av_meth hfl (by decide +kernel) rfl (vX6_changeOrder_0 l hfl N)
/-! MessengerBoard$Situation.hasMessengerAt(II)Z -/
noncomputable def kX6_hasMessengerAt_62 (N : Nat) (r11 : am_K) : am_K := c_live [0, 1, 2, 3, 4] <|
  c_inc 4 (1) <|
  c_live [0, 1, 2, 3, 4] r11
noncomputable def bX6_hasMessengerAt_11 (N : Nat) (r11 : am_K) : am_K :=
  c_ild 4 <|
  c_ild 3 <|
  c_icge (
  c_i (0) <|
  c_zret) <|
  c_rld 0 <|
  c_getr 6 11 <|
  c_ild 4 <|
  c_i (3) <|
  c_callV 7 2 (fX7_get N) <|
  c_ifne (
  kX6_hasMessengerAt_62 N r11) <|
  c_rld 0 <|
  c_getr 6 11 <|
  c_ild 4 <|
  c_i (7) <|
  c_callV 7 2 (fX7_get N) <|
  c_ild 1 <|
  c_icne (
  kX6_hasMessengerAt_62 N r11) <|
  c_rld 0 <|
  c_getr 6 11 <|
  c_ild 4 <|
  c_i (8) <|
  c_callV 7 2 (fX7_get N) <|
  c_ild 2 <|
  c_icne (
  kX6_hasMessengerAt_62 N r11) <|
  c_i (1) <|
  c_zret
noncomputable def kX6_hasMessengerAt_11 (N : Nat) : am_K := c_live [0, 1, 2, 3, 4] (am_loop (bX6_hasMessengerAt_11 N) N)
noncomputable def kX6_hasMessengerAt_0 (N : Nat) : am_K := c_live [0, 1, 2] <|
  c_rld 0 <|
  c_getr 6 11 <|
  c_callV 7 0 (fX7_count N) <|
  c_ist 3 <|
  c_i (0) <|
  c_ist 4 <|
  kX6_hasMessengerAt_11 N
noncomputable def fX6_hasMessengerAt (N : Nat) : am_F := am_fn 5 (kX6_hasMessengerAt_0 N)
set_option maxRecDepth 20000 in
theorem vX6_hasMessengerAt_62 (l : Launch) (hfl : l.stackTraces = false) (N : Nat)  {r11 : am_K} (h11 : am_V l cX6_hasMessengerAt 5 RX6 (am_E (some .boolean) yX6_hasMessengerAt.name) 2 84 11 r11) : am_V l cX6_hasMessengerAt 5 RX6 (am_E (some .boolean) yX6_hasMessengerAt.name) 2 84 62 (kX6_hasMessengerAt_62 N r11) := by
  refine av_live ?_
  refine av_iinc dX6_hasMessengerAt_62 (by decide) (by decide) ?_
  refine av_goto (tgt := 11) dX6_hasMessengerAt_65 (by decide) ?_
  exact av_live h11
set_option maxRecDepth 20000 in
theorem vX6_hasMessengerAt_11 (l : Launch) (hfl : l.stackTraces = false) (N : Nat)  : am_V l cX6_hasMessengerAt 5 RX6 (am_E (some .boolean) yX6_hasMessengerAt.name) 2 84 11 (kX6_hasMessengerAt_11 N) := by
  refine av_live ?_
  refine av_loop (fun r11 h11 => ?_) N
  refine av_iload dX6_hasMessengerAt_11 ?_
  refine av_iload_n dX6_hasMessengerAt_13 rfl ?_
  refine av_icge (tgt := 68) dX6_hasMessengerAt_14 (by decide) ?_ ?_
  · refine av_iconst (v := 0) dX6_hasMessengerAt_68 (by decide) ?_
    exact av_zreturn am_hz dX6_hasMessengerAt_69
  refine av_aload_n dX6_hasMessengerAt_17 rfl ?_
  refine av_getr am_ci6 (by decide) am_f6_11 q80 dX6_hasMessengerAt_18 ?_
  refine av_iload dX6_hasMessengerAt_21 ?_
  refine av_iconst (v := 3) dX6_hasMessengerAt_23 (by decide) ?_
  refine av_callV am_hT (mX7_get l hfl N) am_ci7 ⟨by decide +kernel, by decide +kernel, by decide +kernel⟩ q85 q86 q73 q87 q88 (by decide) (by decide) dX6_hasMessengerAt_24 ?_
  refine av_ifne (tgt := 62) dX6_hasMessengerAt_27 (by decide) ?_ ?_
  · exact vX6_hasMessengerAt_62 l hfl N h11
  refine av_aload_n dX6_hasMessengerAt_30 rfl ?_
  refine av_getr am_ci6 (by decide) am_f6_11 q80 dX6_hasMessengerAt_31 ?_
  refine av_iload dX6_hasMessengerAt_34 ?_
  refine av_bipush (v := 7) dX6_hasMessengerAt_36 (by decide) ?_
  refine av_callV am_hT (mX7_get l hfl N) am_ci7 ⟨by decide +kernel, by decide +kernel, by decide +kernel⟩ q85 q86 q73 q87 q88 (by decide) (by decide) dX6_hasMessengerAt_38 ?_
  refine av_iload_n dX6_hasMessengerAt_41 rfl ?_
  refine av_icne (tgt := 62) dX6_hasMessengerAt_42 (by decide) ?_ ?_
  · exact vX6_hasMessengerAt_62 l hfl N h11
  refine av_aload_n dX6_hasMessengerAt_45 rfl ?_
  refine av_getr am_ci6 (by decide) am_f6_11 q80 dX6_hasMessengerAt_46 ?_
  refine av_iload dX6_hasMessengerAt_49 ?_
  refine av_bipush (v := 8) dX6_hasMessengerAt_51 (by decide) ?_
  refine av_callV am_hT (mX7_get l hfl N) am_ci7 ⟨by decide +kernel, by decide +kernel, by decide +kernel⟩ q85 q86 q73 q87 q88 (by decide) (by decide) dX6_hasMessengerAt_53 ?_
  refine av_iload_n dX6_hasMessengerAt_56 rfl ?_
  refine av_icne (tgt := 62) dX6_hasMessengerAt_57 (by decide) ?_ ?_
  · exact vX6_hasMessengerAt_62 l hfl N h11
  refine av_iconst (v := 1) dX6_hasMessengerAt_60 (by decide) ?_
  exact av_zreturn am_hz dX6_hasMessengerAt_61
set_option maxRecDepth 20000 in
theorem vX6_hasMessengerAt_0 (l : Launch) (hfl : l.stackTraces = false) (N : Nat)  : am_V l cX6_hasMessengerAt 5 RX6 (am_E (some .boolean) yX6_hasMessengerAt.name) 2 84 0 (kX6_hasMessengerAt_0 N) := by
  refine av_live ?_
  refine av_aload_n dX6_hasMessengerAt_0 rfl ?_
  refine av_getr am_ci6 (by decide) am_f6_11 q80 dX6_hasMessengerAt_1 ?_
  refine av_callV am_hT (mX7_count l hfl N) am_ci7 ⟨by decide +kernel, by decide +kernel, by decide +kernel⟩ q89 q90 q73 q91 q92 (by decide) (by decide) dX6_hasMessengerAt_4 ?_
  refine av_istore_n dX6_hasMessengerAt_7 rfl (by decide) ?_
  refine av_iconst (v := 0) dX6_hasMessengerAt_8 (by decide) ?_
  refine av_istore dX6_hasMessengerAt_9 (by decide) ?_
  exact vX6_hasMessengerAt_11 l hfl N
theorem mX6_hasMessengerAt (l : Launch) (hfl : l.stackTraces = false) (N : Nat) : am_M l yX6_hasMessengerAt cX6_hasMessengerAt 5 (some .boolean) 2 84 (fX6_hasMessengerAt N) := av_meth hfl (by decide +kernel) rfl (vX6_hasMessengerAt_0 l hfl N)
/-! MessengerBoard$Situation.isGoal(II)Z -/
noncomputable def kX6_isGoal_133 (N : Nat) (r79 : am_K) : am_K := c_live [0, 1, 2, 4, 5] <|
  c_inc 5 (1) <|
  c_live [0, 1, 2, 4, 5] r79
noncomputable def bX6_isGoal_79 (N : Nat) (r79 : am_K) : am_K :=
  c_ild 5 <|
  c_ild 4 <|
  c_icge (
  c_i (0) <|
  c_zret) <|
  c_rld 0 <|
  c_getr 6 10 <|
  c_ild 5 <|
  c_i (3) <|
  c_callV 7 2 (fX7_get N) <|
  c_rld 0 <|
  c_geti 6 4 <|
  c_iclt (
  kX6_isGoal_133 N r79) <|
  c_rld 0 <|
  c_getr 6 10 <|
  c_ild 5 <|
  c_i (1) <|
  c_callV 7 2 (fX7_get N) <|
  c_ild 1 <|
  c_icne (
  kX6_isGoal_133 N r79) <|
  c_rld 0 <|
  c_getr 6 10 <|
  c_ild 5 <|
  c_i (2) <|
  c_callV 7 2 (fX7_get N) <|
  c_ild 2 <|
  c_icne (
  kX6_isGoal_133 N r79) <|
  c_i (1) <|
  c_zret
noncomputable def kX6_isGoal_79 (N : Nat) : am_K := c_live [0, 1, 2, 4, 5] (am_loop (bX6_isGoal_79 N) N)
noncomputable def kX6_isGoal_61 (N : Nat) (r11 : am_K) : am_K := c_live [0, 1, 2, 3, 4] <|
  c_inc 4 (1) <|
  c_live [0, 1, 2, 3, 4] r11
noncomputable def bX6_isGoal_11 (N : Nat) (r11 : am_K) : am_K :=
  c_ild 4 <|
  c_ild 3 <|
  c_icge (
  c_rld 0 <|
  c_getr 6 10 <|
  c_callV 7 0 (fX7_count N) <|
  c_ist 4 <|
  c_i (0) <|
  c_ist 5 <|
  kX6_isGoal_79 N) <|
  c_rld 0 <|
  c_getr 6 11 <|
  c_ild 4 <|
  c_i (3) <|
  c_callV 7 2 (fX7_get N) <|
  c_i (1) <|
  c_icgt (
  kX6_isGoal_61 N r11) <|
  c_rld 0 <|
  c_getr 6 11 <|
  c_ild 4 <|
  c_i (1) <|
  c_callV 7 2 (fX7_get N) <|
  c_ild 1 <|
  c_icne (
  kX6_isGoal_61 N r11) <|
  c_rld 0 <|
  c_getr 6 11 <|
  c_ild 4 <|
  c_i (2) <|
  c_callV 7 2 (fX7_get N) <|
  c_ild 2 <|
  c_icne (
  kX6_isGoal_61 N r11) <|
  c_i (1) <|
  c_zret
noncomputable def kX6_isGoal_11 (N : Nat) : am_K := c_live [0, 1, 2, 3, 4] (am_loop (bX6_isGoal_11 N) N)
noncomputable def kX6_isGoal_0 (N : Nat) : am_K := c_live [0, 1, 2] <|
  c_rld 0 <|
  c_getr 6 11 <|
  c_callV 7 0 (fX7_count N) <|
  c_ist 3 <|
  c_i (0) <|
  c_ist 4 <|
  kX6_isGoal_11 N
noncomputable def fX6_isGoal (N : Nat) : am_F := am_fn 6 (kX6_isGoal_0 N)
set_option maxRecDepth 20000 in
theorem vX6_isGoal_133 (l : Launch) (hfl : l.stackTraces = false) (N : Nat)  {r79 : am_K} (h79 : am_V l cX6_isGoal 6 RX6 (am_E (some .boolean) yX6_isGoal.name) 2 84 79 r79) : am_V l cX6_isGoal 6 RX6 (am_E (some .boolean) yX6_isGoal.name) 2 84 133 (kX6_isGoal_133 N r79) := by
  refine av_live ?_
  refine av_iinc dX6_isGoal_133 (by decide) (by decide) ?_
  refine av_goto (tgt := 79) dX6_isGoal_136 (by decide) ?_
  exact av_live h79
set_option maxRecDepth 20000 in
theorem vX6_isGoal_79 (l : Launch) (hfl : l.stackTraces = false) (N : Nat)  : am_V l cX6_isGoal 6 RX6 (am_E (some .boolean) yX6_isGoal.name) 2 84 79 (kX6_isGoal_79 N) := by
  refine av_live ?_
  refine av_loop (fun r79 h79 => ?_) N
  refine av_iload dX6_isGoal_79 ?_
  refine av_iload dX6_isGoal_81 ?_
  refine av_icge (tgt := 139) dX6_isGoal_83 (by decide) ?_ ?_
  · refine av_iconst (v := 0) dX6_isGoal_139 (by decide) ?_
    exact av_zreturn am_hz dX6_isGoal_140
  refine av_aload_n dX6_isGoal_86 rfl ?_
  refine av_getr am_ci6 (by decide) am_f6_10 q79 dX6_isGoal_87 ?_
  refine av_iload dX6_isGoal_90 ?_
  refine av_iconst (v := 3) dX6_isGoal_92 (by decide) ?_
  refine av_callV am_hT (mX7_get l hfl N) am_ci7 ⟨by decide +kernel, by decide +kernel, by decide +kernel⟩ q85 q86 q73 q87 q88 (by decide) (by decide) dX6_isGoal_93 ?_
  refine av_aload_n dX6_isGoal_96 rfl ?_
  refine av_geti am_ci6 (by decide) am_f6_4 q95 dX6_isGoal_97 ?_
  refine av_iclt (tgt := 133) dX6_isGoal_100 (by decide) ?_ ?_
  · exact vX6_isGoal_133 l hfl N h79
  refine av_aload_n dX6_isGoal_103 rfl ?_
  refine av_getr am_ci6 (by decide) am_f6_10 q79 dX6_isGoal_104 ?_
  refine av_iload dX6_isGoal_107 ?_
  refine av_iconst (v := 1) dX6_isGoal_109 (by decide) ?_
  refine av_callV am_hT (mX7_get l hfl N) am_ci7 ⟨by decide +kernel, by decide +kernel, by decide +kernel⟩ q85 q86 q73 q87 q88 (by decide) (by decide) dX6_isGoal_110 ?_
  refine av_iload_n dX6_isGoal_113 rfl ?_
  refine av_icne (tgt := 133) dX6_isGoal_114 (by decide) ?_ ?_
  · exact vX6_isGoal_133 l hfl N h79
  refine av_aload_n dX6_isGoal_117 rfl ?_
  refine av_getr am_ci6 (by decide) am_f6_10 q79 dX6_isGoal_118 ?_
  refine av_iload dX6_isGoal_121 ?_
  refine av_iconst (v := 2) dX6_isGoal_123 (by decide) ?_
  refine av_callV am_hT (mX7_get l hfl N) am_ci7 ⟨by decide +kernel, by decide +kernel, by decide +kernel⟩ q85 q86 q73 q87 q88 (by decide) (by decide) dX6_isGoal_124 ?_
  refine av_iload_n dX6_isGoal_127 rfl ?_
  refine av_icne (tgt := 133) dX6_isGoal_128 (by decide) ?_ ?_
  · exact vX6_isGoal_133 l hfl N h79
  refine av_iconst (v := 1) dX6_isGoal_131 (by decide) ?_
  exact av_zreturn am_hz dX6_isGoal_132
set_option maxRecDepth 20000 in
theorem vX6_isGoal_61 (l : Launch) (hfl : l.stackTraces = false) (N : Nat)  {r11 : am_K} (h11 : am_V l cX6_isGoal 6 RX6 (am_E (some .boolean) yX6_isGoal.name) 2 84 11 r11) : am_V l cX6_isGoal 6 RX6 (am_E (some .boolean) yX6_isGoal.name) 2 84 61 (kX6_isGoal_61 N r11) := by
  refine av_live ?_
  refine av_iinc dX6_isGoal_61 (by decide) (by decide) ?_
  refine av_goto (tgt := 11) dX6_isGoal_64 (by decide) ?_
  exact av_live h11
set_option maxRecDepth 20000 in
theorem vX6_isGoal_11 (l : Launch) (hfl : l.stackTraces = false) (N : Nat)  : am_V l cX6_isGoal 6 RX6 (am_E (some .boolean) yX6_isGoal.name) 2 84 11 (kX6_isGoal_11 N) := by
  refine av_live ?_
  refine av_loop (fun r11 h11 => ?_) N
  refine av_iload dX6_isGoal_11 ?_
  refine av_iload_n dX6_isGoal_13 rfl ?_
  refine av_icge (tgt := 67) dX6_isGoal_14 (by decide) ?_ ?_
  · refine av_aload_n dX6_isGoal_67 rfl ?_
    refine av_getr am_ci6 (by decide) am_f6_10 q79 dX6_isGoal_68 ?_
    refine av_callV am_hT (mX7_count l hfl N) am_ci7 ⟨by decide +kernel, by decide +kernel, by decide +kernel⟩ q89 q90 q73 q91 q92 (by decide) (by decide) dX6_isGoal_71 ?_
    refine av_istore dX6_isGoal_74 (by decide) ?_
    refine av_iconst (v := 0) dX6_isGoal_76 (by decide) ?_
    refine av_istore dX6_isGoal_77 (by decide) ?_
    exact vX6_isGoal_79 l hfl N
  refine av_aload_n dX6_isGoal_17 rfl ?_
  refine av_getr am_ci6 (by decide) am_f6_11 q80 dX6_isGoal_18 ?_
  refine av_iload dX6_isGoal_21 ?_
  refine av_iconst (v := 3) dX6_isGoal_23 (by decide) ?_
  refine av_callV am_hT (mX7_get l hfl N) am_ci7 ⟨by decide +kernel, by decide +kernel, by decide +kernel⟩ q85 q86 q73 q87 q88 (by decide) (by decide) dX6_isGoal_24 ?_
  refine av_iconst (v := 1) dX6_isGoal_27 (by decide) ?_
  refine av_icgt (tgt := 61) dX6_isGoal_28 (by decide) ?_ ?_
  · exact vX6_isGoal_61 l hfl N h11
  refine av_aload_n dX6_isGoal_31 rfl ?_
  refine av_getr am_ci6 (by decide) am_f6_11 q80 dX6_isGoal_32 ?_
  refine av_iload dX6_isGoal_35 ?_
  refine av_iconst (v := 1) dX6_isGoal_37 (by decide) ?_
  refine av_callV am_hT (mX7_get l hfl N) am_ci7 ⟨by decide +kernel, by decide +kernel, by decide +kernel⟩ q85 q86 q73 q87 q88 (by decide) (by decide) dX6_isGoal_38 ?_
  refine av_iload_n dX6_isGoal_41 rfl ?_
  refine av_icne (tgt := 61) dX6_isGoal_42 (by decide) ?_ ?_
  · exact vX6_isGoal_61 l hfl N h11
  refine av_aload_n dX6_isGoal_45 rfl ?_
  refine av_getr am_ci6 (by decide) am_f6_11 q80 dX6_isGoal_46 ?_
  refine av_iload dX6_isGoal_49 ?_
  refine av_iconst (v := 2) dX6_isGoal_51 (by decide) ?_
  refine av_callV am_hT (mX7_get l hfl N) am_ci7 ⟨by decide +kernel, by decide +kernel, by decide +kernel⟩ q85 q86 q73 q87 q88 (by decide) (by decide) dX6_isGoal_52 ?_
  refine av_iload_n dX6_isGoal_55 rfl ?_
  refine av_icne (tgt := 61) dX6_isGoal_56 (by decide) ?_ ?_
  · exact vX6_isGoal_61 l hfl N h11
  refine av_iconst (v := 1) dX6_isGoal_59 (by decide) ?_
  exact av_zreturn am_hz dX6_isGoal_60
set_option maxRecDepth 20000 in
theorem vX6_isGoal_0 (l : Launch) (hfl : l.stackTraces = false) (N : Nat)  : am_V l cX6_isGoal 6 RX6 (am_E (some .boolean) yX6_isGoal.name) 2 84 0 (kX6_isGoal_0 N) := by
  refine av_live ?_
  refine av_aload_n dX6_isGoal_0 rfl ?_
  refine av_getr am_ci6 (by decide) am_f6_11 q80 dX6_isGoal_1 ?_
  refine av_callV am_hT (mX7_count l hfl N) am_ci7 ⟨by decide +kernel, by decide +kernel, by decide +kernel⟩ q89 q90 q73 q91 q92 (by decide) (by decide) dX6_isGoal_4 ?_
  refine av_istore_n dX6_isGoal_7 rfl (by decide) ?_
  refine av_iconst (v := 0) dX6_isGoal_8 (by decide) ?_
  refine av_istore dX6_isGoal_9 (by decide) ?_
  exact vX6_isGoal_11 l hfl N
theorem mX6_isGoal (l : Launch) (hfl : l.stackTraces = false) (N : Nat) : am_M l yX6_isGoal cX6_isGoal 6 (some .boolean) 2 84 (fX6_isGoal N) := av_meth hfl (by decide +kernel) rfl (vX6_isGoal_0 l hfl N)
/-! MessengerBoard$Trail.<init>()V -/
noncomputable def kX9_init_0 (N : Nat) : am_K := c_live [0] <|
  c_rld 0 <|
  c_oinit <|
  c_rld 0 <|
  c_i (3000) <|
  c_newa 20 <|
  c_putr 9 0 <|
  c_vret
noncomputable def fX9_init (N : Nat) : am_F := am_fn 1 (kX9_init_0 N)
set_option maxRecDepth 20000 in
theorem vX9_init_0 (l : Launch) (hfl : l.stackTraces = false) (N : Nat)  : am_V l cX9_init 1 RX9 (am_E none yX9_init.name) 1 60 0 (kX9_init_0 N) := by
  refine av_live ?_
  refine av_aload_n dX9_init_0 rfl ?_
  refine av_objInit q129 q25 q26 (by decide) (by decide) dX9_init_1 ?_
  refine av_aload_n dX9_init_4 rfl ?_
  refine av_sipush (v := 3000) dX9_init_5 (by decide) ?_
  refine av_newarr_int q29 dX9_init_8 ?_
  refine av_putrF am_ci9 (by decide) am_f9_0 q130 (tyX9_ok 0 (by decide)) (fun _ => ⟨rfl, rfl⟩) ⟨rfl, rfl⟩ dX9_init_10 ?_
  exact av_return_ am_hv dX9_init_13
theorem mX9_init (l : Launch) (hfl : l.stackTraces = false) (N : Nat) : am_M l yX9_init cX9_init 1 none 1 60 (fX9_init N) := av_meth hfl (by decide +kernel) rfl (vX9_init_0 l hfl N)
/-! MessengerBoard$Trail.copyFrom(LMessengerBoard$Trail;)V -/
noncomputable def kX9_copyFrom_0 (N : Nat) : am_K := c_live [0, 1] <|
  c_rld 1 <|
  c_getr 9 0 <|
  c_i (0) <|
  c_rld 0 <|
  c_getr 9 0 <|
  c_i (0) <|
  c_i (3000) <|
  c_copy <|
  c_vret
noncomputable def fX9_copyFrom (N : Nat) : am_F := am_fn 2 (kX9_copyFrom_0 N)
set_option maxRecDepth 20000 in
theorem vX9_copyFrom_0 (l : Launch) (hfl : l.stackTraces = false) (N : Nat)  : am_V l cX9_copyFrom 2 RX9 (am_E none yX9_copyFrom.name) 1 60 0 (kX9_copyFrom_0 N) := by
  refine av_live ?_
  refine av_aload_n dX9_copyFrom_0 rfl ?_
  refine av_getr am_ci9 (by decide) am_f9_0 q130 dX9_copyFrom_1 ?_
  refine av_iconst (v := 0) dX9_copyFrom_4 (by decide) ?_
  refine av_aload_n dX9_copyFrom_5 rfl ?_
  refine av_getr am_ci9 (by decide) am_f9_0 q130 dX9_copyFrom_6 ?_
  refine av_iconst (v := 0) dX9_copyFrom_9 (by decide) ?_
  refine av_sipush (v := 3000) dX9_copyFrom_10 (by decide) ?_
  refine av_copy q131 q33 q34 q35 (by decide) (by decide +kernel) dX9_copyFrom_13 ?_
  exact av_return_ am_hv dX9_copyFrom_16
theorem mX9_copyFrom (l : Launch) (hfl : l.stackTraces = false) (N : Nat) : am_M l yX9_copyFrom cX9_copyFrom 2 none 1 60 (fX9_copyFrom N) := av_meth hfl (by decide +kernel) rfl (vX9_copyFrom_0 l hfl N)
/-! MessengerBoard$Trail.placeOf(II)I -/
noncomputable def kX9_placeOf_30 (N : Nat) : am_K := c_live [] <|
  c_iret
noncomputable def kX9_placeOf_29 (N : Nat) : am_K := c_live [] <|
  c_i (-1) <|
  kX9_placeOf_30 N
noncomputable def kX9_placeOf_0 (N : Nat) : am_K := c_live [0, 1, 2] <|
  c_ild 2 <|
  c_i (6) <|
  c_ii (fun x y => x * y) <|
  c_ild 1 <|
  c_ii (fun x y => x + y) <|
  c_ist 3 <|
  c_ild 3 <|
  c_iflt (
  kX9_placeOf_29 N) <|
  c_ild 3 <|
  c_rld 0 <|
  c_getr 9 0 <|
  c_alen <|
  c_icge (
  kX9_placeOf_29 N) <|
  c_rld 0 <|
  c_getr 9 0 <|
  c_ild 3 <|
  c_ial <|
  kX9_placeOf_30 N
noncomputable def fX9_placeOf (N : Nat) : am_F := am_fn 4 (kX9_placeOf_0 N)
set_option maxRecDepth 20000 in
theorem vX9_placeOf_30 (l : Launch) (hfl : l.stackTraces = false) (N : Nat)  : am_V l cX9_placeOf 4 RX9 (am_E (some .int) yX9_placeOf.name) 1 60 30 (kX9_placeOf_30 N) := by
  refine av_live ?_
  exact av_ireturn am_hi dX9_placeOf_30
set_option maxRecDepth 20000 in
theorem vX9_placeOf_29 (l : Launch) (hfl : l.stackTraces = false) (N : Nat)  : am_V l cX9_placeOf 4 RX9 (am_E (some .int) yX9_placeOf.name) 1 60 29 (kX9_placeOf_29 N) := by
  refine av_live ?_
  refine av_iconst (v := -1) dX9_placeOf_29 (by decide) ?_
  exact vX9_placeOf_30 l hfl N
set_option maxRecDepth 20000 in
theorem vX9_placeOf_0 (l : Launch) (hfl : l.stackTraces = false) (N : Nat)  : am_V l cX9_placeOf 4 RX9 (am_E (some .int) yX9_placeOf.name) 1 60 0 (kX9_placeOf_0 N) := by
  refine av_live ?_
  refine av_iload_n dX9_placeOf_0 rfl ?_
  refine av_bipush (v := 6) dX9_placeOf_1 (by decide) ?_
  refine av_imul dX9_placeOf_3 ?_
  refine av_iload_n dX9_placeOf_4 rfl ?_
  refine av_iadd dX9_placeOf_5 ?_
  refine av_istore_n dX9_placeOf_6 rfl (by decide) ?_
  refine av_iload_n dX9_placeOf_7 rfl ?_
  refine av_iflt (tgt := 29) dX9_placeOf_8 (by decide) ?_ ?_
  · exact vX9_placeOf_29 l hfl N
  refine av_iload_n dX9_placeOf_11 rfl ?_
  refine av_aload_n dX9_placeOf_12 rfl ?_
  refine av_getr am_ci9 (by decide) am_f9_0 q130 dX9_placeOf_13 ?_
  refine av_arraylength dX9_placeOf_16 ?_
  refine av_icge (tgt := 29) dX9_placeOf_17 (by decide) ?_ ?_
  · exact vX9_placeOf_29 l hfl N
  refine av_aload_n dX9_placeOf_20 rfl ?_
  refine av_getr am_ci9 (by decide) am_f9_0 q130 dX9_placeOf_21 ?_
  refine av_iload_n dX9_placeOf_24 rfl ?_
  refine av_iaload dX9_placeOf_25 ?_
  refine av_goto (tgt := 30) dX9_placeOf_26 (by decide) ?_
  exact vX9_placeOf_30 l hfl N
theorem mX9_placeOf (l : Launch) (hfl : l.stackTraces = false) (N : Nat) : am_M l yX9_placeOf cX9_placeOf 4 (some .int) 1 60 (fX9_placeOf N) := av_meth hfl (by decide +kernel) rfl (vX9_placeOf_0 l hfl N)
/-! MessengerBoard.nameOf(II)I -/
noncomputable def kX10_nameOf_0 (N : Nat) : am_K := c_live [0, 1] <|
  c_i (100) <|
  c_ild 1 <|
  c_ii (fun x y => x * y) <|
  c_ild 0 <|
  c_ii (fun x y => x + y) <|
  c_iret
noncomputable def fX10_nameOf (N : Nat) : am_F := am_fn 2 (kX10_nameOf_0 N)
set_option maxRecDepth 20000 in
theorem vX10_nameOf_0 (l : Launch) (hfl : l.stackTraces = false) (N : Nat)  : am_V l cX10_nameOf 2 RX10 (am_E (some .int) yX10_nameOf.name) 1 60 0 (kX10_nameOf_0 N) := by
  refine av_live ?_
  refine av_bipush (v := 100) dX10_nameOf_0 (by decide) ?_
  refine av_iload_n dX10_nameOf_2 rfl ?_
  refine av_imul dX10_nameOf_3 ?_
  refine av_iload_n dX10_nameOf_4 rfl ?_
  refine av_iadd dX10_nameOf_5 ?_
  exact av_ireturn am_hi dX10_nameOf_6
theorem mX10_nameOf (l : Launch) (hfl : l.stackTraces = false) (N : Nat) : am_M l yX10_nameOf cX10_nameOf 2 (some .int) 1 60 (fX10_nameOf N) := av_meth hfl (by decide +kernel) rfl (vX10_nameOf_0 l hfl N)
/-! MessengerBoard$Trail.record(LMessengerBoard$Situation;)V -/
noncomputable def kX9_record_69 (N : Nat) (r10 : am_K) : am_K := c_live [0, 1, 2, 3] <|
  c_inc 3 (1) <|
  c_live [0, 1, 2, 3] r10
noncomputable def bX9_record_10 (N : Nat) (r10 : am_K) : am_K :=
  c_ild 3 <|
  c_ild 2 <|
  c_icge (
  c_vret) <|
  c_rld 1 <|
  c_geti 6 4 <|
  c_i (6) <|
  c_ii (fun x y => x * y) <|
  c_ild 3 <|
  c_ii (fun x y => x + y) <|
  c_ist 4 <|
  c_ild 4 <|
  c_iflt (
  kX9_record_69 N r10) <|
  c_ild 4 <|
  c_rld 0 <|
  c_getr 9 0 <|
  c_alen <|
  c_icge (
  kX9_record_69 N r10) <|
  c_rld 0 <|
  c_getr 9 0 <|
  c_ild 4 <|
  c_rld 1 <|
  c_getr 6 8 <|
  c_ild 3 <|
  c_i (0) <|
  c_callV 7 2 (fX7_get N) <|
  c_rld 1 <|
  c_getr 6 8 <|
  c_ild 3 <|
  c_i (1) <|
  c_callV 7 2 (fX7_get N) <|
  c_callSN 2 (fX10_nameOf N) <|
  c_ias <|
  kX9_record_69 N r10
noncomputable def kX9_record_10 (N : Nat) : am_K := c_live [0, 1, 2, 3] (am_loop (bX9_record_10 N) N)
noncomputable def kX9_record_0 (N : Nat) : am_K := c_live [0, 1] <|
  c_rld 1 <|
  c_getr 6 8 <|
  c_callV 7 0 (fX7_count N) <|
  c_ist 2 <|
  c_i (0) <|
  c_ist 3 <|
  kX9_record_10 N
noncomputable def fX9_record (N : Nat) : am_F := am_fn 5 (kX9_record_0 N)
set_option maxRecDepth 20000 in
theorem vX9_record_69 (l : Launch) (hfl : l.stackTraces = false) (N : Nat)  {r10 : am_K} (h10 : am_V l cX9_record 5 RX9 (am_E none yX9_record.name) 2 84 10 r10) : am_V l cX9_record 5 RX9 (am_E none yX9_record.name) 2 84 69 (kX9_record_69 N r10) := by
  refine av_live ?_
  refine av_iinc dX9_record_69 (by decide) (by decide) ?_
  refine av_goto (tgt := 10) dX9_record_72 (by decide) ?_
  exact av_live h10
set_option maxRecDepth 20000 in
theorem vX9_record_10 (l : Launch) (hfl : l.stackTraces = false) (N : Nat)  : am_V l cX9_record 5 RX9 (am_E none yX9_record.name) 2 84 10 (kX9_record_10 N) := by
  refine av_live ?_
  refine av_loop (fun r10 h10 => ?_) N
  refine av_iload_n dX9_record_10 rfl ?_
  refine av_iload_n dX9_record_11 rfl ?_
  refine av_icge (tgt := 75) dX9_record_12 (by decide) ?_ ?_
  · exact av_return_ am_hv dX9_record_75
  refine av_aload_n dX9_record_15 rfl ?_
  refine av_geti am_ci6 (by decide) am_f6_4 q134 dX9_record_16 ?_
  refine av_bipush (v := 6) dX9_record_19 (by decide) ?_
  refine av_imul dX9_record_21 ?_
  refine av_iload_n dX9_record_22 rfl ?_
  refine av_iadd dX9_record_23 ?_
  refine av_istore dX9_record_24 (by decide) ?_
  refine av_iload dX9_record_26 ?_
  refine av_iflt (tgt := 69) dX9_record_28 (by decide) ?_ ?_
  · exact vX9_record_69 l hfl N h10
  refine av_iload dX9_record_31 ?_
  refine av_aload_n dX9_record_33 rfl ?_
  refine av_getr am_ci9 (by decide) am_f9_0 q130 dX9_record_34 ?_
  refine av_arraylength dX9_record_37 ?_
  refine av_icge (tgt := 69) dX9_record_38 (by decide) ?_ ?_
  · exact vX9_record_69 l hfl N h10
  refine av_aload_n dX9_record_41 rfl ?_
  refine av_getr am_ci9 (by decide) am_f9_0 q130 dX9_record_42 ?_
  refine av_iload dX9_record_45 ?_
  refine av_aload_n dX9_record_47 rfl ?_
  refine av_getr am_ci6 (by decide) am_f6_8 q132 dX9_record_48 ?_
  refine av_iload_n dX9_record_51 rfl ?_
  refine av_iconst (v := 0) dX9_record_52 (by decide) ?_
  refine av_callV am_hT (mX7_get l hfl N) am_ci7 ⟨by decide +kernel, by decide +kernel, by decide +kernel⟩ q135 q86 q73 q87 q88 (by decide) (by decide) dX9_record_53 ?_
  refine av_aload_n dX9_record_56 rfl ?_
  refine av_getr am_ci6 (by decide) am_f6_8 q132 dX9_record_57 ?_
  refine av_iload_n dX9_record_60 rfl ?_
  refine av_iconst (v := 1) dX9_record_61 (by decide) ?_
  refine av_callV am_hT (mX7_get l hfl N) am_ci7 ⟨by decide +kernel, by decide +kernel, by decide +kernel⟩ q135 q86 q73 q87 q88 (by decide) (by decide) dX9_record_62 ?_
  refine av_callSN (mX10_nameOf l hfl N) ⟨by decide +kernel, by decide +kernel, by decide +kernel⟩ n9 q136 q111 q137 (by decide) (by decide) dX9_record_65 ?_
  refine av_iastore dX9_record_68 ?_
  exact vX9_record_69 l hfl N h10
set_option maxRecDepth 20000 in
theorem vX9_record_0 (l : Launch) (hfl : l.stackTraces = false) (N : Nat)  : am_V l cX9_record 5 RX9 (am_E none yX9_record.name) 2 84 0 (kX9_record_0 N) := by
  refine av_live ?_
  refine av_aload_n dX9_record_0 rfl ?_
  refine av_getr am_ci6 (by decide) am_f6_8 q132 dX9_record_1 ?_
  refine av_callV am_hT (mX7_count l hfl N) am_ci7 ⟨by decide +kernel, by decide +kernel, by decide +kernel⟩ q133 q90 q73 q91 q92 (by decide) (by decide) dX9_record_4 ?_
  refine av_istore_n dX9_record_7 rfl (by decide) ?_
  refine av_iconst (v := 0) dX9_record_8 (by decide) ?_
  refine av_istore_n dX9_record_9 rfl (by decide) ?_
  exact vX9_record_10 l hfl N
theorem mX9_record (l : Launch) (hfl : l.stackTraces = false) (N : Nat) : am_M l yX9_record cX9_record 5 none 2 84 (fX9_record N) := av_meth hfl (by decide +kernel) rfl (vX9_record_0 l hfl N)
/-! MessengerBoard$History.<init>()V -/
noncomputable def kX3_init_0 (N : Nat) : am_K := c_live [0] <|
  c_rld 0 <|
  c_oinit <|
  c_rld 0 <|
  c_i (10) <|
  c_newa 22 <|
  c_putr 3 0 <|
  c_vret
noncomputable def fX3_init (N : Nat) : am_F := am_fn 1 (kX3_init_0 N)
set_option maxRecDepth 20000 in
theorem vX3_init_0 (l : Launch) (hfl : l.stackTraces = false) (N : Nat)  : am_V l cX3_init 1 RX3 (am_E none yX3_init.name) 1 60 0 (kX3_init_0 N) := by
  refine av_live ?_
  refine av_aload_n dX3_init_0 rfl ?_
  refine av_objInit q138 q25 q26 (by decide) (by decide) dX3_init_1 ?_
  refine av_aload_n dX3_init_4 rfl ?_
  refine av_bipush (v := 10) dX3_init_5 (by decide) ?_
  refine av_newarr_ref (t0 := 2) (by decide) (by decide) (fun _ => rfl) q139 (by decide +kernel) dX3_init_7 ?_
  refine av_putrF am_ci3 (by decide) am_f3_0 q140 (tyX3_ok 0 (by decide)) (fun _ => ⟨rfl, rfl⟩) ⟨rfl, rfl⟩ dX3_init_10 ?_
  exact av_return_ am_hv dX3_init_13
theorem mX3_init (l : Launch) (hfl : l.stackTraces = false) (N : Nat) : am_M l yX3_init cX3_init 1 none 1 60 (fX3_init N) := av_meth hfl (by decide +kernel) rfl (vX3_init_0 l hfl N)
/-! MessengerBoard$History.count()I -/
noncomputable def kX3_count_0 (N : Nat) : am_K := c_live [0] <|
  c_rld 0 <|
  c_geti 3 2 <|
  c_iret
noncomputable def fX3_count (N : Nat) : am_F := am_fn 1 (kX3_count_0 N)
set_option maxRecDepth 20000 in
theorem vX3_count_0 (l : Launch) (hfl : l.stackTraces = false) (N : Nat)  : am_V l cX3_count 1 RX3 (am_E (some .int) yX3_count.name) 1 60 0 (kX3_count_0 N) := by
  refine av_live ?_
  refine av_aload_n dX3_count_0 rfl ?_
  refine av_geti am_ci3 (by decide) am_f3_2 q141 dX3_count_1 ?_
  exact av_ireturn am_hi dX3_count_4
theorem mX3_count (l : Launch) (hfl : l.stackTraces = false) (N : Nat) : am_M l yX3_count cX3_count 1 (some .int) 1 60 (fX3_count N) := av_meth hfl (by decide +kernel) rfl (vX3_count_0 l hfl N)
/-! MessengerBoard$History.bringBack(LMessengerBoard$Situation;)Z -/
noncomputable def kX3_bringBack_46 (N : Nat) : am_K := c_live [] <|
  c_i (0) <|
  c_zret
noncomputable def kX3_bringBack_0 (N : Nat) : am_K := c_live [0, 1] <|
  c_rld 0 <|
  c_geti 3 2 <|
  c_ifgt (
  c_rld 0 <|
  c_geti 3 1 <|
  c_rld 0 <|
  c_geti 3 2 <|
  c_ii (fun x y => x + y) <|
  c_i (1) <|
  c_ii (fun x y => x - y) <|
  c_i (10) <|
  c_irem <|
  c_ist 2 <|
  c_ild 2 <|
  c_iflt (
  kX3_bringBack_46 N) <|
  c_ild 2 <|
  c_rld 0 <|
  c_getr 3 0 <|
  c_alen <|
  c_icge (
  kX3_bringBack_46 N) <|
  c_rld 0 <|
  c_getr 3 0 <|
  c_ild 2 <|
  c_aal 22 <|
  c_ifnonnull (
  c_rld 1 <|
  c_rld 0 <|
  c_getr 3 0 <|
  c_ild 2 <|
  c_aal 22 <|
  c_callV 6 1 (fX6_copyFrom N) <|
  c_rld 0 <|
  c_dup <|
  c_geti 3 2 <|
  c_i (1) <|
  c_ii (fun x y => x - y) <|
  c_puti 3 2 <|
  c_i (1) <|
  c_zret) <|
  kX3_bringBack_46 N) <|
  c_i (0) <|
  c_zret
noncomputable def fX3_bringBack (N : Nat) : am_F := am_fn 3 (kX3_bringBack_0 N)
set_option maxRecDepth 20000 in
theorem vX3_bringBack_46 (l : Launch) (hfl : l.stackTraces = false) (N : Nat)  : am_V l cX3_bringBack 3 RX3 (am_E (some .boolean) yX3_bringBack.name) 3 103 46 (kX3_bringBack_46 N) := by
  refine av_live ?_
  refine av_iconst (v := 0) dX3_bringBack_46 (by decide) ?_
  exact av_zreturn am_hz dX3_bringBack_47
set_option maxRecDepth 20000 in
theorem vX3_bringBack_0 (l : Launch) (hfl : l.stackTraces = false) (N : Nat)  : am_V l cX3_bringBack 3 RX3 (am_E (some .boolean) yX3_bringBack.name) 3 103 0 (kX3_bringBack_0 N) := by
  refine av_live ?_
  refine av_aload_n dX3_bringBack_0 rfl ?_
  refine av_geti am_ci3 (by decide) am_f3_2 q141 dX3_bringBack_1 ?_
  refine av_ifgt (tgt := 9) dX3_bringBack_4 (by decide) ?_ ?_
  · refine av_aload_n dX3_bringBack_9 rfl ?_
    refine av_geti am_ci3 (by decide) am_f3_1 q142 dX3_bringBack_10 ?_
    refine av_aload_n dX3_bringBack_13 rfl ?_
    refine av_geti am_ci3 (by decide) am_f3_2 q141 dX3_bringBack_14 ?_
    refine av_iadd dX3_bringBack_17 ?_
    refine av_iconst (v := 1) dX3_bringBack_18 (by decide) ?_
    refine av_isub dX3_bringBack_19 ?_
    refine av_bipush (v := 10) dX3_bringBack_20 (by decide) ?_
    refine av_irem dX3_bringBack_22 ?_
    refine av_istore_n dX3_bringBack_23 rfl (by decide) ?_
    refine av_iload_n dX3_bringBack_24 rfl ?_
    refine av_iflt (tgt := 46) dX3_bringBack_25 (by decide) ?_ ?_
    · exact vX3_bringBack_46 l hfl N
    refine av_iload_n dX3_bringBack_28 rfl ?_
    refine av_aload_n dX3_bringBack_29 rfl ?_
    refine av_getr am_ci3 (by decide) am_f3_0 q140 dX3_bringBack_30 ?_
    refine av_arraylength dX3_bringBack_33 ?_
    refine av_icge (tgt := 46) dX3_bringBack_34 (by decide) ?_ ?_
    · exact vX3_bringBack_46 l hfl N
    refine av_aload_n dX3_bringBack_37 rfl ?_
    refine av_getr am_ci3 (by decide) am_f3_0 q140 dX3_bringBack_38 ?_
    refine av_iload_n dX3_bringBack_41 rfl ?_
    refine av_aaload (t0 := 2) (by decide) (by decide) (fun _ => rfl) dX3_bringBack_42 ?_
    refine av_ifnonnull (tgt := 48) dX3_bringBack_43 (by decide) ?_ ?_
    · refine av_aload_n dX3_bringBack_48 rfl ?_
      refine av_aload_n dX3_bringBack_49 rfl ?_
      refine av_getr am_ci3 (by decide) am_f3_0 q140 dX3_bringBack_50 ?_
      refine av_iload_n dX3_bringBack_53 rfl ?_
      refine av_aaload (t0 := 2) (by decide) (by decide) (fun _ => rfl) dX3_bringBack_54 ?_
      refine av_callV am_hT (mX6_copyFrom l hfl N) am_ci6 ⟨by decide +kernel, by decide +kernel, by decide +kernel⟩ q143 q144 q126 q145 q146 (by decide) (by decide) dX3_bringBack_55 ?_
      refine av_aload_n dX3_bringBack_58 rfl ?_
      refine av_dup dX3_bringBack_59 ?_
      refine av_geti am_ci3 (by decide) am_f3_2 q141 dX3_bringBack_60 ?_
      refine av_iconst (v := 1) dX3_bringBack_63 (by decide) ?_
      refine av_isub dX3_bringBack_64 ?_
      refine av_puti am_ci3 (by decide) am_f3_2 q141 (tyX3_ok 2 (by decide)) rfl dX3_bringBack_65 ?_
      refine av_iconst (v := 1) dX3_bringBack_68 (by decide) ?_
      exact av_zreturn am_hz dX3_bringBack_69
    exact vX3_bringBack_46 l hfl N
  refine av_iconst (v := 0) dX3_bringBack_7 (by decide) ?_
  exact av_zreturn am_hz dX3_bringBack_8
theorem mX3_bringBack (l : Launch) (hfl : l.stackTraces = false) (N : Nat) : am_M l yX3_bringBack cX3_bringBack 3 (some .boolean) 3 103 (fX3_bringBack N) := av_meth hfl (by decide +kernel) rfl (vX3_bringBack_0 l hfl N)
/-! MessengerBoard$History.clear()V -/
noncomputable def kX3_clear_0 (N : Nat) : am_K := c_live [0] <|
  c_rld 0 <|
  c_i (0) <|
  c_puti 3 1 <|
  c_rld 0 <|
  c_i (0) <|
  c_puti 3 2 <|
  c_vret
noncomputable def fX3_clear (N : Nat) : am_F := am_fn 1 (kX3_clear_0 N)
set_option maxRecDepth 20000 in
theorem vX3_clear_0 (l : Launch) (hfl : l.stackTraces = false) (N : Nat)  : am_V l cX3_clear 1 RX3 (am_E none yX3_clear.name) 1 60 0 (kX3_clear_0 N) := by
  refine av_live ?_
  refine av_aload_n dX3_clear_0 rfl ?_
  refine av_iconst (v := 0) dX3_clear_1 (by decide) ?_
  refine av_puti am_ci3 (by decide) am_f3_1 q142 (tyX3_ok 1 (by decide)) rfl dX3_clear_2 ?_
  refine av_aload_n dX3_clear_5 rfl ?_
  refine av_iconst (v := 0) dX3_clear_6 (by decide) ?_
  refine av_puti am_ci3 (by decide) am_f3_2 q141 (tyX3_ok 2 (by decide)) rfl dX3_clear_7 ?_
  exact av_return_ am_hv dX3_clear_10
theorem mX3_clear (l : Launch) (hfl : l.stackTraces = false) (N : Nat) : am_M l yX3_clear cX3_clear 1 none 1 60 (fX3_clear N) := av_meth hfl (by decide +kernel) rfl (vX3_clear_0 l hfl N)
/-! MessengerBoard$History.remember(LMessengerBoard$Situation;)V -/
noncomputable def kX3_remember_54 (N : Nat) : am_K := c_live [] <|
  c_vret
noncomputable def kX3_remember_77 (N : Nat) : am_K := c_live [0, 1, 2] <|
  c_rld 0 <|
  c_getr 3 0 <|
  c_ild 2 <|
  c_aal 22 <|
  c_rld 1 <|
  c_callV 6 1 (fX6_copyFrom N) <|
  c_rld 0 <|
  c_dup <|
  c_geti 3 2 <|
  c_i (1) <|
  c_ii (fun x y => x + y) <|
  c_puti 3 2 <|
  c_vret
noncomputable def kX3_remember_28 (N : Nat) : am_K := c_live [0, 1] <|
  c_rld 0 <|
  c_geti 3 1 <|
  c_rld 0 <|
  c_geti 3 2 <|
  c_ii (fun x y => x + y) <|
  c_i (10) <|
  c_irem <|
  c_ist 2 <|
  c_ild 2 <|
  c_iflt (
  kX3_remember_54 N) <|
  c_ild 2 <|
  c_rld 0 <|
  c_getr 3 0 <|
  c_alen <|
  c_iclt (
  c_rld 0 <|
  c_getr 3 0 <|
  c_ild 2 <|
  c_aal 22 <|
  c_ifnonnull (
  kX3_remember_77 N) <|
  c_rld 0 <|
  c_getr 3 0 <|
  c_ild 2 <|
  c_new 6 <|
  c_dup <|
  c_callI 0 (fX6_init N) <|
  c_aas 22 6 <|
  kX3_remember_77 N) <|
  kX3_remember_54 N
noncomputable def kX3_remember_0 (N : Nat) : am_K := c_live [0, 1] <|
  c_rld 0 <|
  c_geti 3 2 <|
  c_i (10) <|
  c_iclt (
  kX3_remember_28 N) <|
  c_rld 0 <|
  c_rld 0 <|
  c_geti 3 1 <|
  c_i (1) <|
  c_ii (fun x y => x + y) <|
  c_i (10) <|
  c_irem <|
  c_puti 3 1 <|
  c_rld 0 <|
  c_i (9) <|
  c_puti 3 2 <|
  kX3_remember_28 N
noncomputable def fX3_remember (N : Nat) : am_F := am_fn 3 (kX3_remember_0 N)
set_option maxRecDepth 20000 in
theorem vX3_remember_54 (l : Launch) (hfl : l.stackTraces = false) (N : Nat)  : am_V l cX3_remember 3 RX3 (am_E none yX3_remember.name) 3 103 54 (kX3_remember_54 N) := by
  refine av_live ?_
  exact av_return_ am_hv dX3_remember_54
set_option maxRecDepth 20000 in
theorem vX3_remember_77 (l : Launch) (hfl : l.stackTraces = false) (N : Nat)  : am_V l cX3_remember 3 RX3 (am_E none yX3_remember.name) 3 103 77 (kX3_remember_77 N) := by
  refine av_live ?_
  refine av_aload_n dX3_remember_77 rfl ?_
  refine av_getr am_ci3 (by decide) am_f3_0 q140 dX3_remember_78 ?_
  refine av_iload_n dX3_remember_81 rfl ?_
  refine av_aaload (t0 := 2) (by decide) (by decide) (fun _ => rfl) dX3_remember_82 ?_
  refine av_aload_n dX3_remember_83 rfl ?_
  refine av_callV am_hT (mX6_copyFrom l hfl N) am_ci6 ⟨by decide +kernel, by decide +kernel, by decide +kernel⟩ q143 q144 q126 q145 q146 (by decide) (by decide) dX3_remember_84 ?_
  refine av_aload_n dX3_remember_87 rfl ?_
  refine av_dup dX3_remember_88 ?_
  refine av_geti am_ci3 (by decide) am_f3_2 q141 dX3_remember_89 ?_
  refine av_iconst (v := 1) dX3_remember_92 (by decide) ?_
  refine av_iadd dX3_remember_93 ?_
  refine av_puti am_ci3 (by decide) am_f3_2 q141 (tyX3_ok 2 (by decide)) rfl dX3_remember_94 ?_
  exact av_return_ am_hv dX3_remember_97
set_option maxRecDepth 20000 in
theorem vX3_remember_28 (l : Launch) (hfl : l.stackTraces = false) (N : Nat)  : am_V l cX3_remember 3 RX3 (am_E none yX3_remember.name) 3 103 28 (kX3_remember_28 N) := by
  refine av_live ?_
  refine av_aload_n dX3_remember_28 rfl ?_
  refine av_geti am_ci3 (by decide) am_f3_1 q142 dX3_remember_29 ?_
  refine av_aload_n dX3_remember_32 rfl ?_
  refine av_geti am_ci3 (by decide) am_f3_2 q141 dX3_remember_33 ?_
  refine av_iadd dX3_remember_36 ?_
  refine av_bipush (v := 10) dX3_remember_37 (by decide) ?_
  refine av_irem dX3_remember_39 ?_
  refine av_istore_n dX3_remember_40 rfl (by decide) ?_
  refine av_iload_n dX3_remember_41 rfl ?_
  refine av_iflt (tgt := 54) dX3_remember_42 (by decide) ?_ ?_
  · exact vX3_remember_54 l hfl N
  refine av_iload_n dX3_remember_45 rfl ?_
  refine av_aload_n dX3_remember_46 rfl ?_
  refine av_getr am_ci3 (by decide) am_f3_0 q140 dX3_remember_47 ?_
  refine av_arraylength dX3_remember_50 ?_
  refine av_iclt (tgt := 55) dX3_remember_51 (by decide) ?_ ?_
  · refine av_aload_n dX3_remember_55 rfl ?_
    refine av_getr am_ci3 (by decide) am_f3_0 q140 dX3_remember_56 ?_
    refine av_iload_n dX3_remember_59 rfl ?_
    refine av_aaload (t0 := 2) (by decide) (by decide) (fun _ => rfl) dX3_remember_60 ?_
    refine av_ifnonnull (tgt := 77) dX3_remember_61 (by decide) ?_ ?_
    · exact vX3_remember_77 l hfl N
    refine av_aload_n dX3_remember_64 rfl ?_
    refine av_getr am_ci3 (by decide) am_f3_0 q140 dX3_remember_65 ?_
    refine av_iload_n dX3_remember_68 rfl ?_
    refine av_newobj am_ci6 q139 q147 q126 dX3_remember_69 ?_
    refine av_dup dX3_remember_72 ?_
    refine av_callI (mX6_init l hfl N) rfl ⟨by decide +kernel, by decide +kernel, by decide +kernel⟩ q148 q149 q126 q150 (by decide) (by decide) dX3_remember_73 ?_
    refine av_aastore (t0 := 2) (by decide) (by decide) am_ci6 (fun _ => rfl) dX3_remember_76 ?_
    exact vX3_remember_77 l hfl N
  exact vX3_remember_54 l hfl N
set_option maxRecDepth 20000 in
theorem vX3_remember_0 (l : Launch) (hfl : l.stackTraces = false) (N : Nat)  : am_V l cX3_remember 3 RX3 (am_E none yX3_remember.name) 3 103 0 (kX3_remember_0 N) := by
  refine av_live ?_
  refine av_aload_n dX3_remember_0 rfl ?_
  refine av_geti am_ci3 (by decide) am_f3_2 q141 dX3_remember_1 ?_
  refine av_bipush (v := 10) dX3_remember_4 (by decide) ?_
  refine av_iclt (tgt := 28) dX3_remember_6 (by decide) ?_ ?_
  · exact vX3_remember_28 l hfl N
  refine av_aload_n dX3_remember_9 rfl ?_
  refine av_aload_n dX3_remember_10 rfl ?_
  refine av_geti am_ci3 (by decide) am_f3_1 q142 dX3_remember_11 ?_
  refine av_iconst (v := 1) dX3_remember_14 (by decide) ?_
  refine av_iadd dX3_remember_15 ?_
  refine av_bipush (v := 10) dX3_remember_16 (by decide) ?_
  refine av_irem dX3_remember_18 ?_
  refine av_puti am_ci3 (by decide) am_f3_1 q142 (tyX3_ok 1 (by decide)) rfl dX3_remember_19 ?_
  refine av_aload_n dX3_remember_22 rfl ?_
  refine av_bipush (v := 9) dX3_remember_23 (by decide) ?_
  refine av_puti am_ci3 (by decide) am_f3_2 q141 (tyX3_ok 2 (by decide)) rfl dX3_remember_25 ?_
  exact vX3_remember_28 l hfl N
theorem mX3_remember (l : Launch) (hfl : l.stackTraces = false) (N : Nat) : am_M l yX3_remember cX3_remember 3 none 3 103 (fX3_remember N) := av_meth hfl (by decide +kernel) rfl (vX3_remember_0 l hfl N)
/-! MessengerBoard$Paths.<init>(LMessengerBoard$Situation;)V -/
noncomputable def kX4_init_0 (N : Nat) : am_K := c_live [0, 1] <|
  c_rld 0 <|
  c_oinit <|
  c_rld 0 <|
  c_i (144) <|
  c_newa 23 <|
  c_putr 4 1 <|
  c_rld 0 <|
  c_i (144) <|
  c_newa 20 <|
  c_putr 4 2 <|
  c_rld 0 <|
  c_rld 1 <|
  c_putr 4 0 <|
  c_vret
noncomputable def fX4_init (N : Nat) : am_F := am_fn 2 (kX4_init_0 N)
set_option maxRecDepth 20000 in
theorem vX4_init_0 (l : Launch) (hfl : l.stackTraces = false) (N : Nat)  : am_V l cX4_init 2 RX4 (am_E none yX4_init.name) 1 60 0 (kX4_init_0 N) := by
  refine av_live ?_
  refine av_aload_n dX4_init_0 rfl ?_
  refine av_objInit q151 q25 q26 (by decide) (by decide) dX4_init_1 ?_
  refine av_aload_n dX4_init_4 rfl ?_
  refine av_sipush (v := 144) dX4_init_5 (by decide) ?_
  refine av_newarr_ref (t0 := 3) (by decide) (by decide) (fun _ => rfl) q152 (by decide +kernel) dX4_init_8 ?_
  refine av_putrF am_ci4 (by decide) am_f4_1 q153 (tyX4_ok 1 (by decide)) (fun _ => ⟨rfl, rfl⟩) ⟨rfl, rfl⟩ dX4_init_11 ?_
  refine av_aload_n dX4_init_14 rfl ?_
  refine av_sipush (v := 144) dX4_init_15 (by decide) ?_
  refine av_newarr_int q29 dX4_init_18 ?_
  refine av_putrF am_ci4 (by decide) am_f4_2 q154 (tyX4_ok 2 (by decide)) (fun _ => ⟨rfl, rfl⟩) ⟨rfl, rfl⟩ dX4_init_20 ?_
  refine av_aload_n dX4_init_23 rfl ?_
  refine av_aload_n dX4_init_24 rfl ?_
  refine av_putrF am_ci4 (by decide) am_f4_0 q155 (tyX4_ok 0 (by decide)) (fun _ => ⟨rfl, rfl⟩) ⟨rfl, rfl⟩ dX4_init_25 ?_
  exact av_return_ am_hv dX4_init_28
theorem mX4_init (l : Launch) (hfl : l.stackTraces = false) (N : Nat) : am_M l yX4_init cX4_init 2 none 1 60 (fX4_init N) := av_meth hfl (by decide +kernel) rfl (vX4_init_0 l hfl N)
/-! MessengerBoard$Paths.forget()V -/
noncomputable def kX4_forget_30 (N : Nat) (r2 : am_K) : am_K := c_live [0, 1] <|
  c_inc 1 (1) <|
  c_live [0, 1] r2
noncomputable def bX4_forget_2 (N : Nat) (r2 : am_K) : am_K :=
  c_ild 1 <|
  c_rld 0 <|
  c_getr 4 1 <|
  c_alen <|
  c_icge (
  c_vret) <|
  c_rld 0 <|
  c_getr 4 1 <|
  c_ild 1 <|
  c_aal 23 <|
  c_ifnull (
  kX4_forget_30 N r2) <|
  c_rld 0 <|
  c_getr 4 1 <|
  c_ild 1 <|
  c_aal 23 <|
  c_i (0) <|
  c_putz 2 1 <|
  kX4_forget_30 N r2
noncomputable def kX4_forget_2 (N : Nat) : am_K := c_live [0, 1] (am_loop (bX4_forget_2 N) N)
noncomputable def kX4_forget_0 (N : Nat) : am_K := c_live [0] <|
  c_i (0) <|
  c_ist 1 <|
  kX4_forget_2 N
noncomputable def fX4_forget (N : Nat) : am_F := am_fn 2 (kX4_forget_0 N)
set_option maxRecDepth 20000 in
theorem vX4_forget_30 (l : Launch) (hfl : l.stackTraces = false) (N : Nat)  {r2 : am_K} (h2 : am_V l cX4_forget 2 RX4 (am_E none yX4_forget.name) 1 60 2 r2) : am_V l cX4_forget 2 RX4 (am_E none yX4_forget.name) 1 60 30 (kX4_forget_30 N r2) := by
  refine av_live ?_
  refine av_iinc dX4_forget_30 (by decide) (by decide) ?_
  refine av_goto (tgt := 2) dX4_forget_33 (by decide) ?_
  exact av_live h2
set_option maxRecDepth 20000 in
theorem vX4_forget_2 (l : Launch) (hfl : l.stackTraces = false) (N : Nat)  : am_V l cX4_forget 2 RX4 (am_E none yX4_forget.name) 1 60 2 (kX4_forget_2 N) := by
  refine av_live ?_
  refine av_loop (fun r2 h2 => ?_) N
  refine av_iload_n dX4_forget_2 rfl ?_
  refine av_aload_n dX4_forget_3 rfl ?_
  refine av_getr am_ci4 (by decide) am_f4_1 q153 dX4_forget_4 ?_
  refine av_arraylength dX4_forget_7 ?_
  refine av_icge (tgt := 36) dX4_forget_8 (by decide) ?_ ?_
  · exact av_return_ am_hv dX4_forget_36
  refine av_aload_n dX4_forget_11 rfl ?_
  refine av_getr am_ci4 (by decide) am_f4_1 q153 dX4_forget_12 ?_
  refine av_iload_n dX4_forget_15 rfl ?_
  refine av_aaload (t0 := 3) (by decide) (by decide) (fun _ => rfl) dX4_forget_16 ?_
  refine av_ifnull (tgt := 30) dX4_forget_17 (by decide) ?_ ?_
  · exact vX4_forget_30 l hfl N h2
  refine av_aload_n dX4_forget_20 rfl ?_
  refine av_getr am_ci4 (by decide) am_f4_1 q153 dX4_forget_21 ?_
  refine av_iload_n dX4_forget_24 rfl ?_
  refine av_aaload (t0 := 3) (by decide) (by decide) (fun _ => rfl) dX4_forget_25 ?_
  refine av_iconst (v := 0) dX4_forget_26 (by decide) ?_
  refine av_putz am_ci2 (by decide) am_f2_1 q156 (tyX2_ok 1 (by decide)) rfl dX4_forget_27 ?_
  exact vX4_forget_30 l hfl N h2
set_option maxRecDepth 20000 in
theorem vX4_forget_0 (l : Launch) (hfl : l.stackTraces = false) (N : Nat)  : am_V l cX4_forget 2 RX4 (am_E none yX4_forget.name) 1 60 0 (kX4_forget_0 N) := by
  refine av_live ?_
  refine av_iconst (v := 0) dX4_forget_0 (by decide) ?_
  refine av_istore_n dX4_forget_1 rfl (by decide) ?_
  exact vX4_forget_2 l hfl N
theorem mX4_forget (l : Launch) (hfl : l.stackTraces = false) (N : Nat) : am_M l yX4_forget cX4_forget 2 none 1 60 (fX4_forget N) := av_meth hfl (by decide +kernel) rfl (vX4_forget_0 l hfl N)
/-! MessengerBoard.xOf(I)I -/
noncomputable def kX10_xOf_0 (N : Nat) : am_K := c_live [0] <|
  c_ild 0 <|
  c_i (12) <|
  c_irem <|
  c_iret
noncomputable def fX10_xOf (N : Nat) : am_F := am_fn 1 (kX10_xOf_0 N)
set_option maxRecDepth 20000 in
theorem vX10_xOf_0 (l : Launch) (hfl : l.stackTraces = false) (N : Nat)  : am_V l cX10_xOf 1 RX10 (am_E (some .int) yX10_xOf.name) 1 60 0 (kX10_xOf_0 N) := by
  refine av_live ?_
  refine av_iload_n dX10_xOf_0 rfl ?_
  refine av_bipush (v := 12) dX10_xOf_1 (by decide) ?_
  refine av_irem dX10_xOf_3 ?_
  exact av_ireturn am_hi dX10_xOf_4
theorem mX10_xOf (l : Launch) (hfl : l.stackTraces = false) (N : Nat) : am_M l yX10_xOf cX10_xOf 1 (some .int) 1 60 (fX10_xOf N) := av_meth hfl (by decide +kernel) rfl (vX10_xOf_0 l hfl N)
/-! MessengerBoard.yOf(I)I -/
noncomputable def kX10_yOf_0 (N : Nat) : am_K := c_live [0] <|
  c_ild 0 <|
  c_i (12) <|
  c_idiv <|
  c_iret
noncomputable def fX10_yOf (N : Nat) : am_F := am_fn 1 (kX10_yOf_0 N)
set_option maxRecDepth 20000 in
theorem vX10_yOf_0 (l : Launch) (hfl : l.stackTraces = false) (N : Nat)  : am_V l cX10_yOf 1 RX10 (am_E (some .int) yX10_yOf.name) 1 60 0 (kX10_yOf_0 N) := by
  refine av_live ?_
  refine av_iload_n dX10_yOf_0 rfl ?_
  refine av_bipush (v := 12) dX10_yOf_1 (by decide) ?_
  refine av_idiv dX10_yOf_3 ?_
  exact av_ireturn am_hi dX10_yOf_4
theorem mX10_yOf (l : Launch) (hfl : l.stackTraces = false) (N : Nat) : am_M l yX10_yOf cX10_yOf 1 (some .int) 1 60 (fX10_yOf N) := av_meth hfl (by decide +kernel) rfl (vX10_yOf_0 l hfl N)
/-! MessengerBoard$Paths.toward(I)LMessengerBoard$Distances; -/
noncomputable def kX4_toward_13 (N : Nat) : am_K := c_live [] <|
  (fun _ _ _ => none)
noncomputable def kX4_toward_213 (N : Nat) : am_K := c_live [2] <|
  c_rld 2 <|
  c_rret
noncomputable def kX4_toward_201 (N : Nat) (r104 : am_K) (r132 : am_K) : am_K := c_live [0, 2, 3, 4, 5, 6] <|
  c_inc 6 (1) <|
  c_live [0, 2, 3, 4, 5, 6] r132
noncomputable def bX4_toward_132 (N : Nat) (r104 : am_K) (r132 : am_K) : am_K :=
  c_ild 6 <|
  c_i (4) <|
  c_icge (
  c_inc 4 (1) <|
  c_live [0, 2, 3, 4] r104) <|
  c_rld 0 <|
  c_getr 4 0 <|
  c_ild 5 <|
  c_ild 6 <|
  c_callV 6 2 (fX6_freeBeside N) <|
  c_ist 7 <|
  c_ild 7 <|
  c_i (-1) <|
  c_iceq (
  kX4_toward_201 N r104 r132) <|
  c_rld 2 <|
  c_ild 7 <|
  c_callV 2 1 (fX2_from N) <|
  c_i (-1) <|
  c_icne (
  kX4_toward_201 N r104 r132) <|
  c_ild 3 <|
  c_rld 0 <|
  c_getr 4 2 <|
  c_alen <|
  c_icge (
  kX4_toward_201 N r104 r132) <|
  c_rld 2 <|
  c_ild 7 <|
  c_rld 2 <|
  c_ild 5 <|
  c_callV 2 1 (fX2_from N) <|
  c_i (1) <|
  c_ii (fun x y => x + y) <|
  c_callV 2 2 (fX2_set N) <|
  c_rld 0 <|
  c_getr 4 2 <|
  c_ild 3 <|
  c_ild 7 <|
  c_ias <|
  c_inc 3 (1) <|
  kX4_toward_201 N r104 r132
noncomputable def kX4_toward_132 (N : Nat) (r104 : am_K) : am_K := c_live [0, 2, 3, 4, 5, 6] (am_loop (bX4_toward_132 N r104) N)
noncomputable def bX4_toward_104 (N : Nat) (r104 : am_K) : am_K :=
  c_ild 4 <|
  c_ild 3 <|
  c_icge (
  kX4_toward_213 N) <|
  c_ild 4 <|
  c_rld 0 <|
  c_getr 4 2 <|
  c_alen <|
  c_icge (
  kX4_toward_213 N) <|
  c_rld 0 <|
  c_getr 4 2 <|
  c_ild 4 <|
  c_ial <|
  c_ist 5 <|
  c_i (0) <|
  c_ist 6 <|
  kX4_toward_132 N r104
noncomputable def kX4_toward_104 (N : Nat) : am_K := c_live [0, 2, 3, 4] (am_loop (bX4_toward_104 N) N)
noncomputable def kX4_toward_101 (N : Nat) : am_K := c_live [0, 2, 3] <|
  c_i (0) <|
  c_ist 4 <|
  kX4_toward_104 N
noncomputable def kX4_toward_37 (N : Nat) : am_K := c_live [0, 1] <|
  c_rld 0 <|
  c_getr 4 1 <|
  c_ild 1 <|
  c_aal 23 <|
  c_rst 2 <|
  c_rld 2 <|
  c_geti 2 1 <|
  c_ifeq (
  c_rld 2 <|
  c_getr 2 0 <|
  c_i (-1) <|
  c_callS 2 (fJ7_fill_53178 N) <|
  c_rld 2 <|
  c_i (1) <|
  c_putz 2 1 <|
  c_i (0) <|
  c_ist 3 <|
  c_rld 0 <|
  c_getr 4 0 <|
  c_ild 1 <|
  c_callSN 1 (fX10_xOf N) <|
  c_ild 1 <|
  c_callSN 1 (fX10_yOf N) <|
  c_callV 6 2 (fX6_walled N) <|
  c_ifne (
  kX4_toward_101 N) <|
  c_rld 2 <|
  c_ild 1 <|
  c_i (0) <|
  c_callV 2 2 (fX2_set N) <|
  c_rld 0 <|
  c_getr 4 2 <|
  c_i (0) <|
  c_ild 1 <|
  c_ias <|
  c_i (1) <|
  c_ist 3 <|
  kX4_toward_101 N) <|
  c_rld 2 <|
  c_rret
noncomputable def kX4_toward_0 (N : Nat) : am_K := c_live [0, 1] <|
  c_ild 1 <|
  c_iflt (
  kX4_toward_13 N) <|
  c_ild 1 <|
  c_rld 0 <|
  c_getr 4 1 <|
  c_alen <|
  c_iclt (
  c_rld 0 <|
  c_getr 4 1 <|
  c_ild 1 <|
  c_aal 23 <|
  c_ifnonnull (
  kX4_toward_37 N) <|
  c_rld 0 <|
  c_getr 4 1 <|
  c_ild 1 <|
  c_new 2 <|
  c_dup <|
  c_callI 0 (fX2_init N) <|
  c_aas 23 2 <|
  kX4_toward_37 N) <|
  kX4_toward_13 N
noncomputable def fX4_toward (N : Nat) : am_F := am_fn 8 (kX4_toward_0 N)
set_option maxRecDepth 20000 in
theorem vX4_toward_13 (l : Launch) (hfl : l.stackTraces = false) (N : Nat)  : am_V l cX4_toward 8 RX4 (am_E (some (.object "MessengerBoard$Distances")) yX4_toward.name) 2 85 13 (kX4_toward_13 N) := by
  refine av_live ?_
  exact av_none
set_option maxRecDepth 20000 in
theorem vX4_toward_213 (l : Launch) (hfl : l.stackTraces = false) (N : Nat)  : am_V l cX4_toward 8 RX4 (am_E (some (.object "MessengerBoard$Distances")) yX4_toward.name) 2 85 213 (kX4_toward_213 N) := by
  refine av_live ?_
  refine av_aload_n dX4_toward_213 rfl ?_
  exact av_areturn am_hr dX4_toward_214
set_option maxRecDepth 20000 in
theorem vX4_toward_201 (l : Launch) (hfl : l.stackTraces = false) (N : Nat)  {r104 : am_K} (h104 : am_V l cX4_toward 8 RX4 (am_E (some (.object "MessengerBoard$Distances")) yX4_toward.name) 2 85 104 r104) {r132 : am_K} (h132 : am_V l cX4_toward 8 RX4 (am_E (some (.object "MessengerBoard$Distances")) yX4_toward.name) 2 85 132 r132) : am_V l cX4_toward 8 RX4 (am_E (some (.object "MessengerBoard$Distances")) yX4_toward.name) 2 85 201 (kX4_toward_201 N r104 r132) := by
  refine av_live ?_
  refine av_iinc dX4_toward_201 (by decide) (by decide) ?_
  refine av_goto (tgt := 132) dX4_toward_204 (by decide) ?_
  exact av_live h132
set_option maxRecDepth 20000 in
theorem vX4_toward_132 (l : Launch) (hfl : l.stackTraces = false) (N : Nat)  {r104 : am_K} (h104 : am_V l cX4_toward 8 RX4 (am_E (some (.object "MessengerBoard$Distances")) yX4_toward.name) 2 85 104 r104) : am_V l cX4_toward 8 RX4 (am_E (some (.object "MessengerBoard$Distances")) yX4_toward.name) 2 85 132 (kX4_toward_132 N r104) := by
  refine av_live ?_
  refine av_loop (fun r132 h132 => ?_) N
  refine av_iload dX4_toward_132 ?_
  refine av_iconst (v := 4) dX4_toward_134 (by decide) ?_
  refine av_icge (tgt := 207) dX4_toward_135 (by decide) ?_ ?_
  · refine av_iinc dX4_toward_207 (by decide) (by decide) ?_
    refine av_goto (tgt := 104) dX4_toward_210 (by decide) ?_
    exact av_live h104
  refine av_aload_n dX4_toward_138 rfl ?_
  refine av_getr am_ci4 (by decide) am_f4_0 q155 dX4_toward_139 ?_
  refine av_iload dX4_toward_142 ?_
  refine av_iload dX4_toward_144 ?_
  refine av_callV am_hT (mX6_freeBeside l hfl N) am_ci6 ⟨by decide +kernel, by decide +kernel, by decide +kernel⟩ q167 q168 q126 q169 q170 (by decide) (by decide) dX4_toward_146 ?_
  refine av_istore dX4_toward_149 (by decide) ?_
  refine av_iload dX4_toward_151 ?_
  refine av_iconst (v := -1) dX4_toward_153 (by decide) ?_
  refine av_iceq (tgt := 201) dX4_toward_154 (by decide) ?_ ?_
  · exact vX4_toward_201 l hfl N h104 h132
  refine av_aload_n dX4_toward_157 rfl ?_
  refine av_iload dX4_toward_158 ?_
  refine av_callV am_hT (mX2_from l hfl N) am_ci2 ⟨by decide +kernel, by decide +kernel, by decide +kernel⟩ q171 q172 q173 q174 q175 (by decide) (by decide) dX4_toward_160 ?_
  refine av_iconst (v := -1) dX4_toward_163 (by decide) ?_
  refine av_icne (tgt := 201) dX4_toward_164 (by decide) ?_ ?_
  · exact vX4_toward_201 l hfl N h104 h132
  refine av_iload_n dX4_toward_167 rfl ?_
  refine av_aload_n dX4_toward_168 rfl ?_
  refine av_getr am_ci4 (by decide) am_f4_2 q154 dX4_toward_169 ?_
  refine av_arraylength dX4_toward_172 ?_
  refine av_icge (tgt := 201) dX4_toward_173 (by decide) ?_ ?_
  · exact vX4_toward_201 l hfl N h104 h132
  refine av_aload_n dX4_toward_176 rfl ?_
  refine av_iload dX4_toward_177 ?_
  refine av_aload_n dX4_toward_179 rfl ?_
  refine av_iload dX4_toward_180 ?_
  refine av_callV am_hT (mX2_from l hfl N) am_ci2 ⟨by decide +kernel, by decide +kernel, by decide +kernel⟩ q171 q172 q173 q174 q175 (by decide) (by decide) dX4_toward_182 ?_
  refine av_iconst (v := 1) dX4_toward_185 (by decide) ?_
  refine av_iadd dX4_toward_186 ?_
  refine av_callV am_hT (mX2_set l hfl N) am_ci2 ⟨by decide +kernel, by decide +kernel, by decide +kernel⟩ q176 q177 q173 q178 q179 (by decide) (by decide) dX4_toward_187 ?_
  refine av_aload_n dX4_toward_190 rfl ?_
  refine av_getr am_ci4 (by decide) am_f4_2 q154 dX4_toward_191 ?_
  refine av_iload_n dX4_toward_194 rfl ?_
  refine av_iload dX4_toward_195 ?_
  refine av_iastore dX4_toward_197 ?_
  refine av_iinc dX4_toward_198 (by decide) (by decide) ?_
  exact vX4_toward_201 l hfl N h104 h132
set_option maxRecDepth 20000 in
theorem vX4_toward_104 (l : Launch) (hfl : l.stackTraces = false) (N : Nat)  : am_V l cX4_toward 8 RX4 (am_E (some (.object "MessengerBoard$Distances")) yX4_toward.name) 2 85 104 (kX4_toward_104 N) := by
  refine av_live ?_
  refine av_loop (fun r104 h104 => ?_) N
  refine av_iload dX4_toward_104 ?_
  refine av_iload_n dX4_toward_106 rfl ?_
  refine av_icge (tgt := 213) dX4_toward_107 (by decide) ?_ ?_
  · exact vX4_toward_213 l hfl N
  refine av_iload dX4_toward_110 ?_
  refine av_aload_n dX4_toward_112 rfl ?_
  refine av_getr am_ci4 (by decide) am_f4_2 q154 dX4_toward_113 ?_
  refine av_arraylength dX4_toward_116 ?_
  refine av_icge (tgt := 213) dX4_toward_117 (by decide) ?_ ?_
  · exact vX4_toward_213 l hfl N
  refine av_aload_n dX4_toward_120 rfl ?_
  refine av_getr am_ci4 (by decide) am_f4_2 q154 dX4_toward_121 ?_
  refine av_iload dX4_toward_124 ?_
  refine av_iaload dX4_toward_126 ?_
  refine av_istore dX4_toward_127 (by decide) ?_
  refine av_iconst (v := 0) dX4_toward_129 (by decide) ?_
  refine av_istore dX4_toward_130 (by decide) ?_
  exact vX4_toward_132 l hfl N h104
set_option maxRecDepth 20000 in
theorem vX4_toward_101 (l : Launch) (hfl : l.stackTraces = false) (N : Nat)  : am_V l cX4_toward 8 RX4 (am_E (some (.object "MessengerBoard$Distances")) yX4_toward.name) 2 85 101 (kX4_toward_101 N) := by
  refine av_live ?_
  refine av_iconst (v := 0) dX4_toward_101 (by decide) ?_
  refine av_istore dX4_toward_102 (by decide) ?_
  exact vX4_toward_104 l hfl N
set_option maxRecDepth 20000 in
theorem vX4_toward_37 (l : Launch) (hfl : l.stackTraces = false) (N : Nat)  : am_V l cX4_toward 8 RX4 (am_E (some (.object "MessengerBoard$Distances")) yX4_toward.name) 2 85 37 (kX4_toward_37 N) := by
  refine av_live ?_
  refine av_aload_n dX4_toward_37 rfl ?_
  refine av_getr am_ci4 (by decide) am_f4_1 q153 dX4_toward_38 ?_
  refine av_iload_n dX4_toward_41 rfl ?_
  refine av_aaload (t0 := 3) (by decide) (by decide) (fun _ => rfl) dX4_toward_42 ?_
  refine av_astore_n dX4_toward_43 rfl (by decide) ?_
  refine av_aload_n dX4_toward_44 rfl ?_
  refine av_geti am_ci2 (by decide) am_f2_1 q156 dX4_toward_45 ?_
  refine av_ifeq (tgt := 53) dX4_toward_48 (by decide) ?_ ?_
  · refine av_aload_n dX4_toward_53 rfl ?_
    refine av_getr am_ci2 (by decide) am_f2_0 q157 dX4_toward_54 ?_
    refine av_iconst (v := -1) dX4_toward_57 (by decide) ?_
    refine av_callS am_hT (mJ7_fill_53178 l hfl N) ⟨by decide +kernel, by decide +kernel, by decide +kernel⟩ q158 q103 q104 q105 (by decide) (by decide) dX4_toward_58 ?_
    refine av_aload_n dX4_toward_61 rfl ?_
    refine av_iconst (v := 1) dX4_toward_62 (by decide) ?_
    refine av_putz am_ci2 (by decide) am_f2_1 q156 (tyX2_ok 1 (by decide)) rfl dX4_toward_63 ?_
    refine av_iconst (v := 0) dX4_toward_66 (by decide) ?_
    refine av_istore_n dX4_toward_67 rfl (by decide) ?_
    refine av_aload_n dX4_toward_68 rfl ?_
    refine av_getr am_ci4 (by decide) am_f4_0 q155 dX4_toward_69 ?_
    refine av_iload_n dX4_toward_72 rfl ?_
    refine av_callSN (mX10_xOf l hfl N) ⟨by decide +kernel, by decide +kernel, by decide +kernel⟩ n4 q159 q111 q160 (by decide) (by decide) dX4_toward_73 ?_
    refine av_iload_n dX4_toward_76 rfl ?_
    refine av_callSN (mX10_yOf l hfl N) ⟨by decide +kernel, by decide +kernel, by decide +kernel⟩ n5 q161 q111 q162 (by decide) (by decide) dX4_toward_77 ?_
    refine av_callV am_hT (mX6_walled l hfl N) am_ci6 ⟨by decide +kernel, by decide +kernel, by decide +kernel⟩ q163 q164 q126 q165 q166 (by decide) (by decide) dX4_toward_80 ?_
    refine av_ifne (tgt := 101) dX4_toward_83 (by decide) ?_ ?_
    · exact vX4_toward_101 l hfl N
    refine av_aload_n dX4_toward_86 rfl ?_
    refine av_iload_n dX4_toward_87 rfl ?_
    refine av_iconst (v := 0) dX4_toward_88 (by decide) ?_
    refine av_callV am_hT (mX2_set l hfl N) am_ci2 ⟨by decide +kernel, by decide +kernel, by decide +kernel⟩ q176 q177 q173 q178 q179 (by decide) (by decide) dX4_toward_89 ?_
    refine av_aload_n dX4_toward_92 rfl ?_
    refine av_getr am_ci4 (by decide) am_f4_2 q154 dX4_toward_93 ?_
    refine av_iconst (v := 0) dX4_toward_96 (by decide) ?_
    refine av_iload_n dX4_toward_97 rfl ?_
    refine av_iastore dX4_toward_98 ?_
    refine av_iconst (v := 1) dX4_toward_99 (by decide) ?_
    refine av_istore_n dX4_toward_100 rfl (by decide) ?_
    exact vX4_toward_101 l hfl N
  refine av_aload_n dX4_toward_51 rfl ?_
  exact av_areturn am_hr dX4_toward_52
set_option maxRecDepth 20000 in
theorem vX4_toward_0 (l : Launch) (hfl : l.stackTraces = false) (N : Nat)  : am_V l cX4_toward 8 RX4 (am_E (some (.object "MessengerBoard$Distances")) yX4_toward.name) 2 85 0 (kX4_toward_0 N) := by
  refine av_live ?_
  refine av_iload_n dX4_toward_0 rfl ?_
  refine av_iflt (tgt := 13) dX4_toward_1 (by decide) ?_ ?_
  · exact vX4_toward_13 l hfl N
  refine av_iload_n dX4_toward_4 rfl ?_
  refine av_aload_n dX4_toward_5 rfl ?_
  refine av_getr am_ci4 (by decide) am_f4_1 q153 dX4_toward_6 ?_
  refine av_arraylength dX4_toward_9 ?_
  refine av_iclt (tgt := 15) dX4_toward_10 (by decide) ?_ ?_
  · refine av_aload_n dX4_toward_15 rfl ?_
    refine av_getr am_ci4 (by decide) am_f4_1 q153 dX4_toward_16 ?_
    refine av_iload_n dX4_toward_19 rfl ?_
    refine av_aaload (t0 := 3) (by decide) (by decide) (fun _ => rfl) dX4_toward_20 ?_
    refine av_ifnonnull (tgt := 37) dX4_toward_21 (by decide) ?_ ?_
    · exact vX4_toward_37 l hfl N
    refine av_aload_n dX4_toward_24 rfl ?_
    refine av_getr am_ci4 (by decide) am_f4_1 q153 dX4_toward_25 ?_
    refine av_iload_n dX4_toward_28 rfl ?_
    refine av_newobj am_ci2 q152 q180 q173 dX4_toward_29 ?_
    refine av_dup dX4_toward_32 ?_
    refine av_callIN (mX2_init l hfl N) rfl ⟨by decide +kernel, by decide +kernel, by decide +kernel⟩ n3 q181 q173 q182 (by decide) (by decide) dX4_toward_33 ?_
    refine av_aastore (t0 := 3) (by decide) (by decide) am_ci2 (fun _ => rfl) dX4_toward_36 ?_
    exact vX4_toward_37 l hfl N
  exact vX4_toward_13 l hfl N
theorem mX4_toward (l : Launch) (hfl : l.stackTraces = false) (N : Nat) : am_M l yX4_toward cX4_toward 8 (some (.object "MessengerBoard$Distances")) 2 85 (fX4_toward N) := av_meth hfl (by decide +kernel) rfl (vX4_toward_0 l hfl N)
/-! MessengerBoard$Paths.between(II)I -/
noncomputable def kX4_between_19 (N : Nat) : am_K := c_live [] <|
  c_iret
noncomputable def kX4_between_0 (N : Nat) : am_K := c_live [0, 1, 2] <|
  c_rld 0 <|
  c_ild 2 <|
  c_callV 4 1 (fX4_toward N) <|
  c_rst 3 <|
  c_rld 3 <|
  c_ifnonnull (
  c_rld 3 <|
  c_ild 1 <|
  c_callV 2 1 (fX2_from N) <|
  kX4_between_19 N) <|
  c_i (-1) <|
  kX4_between_19 N
noncomputable def fX4_between (N : Nat) : am_F := am_fn 4 (kX4_between_0 N)
set_option maxRecDepth 20000 in
theorem vX4_between_19 (l : Launch) (hfl : l.stackTraces = false) (N : Nat)  : am_V l cX4_between 4 RX4 (am_E (some .int) yX4_between.name) 3 112 19 (kX4_between_19 N) := by
  refine av_live ?_
  exact av_ireturn am_hi dX4_between_19
set_option maxRecDepth 20000 in
theorem vX4_between_0 (l : Launch) (hfl : l.stackTraces = false) (N : Nat)  : am_V l cX4_between 4 RX4 (am_E (some .int) yX4_between.name) 3 112 0 (kX4_between_0 N) := by
  refine av_live ?_
  refine av_aload_n dX4_between_0 rfl ?_
  refine av_iload_n dX4_between_1 rfl ?_
  refine av_callV am_hT (mX4_toward l hfl N) am_ci4 ⟨by decide +kernel, by decide +kernel, by decide +kernel⟩ q183 q184 q185 q186 q187 (by decide) (by decide) dX4_between_2 ?_
  refine av_astore_n dX4_between_5 rfl (by decide) ?_
  refine av_aload_n dX4_between_6 rfl ?_
  refine av_ifnonnull (tgt := 14) dX4_between_7 (by decide) ?_ ?_
  · refine av_aload_n dX4_between_14 rfl ?_
    refine av_iload_n dX4_between_15 rfl ?_
    refine av_callV am_hT (mX2_from l hfl N) am_ci2 ⟨by decide +kernel, by decide +kernel, by decide +kernel⟩ q171 q172 q173 q174 q175 (by decide) (by decide) dX4_between_16 ?_
    exact vX4_between_19 l hfl N
  refine av_iconst (v := -1) dX4_between_10 (by decide) ?_
  refine av_goto (tgt := 19) dX4_between_11 (by decide) ?_
  exact vX4_between_19 l hfl N
theorem mX4_between (l : Launch) (hfl : l.stackTraces = false) (N : Nat) : am_M l yX4_between cX4_between 4 (some .int) 3 112 (fX4_between N) := av_meth hfl (by decide +kernel) rfl (vX4_between_0 l hfl N)
/-! MessengerBoard$Paths.nextCell(II)I -/
noncomputable def kX4_nextCell_80 (N : Nat) (r38 : am_K) : am_K := c_live [0, 1, 3, 4, 5] <|
  c_inc 5 (1) <|
  c_live [0, 1, 3, 4, 5] r38
noncomputable def bX4_nextCell_38 (N : Nat) (r38 : am_K) : am_K :=
  c_ild 5 <|
  c_i (4) <|
  c_icge (
  c_i (-1) <|
  c_iret) <|
  c_rld 0 <|
  c_getr 4 0 <|
  c_ild 1 <|
  c_ild 5 <|
  c_callV 6 2 (fX6_freeBeside N) <|
  c_ist 6 <|
  c_rld 3 <|
  c_ild 6 <|
  c_callV 2 1 (fX2_from N) <|
  c_ist 7 <|
  c_ild 7 <|
  c_i (-1) <|
  c_iceq (
  kX4_nextCell_80 N r38) <|
  c_ild 7 <|
  c_ild 4 <|
  c_icge (
  kX4_nextCell_80 N r38) <|
  c_ild 6 <|
  c_iret
noncomputable def kX4_nextCell_38 (N : Nat) : am_K := c_live [0, 1, 3, 4, 5] (am_loop (bX4_nextCell_38 N) N)
noncomputable def kX4_nextCell_34 (N : Nat) : am_K := c_live [] <|
  c_iret
noncomputable def kX4_nextCell_0 (N : Nat) : am_K := c_live [0, 1, 2] <|
  c_rld 0 <|
  c_ild 2 <|
  c_callV 4 1 (fX4_toward N) <|
  c_rst 3 <|
  c_rld 3 <|
  c_ifnonnull (
  c_rld 3 <|
  c_ild 1 <|
  c_callV 2 1 (fX2_from N) <|
  c_ist 4 <|
  c_ild 4 <|
  c_ifgt (
  c_i (0) <|
  c_ist 5 <|
  kX4_nextCell_38 N) <|
  c_ild 4 <|
  c_ifne (
  c_i (-1) <|
  kX4_nextCell_34 N) <|
  c_ild 1 <|
  kX4_nextCell_34 N) <|
  c_i (-1) <|
  c_iret
noncomputable def fX4_nextCell (N : Nat) : am_F := am_fn 8 (kX4_nextCell_0 N)
set_option maxRecDepth 20000 in
theorem vX4_nextCell_80 (l : Launch) (hfl : l.stackTraces = false) (N : Nat)  {r38 : am_K} (h38 : am_V l cX4_nextCell 8 RX4 (am_E (some .int) yX4_nextCell.name) 3 112 38 r38) : am_V l cX4_nextCell 8 RX4 (am_E (some .int) yX4_nextCell.name) 3 112 80 (kX4_nextCell_80 N r38) := by
  refine av_live ?_
  refine av_iinc dX4_nextCell_80 (by decide) (by decide) ?_
  refine av_goto (tgt := 38) dX4_nextCell_83 (by decide) ?_
  exact av_live h38
set_option maxRecDepth 20000 in
theorem vX4_nextCell_38 (l : Launch) (hfl : l.stackTraces = false) (N : Nat)  : am_V l cX4_nextCell 8 RX4 (am_E (some .int) yX4_nextCell.name) 3 112 38 (kX4_nextCell_38 N) := by
  refine av_live ?_
  refine av_loop (fun r38 h38 => ?_) N
  refine av_iload dX4_nextCell_38 ?_
  refine av_iconst (v := 4) dX4_nextCell_40 (by decide) ?_
  refine av_icge (tgt := 86) dX4_nextCell_41 (by decide) ?_ ?_
  · refine av_iconst (v := -1) dX4_nextCell_86 (by decide) ?_
    exact av_ireturn am_hi dX4_nextCell_87
  refine av_aload_n dX4_nextCell_44 rfl ?_
  refine av_getr am_ci4 (by decide) am_f4_0 q155 dX4_nextCell_45 ?_
  refine av_iload_n dX4_nextCell_48 rfl ?_
  refine av_iload dX4_nextCell_49 ?_
  refine av_callV am_hT (mX6_freeBeside l hfl N) am_ci6 ⟨by decide +kernel, by decide +kernel, by decide +kernel⟩ q167 q168 q126 q169 q170 (by decide) (by decide) dX4_nextCell_51 ?_
  refine av_istore dX4_nextCell_54 (by decide) ?_
  refine av_aload_n dX4_nextCell_56 rfl ?_
  refine av_iload dX4_nextCell_57 ?_
  refine av_callV am_hT (mX2_from l hfl N) am_ci2 ⟨by decide +kernel, by decide +kernel, by decide +kernel⟩ q171 q172 q173 q174 q175 (by decide) (by decide) dX4_nextCell_59 ?_
  refine av_istore dX4_nextCell_62 (by decide) ?_
  refine av_iload dX4_nextCell_64 ?_
  refine av_iconst (v := -1) dX4_nextCell_66 (by decide) ?_
  refine av_iceq (tgt := 80) dX4_nextCell_67 (by decide) ?_ ?_
  · exact vX4_nextCell_80 l hfl N h38
  refine av_iload dX4_nextCell_70 ?_
  refine av_iload dX4_nextCell_72 ?_
  refine av_icge (tgt := 80) dX4_nextCell_74 (by decide) ?_ ?_
  · exact vX4_nextCell_80 l hfl N h38
  refine av_iload dX4_nextCell_77 ?_
  exact av_ireturn am_hi dX4_nextCell_79
set_option maxRecDepth 20000 in
theorem vX4_nextCell_34 (l : Launch) (hfl : l.stackTraces = false) (N : Nat)  : am_V l cX4_nextCell 8 RX4 (am_E (some .int) yX4_nextCell.name) 3 112 34 (kX4_nextCell_34 N) := by
  refine av_live ?_
  exact av_ireturn am_hi dX4_nextCell_34
set_option maxRecDepth 20000 in
theorem vX4_nextCell_0 (l : Launch) (hfl : l.stackTraces = false) (N : Nat)  : am_V l cX4_nextCell 8 RX4 (am_E (some .int) yX4_nextCell.name) 3 112 0 (kX4_nextCell_0 N) := by
  refine av_live ?_
  refine av_aload_n dX4_nextCell_0 rfl ?_
  refine av_iload_n dX4_nextCell_1 rfl ?_
  refine av_callV am_hT (mX4_toward l hfl N) am_ci4 ⟨by decide +kernel, by decide +kernel, by decide +kernel⟩ q183 q184 q185 q186 q187 (by decide) (by decide) dX4_nextCell_2 ?_
  refine av_astore_n dX4_nextCell_5 rfl (by decide) ?_
  refine av_aload_n dX4_nextCell_6 rfl ?_
  refine av_ifnonnull (tgt := 12) dX4_nextCell_7 (by decide) ?_ ?_
  · refine av_aload_n dX4_nextCell_12 rfl ?_
    refine av_iload_n dX4_nextCell_13 rfl ?_
    refine av_callV am_hT (mX2_from l hfl N) am_ci2 ⟨by decide +kernel, by decide +kernel, by decide +kernel⟩ q171 q172 q173 q174 q175 (by decide) (by decide) dX4_nextCell_14 ?_
    refine av_istore dX4_nextCell_17 (by decide) ?_
    refine av_iload dX4_nextCell_19 ?_
    refine av_ifgt (tgt := 35) dX4_nextCell_21 (by decide) ?_ ?_
    · refine av_iconst (v := 0) dX4_nextCell_35 (by decide) ?_
      refine av_istore dX4_nextCell_36 (by decide) ?_
      exact vX4_nextCell_38 l hfl N
    refine av_iload dX4_nextCell_24 ?_
    refine av_ifne (tgt := 33) dX4_nextCell_26 (by decide) ?_ ?_
    · refine av_iconst (v := -1) dX4_nextCell_33 (by decide) ?_
      exact vX4_nextCell_34 l hfl N
    refine av_iload_n dX4_nextCell_29 rfl ?_
    refine av_goto (tgt := 34) dX4_nextCell_30 (by decide) ?_
    exact vX4_nextCell_34 l hfl N
  refine av_iconst (v := -1) dX4_nextCell_10 (by decide) ?_
  exact av_ireturn am_hi dX4_nextCell_11
theorem mX4_nextCell (l : Launch) (hfl : l.stackTraces = false) (N : Nat) : am_M l yX4_nextCell cX4_nextCell 8 (some .int) 3 112 (fX4_nextCell N) := av_meth hfl (by decide +kernel) rfl (vX4_nextCell_0 l hfl N)
/-! MessengerBoard$Clock.<init>(LMessengerBoard$Paths;)V -/
noncomputable def kX1_init_0 (N : Nat) : am_K := c_live [0, 1] <|
  c_rld 0 <|
  c_oinit <|
  c_rld 0 <|
  c_rld 1 <|
  c_putr 1 0 <|
  c_vret
noncomputable def fX1_init (N : Nat) : am_F := am_fn 2 (kX1_init_0 N)
set_option maxRecDepth 20000 in
theorem vX1_init_0 (l : Launch) (hfl : l.stackTraces = false) (N : Nat)  : am_V l cX1_init 2 RX1 (am_E none yX1_init.name) 1 60 0 (kX1_init_0 N) := by
  refine av_live ?_
  refine av_aload_n dX1_init_0 rfl ?_
  refine av_objInit q188 q25 q26 (by decide) (by decide) dX1_init_1 ?_
  refine av_aload_n dX1_init_4 rfl ?_
  refine av_aload_n dX1_init_5 rfl ?_
  refine av_putrF am_ci1 (by decide) am_f1_0 q189 (tyX1_ok 0 (by decide)) (fun _ => ⟨rfl, rfl⟩) ⟨rfl, rfl⟩ dX1_init_6 ?_
  exact av_return_ am_hv dX1_init_9
theorem mX1_init (l : Launch) (hfl : l.stackTraces = false) (N : Nat) : am_M l yX1_init cX1_init 2 none 1 60 (fX1_init N) := av_meth hfl (by decide +kernel) rfl (vX1_init_0 l hfl N)
/-! MessengerBoard$Clock.sendPlanned(LMessengerBoard$Situation;)V -/
noncomputable def kX1_sendPlanned_59 (N : Nat) (r13 : am_K) : am_K := c_live [1, 2, 3, 4] <|
  c_inc 4 (1) <|
  c_live [1, 2, 3, 4] r13
noncomputable def bX1_sendPlanned_13 (N : Nat) (r13 : am_K) : am_K :=
  c_ild 4 <|
  c_ild 3 <|
  c_icge (
  c_vret) <|
  c_rld 2 <|
  c_ild 4 <|
  c_i (3) <|
  c_callV 7 2 (fX7_get N) <|
  c_rld 1 <|
  c_geti 6 4 <|
  c_icne (
  kX1_sendPlanned_59 N r13) <|
  c_rld 1 <|
  c_rld 2 <|
  c_ild 4 <|
  c_i (0) <|
  c_callV 7 2 (fX7_get N) <|
  c_rld 2 <|
  c_ild 4 <|
  c_i (1) <|
  c_callV 7 2 (fX7_get N) <|
  c_rld 2 <|
  c_ild 4 <|
  c_i (2) <|
  c_callV 7 2 (fX7_get N) <|
  c_callV 6 3 (fX6_addOrder N) <|
  c_pop <|
  kX1_sendPlanned_59 N r13
noncomputable def kX1_sendPlanned_13 (N : Nat) : am_K := c_live [1, 2, 3, 4] (am_loop (bX1_sendPlanned_13 N) N)
noncomputable def kX1_sendPlanned_0 (N : Nat) : am_K := c_live [1] <|
  c_rld 1 <|
  c_getr 6 10 <|
  c_rst 2 <|
  c_rld 2 <|
  c_callV 7 0 (fX7_count N) <|
  c_ist 3 <|
  c_i (0) <|
  c_ist 4 <|
  kX1_sendPlanned_13 N
noncomputable def fX1_sendPlanned (N : Nat) : am_F := am_fn 5 (kX1_sendPlanned_0 N)
set_option maxRecDepth 20000 in
theorem vX1_sendPlanned_59 (l : Launch) (hfl : l.stackTraces = false) (N : Nat)  {r13 : am_K} (h13 : am_V l cX1_sendPlanned 5 RX1 (am_E none yX1_sendPlanned.name) 3 109 13 r13) : am_V l cX1_sendPlanned 5 RX1 (am_E none yX1_sendPlanned.name) 3 109 59 (kX1_sendPlanned_59 N r13) := by
  refine av_live ?_
  refine av_iinc dX1_sendPlanned_59 (by decide) (by decide) ?_
  refine av_goto (tgt := 13) dX1_sendPlanned_62 (by decide) ?_
  exact av_live h13
set_option maxRecDepth 20000 in
theorem vX1_sendPlanned_13 (l : Launch) (hfl : l.stackTraces = false) (N : Nat)  : am_V l cX1_sendPlanned 5 RX1 (am_E none yX1_sendPlanned.name) 3 109 13 (kX1_sendPlanned_13 N) := by
  refine av_live ?_
  refine av_loop (fun r13 h13 => ?_) N
  refine av_iload dX1_sendPlanned_13 ?_
  refine av_iload_n dX1_sendPlanned_15 rfl ?_
  refine av_icge (tgt := 65) dX1_sendPlanned_16 (by decide) ?_ ?_
  · exact av_return_ am_hv dX1_sendPlanned_65
  refine av_aload_n dX1_sendPlanned_19 rfl ?_
  refine av_iload dX1_sendPlanned_20 ?_
  refine av_iconst (v := 3) dX1_sendPlanned_22 (by decide) ?_
  refine av_callV am_hT (mX7_get l hfl N) am_ci7 ⟨by decide +kernel, by decide +kernel, by decide +kernel⟩ q192 q86 q73 q87 q88 (by decide) (by decide) dX1_sendPlanned_23 ?_
  refine av_aload_n dX1_sendPlanned_26 rfl ?_
  refine av_geti am_ci6 (by decide) am_f6_4 q193 dX1_sendPlanned_27 ?_
  refine av_icne (tgt := 59) dX1_sendPlanned_30 (by decide) ?_ ?_
  · exact vX1_sendPlanned_59 l hfl N h13
  refine av_aload_n dX1_sendPlanned_33 rfl ?_
  refine av_aload_n dX1_sendPlanned_34 rfl ?_
  refine av_iload dX1_sendPlanned_35 ?_
  refine av_iconst (v := 0) dX1_sendPlanned_37 (by decide) ?_
  refine av_callV am_hT (mX7_get l hfl N) am_ci7 ⟨by decide +kernel, by decide +kernel, by decide +kernel⟩ q192 q86 q73 q87 q88 (by decide) (by decide) dX1_sendPlanned_38 ?_
  refine av_aload_n dX1_sendPlanned_41 rfl ?_
  refine av_iload dX1_sendPlanned_42 ?_
  refine av_iconst (v := 1) dX1_sendPlanned_44 (by decide) ?_
  refine av_callV am_hT (mX7_get l hfl N) am_ci7 ⟨by decide +kernel, by decide +kernel, by decide +kernel⟩ q192 q86 q73 q87 q88 (by decide) (by decide) dX1_sendPlanned_45 ?_
  refine av_aload_n dX1_sendPlanned_48 rfl ?_
  refine av_iload dX1_sendPlanned_49 ?_
  refine av_iconst (v := 2) dX1_sendPlanned_51 (by decide) ?_
  refine av_callV am_hT (mX7_get l hfl N) am_ci7 ⟨by decide +kernel, by decide +kernel, by decide +kernel⟩ q192 q86 q73 q87 q88 (by decide) (by decide) dX1_sendPlanned_52 ?_
  refine av_callV am_hT (mX6_addOrder l hfl N) am_ci6 ⟨by decide +kernel, by decide +kernel, by decide +kernel⟩ q194 q195 q126 q196 q197 (by decide) (by decide) dX1_sendPlanned_55 ?_
  refine av_pop dX1_sendPlanned_58 ?_
  exact vX1_sendPlanned_59 l hfl N h13
set_option maxRecDepth 20000 in
theorem vX1_sendPlanned_0 (l : Launch) (hfl : l.stackTraces = false) (N : Nat)  : am_V l cX1_sendPlanned 5 RX1 (am_E none yX1_sendPlanned.name) 3 109 0 (kX1_sendPlanned_0 N) := by
  refine av_live ?_
  refine av_aload_n dX1_sendPlanned_0 rfl ?_
  refine av_getr am_ci6 (by decide) am_f6_10 q190 dX1_sendPlanned_1 ?_
  refine av_astore_n dX1_sendPlanned_4 rfl (by decide) ?_
  refine av_aload_n dX1_sendPlanned_5 rfl ?_
  refine av_callV am_hT (mX7_count l hfl N) am_ci7 ⟨by decide +kernel, by decide +kernel, by decide +kernel⟩ q191 q90 q73 q91 q92 (by decide) (by decide) dX1_sendPlanned_6 ?_
  refine av_istore_n dX1_sendPlanned_9 rfl (by decide) ?_
  refine av_iconst (v := 0) dX1_sendPlanned_10 (by decide) ?_
  refine av_istore dX1_sendPlanned_11 (by decide) ?_
  exact vX1_sendPlanned_13 l hfl N
theorem mX1_sendPlanned (l : Launch) (hfl : l.stackTraces = false) (N : Nat) : am_M l yX1_sendPlanned cX1_sendPlanned 5 none 3 109 (fX1_sendPlanned N) := av_meth hfl (by decide +kernel) rfl (vX1_sendPlanned_0 l hfl N)
/-! MessengerBoard$Clock.arrive(LMessengerBoard$Situation;II)V -/
noncomputable def kX1_arrive_54 (N : Nat) : am_K := c_live [1, 2, 3] <|
  c_rld 1 <|
  c_getr 6 8 <|
  c_ild 3 <|
  c_i (3) <|
  c_ild 2 <|
  c_callV 7 3 (fX7_put N) <|
  c_rld 1 <|
  c_ild 2 <|
  c_i (1) <|
  c_callV 6 2 (fX6_changeOrder N) <|
  c_vret
noncomputable def kX1_arrive_0 (N : Nat) : am_K := c_live [1, 2, 3] <|
  c_rld 1 <|
  c_getr 6 11 <|
  c_ild 2 <|
  c_i (5) <|
  c_rld 1 <|
  c_geti 6 4 <|
  c_callV 7 3 (fX7_put N) <|
  c_rld 1 <|
  c_getr 6 8 <|
  c_ild 3 <|
  c_i (3) <|
  c_callV 7 2 (fX7_get N) <|
  c_ild 2 <|
  c_icle (
  c_rld 1 <|
  c_ild 3 <|
  c_callV 6 1 (fX6_obeyedBy N) <|
  c_ist 4 <|
  c_ild 4 <|
  c_i (-1) <|
  c_iceq (
  kX1_arrive_54 N) <|
  c_rld 1 <|
  c_ild 4 <|
  c_i (6) <|
  c_callV 6 2 (fX6_changeOrder N) <|
  kX1_arrive_54 N) <|
  c_rld 1 <|
  c_ild 2 <|
  c_i (3) <|
  c_callV 6 2 (fX6_changeOrder N) <|
  c_vret
noncomputable def fX1_arrive (N : Nat) : am_F := am_fn 5 (kX1_arrive_0 N)
set_option maxRecDepth 20000 in
theorem vX1_arrive_54 (l : Launch) (hfl : l.stackTraces = false) (N : Nat)  : am_V l cX1_arrive 5 RX1 (am_E none yX1_arrive.name) 3 108 54 (kX1_arrive_54 N) := by
  refine av_live ?_
  refine av_aload_n dX1_arrive_54 rfl ?_
  refine av_getr am_ci6 (by decide) am_f6_8 q200 dX1_arrive_55 ?_
  refine av_iload_n dX1_arrive_58 rfl ?_
  refine av_iconst (v := 3) dX1_arrive_59 (by decide) ?_
  refine av_iload_n dX1_arrive_60 rfl ?_
  refine av_callV am_hT (mX7_put l hfl N) am_ci7 ⟨by decide +kernel, by decide +kernel, by decide +kernel⟩ q199 q118 q73 q119 q120 (by decide) (by decide) dX1_arrive_61 ?_
  refine av_aload_n dX1_arrive_64 rfl ?_
  refine av_iload_n dX1_arrive_65 rfl ?_
  refine av_iconst (v := 1) dX1_arrive_66 (by decide) ?_
  refine av_callV am_hT (mX6_changeOrder l hfl N) am_ci6 ⟨by decide +kernel, by decide +kernel, by decide +kernel⟩ q205 q206 q126 q207 q208 (by decide) (by decide) dX1_arrive_67 ?_
  exact av_return_ am_hv dX1_arrive_70
set_option maxRecDepth 20000 in
theorem vX1_arrive_0 (l : Launch) (hfl : l.stackTraces = false) (N : Nat)  : am_V l cX1_arrive 5 RX1 (am_E none yX1_arrive.name) 3 108 0 (kX1_arrive_0 N) := by
  refine av_live ?_
  refine av_aload_n dX1_arrive_0 rfl ?_
  refine av_getr am_ci6 (by decide) am_f6_11 q198 dX1_arrive_1 ?_
  refine av_iload_n dX1_arrive_4 rfl ?_
  refine av_iconst (v := 5) dX1_arrive_5 (by decide) ?_
  refine av_aload_n dX1_arrive_6 rfl ?_
  refine av_geti am_ci6 (by decide) am_f6_4 q193 dX1_arrive_7 ?_
  refine av_callV am_hT (mX7_put l hfl N) am_ci7 ⟨by decide +kernel, by decide +kernel, by decide +kernel⟩ q199 q118 q73 q119 q120 (by decide) (by decide) dX1_arrive_10 ?_
  refine av_aload_n dX1_arrive_13 rfl ?_
  refine av_getr am_ci6 (by decide) am_f6_8 q200 dX1_arrive_14 ?_
  refine av_iload_n dX1_arrive_17 rfl ?_
  refine av_iconst (v := 3) dX1_arrive_18 (by decide) ?_
  refine av_callV am_hT (mX7_get l hfl N) am_ci7 ⟨by decide +kernel, by decide +kernel, by decide +kernel⟩ q192 q86 q73 q87 q88 (by decide) (by decide) dX1_arrive_19 ?_
  refine av_iload_n dX1_arrive_22 rfl ?_
  refine av_icle (tgt := 33) dX1_arrive_23 (by decide) ?_ ?_
  · refine av_aload_n dX1_arrive_33 rfl ?_
    refine av_iload_n dX1_arrive_34 rfl ?_
    refine av_callV am_hT (mX6_obeyedBy l hfl N) am_ci6 ⟨by decide +kernel, by decide +kernel, by decide +kernel⟩ q201 q202 q126 q203 q204 (by decide) (by decide) dX1_arrive_35 ?_
    refine av_istore dX1_arrive_38 (by decide) ?_
    refine av_iload dX1_arrive_40 ?_
    refine av_iconst (v := -1) dX1_arrive_42 (by decide) ?_
    refine av_iceq (tgt := 54) dX1_arrive_43 (by decide) ?_ ?_
    · exact vX1_arrive_54 l hfl N
    refine av_aload_n dX1_arrive_46 rfl ?_
    refine av_iload dX1_arrive_47 ?_
    refine av_bipush (v := 6) dX1_arrive_49 (by decide) ?_
    refine av_callV am_hT (mX6_changeOrder l hfl N) am_ci6 ⟨by decide +kernel, by decide +kernel, by decide +kernel⟩ q205 q206 q126 q207 q208 (by decide) (by decide) dX1_arrive_51 ?_
    exact vX1_arrive_54 l hfl N
  refine av_aload_n dX1_arrive_26 rfl ?_
  refine av_iload_n dX1_arrive_27 rfl ?_
  refine av_iconst (v := 3) dX1_arrive_28 (by decide) ?_
  refine av_callV am_hT (mX6_changeOrder l hfl N) am_ci6 ⟨by decide +kernel, by decide +kernel, by decide +kernel⟩ q205 q206 q126 q207 q208 (by decide) (by decide) dX1_arrive_29 ?_
  exact av_return_ am_hv dX1_arrive_32
theorem mX1_arrive (l : Launch) (hfl : l.stackTraces = false) (N : Nat) : am_M l yX1_arrive cX1_arrive 5 none 3 108 (fX1_arrive N) := av_meth hfl (by decide +kernel) rfl (vX1_arrive_0 l hfl N)
/-! MessengerBoard$Clock.carry(LMessengerBoard$Situation;I)V -/
noncomputable def kX1_carry_213 (N : Nat) : am_K := c_live [] <|
  c_vret
noncomputable def kX1_carry_198 (N : Nat) : am_K := c_live [0, 1, 2, 4, 5, 6] <|
  c_ild 6 <|
  c_ild 5 <|
  c_icne (
  kX1_carry_213 N) <|
  c_rld 0 <|
  c_rld 1 <|
  c_ild 2 <|
  c_ild 4 <|
  c_callV 1 3 (fX1_arrive N) <|
  kX1_carry_213 N
noncomputable def bX1_carry_60 (N : Nat) (r60 : am_K) : am_K :=
  c_ild 7 <|
  c_i (2) <|
  c_icge (
  kX1_carry_198 N) <|
  c_ild 6 <|
  c_ild 5 <|
  c_iceq (
  kX1_carry_198 N) <|
  c_rld 0 <|
  c_getr 1 0 <|
  c_ild 6 <|
  c_ild 5 <|
  c_callV 4 2 (fX4_nextCell N) <|
  c_ist 6 <|
  c_ild 6 <|
  c_i (-1) <|
  c_icne (
  c_rld 3 <|
  c_ild 2 <|
  c_i (7) <|
  c_ild 6 <|
  c_callSN 1 (fX10_xOf N) <|
  c_callV 7 3 (fX7_put N) <|
  c_rld 3 <|
  c_ild 2 <|
  c_i (8) <|
  c_ild 6 <|
  c_callSN 1 (fX10_yOf N) <|
  c_callV 7 3 (fX7_put N) <|
  c_rld 3 <|
  c_ild 2 <|
  c_i (9) <|
  c_rld 3 <|
  c_ild 2 <|
  c_i (9) <|
  c_callV 7 2 (fX7_get N) <|
  c_i (1) <|
  c_ii (fun x y => x + y) <|
  c_callV 7 3 (fX7_put N) <|
  c_rld 1 <|
  c_ild 6 <|
  c_callSN 1 (fX10_xOf N) <|
  c_ild 6 <|
  c_callSN 1 (fX10_yOf N) <|
  c_rld 1 <|
  c_geti 6 4 <|
  c_callV 6 3 (fX6_watcher N) <|
  c_ist 8 <|
  c_ild 8 <|
  c_i (-1) <|
  c_iceq (
  c_inc 7 (1) <|
  c_live [0, 1, 2, 3, 4, 5, 6, 7] r60) <|
  c_rld 1 <|
  c_getr 6 9 <|
  c_rst 9 <|
  c_rld 9 <|
  c_ild 8 <|
  c_i (7) <|
  c_rld 9 <|
  c_ild 8 <|
  c_i (7) <|
  c_callV 7 2 (fX7_get N) <|
  c_i (1) <|
  c_ii (fun x y => x + y) <|
  c_callV 7 3 (fX7_put N) <|
  c_rld 1 <|
  c_ild 2 <|
  c_i (5) <|
  c_callV 6 2 (fX6_changeOrder N) <|
  c_vret) <|
  c_vret
noncomputable def kX1_carry_60 (N : Nat) : am_K := c_live [0, 1, 2, 3, 4, 5, 6, 7] (am_loop (bX1_carry_60 N) N)
noncomputable def kX1_carry_0 (N : Nat) : am_K := c_live [0, 1, 2] <|
  c_rld 1 <|
  c_getr 6 11 <|
  c_rst 3 <|
  c_rld 3 <|
  c_ild 2 <|
  c_i (0) <|
  c_callV 7 2 (fX7_get N) <|
  c_ist 4 <|
  c_rld 1 <|
  c_getr 6 8 <|
  c_ild 4 <|
  c_i (0) <|
  c_callV 7 2 (fX7_get N) <|
  c_rld 1 <|
  c_getr 6 8 <|
  c_ild 4 <|
  c_i (1) <|
  c_callV 7 2 (fX7_get N) <|
  c_callSN 2 (fX10_cellAt N) <|
  c_ist 5 <|
  c_rld 3 <|
  c_ild 2 <|
  c_i (7) <|
  c_callV 7 2 (fX7_get N) <|
  c_rld 3 <|
  c_ild 2 <|
  c_i (8) <|
  c_callV 7 2 (fX7_get N) <|
  c_callSN 2 (fX10_cellAt N) <|
  c_ist 6 <|
  c_i (0) <|
  c_ist 7 <|
  kX1_carry_60 N
noncomputable def fX1_carry (N : Nat) : am_F := am_fn 10 (kX1_carry_0 N)
set_option maxRecDepth 20000 in
theorem vX1_carry_213 (l : Launch) (hfl : l.stackTraces = false) (N : Nat)  : am_V l cX1_carry 10 RX1 (am_E none yX1_carry.name) 4 139 213 (kX1_carry_213 N) := by
  refine av_live ?_
  exact av_return_ am_hv dX1_carry_213
set_option maxRecDepth 20000 in
theorem vX1_carry_198 (l : Launch) (hfl : l.stackTraces = false) (N : Nat)  : am_V l cX1_carry 10 RX1 (am_E none yX1_carry.name) 4 139 198 (kX1_carry_198 N) := by
  refine av_live ?_
  refine av_iload dX1_carry_198 ?_
  refine av_iload dX1_carry_200 ?_
  refine av_icne (tgt := 213) dX1_carry_202 (by decide) ?_ ?_
  · exact vX1_carry_213 l hfl N
  refine av_aload_n dX1_carry_205 rfl ?_
  refine av_aload_n dX1_carry_206 rfl ?_
  refine av_iload_n dX1_carry_207 rfl ?_
  refine av_iload dX1_carry_208 ?_
  refine av_callV am_hT (mX1_arrive l hfl N) am_ci1 ⟨by decide +kernel, by decide +kernel, by decide +kernel⟩ q209 q210 q211 q212 q213 (by decide) (by decide) dX1_carry_210 ?_
  exact vX1_carry_213 l hfl N
set_option maxRecDepth 20000 in
theorem vX1_carry_60 (l : Launch) (hfl : l.stackTraces = false) (N : Nat)  : am_V l cX1_carry 10 RX1 (am_E none yX1_carry.name) 4 139 60 (kX1_carry_60 N) := by
  refine av_live ?_
  refine av_loop (fun r60 h60 => ?_) N
  refine av_iload dX1_carry_60 ?_
  refine av_iconst (v := 2) dX1_carry_62 (by decide) ?_
  refine av_icge (tgt := 198) dX1_carry_63 (by decide) ?_ ?_
  · exact vX1_carry_198 l hfl N
  refine av_iload dX1_carry_66 ?_
  refine av_iload dX1_carry_68 ?_
  refine av_iceq (tgt := 198) dX1_carry_70 (by decide) ?_ ?_
  · exact vX1_carry_198 l hfl N
  refine av_aload_n dX1_carry_73 rfl ?_
  refine av_getr am_ci1 (by decide) am_f1_0 q189 dX1_carry_74 ?_
  refine av_iload dX1_carry_77 ?_
  refine av_iload dX1_carry_79 ?_
  refine av_callV am_hT (mX4_nextCell l hfl N) am_ci4 ⟨by decide +kernel, by decide +kernel, by decide +kernel⟩ q214 q215 q185 q216 q217 (by decide) (by decide) dX1_carry_81 ?_
  refine av_istore dX1_carry_84 (by decide) ?_
  refine av_iload dX1_carry_86 ?_
  refine av_iconst (v := -1) dX1_carry_88 (by decide) ?_
  refine av_icne (tgt := 93) dX1_carry_89 (by decide) ?_ ?_
  · refine av_aload_n dX1_carry_93 rfl ?_
    refine av_iload_n dX1_carry_94 rfl ?_
    refine av_bipush (v := 7) dX1_carry_95 (by decide) ?_
    refine av_iload dX1_carry_97 ?_
    refine av_callSN (mX10_xOf l hfl N) ⟨by decide +kernel, by decide +kernel, by decide +kernel⟩ n7 q159 q111 q160 (by decide) (by decide) dX1_carry_99 ?_
    refine av_callV am_hT (mX7_put l hfl N) am_ci7 ⟨by decide +kernel, by decide +kernel, by decide +kernel⟩ q199 q118 q73 q119 q120 (by decide) (by decide) dX1_carry_102 ?_
    refine av_aload_n dX1_carry_105 rfl ?_
    refine av_iload_n dX1_carry_106 rfl ?_
    refine av_bipush (v := 8) dX1_carry_107 (by decide) ?_
    refine av_iload dX1_carry_109 ?_
    refine av_callSN (mX10_yOf l hfl N) ⟨by decide +kernel, by decide +kernel, by decide +kernel⟩ n8 q161 q111 q162 (by decide) (by decide) dX1_carry_111 ?_
    refine av_callV am_hT (mX7_put l hfl N) am_ci7 ⟨by decide +kernel, by decide +kernel, by decide +kernel⟩ q199 q118 q73 q119 q120 (by decide) (by decide) dX1_carry_114 ?_
    refine av_aload_n dX1_carry_117 rfl ?_
    refine av_iload_n dX1_carry_118 rfl ?_
    refine av_bipush (v := 9) dX1_carry_119 (by decide) ?_
    refine av_aload_n dX1_carry_121 rfl ?_
    refine av_iload_n dX1_carry_122 rfl ?_
    refine av_bipush (v := 9) dX1_carry_123 (by decide) ?_
    refine av_callV am_hT (mX7_get l hfl N) am_ci7 ⟨by decide +kernel, by decide +kernel, by decide +kernel⟩ q192 q86 q73 q87 q88 (by decide) (by decide) dX1_carry_125 ?_
    refine av_iconst (v := 1) dX1_carry_128 (by decide) ?_
    refine av_iadd dX1_carry_129 ?_
    refine av_callV am_hT (mX7_put l hfl N) am_ci7 ⟨by decide +kernel, by decide +kernel, by decide +kernel⟩ q199 q118 q73 q119 q120 (by decide) (by decide) dX1_carry_130 ?_
    refine av_aload_n dX1_carry_133 rfl ?_
    refine av_iload dX1_carry_134 ?_
    refine av_callSN (mX10_xOf l hfl N) ⟨by decide +kernel, by decide +kernel, by decide +kernel⟩ n7 q159 q111 q160 (by decide) (by decide) dX1_carry_136 ?_
    refine av_iload dX1_carry_139 ?_
    refine av_callSN (mX10_yOf l hfl N) ⟨by decide +kernel, by decide +kernel, by decide +kernel⟩ n8 q161 q111 q162 (by decide) (by decide) dX1_carry_141 ?_
    refine av_aload_n dX1_carry_144 rfl ?_
    refine av_geti am_ci6 (by decide) am_f6_4 q193 dX1_carry_145 ?_
    refine av_callV am_hT (mX6_watcher l hfl N) am_ci6 ⟨by decide +kernel, by decide +kernel, by decide +kernel⟩ q218 q219 q126 q220 q221 (by decide) (by decide) dX1_carry_148 ?_
    refine av_istore dX1_carry_151 (by decide) ?_
    refine av_iload dX1_carry_153 ?_
    refine av_iconst (v := -1) dX1_carry_155 (by decide) ?_
    refine av_iceq (tgt := 192) dX1_carry_156 (by decide) ?_ ?_
    · refine av_iinc dX1_carry_192 (by decide) (by decide) ?_
      refine av_goto (tgt := 60) dX1_carry_195 (by decide) ?_
      exact av_live h60
    refine av_aload_n dX1_carry_159 rfl ?_
    refine av_getr am_ci6 (by decide) am_f6_9 q222 dX1_carry_160 ?_
    refine av_astore dX1_carry_163 (by decide) ?_
    refine av_aload dX1_carry_165 ?_
    refine av_iload dX1_carry_167 ?_
    refine av_bipush (v := 7) dX1_carry_169 (by decide) ?_
    refine av_aload dX1_carry_171 ?_
    refine av_iload dX1_carry_173 ?_
    refine av_bipush (v := 7) dX1_carry_175 (by decide) ?_
    refine av_callV am_hT (mX7_get l hfl N) am_ci7 ⟨by decide +kernel, by decide +kernel, by decide +kernel⟩ q192 q86 q73 q87 q88 (by decide) (by decide) dX1_carry_177 ?_
    refine av_iconst (v := 1) dX1_carry_180 (by decide) ?_
    refine av_iadd dX1_carry_181 ?_
    refine av_callV am_hT (mX7_put l hfl N) am_ci7 ⟨by decide +kernel, by decide +kernel, by decide +kernel⟩ q199 q118 q73 q119 q120 (by decide) (by decide) dX1_carry_182 ?_
    refine av_aload_n dX1_carry_185 rfl ?_
    refine av_iload_n dX1_carry_186 rfl ?_
    refine av_iconst (v := 5) dX1_carry_187 (by decide) ?_
    refine av_callV am_hT (mX6_changeOrder l hfl N) am_ci6 ⟨by decide +kernel, by decide +kernel, by decide +kernel⟩ q205 q206 q126 q207 q208 (by decide) (by decide) dX1_carry_188 ?_
    exact av_return_ am_hv dX1_carry_191
  exact av_return_ am_hv dX1_carry_92
set_option maxRecDepth 20000 in
theorem vX1_carry_0 (l : Launch) (hfl : l.stackTraces = false) (N : Nat)  : am_V l cX1_carry 10 RX1 (am_E none yX1_carry.name) 4 139 0 (kX1_carry_0 N) := by
  refine av_live ?_
  refine av_aload_n dX1_carry_0 rfl ?_
  refine av_getr am_ci6 (by decide) am_f6_11 q198 dX1_carry_1 ?_
  refine av_astore_n dX1_carry_4 rfl (by decide) ?_
  refine av_aload_n dX1_carry_5 rfl ?_
  refine av_iload_n dX1_carry_6 rfl ?_
  refine av_iconst (v := 0) dX1_carry_7 (by decide) ?_
  refine av_callV am_hT (mX7_get l hfl N) am_ci7 ⟨by decide +kernel, by decide +kernel, by decide +kernel⟩ q192 q86 q73 q87 q88 (by decide) (by decide) dX1_carry_8 ?_
  refine av_istore dX1_carry_11 (by decide) ?_
  refine av_aload_n dX1_carry_13 rfl ?_
  refine av_getr am_ci6 (by decide) am_f6_8 q200 dX1_carry_14 ?_
  refine av_iload dX1_carry_17 ?_
  refine av_iconst (v := 0) dX1_carry_19 (by decide) ?_
  refine av_callV am_hT (mX7_get l hfl N) am_ci7 ⟨by decide +kernel, by decide +kernel, by decide +kernel⟩ q192 q86 q73 q87 q88 (by decide) (by decide) dX1_carry_20 ?_
  refine av_aload_n dX1_carry_23 rfl ?_
  refine av_getr am_ci6 (by decide) am_f6_8 q200 dX1_carry_24 ?_
  refine av_iload dX1_carry_27 ?_
  refine av_iconst (v := 1) dX1_carry_29 (by decide) ?_
  refine av_callV am_hT (mX7_get l hfl N) am_ci7 ⟨by decide +kernel, by decide +kernel, by decide +kernel⟩ q192 q86 q73 q87 q88 (by decide) (by decide) dX1_carry_30 ?_
  refine av_callSN (mX10_cellAt l hfl N) ⟨by decide +kernel, by decide +kernel, by decide +kernel⟩ n6 q110 q111 q112 (by decide) (by decide) dX1_carry_33 ?_
  refine av_istore dX1_carry_36 (by decide) ?_
  refine av_aload_n dX1_carry_38 rfl ?_
  refine av_iload_n dX1_carry_39 rfl ?_
  refine av_bipush (v := 7) dX1_carry_40 (by decide) ?_
  refine av_callV am_hT (mX7_get l hfl N) am_ci7 ⟨by decide +kernel, by decide +kernel, by decide +kernel⟩ q192 q86 q73 q87 q88 (by decide) (by decide) dX1_carry_42 ?_
  refine av_aload_n dX1_carry_45 rfl ?_
  refine av_iload_n dX1_carry_46 rfl ?_
  refine av_bipush (v := 8) dX1_carry_47 (by decide) ?_
  refine av_callV am_hT (mX7_get l hfl N) am_ci7 ⟨by decide +kernel, by decide +kernel, by decide +kernel⟩ q192 q86 q73 q87 q88 (by decide) (by decide) dX1_carry_49 ?_
  refine av_callSN (mX10_cellAt l hfl N) ⟨by decide +kernel, by decide +kernel, by decide +kernel⟩ n6 q110 q111 q112 (by decide) (by decide) dX1_carry_52 ?_
  refine av_istore dX1_carry_55 (by decide) ?_
  refine av_iconst (v := 0) dX1_carry_57 (by decide) ?_
  refine av_istore dX1_carry_58 (by decide) ?_
  exact vX1_carry_60 l hfl N
theorem mX1_carry (l : Launch) (hfl : l.stackTraces = false) (N : Nat) : am_M l yX1_carry cX1_carry 10 none 4 139 (fX1_carry N) := av_meth hfl (by decide +kernel) rfl (vX1_carry_0 l hfl N)
/-! MessengerBoard$Clock.march(LMessengerBoard$Situation;I)V -/
noncomputable def kX1_march_151 (N : Nat) : am_K := c_live [] <|
  c_vret
noncomputable def kX1_march_138 (N : Nat) : am_K := c_live [1, 3, 5, 6] <|
  c_ild 6 <|
  c_ild 5 <|
  c_icne (
  kX1_march_151 N) <|
  c_rld 1 <|
  c_ild 3 <|
  c_i (2) <|
  c_callV 6 2 (fX6_changeOrder N) <|
  kX1_march_151 N
noncomputable def kX1_march_0 (N : Nat) : am_K := c_live [0, 1, 2] <|
  c_rld 1 <|
  c_ild 2 <|
  c_callV 6 1 (fX6_obeyedBy N) <|
  c_ist 3 <|
  c_ild 3 <|
  c_i (-1) <|
  c_icne (
  c_rld 1 <|
  c_getr 6 8 <|
  c_rst 4 <|
  c_rld 1 <|
  c_getr 6 11 <|
  c_ild 3 <|
  c_i (1) <|
  c_callV 7 2 (fX7_get N) <|
  c_rld 1 <|
  c_getr 6 11 <|
  c_ild 3 <|
  c_i (2) <|
  c_callV 7 2 (fX7_get N) <|
  c_callSN 2 (fX10_cellAt N) <|
  c_ist 5 <|
  c_rld 4 <|
  c_ild 2 <|
  c_i (0) <|
  c_callV 7 2 (fX7_get N) <|
  c_rld 4 <|
  c_ild 2 <|
  c_i (1) <|
  c_callV 7 2 (fX7_get N) <|
  c_callSN 2 (fX10_cellAt N) <|
  c_ist 6 <|
  c_rld 4 <|
  c_ild 2 <|
  c_i (2) <|
  c_callV 7 2 (fX7_get N) <|
  c_ist 7 <|
  c_ild 6 <|
  c_ild 5 <|
  c_iceq (
  kX1_march_138 N) <|
  c_ild 7 <|
  c_ifle (
  kX1_march_138 N) <|
  c_rld 1 <|
  c_geti 6 4 <|
  c_ild 7 <|
  c_irem <|
  c_ifne (
  kX1_march_138 N) <|
  c_rld 0 <|
  c_getr 1 0 <|
  c_ild 6 <|
  c_ild 5 <|
  c_callV 4 2 (fX4_nextCell N) <|
  c_ist 8 <|
  c_ild 8 <|
  c_i (-1) <|
  c_iceq (
  kX1_march_138 N) <|
  c_ild 8 <|
  c_ist 6 <|
  c_rld 4 <|
  c_ild 2 <|
  c_i (0) <|
  c_ild 6 <|
  c_callSN 1 (fX10_xOf N) <|
  c_callV 7 3 (fX7_put N) <|
  c_rld 4 <|
  c_ild 2 <|
  c_i (1) <|
  c_ild 6 <|
  c_callSN 1 (fX10_yOf N) <|
  c_callV 7 3 (fX7_put N) <|
  kX1_march_138 N) <|
  c_vret
noncomputable def fX1_march (N : Nat) : am_F := am_fn 9 (kX1_march_0 N)
set_option maxRecDepth 20000 in
theorem vX1_march_151 (l : Launch) (hfl : l.stackTraces = false) (N : Nat)  : am_V l cX1_march 9 RX1 (am_E none yX1_march.name) 4 139 151 (kX1_march_151 N) := by
  refine av_live ?_
  exact av_return_ am_hv dX1_march_151
set_option maxRecDepth 20000 in
theorem vX1_march_138 (l : Launch) (hfl : l.stackTraces = false) (N : Nat)  : am_V l cX1_march 9 RX1 (am_E none yX1_march.name) 4 139 138 (kX1_march_138 N) := by
  refine av_live ?_
  refine av_iload dX1_march_138 ?_
  refine av_iload dX1_march_140 ?_
  refine av_icne (tgt := 151) dX1_march_142 (by decide) ?_ ?_
  · exact vX1_march_151 l hfl N
  refine av_aload_n dX1_march_145 rfl ?_
  refine av_iload_n dX1_march_146 rfl ?_
  refine av_iconst (v := 2) dX1_march_147 (by decide) ?_
  refine av_callV am_hT (mX6_changeOrder l hfl N) am_ci6 ⟨by decide +kernel, by decide +kernel, by decide +kernel⟩ q205 q206 q126 q207 q208 (by decide) (by decide) dX1_march_148 ?_
  exact vX1_march_151 l hfl N
set_option maxRecDepth 20000 in
theorem vX1_march_0 (l : Launch) (hfl : l.stackTraces = false) (N : Nat)  : am_V l cX1_march 9 RX1 (am_E none yX1_march.name) 4 139 0 (kX1_march_0 N) := by
  refine av_live ?_
  refine av_aload_n dX1_march_0 rfl ?_
  refine av_iload_n dX1_march_1 rfl ?_
  refine av_callV am_hT (mX6_obeyedBy l hfl N) am_ci6 ⟨by decide +kernel, by decide +kernel, by decide +kernel⟩ q201 q202 q126 q203 q204 (by decide) (by decide) dX1_march_2 ?_
  refine av_istore_n dX1_march_5 rfl (by decide) ?_
  refine av_iload_n dX1_march_6 rfl ?_
  refine av_iconst (v := -1) dX1_march_7 (by decide) ?_
  refine av_icne (tgt := 12) dX1_march_8 (by decide) ?_ ?_
  · refine av_aload_n dX1_march_12 rfl ?_
    refine av_getr am_ci6 (by decide) am_f6_8 q200 dX1_march_13 ?_
    refine av_astore dX1_march_16 (by decide) ?_
    refine av_aload_n dX1_march_18 rfl ?_
    refine av_getr am_ci6 (by decide) am_f6_11 q198 dX1_march_19 ?_
    refine av_iload_n dX1_march_22 rfl ?_
    refine av_iconst (v := 1) dX1_march_23 (by decide) ?_
    refine av_callV am_hT (mX7_get l hfl N) am_ci7 ⟨by decide +kernel, by decide +kernel, by decide +kernel⟩ q192 q86 q73 q87 q88 (by decide) (by decide) dX1_march_24 ?_
    refine av_aload_n dX1_march_27 rfl ?_
    refine av_getr am_ci6 (by decide) am_f6_11 q198 dX1_march_28 ?_
    refine av_iload_n dX1_march_31 rfl ?_
    refine av_iconst (v := 2) dX1_march_32 (by decide) ?_
    refine av_callV am_hT (mX7_get l hfl N) am_ci7 ⟨by decide +kernel, by decide +kernel, by decide +kernel⟩ q192 q86 q73 q87 q88 (by decide) (by decide) dX1_march_33 ?_
    refine av_callSN (mX10_cellAt l hfl N) ⟨by decide +kernel, by decide +kernel, by decide +kernel⟩ n6 q110 q111 q112 (by decide) (by decide) dX1_march_36 ?_
    refine av_istore dX1_march_39 (by decide) ?_
    refine av_aload dX1_march_41 ?_
    refine av_iload_n dX1_march_43 rfl ?_
    refine av_iconst (v := 0) dX1_march_44 (by decide) ?_
    refine av_callV am_hT (mX7_get l hfl N) am_ci7 ⟨by decide +kernel, by decide +kernel, by decide +kernel⟩ q192 q86 q73 q87 q88 (by decide) (by decide) dX1_march_45 ?_
    refine av_aload dX1_march_48 ?_
    refine av_iload_n dX1_march_50 rfl ?_
    refine av_iconst (v := 1) dX1_march_51 (by decide) ?_
    refine av_callV am_hT (mX7_get l hfl N) am_ci7 ⟨by decide +kernel, by decide +kernel, by decide +kernel⟩ q192 q86 q73 q87 q88 (by decide) (by decide) dX1_march_52 ?_
    refine av_callSN (mX10_cellAt l hfl N) ⟨by decide +kernel, by decide +kernel, by decide +kernel⟩ n6 q110 q111 q112 (by decide) (by decide) dX1_march_55 ?_
    refine av_istore dX1_march_58 (by decide) ?_
    refine av_aload dX1_march_60 ?_
    refine av_iload_n dX1_march_62 rfl ?_
    refine av_iconst (v := 2) dX1_march_63 (by decide) ?_
    refine av_callV am_hT (mX7_get l hfl N) am_ci7 ⟨by decide +kernel, by decide +kernel, by decide +kernel⟩ q192 q86 q73 q87 q88 (by decide) (by decide) dX1_march_64 ?_
    refine av_istore dX1_march_67 (by decide) ?_
    refine av_iload dX1_march_69 ?_
    refine av_iload dX1_march_71 ?_
    refine av_iceq (tgt := 138) dX1_march_73 (by decide) ?_ ?_
    · exact vX1_march_138 l hfl N
    refine av_iload dX1_march_76 ?_
    refine av_ifle (tgt := 138) dX1_march_78 (by decide) ?_ ?_
    · exact vX1_march_138 l hfl N
    refine av_aload_n dX1_march_81 rfl ?_
    refine av_geti am_ci6 (by decide) am_f6_4 q193 dX1_march_82 ?_
    refine av_iload dX1_march_85 ?_
    refine av_irem dX1_march_87 ?_
    refine av_ifne (tgt := 138) dX1_march_88 (by decide) ?_ ?_
    · exact vX1_march_138 l hfl N
    refine av_aload_n dX1_march_91 rfl ?_
    refine av_getr am_ci1 (by decide) am_f1_0 q189 dX1_march_92 ?_
    refine av_iload dX1_march_95 ?_
    refine av_iload dX1_march_97 ?_
    refine av_callV am_hT (mX4_nextCell l hfl N) am_ci4 ⟨by decide +kernel, by decide +kernel, by decide +kernel⟩ q214 q215 q185 q216 q217 (by decide) (by decide) dX1_march_99 ?_
    refine av_istore dX1_march_102 (by decide) ?_
    refine av_iload dX1_march_104 ?_
    refine av_iconst (v := -1) dX1_march_106 (by decide) ?_
    refine av_iceq (tgt := 138) dX1_march_107 (by decide) ?_ ?_
    · exact vX1_march_138 l hfl N
    refine av_iload dX1_march_110 ?_
    refine av_istore dX1_march_112 (by decide) ?_
    refine av_aload dX1_march_114 ?_
    refine av_iload_n dX1_march_116 rfl ?_
    refine av_iconst (v := 0) dX1_march_117 (by decide) ?_
    refine av_iload dX1_march_118 ?_
    refine av_callSN (mX10_xOf l hfl N) ⟨by decide +kernel, by decide +kernel, by decide +kernel⟩ n7 q159 q111 q160 (by decide) (by decide) dX1_march_120 ?_
    refine av_callV am_hT (mX7_put l hfl N) am_ci7 ⟨by decide +kernel, by decide +kernel, by decide +kernel⟩ q199 q118 q73 q119 q120 (by decide) (by decide) dX1_march_123 ?_
    refine av_aload dX1_march_126 ?_
    refine av_iload_n dX1_march_128 rfl ?_
    refine av_iconst (v := 1) dX1_march_129 (by decide) ?_
    refine av_iload dX1_march_130 ?_
    refine av_callSN (mX10_yOf l hfl N) ⟨by decide +kernel, by decide +kernel, by decide +kernel⟩ n8 q161 q111 q162 (by decide) (by decide) dX1_march_132 ?_
    refine av_callV am_hT (mX7_put l hfl N) am_ci7 ⟨by decide +kernel, by decide +kernel, by decide +kernel⟩ q199 q118 q73 q119 q120 (by decide) (by decide) dX1_march_135 ?_
    exact vX1_march_138 l hfl N
  exact av_return_ am_hv dX1_march_11
theorem mX1_march (l : Launch) (hfl : l.stackTraces = false) (N : Nat) : am_M l yX1_march cX1_march 9 none 4 139 (fX1_march N) := av_meth hfl (by decide +kernel) rfl (vX1_march_0 l hfl N)
/-! MessengerBoard$Clock.passTurn(LMessengerBoard$Situation;)V -/
noncomputable def bX1_passTurn_111 (N : Nat) (r111 : am_K) : am_K :=
  c_ild 4 <|
  c_ild 3 <|
  c_icge (
  c_rld 1 <|
  c_dup <|
  c_geti 6 4 <|
  c_i (1) <|
  c_ii (fun x y => x + y) <|
  c_puti 6 4 <|
  c_vret) <|
  c_rld 0 <|
  c_rld 1 <|
  c_ild 4 <|
  c_callV 1 2 (fX1_march N) <|
  c_inc 4 (1) <|
  c_live [0, 1, 3, 4] r111
noncomputable def kX1_passTurn_111 (N : Nat) : am_K := c_live [0, 1, 3, 4] (am_loop (bX1_passTurn_111 N) N)
noncomputable def kX1_passTurn_94 (N : Nat) (r46 : am_K) : am_K := c_live [0, 1, 2, 3] <|
  c_inc 3 (1) <|
  c_live [0, 1, 2, 3] r46
noncomputable def bX1_passTurn_46 (N : Nat) (r46 : am_K) : am_K :=
  c_ild 3 <|
  c_ild 2 <|
  c_icge (
  c_rld 1 <|
  c_getr 6 8 <|
  c_callV 7 0 (fX7_count N) <|
  c_ist 3 <|
  c_i (0) <|
  c_ist 4 <|
  kX1_passTurn_111 N) <|
  c_rld 1 <|
  c_geti 6 4 <|
  c_rld 1 <|
  c_getr 6 11 <|
  c_ild 3 <|
  c_i (4) <|
  c_callV 7 2 (fX7_get N) <|
  c_ii (fun x y => x - y) <|
  c_ist 4 <|
  c_rld 1 <|
  c_getr 6 11 <|
  c_ild 3 <|
  c_i (3) <|
  c_callV 7 2 (fX7_get N) <|
  c_ifne (
  kX1_passTurn_94 N r46) <|
  c_ild 4 <|
  c_rld 1 <|
  c_geti 6 5 <|
  c_iclt (
  kX1_passTurn_94 N r46) <|
  c_rld 1 <|
  c_ild 3 <|
  c_i (4) <|
  c_callV 6 2 (fX6_changeOrder N) <|
  kX1_passTurn_94 N r46
noncomputable def kX1_passTurn_46 (N : Nat) : am_K := c_live [0, 1, 2, 3] (am_loop (bX1_passTurn_46 N) N)
noncomputable def kX1_passTurn_38 (N : Nat) (r15 : am_K) : am_K := c_live [0, 1, 2, 3] <|
  c_inc 3 (1) <|
  c_live [0, 1, 2, 3] r15
noncomputable def bX1_passTurn_15 (N : Nat) (r15 : am_K) : am_K :=
  c_ild 3 <|
  c_ild 2 <|
  c_icge (
  c_i (0) <|
  c_ist 3 <|
  kX1_passTurn_46 N) <|
  c_rld 1 <|
  c_getr 6 11 <|
  c_ild 3 <|
  c_i (3) <|
  c_callV 7 2 (fX7_get N) <|
  c_ifne (
  kX1_passTurn_38 N r15) <|
  c_rld 0 <|
  c_rld 1 <|
  c_ild 3 <|
  c_callV 1 2 (fX1_carry N) <|
  kX1_passTurn_38 N r15
noncomputable def kX1_passTurn_15 (N : Nat) : am_K := c_live [0, 1, 2, 3] (am_loop (bX1_passTurn_15 N) N)
noncomputable def kX1_passTurn_0 (N : Nat) : am_K := c_live [0, 1] <|
  c_rld 0 <|
  c_rld 1 <|
  c_callV 1 1 (fX1_sendPlanned N) <|
  c_rld 1 <|
  c_getr 6 11 <|
  c_callV 7 0 (fX7_count N) <|
  c_ist 2 <|
  c_i (0) <|
  c_ist 3 <|
  kX1_passTurn_15 N
noncomputable def fX1_passTurn (N : Nat) : am_F := am_fn 5 (kX1_passTurn_0 N)
set_option maxRecDepth 20000 in
theorem vX1_passTurn_111 (l : Launch) (hfl : l.stackTraces = false) (N : Nat)  : am_V l cX1_passTurn 5 RX1 (am_E none yX1_passTurn.name) 5 168 111 (kX1_passTurn_111 N) := by
  refine av_live ?_
  refine av_loop (fun r111 h111 => ?_) N
  refine av_iload dX1_passTurn_111 ?_
  refine av_iload_n dX1_passTurn_113 rfl ?_
  refine av_icge (tgt := 130) dX1_passTurn_114 (by decide) ?_ ?_
  · refine av_aload_n dX1_passTurn_130 rfl ?_
    refine av_dup dX1_passTurn_131 ?_
    refine av_geti am_ci6 (by decide) am_f6_4 q193 dX1_passTurn_132 ?_
    refine av_iconst (v := 1) dX1_passTurn_135 (by decide) ?_
    refine av_iadd dX1_passTurn_136 ?_
    refine av_puti am_ci6 (by decide) am_f6_4 q193 (tyX6_ok 4 (by decide)) rfl dX1_passTurn_137 ?_
    exact av_return_ am_hv dX1_passTurn_140
  refine av_aload_n dX1_passTurn_117 rfl ?_
  refine av_aload_n dX1_passTurn_118 rfl ?_
  refine av_iload dX1_passTurn_119 ?_
  refine av_callV am_hT (mX1_march l hfl N) am_ci1 ⟨by decide +kernel, by decide +kernel, by decide +kernel⟩ q227 q228 q211 q229 q230 (by decide) (by decide) dX1_passTurn_121 ?_
  refine av_iinc dX1_passTurn_124 (by decide) (by decide) ?_
  refine av_goto (tgt := 111) dX1_passTurn_127 (by decide) ?_
  exact av_live h111
set_option maxRecDepth 20000 in
theorem vX1_passTurn_94 (l : Launch) (hfl : l.stackTraces = false) (N : Nat)  {r46 : am_K} (h46 : am_V l cX1_passTurn 5 RX1 (am_E none yX1_passTurn.name) 5 168 46 r46) : am_V l cX1_passTurn 5 RX1 (am_E none yX1_passTurn.name) 5 168 94 (kX1_passTurn_94 N r46) := by
  refine av_live ?_
  refine av_iinc dX1_passTurn_94 (by decide) (by decide) ?_
  refine av_goto (tgt := 46) dX1_passTurn_97 (by decide) ?_
  exact av_live h46
set_option maxRecDepth 20000 in
theorem vX1_passTurn_46 (l : Launch) (hfl : l.stackTraces = false) (N : Nat)  : am_V l cX1_passTurn 5 RX1 (am_E none yX1_passTurn.name) 5 168 46 (kX1_passTurn_46 N) := by
  refine av_live ?_
  refine av_loop (fun r46 h46 => ?_) N
  refine av_iload_n dX1_passTurn_46 rfl ?_
  refine av_iload_n dX1_passTurn_47 rfl ?_
  refine av_icge (tgt := 100) dX1_passTurn_48 (by decide) ?_ ?_
  · refine av_aload_n dX1_passTurn_100 rfl ?_
    refine av_getr am_ci6 (by decide) am_f6_8 q200 dX1_passTurn_101 ?_
    refine av_callV am_hT (mX7_count l hfl N) am_ci7 ⟨by decide +kernel, by decide +kernel, by decide +kernel⟩ q191 q90 q73 q91 q92 (by decide) (by decide) dX1_passTurn_104 ?_
    refine av_istore_n dX1_passTurn_107 rfl (by decide) ?_
    refine av_iconst (v := 0) dX1_passTurn_108 (by decide) ?_
    refine av_istore dX1_passTurn_109 (by decide) ?_
    exact vX1_passTurn_111 l hfl N
  refine av_aload_n dX1_passTurn_51 rfl ?_
  refine av_geti am_ci6 (by decide) am_f6_4 q193 dX1_passTurn_52 ?_
  refine av_aload_n dX1_passTurn_55 rfl ?_
  refine av_getr am_ci6 (by decide) am_f6_11 q198 dX1_passTurn_56 ?_
  refine av_iload_n dX1_passTurn_59 rfl ?_
  refine av_iconst (v := 4) dX1_passTurn_60 (by decide) ?_
  refine av_callV am_hT (mX7_get l hfl N) am_ci7 ⟨by decide +kernel, by decide +kernel, by decide +kernel⟩ q192 q86 q73 q87 q88 (by decide) (by decide) dX1_passTurn_61 ?_
  refine av_isub dX1_passTurn_64 ?_
  refine av_istore dX1_passTurn_65 (by decide) ?_
  refine av_aload_n dX1_passTurn_67 rfl ?_
  refine av_getr am_ci6 (by decide) am_f6_11 q198 dX1_passTurn_68 ?_
  refine av_iload_n dX1_passTurn_71 rfl ?_
  refine av_iconst (v := 3) dX1_passTurn_72 (by decide) ?_
  refine av_callV am_hT (mX7_get l hfl N) am_ci7 ⟨by decide +kernel, by decide +kernel, by decide +kernel⟩ q192 q86 q73 q87 q88 (by decide) (by decide) dX1_passTurn_73 ?_
  refine av_ifne (tgt := 94) dX1_passTurn_76 (by decide) ?_ ?_
  · exact vX1_passTurn_94 l hfl N h46
  refine av_iload dX1_passTurn_79 ?_
  refine av_aload_n dX1_passTurn_81 rfl ?_
  refine av_geti am_ci6 (by decide) am_f6_5 q231 dX1_passTurn_82 ?_
  refine av_iclt (tgt := 94) dX1_passTurn_85 (by decide) ?_ ?_
  · exact vX1_passTurn_94 l hfl N h46
  refine av_aload_n dX1_passTurn_88 rfl ?_
  refine av_iload_n dX1_passTurn_89 rfl ?_
  refine av_iconst (v := 4) dX1_passTurn_90 (by decide) ?_
  refine av_callV am_hT (mX6_changeOrder l hfl N) am_ci6 ⟨by decide +kernel, by decide +kernel, by decide +kernel⟩ q205 q206 q126 q207 q208 (by decide) (by decide) dX1_passTurn_91 ?_
  exact vX1_passTurn_94 l hfl N h46
set_option maxRecDepth 20000 in
theorem vX1_passTurn_38 (l : Launch) (hfl : l.stackTraces = false) (N : Nat)  {r15 : am_K} (h15 : am_V l cX1_passTurn 5 RX1 (am_E none yX1_passTurn.name) 5 168 15 r15) : am_V l cX1_passTurn 5 RX1 (am_E none yX1_passTurn.name) 5 168 38 (kX1_passTurn_38 N r15) := by
  refine av_live ?_
  refine av_iinc dX1_passTurn_38 (by decide) (by decide) ?_
  refine av_goto (tgt := 15) dX1_passTurn_41 (by decide) ?_
  exact av_live h15
set_option maxRecDepth 20000 in
theorem vX1_passTurn_15 (l : Launch) (hfl : l.stackTraces = false) (N : Nat)  : am_V l cX1_passTurn 5 RX1 (am_E none yX1_passTurn.name) 5 168 15 (kX1_passTurn_15 N) := by
  refine av_live ?_
  refine av_loop (fun r15 h15 => ?_) N
  refine av_iload_n dX1_passTurn_15 rfl ?_
  refine av_iload_n dX1_passTurn_16 rfl ?_
  refine av_icge (tgt := 44) dX1_passTurn_17 (by decide) ?_ ?_
  · refine av_iconst (v := 0) dX1_passTurn_44 (by decide) ?_
    refine av_istore_n dX1_passTurn_45 rfl (by decide) ?_
    exact vX1_passTurn_46 l hfl N
  refine av_aload_n dX1_passTurn_20 rfl ?_
  refine av_getr am_ci6 (by decide) am_f6_11 q198 dX1_passTurn_21 ?_
  refine av_iload_n dX1_passTurn_24 rfl ?_
  refine av_iconst (v := 3) dX1_passTurn_25 (by decide) ?_
  refine av_callV am_hT (mX7_get l hfl N) am_ci7 ⟨by decide +kernel, by decide +kernel, by decide +kernel⟩ q192 q86 q73 q87 q88 (by decide) (by decide) dX1_passTurn_26 ?_
  refine av_ifne (tgt := 38) dX1_passTurn_29 (by decide) ?_ ?_
  · exact vX1_passTurn_38 l hfl N h15
  refine av_aload_n dX1_passTurn_32 rfl ?_
  refine av_aload_n dX1_passTurn_33 rfl ?_
  refine av_iload_n dX1_passTurn_34 rfl ?_
  refine av_callV am_hT (mX1_carry l hfl N) am_ci1 ⟨by decide +kernel, by decide +kernel, by decide +kernel⟩ q232 q233 q211 q234 q235 (by decide) (by decide) dX1_passTurn_35 ?_
  exact vX1_passTurn_38 l hfl N h15
set_option maxRecDepth 20000 in
theorem vX1_passTurn_0 (l : Launch) (hfl : l.stackTraces = false) (N : Nat)  : am_V l cX1_passTurn 5 RX1 (am_E none yX1_passTurn.name) 5 168 0 (kX1_passTurn_0 N) := by
  refine av_live ?_
  refine av_aload_n dX1_passTurn_0 rfl ?_
  refine av_aload_n dX1_passTurn_1 rfl ?_
  refine av_callV am_hT (mX1_sendPlanned l hfl N) am_ci1 ⟨by decide +kernel, by decide +kernel, by decide +kernel⟩ q223 q224 q211 q225 q226 (by decide) (by decide) dX1_passTurn_2 ?_
  refine av_aload_n dX1_passTurn_5 rfl ?_
  refine av_getr am_ci6 (by decide) am_f6_11 q198 dX1_passTurn_6 ?_
  refine av_callV am_hT (mX7_count l hfl N) am_ci7 ⟨by decide +kernel, by decide +kernel, by decide +kernel⟩ q191 q90 q73 q91 q92 (by decide) (by decide) dX1_passTurn_9 ?_
  refine av_istore_n dX1_passTurn_12 rfl (by decide) ?_
  refine av_iconst (v := 0) dX1_passTurn_13 (by decide) ?_
  refine av_istore_n dX1_passTurn_14 rfl (by decide) ?_
  exact vX1_passTurn_15 l hfl N
theorem mX1_passTurn (l : Launch) (hfl : l.stackTraces = false) (N : Nat) : am_M l yX1_passTurn cX1_passTurn 5 none 5 168 (fX1_passTurn N) := av_meth hfl (by decide +kernel) rfl (vX1_passTurn_0 l hfl N)
