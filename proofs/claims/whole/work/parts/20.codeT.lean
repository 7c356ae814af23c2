/-! MessengerBoard$Table.<init>(II)V -/
noncomputable def kX7_init_68 (N : Nat) : am_K := c_live [] <|
  c_newa 20 <|
  c_putr 7 2 <|
  c_vret
noncomputable def kX7_init_53 (N : Nat) : am_K := c_live [0, 1, 2, 3] <|
  c_puti 7 1 <|
  c_rld 0 <|
  c_ild 3 <|
  c_ifeq (
  c_i (0) <|
  kX7_init_68 N) <|
  c_ild 1 <|
  c_ild 2 <|
  c_ii (fun x y => x * y) <|
  kX7_init_68 N
noncomputable def kX7_init_40 (N : Nat) : am_K := c_live [0, 1, 2, 3] <|
  c_puti 7 0 <|
  c_rld 0 <|
  c_ild 3 <|
  c_ifeq (
  c_i (0) <|
  kX7_init_53 N) <|
  c_ild 2 <|
  kX7_init_53 N
noncomputable def kX7_init_29 (N : Nat) : am_K := c_live [0, 1, 2] <|
  c_ist 3 <|
  c_rld 0 <|
  c_ild 3 <|
  c_ifeq (
  c_i (0) <|
  kX7_init_40 N) <|
  c_ild 1 <|
  kX7_init_40 N
noncomputable def kX7_init_28 (N : Nat) : am_K := c_live [0, 1, 2] <|
  c_i (0) <|
  kX7_init_29 N
noncomputable def kX7_init_0 (N : Nat) : am_K := c_live [0, 1, 2] <|
  c_rld 0 <|
  c_oinit <|
  c_ild 1 <|
  c_iflt (
  kX7_init_28 N) <|
  c_ild 1 <|
  c_i (80) <|
  c_icgt (
  kX7_init_28 N) <|
  c_ild 2 <|
  c_iflt (
  kX7_init_28 N) <|
  c_ild 2 <|
  c_i (10) <|
  c_icgt (
  kX7_init_28 N) <|
  c_i (1) <|
  kX7_init_29 N
noncomputable def fX7_init (N : Nat) : am_F := am_fn 4 (kX7_init_0 N)
set_option maxRecDepth 20000 in
theorem vX7_init_68 (l : Launch) (hfl : l.stackTraces = false) (N : Nat)  : am_V l cX7_init 4 RX7 (am_E none yX7_init.name) 1 60 68 (kX7_init_68 N) := by
  refine av_live ?_
  refine av_newarr_int q5 dX7_init_68 ?_
  refine av_putrF am_ci7 (by decide) am_f7_2 q6 (tyX7_ok 2 (by decide)) (fun _ => ⟨rfl, rfl⟩) ⟨rfl, rfl⟩ dX7_init_70 ?_
  exact av_return_ am_hv dX7_init_73
set_option maxRecDepth 20000 in
theorem vX7_init_53 (l : Launch) (hfl : l.stackTraces = false) (N : Nat)  : am_V l cX7_init 4 RX7 (am_E none yX7_init.name) 1 60 53 (kX7_init_53 N) := by
  refine av_live ?_
  refine av_putiF am_ci7 (by decide) am_f7_1 q4 (tyX7_ok 1 (by decide)) ⟨rfl, rfl⟩ dX7_init_53 ?_
  refine av_aload_n dX7_init_56 rfl ?_
  refine av_iload_n dX7_init_57 rfl ?_
  refine av_ifeq (tgt := 67) dX7_init_58 (by decide) ?_ ?_
  · refine av_iconst dX7_init_67 (by decide) ?_
    exact vX7_init_68 l hfl N
  refine av_iload_n dX7_init_61 rfl ?_
  refine av_iload_n dX7_init_62 rfl ?_
  refine av_imul dX7_init_63 ?_
  refine av_goto (tgt := 68) dX7_init_64 (by decide) ?_
  exact vX7_init_68 l hfl N
set_option maxRecDepth 20000 in
theorem vX7_init_40 (l : Launch) (hfl : l.stackTraces = false) (N : Nat)  : am_V l cX7_init 4 RX7 (am_E none yX7_init.name) 1 60 40 (kX7_init_40 N) := by
  refine av_live ?_
  refine av_putiF am_ci7 (by decide) am_f7_0 q3 (tyX7_ok 0 (by decide)) ⟨rfl, rfl⟩ dX7_init_40 ?_
  refine av_aload_n dX7_init_43 rfl ?_
  refine av_iload_n dX7_init_44 rfl ?_
  refine av_ifeq (tgt := 52) dX7_init_45 (by decide) ?_ ?_
  · refine av_iconst dX7_init_52 (by decide) ?_
    exact vX7_init_53 l hfl N
  refine av_iload_n dX7_init_48 rfl ?_
  refine av_goto (tgt := 53) dX7_init_49 (by decide) ?_
  exact vX7_init_53 l hfl N
set_option maxRecDepth 20000 in
theorem vX7_init_29 (l : Launch) (hfl : l.stackTraces = false) (N : Nat)  : am_V l cX7_init 4 RX7 (am_E none yX7_init.name) 1 60 29 (kX7_init_29 N) := by
  refine av_live ?_
  refine av_istore_n dX7_init_29 rfl (by decide) ?_
  refine av_aload_n dX7_init_30 rfl ?_
  refine av_iload_n dX7_init_31 rfl ?_
  refine av_ifeq (tgt := 39) dX7_init_32 (by decide) ?_ ?_
  · refine av_iconst dX7_init_39 (by decide) ?_
    exact vX7_init_40 l hfl N
  refine av_iload_n dX7_init_35 rfl ?_
  refine av_goto (tgt := 40) dX7_init_36 (by decide) ?_
  exact vX7_init_40 l hfl N
set_option maxRecDepth 20000 in
theorem vX7_init_28 (l : Launch) (hfl : l.stackTraces = false) (N : Nat)  : am_V l cX7_init 4 RX7 (am_E none yX7_init.name) 1 60 28 (kX7_init_28 N) := by
  refine av_live ?_
  refine av_iconst dX7_init_28 (by decide) ?_
  exact vX7_init_29 l hfl N
set_option maxRecDepth 20000 in
theorem vX7_init_0 (l : Launch) (hfl : l.stackTraces = false) (N : Nat)  : am_V l cX7_init 4 RX7 (am_E none yX7_init.name) 1 60 0 (kX7_init_0 N) := by
  refine av_live ?_
  refine av_aload_n dX7_init_0 rfl ?_
  refine av_objInit q0 q1 q2 (by decide) (by decide) dX7_init_1 ?_
  refine av_iload_n dX7_init_4 rfl ?_
  refine av_iflt (tgt := 28) dX7_init_5 (by decide) ?_ ?_
  · exact vX7_init_28 l hfl N
  refine av_iload_n dX7_init_8 rfl ?_
  refine av_bipush dX7_init_9 (by decide) ?_
  refine av_icgt (tgt := 28) dX7_init_11 (by decide) ?_ ?_
  · exact vX7_init_28 l hfl N
  refine av_iload_n dX7_init_14 rfl ?_
  refine av_iflt (tgt := 28) dX7_init_15 (by decide) ?_ ?_
  · exact vX7_init_28 l hfl N
  refine av_iload_n dX7_init_18 rfl ?_
  refine av_bipush dX7_init_19 (by decide) ?_
  refine av_icgt (tgt := 28) dX7_init_21 (by decide) ?_ ?_
  · exact vX7_init_28 l hfl N
  refine av_iconst dX7_init_24 (by decide) ?_
  refine av_goto (tgt := 29) dX7_init_25 (by decide) ?_
  exact vX7_init_29 l hfl N
theorem mX7_init (l : Launch) (hfl : l.stackTraces = false) (N : Nat) : am_M l yX7_init cX7_init 4 none 1 60 (fX7_init N) := av_meth hfl (by decide +kernel) rfl (vX7_init_0 l hfl N)
/-! MessengerBoard$Table.count()I -/
noncomputable def kX7_count_0 (N : Nat) : am_K := c_live [0] <|
  c_rld 0 <|
  c_geti 7 3 <|
  c_iret
noncomputable def fX7_count (N : Nat) : am_F := am_fn 1 (kX7_count_0 N)
set_option maxRecDepth 20000 in
theorem vX7_count_0 (l : Launch) (hfl : l.stackTraces = false) (N : Nat)  : am_V l cX7_count 1 RX7 (am_E (some .int) yX7_count.name) 1 60 0 (kX7_count_0 N) := by
  refine av_live ?_
  refine av_aload_n dX7_count_0 rfl ?_
  refine av_geti am_ci7 (by decide) am_f7_3 q7 dX7_count_1 ?_
  exact av_ireturn am_hi dX7_count_4
theorem mX7_count (l : Launch) (hfl : l.stackTraces = false) (N : Nat) : am_M l yX7_count cX7_count 1 (some .int) 1 60 (fX7_count N) := av_meth hfl (by decide +kernel) rfl (vX7_count_0 l hfl N)
/-! MessengerBoard$Table.get(II)I -/
noncomputable def kX7_get_68 (N : Nat) : am_K := c_live [] <|
  c_iret
noncomputable def kX7_get_67 (N : Nat) : am_K := c_live [] <|
  c_i (-1) <|
  kX7_get_68 N
noncomputable def kX7_get_38 (N : Nat) : am_K := c_live [0, 3] <|
  c_ist 4 <|
  c_ild 4 <|
  c_ifeq (
  kX7_get_67 N) <|
  c_ild 3 <|
  c_iflt (
  kX7_get_67 N) <|
  c_ild 3 <|
  c_rld 0 <|
  c_getr 7 2 <|
  c_alen <|
  c_icge (
  kX7_get_67 N) <|
  c_rld 0 <|
  c_getr 7 2 <|
  c_ild 3 <|
  c_ial <|
  kX7_get_68 N
noncomputable def kX7_get_37 (N : Nat) : am_K := c_live [0, 3] <|
  c_i (0) <|
  kX7_get_38 N
noncomputable def kX7_get_0 (N : Nat) : am_K := c_live [0, 1, 2] <|
  c_ild 1 <|
  c_rld 0 <|
  c_geti 7 1 <|
  c_ii (fun x y => x * y) <|
  c_ild 2 <|
  c_ii (fun x y => x + y) <|
  c_ist 3 <|
  c_ild 1 <|
  c_iflt (
  kX7_get_37 N) <|
  c_ild 1 <|
  c_rld 0 <|
  c_geti 7 3 <|
  c_icge (
  kX7_get_37 N) <|
  c_ild 2 <|
  c_iflt (
  kX7_get_37 N) <|
  c_ild 2 <|
  c_rld 0 <|
  c_geti 7 1 <|
  c_icge (
  kX7_get_37 N) <|
  c_i (1) <|
  kX7_get_38 N
noncomputable def fX7_get (N : Nat) : am_F := am_fn 5 (kX7_get_0 N)
set_option maxRecDepth 20000 in
theorem vX7_get_68 (l : Launch) (hfl : l.stackTraces = false) (N : Nat)  : am_V l cX7_get 5 RX7 (am_E (some .int) yX7_get.name) 1 60 68 (kX7_get_68 N) := by
  refine av_live ?_
  exact av_ireturn am_hi dX7_get_68
set_option maxRecDepth 20000 in
theorem vX7_get_67 (l : Launch) (hfl : l.stackTraces = false) (N : Nat)  : am_V l cX7_get 5 RX7 (am_E (some .int) yX7_get.name) 1 60 67 (kX7_get_67 N) := by
  refine av_live ?_
  refine av_iconst dX7_get_67 (by decide) ?_
  exact vX7_get_68 l hfl N
set_option maxRecDepth 20000 in
theorem vX7_get_38 (l : Launch) (hfl : l.stackTraces = false) (N : Nat)  : am_V l cX7_get 5 RX7 (am_E (some .int) yX7_get.name) 1 60 38 (kX7_get_38 N) := by
  refine av_live ?_
  refine av_istore dX7_get_38 (by decide) ?_
  refine av_iload dX7_get_40 ?_
  refine av_ifeq (tgt := 67) dX7_get_42 (by decide) ?_ ?_
  · exact vX7_get_67 l hfl N
  refine av_iload_n dX7_get_45 rfl ?_
  refine av_iflt (tgt := 67) dX7_get_46 (by decide) ?_ ?_
  · exact vX7_get_67 l hfl N
  refine av_iload_n dX7_get_49 rfl ?_
  refine av_aload_n dX7_get_50 rfl ?_
  refine av_getr am_ci7 (by decide) am_f7_2 q6 dX7_get_51 ?_
  refine av_arraylength dX7_get_54 ?_
  refine av_icge (tgt := 67) dX7_get_55 (by decide) ?_ ?_
  · exact vX7_get_67 l hfl N
  refine av_aload_n dX7_get_58 rfl ?_
  refine av_getr am_ci7 (by decide) am_f7_2 q6 dX7_get_59 ?_
  refine av_iload_n dX7_get_62 rfl ?_
  refine av_iaload dX7_get_63 ?_
  refine av_goto (tgt := 68) dX7_get_64 (by decide) ?_
  exact vX7_get_68 l hfl N
set_option maxRecDepth 20000 in
theorem vX7_get_37 (l : Launch) (hfl : l.stackTraces = false) (N : Nat)  : am_V l cX7_get 5 RX7 (am_E (some .int) yX7_get.name) 1 60 37 (kX7_get_37 N) := by
  refine av_live ?_
  refine av_iconst dX7_get_37 (by decide) ?_
  exact vX7_get_38 l hfl N
set_option maxRecDepth 20000 in
theorem vX7_get_0 (l : Launch) (hfl : l.stackTraces = false) (N : Nat)  : am_V l cX7_get 5 RX7 (am_E (some .int) yX7_get.name) 1 60 0 (kX7_get_0 N) := by
  refine av_live ?_
  refine av_iload_n dX7_get_0 rfl ?_
  refine av_aload_n dX7_get_1 rfl ?_
  refine av_geti am_ci7 (by decide) am_f7_1 q4 dX7_get_2 ?_
  refine av_imul dX7_get_5 ?_
  refine av_iload_n dX7_get_6 rfl ?_
  refine av_iadd dX7_get_7 ?_
  refine av_istore_n dX7_get_8 rfl (by decide) ?_
  refine av_iload_n dX7_get_9 rfl ?_
  refine av_iflt (tgt := 37) dX7_get_10 (by decide) ?_ ?_
  · exact vX7_get_37 l hfl N
  refine av_iload_n dX7_get_13 rfl ?_
  refine av_aload_n dX7_get_14 rfl ?_
  refine av_geti am_ci7 (by decide) am_f7_3 q7 dX7_get_15 ?_
  refine av_icge (tgt := 37) dX7_get_18 (by decide) ?_ ?_
  · exact vX7_get_37 l hfl N
  refine av_iload_n dX7_get_21 rfl ?_
  refine av_iflt (tgt := 37) dX7_get_22 (by decide) ?_ ?_
  · exact vX7_get_37 l hfl N
  refine av_iload_n dX7_get_25 rfl ?_
  refine av_aload_n dX7_get_26 rfl ?_
  refine av_geti am_ci7 (by decide) am_f7_1 q4 dX7_get_27 ?_
  refine av_icge (tgt := 37) dX7_get_30 (by decide) ?_ ?_
  · exact vX7_get_37 l hfl N
  refine av_iconst dX7_get_33 (by decide) ?_
  refine av_goto (tgt := 38) dX7_get_34 (by decide) ?_
  exact vX7_get_38 l hfl N
theorem mX7_get (l : Launch) (hfl : l.stackTraces = false) (N : Nat) : am_M l yX7_get cX7_get 5 (some .int) 1 60 (fX7_get N) := av_meth hfl (by decide +kernel) rfl (vX7_get_0 l hfl N)
/-! MessengerBoard$Table.copyFrom(LMessengerBoard$Table;)V -/
noncomputable def kX7_copyFrom_54 (N : Nat) : am_K := c_live [] <|
  c_vret
noncomputable def kX7_copyFrom_0 (N : Nat) : am_K := c_live [0, 1] <|
  c_rld 1 <|
  c_geti 7 3 <|
  c_rld 1 <|
  c_geti 7 1 <|
  c_ii (fun x y => x * y) <|
  c_ist 2 <|
  c_ild 2 <|
  c_iflt (
  kX7_copyFrom_54 N) <|
  c_ild 2 <|
  c_rld 0 <|
  c_getr 7 2 <|
  c_alen <|
  c_icgt (
  kX7_copyFrom_54 N) <|
  c_ild 2 <|
  c_rld 1 <|
  c_getr 7 2 <|
  c_alen <|
  c_icgt (
  kX7_copyFrom_54 N) <|
  c_rld 1 <|
  c_getr 7 2 <|
  c_i (0) <|
  c_rld 0 <|
  c_getr 7 2 <|
  c_i (0) <|
  c_ild 2 <|
  c_copy <|
  c_rld 0 <|
  c_rld 1 <|
  c_geti 7 3 <|
  c_puti 7 3 <|
  kX7_copyFrom_54 N
noncomputable def fX7_copyFrom (N : Nat) : am_F := am_fn 3 (kX7_copyFrom_0 N)
set_option maxRecDepth 20000 in
theorem vX7_copyFrom_54 (l : Launch) (hfl : l.stackTraces = false) (N : Nat)  : am_V l cX7_copyFrom 3 RX7 (am_E none yX7_copyFrom.name) 1 60 54 (kX7_copyFrom_54 N) := by
  refine av_live ?_
  exact av_return_ am_hv dX7_copyFrom_54
set_option maxRecDepth 20000 in
theorem vX7_copyFrom_0 (l : Launch) (hfl : l.stackTraces = false) (N : Nat)  : am_V l cX7_copyFrom 3 RX7 (am_E none yX7_copyFrom.name) 1 60 0 (kX7_copyFrom_0 N) := by
  refine av_live ?_
  refine av_aload_n dX7_copyFrom_0 rfl ?_
  refine av_geti am_ci7 (by decide) am_f7_3 q7 dX7_copyFrom_1 ?_
  refine av_aload_n dX7_copyFrom_4 rfl ?_
  refine av_geti am_ci7 (by decide) am_f7_1 q4 dX7_copyFrom_5 ?_
  refine av_imul dX7_copyFrom_8 ?_
  refine av_istore_n dX7_copyFrom_9 rfl (by decide) ?_
  refine av_iload_n dX7_copyFrom_10 rfl ?_
  refine av_iflt (tgt := 54) dX7_copyFrom_11 (by decide) ?_ ?_
  · exact vX7_copyFrom_54 l hfl N
  refine av_iload_n dX7_copyFrom_14 rfl ?_
  refine av_aload_n dX7_copyFrom_15 rfl ?_
  refine av_getr am_ci7 (by decide) am_f7_2 q6 dX7_copyFrom_16 ?_
  refine av_arraylength dX7_copyFrom_19 ?_
  refine av_icgt (tgt := 54) dX7_copyFrom_20 (by decide) ?_ ?_
  · exact vX7_copyFrom_54 l hfl N
  refine av_iload_n dX7_copyFrom_23 rfl ?_
  refine av_aload_n dX7_copyFrom_24 rfl ?_
  refine av_getr am_ci7 (by decide) am_f7_2 q6 dX7_copyFrom_25 ?_
  refine av_arraylength dX7_copyFrom_28 ?_
  refine av_icgt (tgt := 54) dX7_copyFrom_29 (by decide) ?_ ?_
  · exact vX7_copyFrom_54 l hfl N
  refine av_aload_n dX7_copyFrom_32 rfl ?_
  refine av_getr am_ci7 (by decide) am_f7_2 q6 dX7_copyFrom_33 ?_
  refine av_iconst dX7_copyFrom_36 (by decide) ?_
  refine av_aload_n dX7_copyFrom_37 rfl ?_
  refine av_getr am_ci7 (by decide) am_f7_2 q6 dX7_copyFrom_38 ?_
  refine av_iconst dX7_copyFrom_41 (by decide) ?_
  refine av_iload_n dX7_copyFrom_42 rfl ?_
  refine av_copy q8 q9 q10 q11 (by decide) (by decide +kernel) dX7_copyFrom_43 ?_
  refine av_aload_n dX7_copyFrom_46 rfl ?_
  refine av_aload_n dX7_copyFrom_47 rfl ?_
  refine av_geti am_ci7 (by decide) am_f7_3 q7 dX7_copyFrom_48 ?_
  refine av_puti am_ci7 (by decide) am_f7_3 q7 (tyX7_ok 3 (by decide)) rfl dX7_copyFrom_51 ?_
  exact vX7_copyFrom_54 l hfl N
theorem mX7_copyFrom (l : Launch) (hfl : l.stackTraces = false) (N : Nat) : am_M l yX7_copyFrom cX7_copyFrom 3 none 1 60 (fX7_copyFrom N) := av_meth hfl (by decide +kernel) rfl (vX7_copyFrom_0 l hfl N)
/-! MessengerBoard$Table.clear()V -/
noncomputable def kX7_clear_0 (N : Nat) : am_K := c_live [0] <|
  c_rld 0 <|
  c_i (0) <|
  c_puti 7 3 <|
  c_vret
noncomputable def fX7_clear (N : Nat) : am_F := am_fn 1 (kX7_clear_0 N)
set_option maxRecDepth 20000 in
theorem vX7_clear_0 (l : Launch) (hfl : l.stackTraces = false) (N : Nat)  : am_V l cX7_clear 1 RX7 (am_E none yX7_clear.name) 1 60 0 (kX7_clear_0 N) := by
  refine av_live ?_
  refine av_aload_n dX7_clear_0 rfl ?_
  refine av_iconst dX7_clear_1 (by decide) ?_
  refine av_puti am_ci7 (by decide) am_f7_3 q7 (tyX7_ok 3 (by decide)) rfl dX7_clear_2 ?_
  exact av_return_ am_hv dX7_clear_5
theorem mX7_clear (l : Launch) (hfl : l.stackTraces = false) (N : Nat) : am_M l yX7_clear cX7_clear 1 none 1 60 (fX7_clear N) := av_meth hfl (by decide +kernel) rfl (vX7_clear_0 l hfl N)
/-! MessengerBoard$Table.add()I -/
noncomputable def kX7_add_0 (N : Nat) : am_K := c_live [0] <|
  c_rld 0 <|
  c_geti 7 3 <|
  c_rld 0 <|
  c_geti 7 0 <|
  c_iclt (
  c_rld 0 <|
  c_dup <|
  c_geti 7 3 <|
  c_i (1) <|
  c_ii (fun x y => x + y) <|
  c_puti 7 3 <|
  c_rld 0 <|
  c_geti 7 3 <|
  c_i (1) <|
  c_ii (fun x y => x - y) <|
  c_iret) <|
  c_i (-1) <|
  c_iret
noncomputable def fX7_add (N : Nat) : am_F := am_fn 1 (kX7_add_0 N)
set_option maxRecDepth 20000 in
theorem vX7_add_0 (l : Launch) (hfl : l.stackTraces = false) (N : Nat)  : am_V l cX7_add 1 RX7 (am_E (some .int) yX7_add.name) 1 60 0 (kX7_add_0 N) := by
  refine av_live ?_
  refine av_aload_n dX7_add_0 rfl ?_
  refine av_geti am_ci7 (by decide) am_f7_3 q7 dX7_add_1 ?_
  refine av_aload_n dX7_add_4 rfl ?_
  refine av_geti am_ci7 (by decide) am_f7_0 q3 dX7_add_5 ?_
  refine av_iclt (tgt := 13) dX7_add_8 (by decide) ?_ ?_
  · refine av_aload_n dX7_add_13 rfl ?_
    refine av_dup dX7_add_14 ?_
    refine av_geti am_ci7 (by decide) am_f7_3 q7 dX7_add_15 ?_
    refine av_iconst dX7_add_18 (by decide) ?_
    refine av_iadd dX7_add_19 ?_
    refine av_puti am_ci7 (by decide) am_f7_3 q7 (tyX7_ok 3 (by decide)) rfl dX7_add_20 ?_
    refine av_aload_n dX7_add_23 rfl ?_
    refine av_geti am_ci7 (by decide) am_f7_3 q7 dX7_add_24 ?_
    refine av_iconst dX7_add_27 (by decide) ?_
    refine av_isub dX7_add_28 ?_
    exact av_ireturn am_hi dX7_add_29
  refine av_iconst dX7_add_11 (by decide) ?_
  exact av_ireturn am_hi dX7_add_12
theorem mX7_add (l : Launch) (hfl : l.stackTraces = false) (N : Nat) : am_M l yX7_add cX7_add 1 (some .int) 1 60 (fX7_add N) := av_meth hfl (by decide +kernel) rfl (vX7_add_0 l hfl N)
/-! MessengerBoard$Table.put(III)V -/
noncomputable def kX7_put_69 (N : Nat) : am_K := c_live [] <|
  c_vret
noncomputable def kX7_put_39 (N : Nat) : am_K := c_live [0, 3, 4] <|
  c_ist 5 <|
  c_ild 5 <|
  c_ifeq (
  kX7_put_69 N) <|
  c_ild 4 <|
  c_iflt (
  kX7_put_69 N) <|
  c_ild 4 <|
  c_rld 0 <|
  c_getr 7 2 <|
  c_alen <|
  c_icge (
  kX7_put_69 N) <|
  c_rld 0 <|
  c_getr 7 2 <|
  c_ild 4 <|
  c_ild 3 <|
  c_ias <|
  kX7_put_69 N
noncomputable def kX7_put_38 (N : Nat) : am_K := c_live [0, 3, 4] <|
  c_i (0) <|
  kX7_put_39 N
noncomputable def kX7_put_0 (N : Nat) : am_K := c_live [0, 1, 2, 3] <|
  c_ild 1 <|
  c_rld 0 <|
  c_geti 7 1 <|
  c_ii (fun x y => x * y) <|
  c_ild 2 <|
  c_ii (fun x y => x + y) <|
  c_ist 4 <|
  c_ild 1 <|
  c_iflt (
  kX7_put_38 N) <|
  c_ild 1 <|
  c_rld 0 <|
  c_geti 7 3 <|
  c_icge (
  kX7_put_38 N) <|
  c_ild 2 <|
  c_iflt (
  kX7_put_38 N) <|
  c_ild 2 <|
  c_rld 0 <|
  c_geti 7 1 <|
  c_icge (
  kX7_put_38 N) <|
  c_i (1) <|
  kX7_put_39 N
noncomputable def fX7_put (N : Nat) : am_F := am_fn 6 (kX7_put_0 N)
set_option maxRecDepth 20000 in
theorem vX7_put_69 (l : Launch) (hfl : l.stackTraces = false) (N : Nat)  : am_V l cX7_put 6 RX7 (am_E none yX7_put.name) 1 60 69 (kX7_put_69 N) := by
  refine av_live ?_
  exact av_return_ am_hv dX7_put_69
set_option maxRecDepth 20000 in
theorem vX7_put_39 (l : Launch) (hfl : l.stackTraces = false) (N : Nat)  : am_V l cX7_put 6 RX7 (am_E none yX7_put.name) 1 60 39 (kX7_put_39 N) := by
  refine av_live ?_
  refine av_istore dX7_put_39 (by decide) ?_
  refine av_iload dX7_put_41 ?_
  refine av_ifeq (tgt := 69) dX7_put_43 (by decide) ?_ ?_
  · exact vX7_put_69 l hfl N
  refine av_iload dX7_put_46 ?_
  refine av_iflt (tgt := 69) dX7_put_48 (by decide) ?_ ?_
  · exact vX7_put_69 l hfl N
  refine av_iload dX7_put_51 ?_
  refine av_aload_n dX7_put_53 rfl ?_
  refine av_getr am_ci7 (by decide) am_f7_2 q6 dX7_put_54 ?_
  refine av_arraylength dX7_put_57 ?_
  refine av_icge (tgt := 69) dX7_put_58 (by decide) ?_ ?_
  · exact vX7_put_69 l hfl N
  refine av_aload_n dX7_put_61 rfl ?_
  refine av_getr am_ci7 (by decide) am_f7_2 q6 dX7_put_62 ?_
  refine av_iload dX7_put_65 ?_
  refine av_iload_n dX7_put_67 rfl ?_
  refine av_iastore dX7_put_68 ?_
  exact vX7_put_69 l hfl N
set_option maxRecDepth 20000 in
theorem vX7_put_38 (l : Launch) (hfl : l.stackTraces = false) (N : Nat)  : am_V l cX7_put 6 RX7 (am_E none yX7_put.name) 1 60 38 (kX7_put_38 N) := by
  refine av_live ?_
  refine av_iconst dX7_put_38 (by decide) ?_
  exact vX7_put_39 l hfl N
set_option maxRecDepth 20000 in
theorem vX7_put_0 (l : Launch) (hfl : l.stackTraces = false) (N : Nat)  : am_V l cX7_put 6 RX7 (am_E none yX7_put.name) 1 60 0 (kX7_put_0 N) := by
  refine av_live ?_
  refine av_iload_n dX7_put_0 rfl ?_
  refine av_aload_n dX7_put_1 rfl ?_
  refine av_geti am_ci7 (by decide) am_f7_1 q4 dX7_put_2 ?_
  refine av_imul dX7_put_5 ?_
  refine av_iload_n dX7_put_6 rfl ?_
  refine av_iadd dX7_put_7 ?_
  refine av_istore dX7_put_8 (by decide) ?_
  refine av_iload_n dX7_put_10 rfl ?_
  refine av_iflt (tgt := 38) dX7_put_11 (by decide) ?_ ?_
  · exact vX7_put_38 l hfl N
  refine av_iload_n dX7_put_14 rfl ?_
  refine av_aload_n dX7_put_15 rfl ?_
  refine av_geti am_ci7 (by decide) am_f7_3 q7 dX7_put_16 ?_
  refine av_icge (tgt := 38) dX7_put_19 (by decide) ?_ ?_
  · exact vX7_put_38 l hfl N
  refine av_iload_n dX7_put_22 rfl ?_
  refine av_iflt (tgt := 38) dX7_put_23 (by decide) ?_ ?_
  · exact vX7_put_38 l hfl N
  refine av_iload_n dX7_put_26 rfl ?_
  refine av_aload_n dX7_put_27 rfl ?_
  refine av_geti am_ci7 (by decide) am_f7_1 q4 dX7_put_28 ?_
  refine av_icge (tgt := 38) dX7_put_31 (by decide) ?_ ?_
  · exact vX7_put_38 l hfl N
  refine av_iconst dX7_put_34 (by decide) ?_
  refine av_goto (tgt := 39) dX7_put_35 (by decide) ?_
  exact vX7_put_39 l hfl N
theorem mX7_put (l : Launch) (hfl : l.stackTraces = false) (N : Nat) : am_M l yX7_put cX7_put 6 none 1 60 (fX7_put N) := av_meth hfl (by decide +kernel) rfl (vX7_put_0 l hfl N)
/-! MessengerBoard$Distances.<init>()V -/
noncomputable def kX2_init_0 (N : Nat) : am_K := c_live [0] <|
  c_rld 0 <|
  c_oinit <|
  c_rld 0 <|
  c_i (144) <|
  c_newa 20 <|
  c_putr 2 0 <|
  c_vret
noncomputable def fX2_init (N : Nat) : am_F := am_fn 1 (kX2_init_0 N)
set_option maxRecDepth 20000 in
theorem vX2_init_0 (l : Launch) (hfl : l.stackTraces = false) (N : Nat)  : am_V l cX2_init 1 RX2 (am_E none yX2_init.name) 1 60 0 (kX2_init_0 N) := by
  refine av_live ?_
  refine av_aload_n dX2_init_0 rfl ?_
  refine av_objInit q12 q1 q2 (by decide) (by decide) dX2_init_1 ?_
  refine av_aload_n dX2_init_4 rfl ?_
  refine av_sipush dX2_init_5 (by decide) ?_
  refine av_newarr_int q5 dX2_init_8 ?_
  refine av_putrF am_ci2 (by decide) am_f2_0 q13 (tyX2_ok 0 (by decide)) (fun _ => ⟨rfl, rfl⟩) ⟨rfl, rfl⟩ dX2_init_10 ?_
  exact av_return_ am_hv dX2_init_13
theorem mX2_init (l : Launch) (hfl : l.stackTraces = false) (N : Nat) : am_M l yX2_init cX2_init 1 none 1 60 (fX2_init N) := av_meth hfl (by decide +kernel) rfl (vX2_init_0 l hfl N)
/-! MessengerBoard$Distances.set(II)V -/
noncomputable def kX2_set_20 (N : Nat) : am_K := c_live [] <|
  c_vret
noncomputable def kX2_set_0 (N : Nat) : am_K := c_live [0, 1, 2] <|
  c_ild 1 <|
  c_iflt (
  kX2_set_20 N) <|
  c_ild 1 <|
  c_rld 0 <|
  c_getr 2 0 <|
  c_alen <|
  c_icge (
  kX2_set_20 N) <|
  c_rld 0 <|
  c_getr 2 0 <|
  c_ild 1 <|
  c_ild 2 <|
  c_ias <|
  kX2_set_20 N
noncomputable def fX2_set (N : Nat) : am_F := am_fn 3 (kX2_set_0 N)
set_option maxRecDepth 20000 in
theorem vX2_set_20 (l : Launch) (hfl : l.stackTraces = false) (N : Nat)  : am_V l cX2_set 3 RX2 (am_E none yX2_set.name) 1 60 20 (kX2_set_20 N) := by
  refine av_live ?_
  exact av_return_ am_hv dX2_set_20
set_option maxRecDepth 20000 in
theorem vX2_set_0 (l : Launch) (hfl : l.stackTraces = false) (N : Nat)  : am_V l cX2_set 3 RX2 (am_E none yX2_set.name) 1 60 0 (kX2_set_0 N) := by
  refine av_live ?_
  refine av_iload_n dX2_set_0 rfl ?_
  refine av_iflt (tgt := 20) dX2_set_1 (by decide) ?_ ?_
  · exact vX2_set_20 l hfl N
  refine av_iload_n dX2_set_4 rfl ?_
  refine av_aload_n dX2_set_5 rfl ?_
  refine av_getr am_ci2 (by decide) am_f2_0 q13 dX2_set_6 ?_
  refine av_arraylength dX2_set_9 ?_
  refine av_icge (tgt := 20) dX2_set_10 (by decide) ?_ ?_
  · exact vX2_set_20 l hfl N
  refine av_aload_n dX2_set_13 rfl ?_
  refine av_getr am_ci2 (by decide) am_f2_0 q13 dX2_set_14 ?_
  refine av_iload_n dX2_set_17 rfl ?_
  refine av_iload_n dX2_set_18 rfl ?_
  refine av_iastore dX2_set_19 ?_
  exact vX2_set_20 l hfl N
theorem mX2_set (l : Launch) (hfl : l.stackTraces = false) (N : Nat) : am_M l yX2_set cX2_set 3 none 1 60 (fX2_set N) := av_meth hfl (by decide +kernel) rfl (vX2_set_0 l hfl N)
/-! MessengerBoard$Distances.from(I)I -/
noncomputable def kX2_from_23 (N : Nat) : am_K := c_live [] <|
  c_iret
noncomputable def kX2_from_22 (N : Nat) : am_K := c_live [] <|
  c_i (-1) <|
  kX2_from_23 N
noncomputable def kX2_from_0 (N : Nat) : am_K := c_live [0, 1] <|
  c_ild 1 <|
  c_iflt (
  kX2_from_22 N) <|
  c_ild 1 <|
  c_rld 0 <|
  c_getr 2 0 <|
  c_alen <|
  c_icge (
  kX2_from_22 N) <|
  c_rld 0 <|
  c_getr 2 0 <|
  c_ild 1 <|
  c_ial <|
  kX2_from_23 N
noncomputable def fX2_from (N : Nat) : am_F := am_fn 2 (kX2_from_0 N)
set_option maxRecDepth 20000 in
theorem vX2_from_23 (l : Launch) (hfl : l.stackTraces = false) (N : Nat)  : am_V l cX2_from 2 RX2 (am_E (some .int) yX2_from.name) 1 60 23 (kX2_from_23 N) := by
  refine av_live ?_
  exact av_ireturn am_hi dX2_from_23
set_option maxRecDepth 20000 in
theorem vX2_from_22 (l : Launch) (hfl : l.stackTraces = false) (N : Nat)  : am_V l cX2_from 2 RX2 (am_E (some .int) yX2_from.name) 1 60 22 (kX2_from_22 N) := by
  refine av_live ?_
  refine av_iconst dX2_from_22 (by decide) ?_
  exact vX2_from_23 l hfl N
set_option maxRecDepth 20000 in
theorem vX2_from_0 (l : Launch) (hfl : l.stackTraces = false) (N : Nat)  : am_V l cX2_from 2 RX2 (am_E (some .int) yX2_from.name) 1 60 0 (kX2_from_0 N) := by
  refine av_live ?_
  refine av_iload_n dX2_from_0 rfl ?_
  refine av_iflt (tgt := 22) dX2_from_1 (by decide) ?_ ?_
  · exact vX2_from_22 l hfl N
  refine av_iload_n dX2_from_4 rfl ?_
  refine av_aload_n dX2_from_5 rfl ?_
  refine av_getr am_ci2 (by decide) am_f2_0 q13 dX2_from_6 ?_
  refine av_arraylength dX2_from_9 ?_
  refine av_icge (tgt := 22) dX2_from_10 (by decide) ?_ ?_
  · exact vX2_from_22 l hfl N
  refine av_aload_n dX2_from_13 rfl ?_
  refine av_getr am_ci2 (by decide) am_f2_0 q13 dX2_from_14 ?_
  refine av_iload_n dX2_from_17 rfl ?_
  refine av_iaload dX2_from_18 ?_
  refine av_goto (tgt := 23) dX2_from_19 (by decide) ?_
  exact vX2_from_23 l hfl N
theorem mX2_from (l : Launch) (hfl : l.stackTraces = false) (N : Nat) : am_M l yX2_from cX2_from 2 (some .int) 1 60 (fX2_from N) := av_meth hfl (by decide +kernel) rfl (vX2_from_0 l hfl N)
