/-! MessengerBoard$Table.<init>(II)V -/
noncomputable def kX7_init_68 (N : Nat) : am_K := c_live [] <|
  c_newa 20 <|
  c_putr 7 2 <|
  c_vret
noncomputable def kX7_init_53 (N : Nat) : am_K := c_live [0, 1, 2, 3] <|
  c_puti 7 1 <|
  c_rld 0 <|
  c_ild 3 <|
  c_ifeq (
  c_i (0) <|
  kX7_init_68 N) <|
  c_ild 1 <|
  c_ild 2 <|
  c_ii (fun x y => x * y) <|
  kX7_init_68 N
noncomputable def kX7_init_40 (N : Nat) : am_K := c_live [0, 1, 2, 3] <|
  c_puti 7 0 <|
  c_rld 0 <|
  c_ild 3 <|
  c_ifeq (
  c_i (0) <|
  kX7_init_53 N) <|
  c_ild 2 <|
  kX7_init_53 N
noncomputable def kX7_init_29 (N : Nat) : am_K := c_live [0, 1, 2] <|
  c_ist 3 <|
  c_rld 0 <|
  c_ild 3 <|
  c_ifeq (
  c_i (0) <|
  kX7_init_40 N) <|
  c_ild 1 <|
  kX7_init_40 N
noncomputable def kX7_init_28 (N : Nat) : am_K := c_live [0, 1, 2] <|
  c_i (0) <|
  kX7_init_29 N
noncomputable def kX7_init_0 (N : Nat) : am_K := c_live [0, 1, 2] <|
  c_rld 0 <|
  c_oinit <|
  c_ild 1 <|
  c_iflt (
  kX7_init_28 N) <|
  c_ild 1 <|
  c_i (80) <|
  c_icgt (
  kX7_init_28 N) <|
  c_ild 2 <|
  c_iflt (
  kX7_init_28 N) <|
  c_ild 2 <|
  c_i (10) <|
  c_icgt (
  kX7_init_28 N) <|
  c_i (1) <|
  kX7_init_29 N
noncomputable def fX7_init (N : Nat) : am_F := am_fn 4 (kX7_init_0 N)
set_option maxRecDepth 20000 in
theorem vX7_init_68 (l : Launch) (hfl : l.stackTraces = false) (N : Nat)  : am_V l cX7_init 4 RX7 (am_E none yX7_init.name) 1 60 68 (kX7_init_68 N) := by
  refine av_live ?_
  refine av_newarr_int q29 dX7_init_68 ?_
  refine av_putrF am_ci7 (by decide) am_f7_2 q30 (tyX7_ok 2 (by decide)) (fun _ => ⟨rfl, rfl⟩) ⟨rfl, rfl⟩ dX7_init_70 ?_
  exact av_return_ am_hv dX7_init_73
set_option maxRecDepth 20000 in
theorem vX7_init_53 (l : Launch) (hfl : l.stackTraces = false) (N : Nat)  : am_V l cX7_init 4 RX7 (am_E none yX7_init.name) 1 60 53 (kX7_init_53 N) := by
  refine av_live ?_
  refine av_putiF am_ci7 (by decide) am_f7_1 q28 (tyX7_ok 1 (by decide)) ⟨rfl, rfl⟩ dX7_init_53 ?_
  refine av_aload_n dX7_init_56 rfl ?_
  refine av_iload_n dX7_init_57 rfl ?_
  refine av_ifeq (tgt := 67) dX7_init_58 (by decide) ?_ ?_
  · refine av_iconst (v := 0) dX7_init_67 (by decide) ?_
    exact vX7_init_68 l hfl N
  refine av_iload_n dX7_init_61 rfl ?_
  refine av_iload_n dX7_init_62 rfl ?_
  refine av_imul dX7_init_63 ?_
  refine av_goto (tgt := 68) dX7_init_64 (by decide) ?_
  exact vX7_init_68 l hfl N
set_option maxRecDepth 20000 in
theorem vX7_init_40 (l : Launch) (hfl : l.stackTraces = false) (N : Nat)  : am_V l cX7_init 4 RX7 (am_E none yX7_init.name) 1 60 40 (kX7_init_40 N) := by
  refine av_live ?_
  refine av_putiF am_ci7 (by decide) am_f7_0 q27 (tyX7_ok 0 (by decide)) ⟨rfl, rfl⟩ dX7_init_40 ?_
  refine av_aload_n dX7_init_43 rfl ?_
  refine av_iload_n dX7_init_44 rfl ?_
  refine av_ifeq (tgt := 52) dX7_init_45 (by decide) ?_ ?_
  · refine av_iconst (v := 0) dX7_init_52 (by decide) ?_
    exact vX7_init_53 l hfl N
  refine av_iload_n dX7_init_48 rfl ?_
  refine av_goto (tgt := 53) dX7_init_49 (by decide) ?_
  exact vX7_init_53 l hfl N
set_option maxRecDepth 20000 in
theorem vX7_init_29 (l : Launch) (hfl : l.stackTraces = false) (N : Nat)  : am_V l cX7_init 4 RX7 (am_E none yX7_init.name) 1 60 29 (kX7_init_29 N) := by
  refine av_live ?_
  refine av_istore_n dX7_init_29 rfl (by decide) ?_
  refine av_aload_n dX7_init_30 rfl ?_
  refine av_iload_n dX7_init_31 rfl ?_
  refine av_ifeq (tgt := 39) dX7_init_32 (by decide) ?_ ?_
  · refine av_iconst (v := 0) dX7_init_39 (by decide) ?_
    exact vX7_init_40 l hfl N
  refine av_iload_n dX7_init_35 rfl ?_
  refine av_goto (tgt := 40) dX7_init_36 (by decide) ?_
  exact vX7_init_40 l hfl N
set_option maxRecDepth 20000 in
theorem vX7_init_28 (l : Launch) (hfl : l.stackTraces = false) (N : Nat)  : am_V l cX7_init 4 RX7 (am_E none yX7_init.name) 1 60 28 (kX7_init_28 N) := by
  refine av_live ?_
  refine av_iconst (v := 0) dX7_init_28 (by decide) ?_
  exact vX7_init_29 l hfl N
set_option maxRecDepth 20000 in
theorem vX7_init_0 (l : Launch) (hfl : l.stackTraces = false) (N : Nat)  : am_V l cX7_init 4 RX7 (am_E none yX7_init.name) 1 60 0 (kX7_init_0 N) := by
  refine av_live ?_
  refine av_aload_n dX7_init_0 rfl ?_
  refine av_objInit q24 q25 q26 (by decide) (by decide) dX7_init_1 ?_
  refine av_iload_n dX7_init_4 rfl ?_
  refine av_iflt (tgt := 28) dX7_init_5 (by decide) ?_ ?_
  · exact vX7_init_28 l hfl N
  refine av_iload_n dX7_init_8 rfl ?_
  refine av_bipush (v := 80) dX7_init_9 (by decide) ?_
  refine av_icgt (tgt := 28) dX7_init_11 (by decide) ?_ ?_
  · exact vX7_init_28 l hfl N
  refine av_iload_n dX7_init_14 rfl ?_
  refine av_iflt (tgt := 28) dX7_init_15 (by decide) ?_ ?_
  · exact vX7_init_28 l hfl N
  refine av_iload_n dX7_init_18 rfl ?_
  refine av_bipush (v := 10) dX7_init_19 (by decide) ?_
  refine av_icgt (tgt := 28) dX7_init_21 (by decide) ?_ ?_
  · exact vX7_init_28 l hfl N
  refine av_iconst (v := 1) dX7_init_24 (by decide) ?_
  refine av_goto (tgt := 29) dX7_init_25 (by decide) ?_
  exact vX7_init_29 l hfl N
theorem mX7_init (l : Launch) (hfl : l.stackTraces = false) (N : Nat) : am_M l yX7_init cX7_init 4 none 1 60 (fX7_init N) := av_meth hfl (by decide +kernel) rfl (vX7_init_0 l hfl N)
/-! MessengerBoard$Table.count()I -/
noncomputable def kX7_count_0 (N : Nat) : am_K := c_live [0] <|
  c_rld 0 <|
  c_geti 7 3 <|
  c_iret
noncomputable def fX7_count (N : Nat) : am_F := am_fn 1 (kX7_count_0 N)
set_option maxRecDepth 20000 in
theorem vX7_count_0 (l : Launch) (hfl : l.stackTraces = false) (N : Nat)  : am_V l cX7_count 1 RX7 (am_E (some .int) yX7_count.name) 1 60 0 (kX7_count_0 N) := by
  refine av_live ?_
  refine av_aload_n dX7_count_0 rfl ?_
  refine av_geti am_ci7 (by decide) am_f7_3 q31 dX7_count_1 ?_
  exact av_ireturn am_hi dX7_count_4
theorem mX7_count (l : Launch) (hfl : l.stackTraces = false) (N : Nat) : am_M l yX7_count cX7_count 1 (some .int) 1 60 (fX7_count N) := av_meth hfl (by decide +kernel) rfl (vX7_count_0 l hfl N)
/-! MessengerBoard$Table.get(II)I -/
noncomputable def kX7_get_68 (N : Nat) : am_K := c_live [] <|
  c_iret
noncomputable def kX7_get_67 (N : Nat) : am_K := c_live [] <|
  c_i (-1) <|
  kX7_get_68 N
noncomputable def kX7_get_38 (N : Nat) : am_K := c_live [0, 3] <|
  c_ist 4 <|
  c_ild 4 <|
  c_ifeq (
  kX7_get_67 N) <|
  c_ild 3 <|
  c_iflt (
  kX7_get_67 N) <|
  c_ild 3 <|
  c_rld 0 <|
  c_getr 7 2 <|
  c_alen <|
  c_icge (
  kX7_get_67 N) <|
  c_rld 0 <|
  c_getr 7 2 <|
  c_ild 3 <|
  c_ial <|
  kX7_get_68 N
noncomputable def kX7_get_37 (N : Nat) : am_K := c_live [0, 3] <|
  c_i (0) <|
  kX7_get_38 N
noncomputable def kX7_get_0 (N : Nat) : am_K := c_live [0, 1, 2] <|
  c_ild 1 <|
  c_rld 0 <|
  c_geti 7 1 <|
  c_ii (fun x y => x * y) <|
  c_ild 2 <|
  c_ii (fun x y => x + y) <|
  c_ist 3 <|
  c_ild 1 <|
  c_iflt (
  kX7_get_37 N) <|
  c_ild 1 <|
  c_rld 0 <|
  c_geti 7 3 <|
  c_icge (
  kX7_get_37 N) <|
  c_ild 2 <|
  c_iflt (
  kX7_get_37 N) <|
  c_ild 2 <|
  c_rld 0 <|
  c_geti 7 1 <|
  c_icge (
  kX7_get_37 N) <|
  c_i (1) <|
  kX7_get_38 N
noncomputable def fX7_get (N : Nat) : am_F := am_fn 5 (kX7_get_0 N)
set_option maxRecDepth 20000 in
theorem vX7_get_68 (l : Launch) (hfl : l.stackTraces = false) (N : Nat)  : am_V l cX7_get 5 RX7 (am_E (some .int) yX7_get.name) 1 60 68 (kX7_get_68 N) := by
  refine av_live ?_
  exact av_ireturn am_hi dX7_get_68
set_option maxRecDepth 20000 in
theorem vX7_get_67 (l : Launch) (hfl : l.stackTraces = false) (N : Nat)  : am_V l cX7_get 5 RX7 (am_E (some .int) yX7_get.name) 1 60 67 (kX7_get_67 N) := by
  refine av_live ?_
  refine av_iconst (v := -1) dX7_get_67 (by decide) ?_
  exact vX7_get_68 l hfl N
set_option maxRecDepth 20000 in
theorem vX7_get_38 (l : Launch) (hfl : l.stackTraces = false) (N : Nat)  : am_V l cX7_get 5 RX7 (am_E (some .int) yX7_get.name) 1 60 38 (kX7_get_38 N) := by
  refine av_live ?_
  refine av_istore dX7_get_38 (by decide) ?_
  refine av_iload dX7_get_40 ?_
  refine av_ifeq (tgt := 67) dX7_get_42 (by decide) ?_ ?_
  · exact vX7_get_67 l hfl N
  refine av_iload_n dX7_get_45 rfl ?_
  refine av_iflt (tgt := 67) dX7_get_46 (by decide) ?_ ?_
  · exact vX7_get_67 l hfl N
  refine av_iload_n dX7_get_49 rfl ?_
  refine av_aload_n dX7_get_50 rfl ?_
  refine av_getr am_ci7 (by decide) am_f7_2 q30 dX7_get_51 ?_
  refine av_arraylength dX7_get_54 ?_
  refine av_icge (tgt := 67) dX7_get_55 (by decide) ?_ ?_
  · exact vX7_get_67 l hfl N
  refine av_aload_n dX7_get_58 rfl ?_
  refine av_getr am_ci7 (by decide) am_f7_2 q30 dX7_get_59 ?_
  refine av_iload_n dX7_get_62 rfl ?_
  refine av_iaload dX7_get_63 ?_
  refine av_goto (tgt := 68) dX7_get_64 (by decide) ?_
  exact vX7_get_68 l hfl N
set_option maxRecDepth 20000 in
theorem vX7_get_37 (l : Launch) (hfl : l.stackTraces = false) (N : Nat)  : am_V l cX7_get 5 RX7 (am_E (some .int) yX7_get.name) 1 60 37 (kX7_get_37 N) := by
  refine av_live ?_
  refine av_iconst (v := 0) dX7_get_37 (by decide) ?_
  exact vX7_get_38 l hfl N
set_option maxRecDepth 20000 in
theorem vX7_get_0 (l : Launch) (hfl : l.stackTraces = false) (N : Nat)  : am_V l cX7_get 5 RX7 (am_E (some .int) yX7_get.name) 1 60 0 (kX7_get_0 N) := by
  refine av_live ?_
  refine av_iload_n dX7_get_0 rfl ?_
  refine av_aload_n dX7_get_1 rfl ?_
  refine av_geti am_ci7 (by decide) am_f7_1 q28 dX7_get_2 ?_
  refine av_imul dX7_get_5 ?_
  refine av_iload_n dX7_get_6 rfl ?_
  refine av_iadd dX7_get_7 ?_
  refine av_istore_n dX7_get_8 rfl (by decide) ?_
  refine av_iload_n dX7_get_9 rfl ?_
  refine av_iflt (tgt := 37) dX7_get_10 (by decide) ?_ ?_
  · exact vX7_get_37 l hfl N
  refine av_iload_n dX7_get_13 rfl ?_
  refine av_aload_n dX7_get_14 rfl ?_
  refine av_geti am_ci7 (by decide) am_f7_3 q31 dX7_get_15 ?_
  refine av_icge (tgt := 37) dX7_get_18 (by decide) ?_ ?_
  · exact vX7_get_37 l hfl N
  refine av_iload_n dX7_get_21 rfl ?_
  refine av_iflt (tgt := 37) dX7_get_22 (by decide) ?_ ?_
  · exact vX7_get_37 l hfl N
  refine av_iload_n dX7_get_25 rfl ?_
  refine av_aload_n dX7_get_26 rfl ?_
  refine av_geti am_ci7 (by decide) am_f7_1 q28 dX7_get_27 ?_
  refine av_icge (tgt := 37) dX7_get_30 (by decide) ?_ ?_
  · exact vX7_get_37 l hfl N
  refine av_iconst (v := 1) dX7_get_33 (by decide) ?_
  refine av_goto (tgt := 38) dX7_get_34 (by decide) ?_
  exact vX7_get_38 l hfl N
theorem mX7_get (l : Launch) (hfl : l.stackTraces = false) (N : Nat) : am_M l yX7_get cX7_get 5 (some .int) 1 60 (fX7_get N) := av_meth hfl (by decide +kernel) rfl (vX7_get_0 l hfl N)
/-! MessengerBoard$Table.copyFrom(LMessengerBoard$Table;)V -/
noncomputable def kX7_copyFrom_54 (N : Nat) : am_K := c_live [] <|
  c_vret
noncomputable def kX7_copyFrom_0 (N : Nat) : am_K := c_live [0, 1] <|
  c_rld 1 <|
  c_geti 7 3 <|
  c_rld 1 <|
  c_geti 7 1 <|
  c_ii (fun x y => x * y) <|
  c_ist 2 <|
  c_ild 2 <|
  c_iflt (
  kX7_copyFrom_54 N) <|
  c_ild 2 <|
  c_rld 0 <|
  c_getr 7 2 <|
  c_alen <|
  c_icgt (
  kX7_copyFrom_54 N) <|
  c_ild 2 <|
  c_rld 1 <|
  c_getr 7 2 <|
  c_alen <|
  c_icgt (
  kX7_copyFrom_54 N) <|
  c_rld 1 <|
  c_getr 7 2 <|
  c_i (0) <|
  c_rld 0 <|
  c_getr 7 2 <|
  c_i (0) <|
  c_ild 2 <|
  c_copy <|
  c_rld 0 <|
  c_rld 1 <|
  c_geti 7 3 <|
  c_puti 7 3 <|
  kX7_copyFrom_54 N
noncomputable def fX7_copyFrom (N : Nat) : am_F := am_fn 3 (kX7_copyFrom_0 N)
set_option maxRecDepth 20000 in
theorem vX7_copyFrom_54 (l : Launch) (hfl : l.stackTraces = false) (N : Nat)  : am_V l cX7_copyFrom 3 RX7 (am_E none yX7_copyFrom.name) 1 60 54 (kX7_copyFrom_54 N) := by
  refine av_live ?_
  exact av_return_ am_hv dX7_copyFrom_54
set_option maxRecDepth 20000 in
theorem vX7_copyFrom_0 (l : Launch) (hfl : l.stackTraces = false) (N : Nat)  : am_V l cX7_copyFrom 3 RX7 (am_E none yX7_copyFrom.name) 1 60 0 (kX7_copyFrom_0 N) := by
  refine av_live ?_
  refine av_aload_n dX7_copyFrom_0 rfl ?_
  refine av_geti am_ci7 (by decide) am_f7_3 q31 dX7_copyFrom_1 ?_
  refine av_aload_n dX7_copyFrom_4 rfl ?_
  refine av_geti am_ci7 (by decide) am_f7_1 q28 dX7_copyFrom_5 ?_
  refine av_imul dX7_copyFrom_8 ?_
  refine av_istore_n dX7_copyFrom_9 rfl (by decide) ?_
  refine av_iload_n dX7_copyFrom_10 rfl ?_
  refine av_iflt (tgt := 54) dX7_copyFrom_11 (by decide) ?_ ?_
  · exact vX7_copyFrom_54 l hfl N
  refine av_iload_n dX7_copyFrom_14 rfl ?_
  refine av_aload_n dX7_copyFrom_15 rfl ?_
  refine av_getr am_ci7 (by decide) am_f7_2 q30 dX7_copyFrom_16 ?_
  refine av_arraylength dX7_copyFrom_19 ?_
  refine av_icgt (tgt := 54) dX7_copyFrom_20 (by decide) ?_ ?_
  · exact vX7_copyFrom_54 l hfl N
  refine av_iload_n dX7_copyFrom_23 rfl ?_
  refine av_aload_n dX7_copyFrom_24 rfl ?_
  refine av_getr am_ci7 (by decide) am_f7_2 q30 dX7_copyFrom_25 ?_
  refine av_arraylength dX7_copyFrom_28 ?_
  refine av_icgt (tgt := 54) dX7_copyFrom_29 (by decide) ?_ ?_
  · exact vX7_copyFrom_54 l hfl N
  refine av_aload_n dX7_copyFrom_32 rfl ?_
  refine av_getr am_ci7 (by decide) am_f7_2 q30 dX7_copyFrom_33 ?_
  refine av_iconst (v := 0) dX7_copyFrom_36 (by decide) ?_
  refine av_aload_n dX7_copyFrom_37 rfl ?_
  refine av_getr am_ci7 (by decide) am_f7_2 q30 dX7_copyFrom_38 ?_
  refine av_iconst (v := 0) dX7_copyFrom_41 (by decide) ?_
  refine av_iload_n dX7_copyFrom_42 rfl ?_
  refine av_copy q32 q33 q34 q35 (by decide) (by decide +kernel) dX7_copyFrom_43 ?_
  refine av_aload_n dX7_copyFrom_46 rfl ?_
  refine av_aload_n dX7_copyFrom_47 rfl ?_
  refine av_geti am_ci7 (by decide) am_f7_3 q31 dX7_copyFrom_48 ?_
  refine av_puti am_ci7 (by decide) am_f7_3 q31 (tyX7_ok 3 (by decide)) rfl dX7_copyFrom_51 ?_
  exact vX7_copyFrom_54 l hfl N
theorem mX7_copyFrom (l : Launch) (hfl : l.stackTraces = false) (N : Nat) : am_M l yX7_copyFrom cX7_copyFrom 3 none 1 60 (fX7_copyFrom N) := av_meth hfl (by decide +kernel) rfl (vX7_copyFrom_0 l hfl N)
/-! MessengerBoard$Table.clear()V -/
noncomputable def kX7_clear_0 (N : Nat) : am_K := c_live [0] <|
  c_rld 0 <|
  c_i (0) <|
  c_puti 7 3 <|
  c_vret
noncomputable def fX7_clear (N : Nat) : am_F := am_fn 1 (kX7_clear_0 N)
set_option maxRecDepth 20000 in
theorem vX7_clear_0 (l : Launch) (hfl : l.stackTraces = false) (N : Nat)  : am_V l cX7_clear 1 RX7 (am_E none yX7_clear.name) 1 60 0 (kX7_clear_0 N) := by
  refine av_live ?_
  refine av_aload_n dX7_clear_0 rfl ?_
  refine av_iconst (v := 0) dX7_clear_1 (by decide) ?_
  refine av_puti am_ci7 (by decide) am_f7_3 q31 (tyX7_ok 3 (by decide)) rfl dX7_clear_2 ?_
  exact av_return_ am_hv dX7_clear_5
theorem mX7_clear (l : Launch) (hfl : l.stackTraces = false) (N : Nat) : am_M l yX7_clear cX7_clear 1 none 1 60 (fX7_clear N) := av_meth hfl (by decide +kernel) rfl (vX7_clear_0 l hfl N)
/-! MessengerBoard$Table.add()I -/
noncomputable def kX7_add_0 (N : Nat) : am_K := c_live [0] <|
  c_rld 0 <|
  c_geti 7 3 <|
  c_rld 0 <|
  c_geti 7 0 <|
  c_iclt (
  c_rld 0 <|
  c_dup <|
  c_geti 7 3 <|
  c_i (1) <|
  c_ii (fun x y => x + y) <|
  c_puti 7 3 <|
  c_rld 0 <|
  c_geti 7 3 <|
  c_i (1) <|
  c_ii (fun x y => x - y) <|
  c_iret) <|
  c_i (-1) <|
  c_iret
noncomputable def fX7_add (N : Nat) : am_F := am_fn 1 (kX7_add_0 N)
set_option maxRecDepth 20000 in
theorem vX7_add_0 (l : Launch) (hfl : l.stackTraces = false) (N : Nat)  : am_V l cX7_add 1 RX7 (am_E (some .int) yX7_add.name) 1 60 0 (kX7_add_0 N) := by
  refine av_live ?_
  refine av_aload_n dX7_add_0 rfl ?_
  refine av_geti am_ci7 (by decide) am_f7_3 q31 dX7_add_1 ?_
  refine av_aload_n dX7_add_4 rfl ?_
  refine av_geti am_ci7 (by decide) am_f7_0 q27 dX7_add_5 ?_
  refine av_iclt (tgt := 13) dX7_add_8 (by decide) ?_ ?_
  · refine av_aload_n dX7_add_13 rfl ?_
    refine av_dup dX7_add_14 ?_
    refine av_geti am_ci7 (by decide) am_f7_3 q31 dX7_add_15 ?_
    refine av_iconst (v := 1) dX7_add_18 (by decide) ?_
    refine av_iadd dX7_add_19 ?_
    refine av_puti am_ci7 (by decide) am_f7_3 q31 (tyX7_ok 3 (by decide)) rfl dX7_add_20 ?_
    refine av_aload_n dX7_add_23 rfl ?_
    refine av_geti am_ci7 (by decide) am_f7_3 q31 dX7_add_24 ?_
    refine av_iconst (v := 1) dX7_add_27 (by decide) ?_
    refine av_isub dX7_add_28 ?_
    exact av_ireturn am_hi dX7_add_29
  refine av_iconst (v := -1) dX7_add_11 (by decide) ?_
  exact av_ireturn am_hi dX7_add_12
theorem mX7_add (l : Launch) (hfl : l.stackTraces = false) (N : Nat) : am_M l yX7_add cX7_add 1 (some .int) 1 60 (fX7_add N) := av_meth hfl (by decide +kernel) rfl (vX7_add_0 l hfl N)
/-! MessengerBoard$Table.put(III)V -/
noncomputable def kX7_put_69 (N : Nat) : am_K := c_live [] <|
  c_vret
noncomputable def kX7_put_39 (N : Nat) : am_K := c_live [0, 3, 4] <|
  c_ist 5 <|
  c_ild 5 <|
  c_ifeq (
  kX7_put_69 N) <|
  c_ild 4 <|
  c_iflt (
  kX7_put_69 N) <|
  c_ild 4 <|
  c_rld 0 <|
  c_getr 7 2 <|
  c_alen <|
  c_icge (
  kX7_put_69 N) <|
  c_rld 0 <|
  c_getr 7 2 <|
  c_ild 4 <|
  c_ild 3 <|
  c_ias <|
  kX7_put_69 N
noncomputable def kX7_put_38 (N : Nat) : am_K := c_live [0, 3, 4] <|
  c_i (0) <|
  kX7_put_39 N
noncomputable def kX7_put_0 (N : Nat) : am_K := c_live [0, 1, 2, 3] <|
  c_ild 1 <|
  c_rld 0 <|
  c_geti 7 1 <|
  c_ii (fun x y => x * y) <|
  c_ild 2 <|
  c_ii (fun x y => x + y) <|
  c_ist 4 <|
  c_ild 1 <|
  c_iflt (
  kX7_put_38 N) <|
  c_ild 1 <|
  c_rld 0 <|
  c_geti 7 3 <|
  c_icge (
  kX7_put_38 N) <|
  c_ild 2 <|
  c_iflt (
  kX7_put_38 N) <|
  c_ild 2 <|
  c_rld 0 <|
  c_geti 7 1 <|
  c_icge (
  kX7_put_38 N) <|
  c_i (1) <|
  kX7_put_39 N
noncomputable def fX7_put (N : Nat) : am_F := am_fn 6 (kX7_put_0 N)
set_option maxRecDepth 20000 in
theorem vX7_put_69 (l : Launch) (hfl : l.stackTraces = false) (N : Nat)  : am_V l cX7_put 6 RX7 (am_E none yX7_put.name) 1 60 69 (kX7_put_69 N) := by
  refine av_live ?_
  exact av_return_ am_hv dX7_put_69
set_option maxRecDepth 20000 in
theorem vX7_put_39 (l : Launch) (hfl : l.stackTraces = false) (N : Nat)  : am_V l cX7_put 6 RX7 (am_E none yX7_put.name) 1 60 39 (kX7_put_39 N) := by
  refine av_live ?_
  refine av_istore dX7_put_39 (by decide) ?_
  refine av_iload dX7_put_41 ?_
  refine av_ifeq (tgt := 69) dX7_put_43 (by decide) ?_ ?_
  · exact vX7_put_69 l hfl N
  refine av_iload dX7_put_46 ?_
  refine av_iflt (tgt := 69) dX7_put_48 (by decide) ?_ ?_
  · exact vX7_put_69 l hfl N
  refine av_iload dX7_put_51 ?_
  refine av_aload_n dX7_put_53 rfl ?_
  refine av_getr am_ci7 (by decide) am_f7_2 q30 dX7_put_54 ?_
  refine av_arraylength dX7_put_57 ?_
  refine av_icge (tgt := 69) dX7_put_58 (by decide) ?_ ?_
  · exact vX7_put_69 l hfl N
  refine av_aload_n dX7_put_61 rfl ?_
  refine av_getr am_ci7 (by decide) am_f7_2 q30 dX7_put_62 ?_
  refine av_iload dX7_put_65 ?_
  refine av_iload_n dX7_put_67 rfl ?_
  refine av_iastore dX7_put_68 ?_
  exact vX7_put_69 l hfl N
set_option maxRecDepth 20000 in
theorem vX7_put_38 (l : Launch) (hfl : l.stackTraces = false) (N : Nat)  : am_V l cX7_put 6 RX7 (am_E none yX7_put.name) 1 60 38 (kX7_put_38 N) := by
  refine av_live ?_
  refine av_iconst (v := 0) dX7_put_38 (by decide) ?_
  exact vX7_put_39 l hfl N
set_option maxRecDepth 20000 in
theorem vX7_put_0 (l : Launch) (hfl : l.stackTraces = false) (N : Nat)  : am_V l cX7_put 6 RX7 (am_E none yX7_put.name) 1 60 0 (kX7_put_0 N) := by
  refine av_live ?_
  refine av_iload_n dX7_put_0 rfl ?_
  refine av_aload_n dX7_put_1 rfl ?_
  refine av_geti am_ci7 (by decide) am_f7_1 q28 dX7_put_2 ?_
  refine av_imul dX7_put_5 ?_
  refine av_iload_n dX7_put_6 rfl ?_
  refine av_iadd dX7_put_7 ?_
  refine av_istore dX7_put_8 (by decide) ?_
  refine av_iload_n dX7_put_10 rfl ?_
  refine av_iflt (tgt := 38) dX7_put_11 (by decide) ?_ ?_
  · exact vX7_put_38 l hfl N
  refine av_iload_n dX7_put_14 rfl ?_
  refine av_aload_n dX7_put_15 rfl ?_
  refine av_geti am_ci7 (by decide) am_f7_3 q31 dX7_put_16 ?_
  refine av_icge (tgt := 38) dX7_put_19 (by decide) ?_ ?_
  · exact vX7_put_38 l hfl N
  refine av_iload_n dX7_put_22 rfl ?_
  refine av_iflt (tgt := 38) dX7_put_23 (by decide) ?_ ?_
  · exact vX7_put_38 l hfl N
  refine av_iload_n dX7_put_26 rfl ?_
  refine av_aload_n dX7_put_27 rfl ?_
  refine av_geti am_ci7 (by decide) am_f7_1 q28 dX7_put_28 ?_
  refine av_icge (tgt := 38) dX7_put_31 (by decide) ?_ ?_
  · exact vX7_put_38 l hfl N
  refine av_iconst (v := 1) dX7_put_34 (by decide) ?_
  refine av_goto (tgt := 39) dX7_put_35 (by decide) ?_
  exact vX7_put_39 l hfl N
theorem mX7_put (l : Launch) (hfl : l.stackTraces = false) (N : Nat) : am_M l yX7_put cX7_put 6 none 1 60 (fX7_put N) := av_meth hfl (by decide +kernel) rfl (vX7_put_0 l hfl N)
/-! MessengerBoard$Distances.<init>()V -/
noncomputable def kX2_init_0 (N : Nat) : am_K := c_live [0] <|
  c_rld 0 <|
  c_oinit <|
  c_rld 0 <|
  c_i (144) <|
  c_newa 20 <|
  c_putr 2 0 <|
  c_vret
noncomputable def fX2_init (N : Nat) : am_F := am_fn 1 (kX2_init_0 N)
set_option maxRecDepth 20000 in
theorem vX2_init_0 (l : Launch) (hfl : l.stackTraces = false) (N : Nat)  : am_V l cX2_init 1 RX2 (am_E none yX2_init.name) 1 60 0 (kX2_init_0 N) := by
  refine av_live ?_
  refine av_aload_n dX2_init_0 rfl ?_
  refine av_objInit q36 q25 q26 (by decide) (by decide) dX2_init_1 ?_
  refine av_aload_n dX2_init_4 rfl ?_
  refine av_sipush (v := 144) dX2_init_5 (by decide) ?_
  refine av_newarr_int q29 dX2_init_8 ?_
  refine av_putrF am_ci2 (by decide) am_f2_0 q37 (tyX2_ok 0 (by decide)) (fun _ => ⟨rfl, rfl⟩) ⟨rfl, rfl⟩ dX2_init_10 ?_
  exact av_return_ am_hv dX2_init_13
theorem mX2_init (l : Launch) (hfl : l.stackTraces = false) (N : Nat) : am_M l yX2_init cX2_init 1 none 1 60 (fX2_init N) := av_meth hfl (by decide +kernel) rfl (vX2_init_0 l hfl N)
/-! MessengerBoard$Distances.set(II)V -/
noncomputable def kX2_set_20 (N : Nat) : am_K := c_live [] <|
  c_vret
noncomputable def kX2_set_0 (N : Nat) : am_K := c_live [0, 1, 2] <|
  c_ild 1 <|
  c_iflt (
  kX2_set_20 N) <|
  c_ild 1 <|
  c_rld 0 <|
  c_getr 2 0 <|
  c_alen <|
  c_icge (
  kX2_set_20 N) <|
  c_rld 0 <|
  c_getr 2 0 <|
  c_ild 1 <|
  c_ild 2 <|
  c_ias <|
  kX2_set_20 N
noncomputable def fX2_set (N : Nat) : am_F := am_fn 3 (kX2_set_0 N)
set_option maxRecDepth 20000 in
theorem vX2_set_20 (l : Launch) (hfl : l.stackTraces = false) (N : Nat)  : am_V l cX2_set 3 RX2 (am_E none yX2_set.name) 1 60 20 (kX2_set_20 N) := by
  refine av_live ?_
  exact av_return_ am_hv dX2_set_20
set_option maxRecDepth 20000 in
theorem vX2_set_0 (l : Launch) (hfl : l.stackTraces = false) (N : Nat)  : am_V l cX2_set 3 RX2 (am_E none yX2_set.name) 1 60 0 (kX2_set_0 N) := by
  refine av_live ?_
  refine av_iload_n dX2_set_0 rfl ?_
  refine av_iflt (tgt := 20) dX2_set_1 (by decide) ?_ ?_
  · exact vX2_set_20 l hfl N
  refine av_iload_n dX2_set_4 rfl ?_
  refine av_aload_n dX2_set_5 rfl ?_
  refine av_getr am_ci2 (by decide) am_f2_0 q37 dX2_set_6 ?_
  refine av_arraylength dX2_set_9 ?_
  refine av_icge (tgt := 20) dX2_set_10 (by decide) ?_ ?_
  · exact vX2_set_20 l hfl N
  refine av_aload_n dX2_set_13 rfl ?_
  refine av_getr am_ci2 (by decide) am_f2_0 q37 dX2_set_14 ?_
  refine av_iload_n dX2_set_17 rfl ?_
  refine av_iload_n dX2_set_18 rfl ?_
  refine av_iastore dX2_set_19 ?_
  exact vX2_set_20 l hfl N
theorem mX2_set (l : Launch) (hfl : l.stackTraces = false) (N : Nat) : am_M l yX2_set cX2_set 3 none 1 60 (fX2_set N) := av_meth hfl (by decide +kernel) rfl (vX2_set_0 l hfl N)
/-! MessengerBoard$Distances.from(I)I -/
noncomputable def kX2_from_23 (N : Nat) : am_K := c_live [] <|
  c_iret
noncomputable def kX2_from_22 (N : Nat) : am_K := c_live [] <|
  c_i (-1) <|
  kX2_from_23 N
noncomputable def kX2_from_0 (N : Nat) : am_K := c_live [0, 1] <|
  c_ild 1 <|
  c_iflt (
  kX2_from_22 N) <|
  c_ild 1 <|
  c_rld 0 <|
  c_getr 2 0 <|
  c_alen <|
  c_icge (
  kX2_from_22 N) <|
  c_rld 0 <|
  c_getr 2 0 <|
  c_ild 1 <|
  c_ial <|
  kX2_from_23 N
noncomputable def fX2_from (N : Nat) : am_F := am_fn 2 (kX2_from_0 N)
set_option maxRecDepth 20000 in
theorem vX2_from_23 (l : Launch) (hfl : l.stackTraces = false) (N : Nat)  : am_V l cX2_from 2 RX2 (am_E (some .int) yX2_from.name) 1 60 23 (kX2_from_23 N) := by
  refine av_live ?_
  exact av_ireturn am_hi dX2_from_23
set_option maxRecDepth 20000 in
theorem vX2_from_22 (l : Launch) (hfl : l.stackTraces = false) (N : Nat)  : am_V l cX2_from 2 RX2 (am_E (some .int) yX2_from.name) 1 60 22 (kX2_from_22 N) := by
  refine av_live ?_
  refine av_iconst (v := -1) dX2_from_22 (by decide) ?_
  exact vX2_from_23 l hfl N
set_option maxRecDepth 20000 in
theorem vX2_from_0 (l : Launch) (hfl : l.stackTraces = false) (N : Nat)  : am_V l cX2_from 2 RX2 (am_E (some .int) yX2_from.name) 1 60 0 (kX2_from_0 N) := by
  refine av_live ?_
  refine av_iload_n dX2_from_0 rfl ?_
  refine av_iflt (tgt := 22) dX2_from_1 (by decide) ?_ ?_
  · exact vX2_from_22 l hfl N
  refine av_iload_n dX2_from_4 rfl ?_
  refine av_aload_n dX2_from_5 rfl ?_
  refine av_getr am_ci2 (by decide) am_f2_0 q37 dX2_from_6 ?_
  refine av_arraylength dX2_from_9 ?_
  refine av_icge (tgt := 22) dX2_from_10 (by decide) ?_ ?_
  · exact vX2_from_22 l hfl N
  refine av_aload_n dX2_from_13 rfl ?_
  refine av_getr am_ci2 (by decide) am_f2_0 q37 dX2_from_14 ?_
  refine av_iload_n dX2_from_17 rfl ?_
  refine av_iaload dX2_from_18 ?_
  refine av_goto (tgt := 23) dX2_from_19 (by decide) ?_
  exact vX2_from_23 l hfl N
theorem mX2_from (l : Launch) (hfl : l.stackTraces = false) (N : Nat) : am_M l yX2_from cX2_from 2 (some .int) 1 60 (fX2_from N) := av_meth hfl (by decide +kernel) rfl (vX2_from_0 l hfl N)
/-! MessengerBoard$Tokens.<init>([I)V -/
noncomputable def kX8_init_0 (N : Nat) : am_K := c_live [0, 1] <|
  c_rld 0 <|
  c_oinit <|
  c_rld 0 <|
  c_rld 1 <|
  c_putr 8 0 <|
  c_vret
noncomputable def fX8_init (N : Nat) : am_F := am_fn 2 (kX8_init_0 N)
set_option maxRecDepth 20000 in
theorem vX8_init_0 (l : Launch) (hfl : l.stackTraces = false) (N : Nat)  : am_V l cX8_init 2 RX8 (am_E none yX8_init.name) 1 60 0 (kX8_init_0 N) := by
  refine av_live ?_
  refine av_aload_n dX8_init_0 rfl ?_
  refine av_objInit q38 q25 q26 (by decide) (by decide) dX8_init_1 ?_
  refine av_aload_n dX8_init_4 rfl ?_
  refine av_aload_n dX8_init_5 rfl ?_
  refine av_putrF am_ci8 (by decide) am_f8_0 q39 (tyX8_ok 0 (by decide)) (fun _ => ⟨rfl, rfl⟩) ⟨rfl, rfl⟩ dX8_init_6 ?_
  exact av_return_ am_hv dX8_init_9
theorem mX8_init (l : Launch) (hfl : l.stackTraces = false) (N : Nat) : am_M l yX8_init cX8_init 2 none 1 60 (fX8_init N) := av_meth hfl (by decide +kernel) rfl (vX8_init_0 l hfl N)
/-! MessengerBoard$Tokens.open(I)V -/
noncomputable def kX8_open_18 (N : Nat) : am_K := c_live [0] <|
  c_puti 8 1 <|
  c_rld 0 <|
  c_i (0) <|
  c_puti 8 2 <|
  c_rld 0 <|
  c_i (0) <|
  c_puti 8 3 <|
  c_rld 0 <|
  c_i (0) <|
  c_puti 8 4 <|
  c_rld 0 <|
  c_i (0) <|
  c_puti 8 5 <|
  c_rld 0 <|
  c_i (0) <|
  c_puti 8 6 <|
  c_rld 0 <|
  c_i (-1) <|
  c_puti 8 7 <|
  c_vret
noncomputable def kX8_open_0 (N : Nat) : am_K := c_live [0, 1] <|
  c_rld 0 <|
  c_ild 1 <|
  c_ifge (
  c_ild 1 <|
  c_rld 0 <|
  c_getr 8 0 <|
  c_alen <|
  c_min <|
  kX8_open_18 N) <|
  c_i (0) <|
  kX8_open_18 N
noncomputable def fX8_open (N : Nat) : am_F := am_fn 2 (kX8_open_0 N)
set_option maxRecDepth 20000 in
theorem vX8_open_18 (l : Launch) (hfl : l.stackTraces = false) (N : Nat)  : am_V l cX8_open 2 RX8 (am_E none yX8_open.name) 1 60 18 (kX8_open_18 N) := by
  refine av_live ?_
  refine av_puti am_ci8 (by decide) am_f8_1 q44 (tyX8_ok 1 (by decide)) rfl dX8_open_18 ?_
  refine av_aload_n dX8_open_21 rfl ?_
  refine av_iconst (v := 0) dX8_open_22 (by decide) ?_
  refine av_puti am_ci8 (by decide) am_f8_2 q45 (tyX8_ok 2 (by decide)) rfl dX8_open_23 ?_
  refine av_aload_n dX8_open_26 rfl ?_
  refine av_iconst (v := 0) dX8_open_27 (by decide) ?_
  refine av_puti am_ci8 (by decide) am_f8_3 q46 (tyX8_ok 3 (by decide)) rfl dX8_open_28 ?_
  refine av_aload_n dX8_open_31 rfl ?_
  refine av_iconst (v := 0) dX8_open_32 (by decide) ?_
  refine av_puti am_ci8 (by decide) am_f8_4 q47 (tyX8_ok 4 (by decide)) rfl dX8_open_33 ?_
  refine av_aload_n dX8_open_36 rfl ?_
  refine av_iconst (v := 0) dX8_open_37 (by decide) ?_
  refine av_puti am_ci8 (by decide) am_f8_5 q48 (tyX8_ok 5 (by decide)) rfl dX8_open_38 ?_
  refine av_aload_n dX8_open_41 rfl ?_
  refine av_iconst (v := 0) dX8_open_42 (by decide) ?_
  refine av_puti am_ci8 (by decide) am_f8_6 q49 (tyX8_ok 6 (by decide)) rfl dX8_open_43 ?_
  refine av_aload_n dX8_open_46 rfl ?_
  refine av_iconst (v := -1) dX8_open_47 (by decide) ?_
  refine av_puti am_ci8 (by decide) am_f8_7 q50 (tyX8_ok 7 (by decide)) rfl dX8_open_48 ?_
  exact av_return_ am_hv dX8_open_51
set_option maxRecDepth 20000 in
theorem vX8_open_0 (l : Launch) (hfl : l.stackTraces = false) (N : Nat)  : am_V l cX8_open 2 RX8 (am_E none yX8_open.name) 1 60 0 (kX8_open_0 N) := by
  refine av_live ?_
  refine av_aload_n dX8_open_0 rfl ?_
  refine av_iload_n dX8_open_1 rfl ?_
  refine av_ifge (tgt := 9) dX8_open_2 (by decide) ?_ ?_
  · refine av_iload_n dX8_open_9 rfl ?_
    refine av_aload_n dX8_open_10 rfl ?_
    refine av_getr am_ci8 (by decide) am_f8_0 q39 dX8_open_11 ?_
    refine av_arraylength dX8_open_14 ?_
    refine av_min q40 q41 q42 q43 (by decide) (by decide) dX8_open_15 ?_
    exact vX8_open_18 l hfl N
  refine av_iconst (v := 0) dX8_open_5 (by decide) ?_
  refine av_goto (tgt := 18) dX8_open_6 (by decide) ?_
  exact vX8_open_18 l hfl N
theorem mX8_open (l : Launch) (hfl : l.stackTraces = false) (N : Nat) : am_M l yX8_open cX8_open 2 none 1 60 (fX8_open N) := av_meth hfl (by decide +kernel) rfl (vX8_open_0 l hfl N)
/-! MessengerBoard$Tokens.kindAt(I)I -/
noncomputable def kX8_kindAt_45 (N : Nat) : am_K := c_live [] <|
  c_i (0) <|
  c_iret
noncomputable def kX8_kindAt_78 (N : Nat) : am_K := c_live [] <|
  c_iret
noncomputable def kX8_kindAt_77 (N : Nat) : am_K := c_live [] <|
  c_i (3) <|
  kX8_kindAt_78 N
noncomputable def kX8_kindAt_61 (N : Nat) : am_K := c_live [2] <|
  c_ild 2 <|
  c_i (48) <|
  c_iclt (
  kX8_kindAt_77 N) <|
  c_ild 2 <|
  c_i (57) <|
  c_icgt (
  kX8_kindAt_77 N) <|
  c_i (2) <|
  kX8_kindAt_78 N
noncomputable def kX8_kindAt_32 (N : Nat) : am_K := c_live [] <|
  c_ist 2 <|
  c_ild 2 <|
  c_i (32) <|
  c_iceq (
  kX8_kindAt_45 N) <|
  c_ild 2 <|
  c_i (10) <|
  c_icne (
  c_ild 2 <|
  c_i (97) <|
  c_iclt (
  kX8_kindAt_61 N) <|
  c_ild 2 <|
  c_i (122) <|
  c_icgt (
  kX8_kindAt_61 N) <|
  c_i (1) <|
  c_iret) <|
  kX8_kindAt_45 N
noncomputable def kX8_kindAt_30 (N : Nat) : am_K := c_live [] <|
  c_i (32) <|
  kX8_kindAt_32 N
noncomputable def kX8_kindAt_0 (N : Nat) : am_K := c_live [0, 1] <|
  c_ild 1 <|
  c_iflt (
  kX8_kindAt_30 N) <|
  c_ild 1 <|
  c_rld 0 <|
  c_geti 8 1 <|
  c_icge (
  kX8_kindAt_30 N) <|
  c_ild 1 <|
  c_rld 0 <|
  c_getr 8 0 <|
  c_alen <|
  c_icge (
  kX8_kindAt_30 N) <|
  c_rld 0 <|
  c_getr 8 0 <|
  c_ild 1 <|
  c_ial <|
  kX8_kindAt_32 N
noncomputable def fX8_kindAt (N : Nat) : am_F := am_fn 3 (kX8_kindAt_0 N)
set_option maxRecDepth 20000 in
theorem vX8_kindAt_45 (l : Launch) (hfl : l.stackTraces = false) (N : Nat)  : am_V l cX8_kindAt 3 RX8 (am_E (some .int) yX8_kindAt.name) 1 60 45 (kX8_kindAt_45 N) := by
  refine av_live ?_
  refine av_iconst (v := 0) dX8_kindAt_45 (by decide) ?_
  exact av_ireturn am_hi dX8_kindAt_46
set_option maxRecDepth 20000 in
theorem vX8_kindAt_78 (l : Launch) (hfl : l.stackTraces = false) (N : Nat)  : am_V l cX8_kindAt 3 RX8 (am_E (some .int) yX8_kindAt.name) 1 60 78 (kX8_kindAt_78 N) := by
  refine av_live ?_
  exact av_ireturn am_hi dX8_kindAt_78
set_option maxRecDepth 20000 in
theorem vX8_kindAt_77 (l : Launch) (hfl : l.stackTraces = false) (N : Nat)  : am_V l cX8_kindAt 3 RX8 (am_E (some .int) yX8_kindAt.name) 1 60 77 (kX8_kindAt_77 N) := by
  refine av_live ?_
  refine av_iconst (v := 3) dX8_kindAt_77 (by decide) ?_
  exact vX8_kindAt_78 l hfl N
set_option maxRecDepth 20000 in
theorem vX8_kindAt_61 (l : Launch) (hfl : l.stackTraces = false) (N : Nat)  : am_V l cX8_kindAt 3 RX8 (am_E (some .int) yX8_kindAt.name) 1 60 61 (kX8_kindAt_61 N) := by
  refine av_live ?_
  refine av_iload_n dX8_kindAt_61 rfl ?_
  refine av_bipush (v := 48) dX8_kindAt_62 (by decide) ?_
  refine av_iclt (tgt := 77) dX8_kindAt_64 (by decide) ?_ ?_
  · exact vX8_kindAt_77 l hfl N
  refine av_iload_n dX8_kindAt_67 rfl ?_
  refine av_bipush (v := 57) dX8_kindAt_68 (by decide) ?_
  refine av_icgt (tgt := 77) dX8_kindAt_70 (by decide) ?_ ?_
  · exact vX8_kindAt_77 l hfl N
  refine av_iconst (v := 2) dX8_kindAt_73 (by decide) ?_
  refine av_goto (tgt := 78) dX8_kindAt_74 (by decide) ?_
  exact vX8_kindAt_78 l hfl N
set_option maxRecDepth 20000 in
theorem vX8_kindAt_32 (l : Launch) (hfl : l.stackTraces = false) (N : Nat)  : am_V l cX8_kindAt 3 RX8 (am_E (some .int) yX8_kindAt.name) 1 60 32 (kX8_kindAt_32 N) := by
  refine av_live ?_
  refine av_istore_n dX8_kindAt_32 rfl (by decide) ?_
  refine av_iload_n dX8_kindAt_33 rfl ?_
  refine av_bipush (v := 32) dX8_kindAt_34 (by decide) ?_
  refine av_iceq (tgt := 45) dX8_kindAt_36 (by decide) ?_ ?_
  · exact vX8_kindAt_45 l hfl N
  refine av_iload_n dX8_kindAt_39 rfl ?_
  refine av_bipush (v := 10) dX8_kindAt_40 (by decide) ?_
  refine av_icne (tgt := 47) dX8_kindAt_42 (by decide) ?_ ?_
  · refine av_iload_n dX8_kindAt_47 rfl ?_
    refine av_bipush (v := 97) dX8_kindAt_48 (by decide) ?_
    refine av_iclt (tgt := 61) dX8_kindAt_50 (by decide) ?_ ?_
    · exact vX8_kindAt_61 l hfl N
    refine av_iload_n dX8_kindAt_53 rfl ?_
    refine av_bipush (v := 122) dX8_kindAt_54 (by decide) ?_
    refine av_icgt (tgt := 61) dX8_kindAt_56 (by decide) ?_ ?_
    · exact vX8_kindAt_61 l hfl N
    refine av_iconst (v := 1) dX8_kindAt_59 (by decide) ?_
    exact av_ireturn am_hi dX8_kindAt_60
  exact vX8_kindAt_45 l hfl N
set_option maxRecDepth 20000 in
theorem vX8_kindAt_30 (l : Launch) (hfl : l.stackTraces = false) (N : Nat)  : am_V l cX8_kindAt 3 RX8 (am_E (some .int) yX8_kindAt.name) 1 60 30 (kX8_kindAt_30 N) := by
  refine av_live ?_
  refine av_bipush (v := 32) dX8_kindAt_30 (by decide) ?_
  exact vX8_kindAt_32 l hfl N
set_option maxRecDepth 20000 in
theorem vX8_kindAt_0 (l : Launch) (hfl : l.stackTraces = false) (N : Nat)  : am_V l cX8_kindAt 3 RX8 (am_E (some .int) yX8_kindAt.name) 1 60 0 (kX8_kindAt_0 N) := by
  refine av_live ?_
  refine av_iload_n dX8_kindAt_0 rfl ?_
  refine av_iflt (tgt := 30) dX8_kindAt_1 (by decide) ?_ ?_
  · exact vX8_kindAt_30 l hfl N
  refine av_iload_n dX8_kindAt_4 rfl ?_
  refine av_aload_n dX8_kindAt_5 rfl ?_
  refine av_geti am_ci8 (by decide) am_f8_1 q44 dX8_kindAt_6 ?_
  refine av_icge (tgt := 30) dX8_kindAt_9 (by decide) ?_ ?_
  · exact vX8_kindAt_30 l hfl N
  refine av_iload_n dX8_kindAt_12 rfl ?_
  refine av_aload_n dX8_kindAt_13 rfl ?_
  refine av_getr am_ci8 (by decide) am_f8_0 q39 dX8_kindAt_14 ?_
  refine av_arraylength dX8_kindAt_17 ?_
  refine av_icge (tgt := 30) dX8_kindAt_18 (by decide) ?_ ?_
  · exact vX8_kindAt_30 l hfl N
  refine av_aload_n dX8_kindAt_21 rfl ?_
  refine av_getr am_ci8 (by decide) am_f8_0 q39 dX8_kindAt_22 ?_
  refine av_iload_n dX8_kindAt_25 rfl ?_
  refine av_iaload dX8_kindAt_26 ?_
  refine av_goto (tgt := 32) dX8_kindAt_27 (by decide) ?_
  exact vX8_kindAt_32 l hfl N
theorem mX8_kindAt (l : Launch) (hfl : l.stackTraces = false) (N : Nat) : am_M l yX8_kindAt cX8_kindAt 3 (some .int) 1 60 (fX8_kindAt N) := av_meth hfl (by decide +kernel) rfl (vX8_kindAt_0 l hfl N)
/-! MessengerBoard$Tokens.digitAt(I)I -/
noncomputable def kX8_digitAt_26 (N : Nat) : am_K := c_live [] <|
  c_iret
noncomputable def kX8_digitAt_25 (N : Nat) : am_K := c_live [] <|
  c_i (0) <|
  kX8_digitAt_26 N
noncomputable def kX8_digitAt_0 (N : Nat) : am_K := c_live [0, 1] <|
  c_ild 1 <|
  c_iflt (
  kX8_digitAt_25 N) <|
  c_ild 1 <|
  c_rld 0 <|
  c_getr 8 0 <|
  c_alen <|
  c_icge (
  kX8_digitAt_25 N) <|
  c_rld 0 <|
  c_getr 8 0 <|
  c_ild 1 <|
  c_ial <|
  c_i (48) <|
  c_ii (fun x y => x - y) <|
  kX8_digitAt_26 N
noncomputable def fX8_digitAt (N : Nat) : am_F := am_fn 2 (kX8_digitAt_0 N)
set_option maxRecDepth 20000 in
theorem vX8_digitAt_26 (l : Launch) (hfl : l.stackTraces = false) (N : Nat)  : am_V l cX8_digitAt 2 RX8 (am_E (some .int) yX8_digitAt.name) 1 60 26 (kX8_digitAt_26 N) := by
  refine av_live ?_
  exact av_ireturn am_hi dX8_digitAt_26
set_option maxRecDepth 20000 in
theorem vX8_digitAt_25 (l : Launch) (hfl : l.stackTraces = false) (N : Nat)  : am_V l cX8_digitAt 2 RX8 (am_E (some .int) yX8_digitAt.name) 1 60 25 (kX8_digitAt_25 N) := by
  refine av_live ?_
  refine av_iconst (v := 0) dX8_digitAt_25 (by decide) ?_
  exact vX8_digitAt_26 l hfl N
set_option maxRecDepth 20000 in
theorem vX8_digitAt_0 (l : Launch) (hfl : l.stackTraces = false) (N : Nat)  : am_V l cX8_digitAt 2 RX8 (am_E (some .int) yX8_digitAt.name) 1 60 0 (kX8_digitAt_0 N) := by
  refine av_live ?_
  refine av_iload_n dX8_digitAt_0 rfl ?_
  refine av_iflt (tgt := 25) dX8_digitAt_1 (by decide) ?_ ?_
  · exact vX8_digitAt_25 l hfl N
  refine av_iload_n dX8_digitAt_4 rfl ?_
  refine av_aload_n dX8_digitAt_5 rfl ?_
  refine av_getr am_ci8 (by decide) am_f8_0 q39 dX8_digitAt_6 ?_
  refine av_arraylength dX8_digitAt_9 ?_
  refine av_icge (tgt := 25) dX8_digitAt_10 (by decide) ?_ ?_
  · exact vX8_digitAt_25 l hfl N
  refine av_aload_n dX8_digitAt_13 rfl ?_
  refine av_getr am_ci8 (by decide) am_f8_0 q39 dX8_digitAt_14 ?_
  refine av_iload_n dX8_digitAt_17 rfl ?_
  refine av_iaload dX8_digitAt_18 ?_
  refine av_bipush (v := 48) dX8_digitAt_19 (by decide) ?_
  refine av_isub dX8_digitAt_21 ?_
  refine av_goto (tgt := 26) dX8_digitAt_22 (by decide) ?_
  exact vX8_digitAt_26 l hfl N
theorem mX8_digitAt (l : Launch) (hfl : l.stackTraces = false) (N : Nat) : am_M l yX8_digitAt cX8_digitAt 2 (some .int) 1 60 (fX8_digitAt N) := av_meth hfl (by decide +kernel) rfl (vX8_digitAt_0 l hfl N)
/-! MessengerBoard$Tokens.next()V -/
noncomputable def kX8_next_188 (N : Nat) : am_K := c_live [] <|
  c_vret
noncomputable def kX8_next_175 (N : Nat) (r108 : am_K) : am_K := c_live [0] <|
  c_rld 0 <|
  c_dup <|
  c_geti 8 3 <|
  c_i (1) <|
  c_ii (fun x y => x + y) <|
  c_puti 8 3 <|
  c_live [0] r108
noncomputable def bX8_next_108 (N : Nat) (r108 : am_K) : am_K :=
  c_rld 0 <|
  c_geti 8 3 <|
  c_rld 0 <|
  c_geti 8 1 <|
  c_icge (
  kX8_next_188 N) <|
  c_rld 0 <|
  c_geti 8 4 <|
  c_i (3) <|
  c_iceq (
  kX8_next_188 N) <|
  c_rld 0 <|
  c_rld 0 <|
  c_geti 8 3 <|
  c_callV 8 1 (fX8_kindAt N) <|
  c_rld 0 <|
  c_geti 8 4 <|
  c_icne (
  kX8_next_188 N) <|
  c_rld 0 <|
  c_geti 8 4 <|
  c_i (2) <|
  c_icne (
  kX8_next_175 N r108) <|
  c_rld 0 <|
  c_i (10) <|
  c_rld 0 <|
  c_geti 8 5 <|
  c_ii (fun x y => x * y) <|
  c_rld 0 <|
  c_rld 0 <|
  c_geti 8 3 <|
  c_callV 8 1 (fX8_digitAt N) <|
  c_ii (fun x y => x + y) <|
  c_i (100000) <|
  c_min <|
  c_puti 8 5 <|
  kX8_next_175 N r108
noncomputable def kX8_next_108 (N : Nat) : am_K := c_live [0] (am_loop (bX8_next_108 N) N)
noncomputable def kX8_next_85 (N : Nat) : am_K := c_live [0] <|
  c_puti 8 3 <|
  c_rld 0 <|
  c_geti 8 4 <|
  c_i (2) <|
  c_icne (
  kX8_next_108 N) <|
  c_rld 0 <|
  c_rld 0 <|
  c_rld 0 <|
  c_geti 8 2 <|
  c_callV 8 1 (fX8_digitAt N) <|
  c_puti 8 5 <|
  kX8_next_108 N
noncomputable def kX8_next_43 (N : Nat) : am_K := c_live [0] <|
  c_rld 0 <|
  c_rld 0 <|
  c_rld 0 <|
  c_geti 8 2 <|
  c_callV 8 1 (fX8_kindAt N) <|
  c_puti 8 4 <|
  c_rld 0 <|
  c_i (0) <|
  c_puti 8 5 <|
  c_rld 0 <|
  c_rld 0 <|
  c_geti 8 2 <|
  c_rld 0 <|
  c_geti 8 1 <|
  c_icge (
  c_rld 0 <|
  c_geti 8 1 <|
  kX8_next_85 N) <|
  c_rld 0 <|
  c_geti 8 2 <|
  c_i (1) <|
  c_ii (fun x y => x + y) <|
  kX8_next_85 N
noncomputable def bX8_next_8 (N : Nat) (r8 : am_K) : am_K :=
  c_rld 0 <|
  c_geti 8 2 <|
  c_rld 0 <|
  c_geti 8 1 <|
  c_icge (
  kX8_next_43 N) <|
  c_rld 0 <|
  c_rld 0 <|
  c_geti 8 2 <|
  c_callV 8 1 (fX8_kindAt N) <|
  c_ifne (
  kX8_next_43 N) <|
  c_rld 0 <|
  c_dup <|
  c_geti 8 2 <|
  c_i (1) <|
  c_ii (fun x y => x + y) <|
  c_puti 8 2 <|
  c_live [0] r8
noncomputable def kX8_next_8 (N : Nat) : am_K := c_live [0] (am_loop (bX8_next_8 N) N)
noncomputable def kX8_next_0 (N : Nat) : am_K := c_live [0] <|
  c_rld 0 <|
  c_rld 0 <|
  c_geti 8 3 <|
  c_puti 8 2 <|
  kX8_next_8 N
noncomputable def fX8_next (N : Nat) : am_F := am_fn 1 (kX8_next_0 N)
set_option maxRecDepth 20000 in
theorem vX8_next_188 (l : Launch) (hfl : l.stackTraces = false) (N : Nat)  : am_V l cX8_next 1 RX8 (am_E none yX8_next.name) 2 82 188 (kX8_next_188 N) := by
  refine av_live ?_
  exact av_return_ am_hv dX8_next_188
set_option maxRecDepth 20000 in
theorem vX8_next_175 (l : Launch) (hfl : l.stackTraces = false) (N : Nat)  {r108 : am_K} (h108 : am_V l cX8_next 1 RX8 (am_E none yX8_next.name) 2 82 108 r108) : am_V l cX8_next 1 RX8 (am_E none yX8_next.name) 2 82 175 (kX8_next_175 N r108) := by
  refine av_live ?_
  refine av_aload_n dX8_next_175 rfl ?_
  refine av_dup dX8_next_176 ?_
  refine av_geti am_ci8 (by decide) am_f8_3 q46 dX8_next_177 ?_
  refine av_iconst (v := 1) dX8_next_180 (by decide) ?_
  refine av_iadd dX8_next_181 ?_
  refine av_puti am_ci8 (by decide) am_f8_3 q46 (tyX8_ok 3 (by decide)) rfl dX8_next_182 ?_
  refine av_goto (tgt := 108) dX8_next_185 (by decide) ?_
  exact av_live h108
set_option maxRecDepth 20000 in
theorem vX8_next_108 (l : Launch) (hfl : l.stackTraces = false) (N : Nat)  : am_V l cX8_next 1 RX8 (am_E none yX8_next.name) 2 82 108 (kX8_next_108 N) := by
  refine av_live ?_
  refine av_loop (fun r108 h108 => ?_) N
  refine av_aload_n dX8_next_108 rfl ?_
  refine av_geti am_ci8 (by decide) am_f8_3 q46 dX8_next_109 ?_
  refine av_aload_n dX8_next_112 rfl ?_
  refine av_geti am_ci8 (by decide) am_f8_1 q44 dX8_next_113 ?_
  refine av_icge (tgt := 188) dX8_next_116 (by decide) ?_ ?_
  · exact vX8_next_188 l hfl N
  refine av_aload_n dX8_next_119 rfl ?_
  refine av_geti am_ci8 (by decide) am_f8_4 q47 dX8_next_120 ?_
  refine av_iconst (v := 3) dX8_next_123 (by decide) ?_
  refine av_iceq (tgt := 188) dX8_next_124 (by decide) ?_ ?_
  · exact vX8_next_188 l hfl N
  refine av_aload_n dX8_next_127 rfl ?_
  refine av_aload_n dX8_next_128 rfl ?_
  refine av_geti am_ci8 (by decide) am_f8_3 q46 dX8_next_129 ?_
  refine av_callV am_hT (mX8_kindAt l hfl N) am_ci8 ⟨by decide +kernel, by decide +kernel, by decide +kernel⟩ q51 q52 q53 q54 q55 (by decide) (by decide) dX8_next_132 ?_
  refine av_aload_n dX8_next_135 rfl ?_
  refine av_geti am_ci8 (by decide) am_f8_4 q47 dX8_next_136 ?_
  refine av_icne (tgt := 188) dX8_next_139 (by decide) ?_ ?_
  · exact vX8_next_188 l hfl N
  refine av_aload_n dX8_next_142 rfl ?_
  refine av_geti am_ci8 (by decide) am_f8_4 q47 dX8_next_143 ?_
  refine av_iconst (v := 2) dX8_next_146 (by decide) ?_
  refine av_icne (tgt := 175) dX8_next_147 (by decide) ?_ ?_
  · exact vX8_next_175 l hfl N h108
  refine av_aload_n dX8_next_150 rfl ?_
  refine av_bipush (v := 10) dX8_next_151 (by decide) ?_
  refine av_aload_n dX8_next_153 rfl ?_
  refine av_geti am_ci8 (by decide) am_f8_5 q48 dX8_next_154 ?_
  refine av_imul dX8_next_157 ?_
  refine av_aload_n dX8_next_158 rfl ?_
  refine av_aload_n dX8_next_159 rfl ?_
  refine av_geti am_ci8 (by decide) am_f8_3 q46 dX8_next_160 ?_
  refine av_callV am_hT (mX8_digitAt l hfl N) am_ci8 ⟨by decide +kernel, by decide +kernel, by decide +kernel⟩ q56 q57 q53 q58 q59 (by decide) (by decide) dX8_next_163 ?_
  refine av_iadd dX8_next_166 ?_
  refine av_ldc dX8_next_167 q60 ?_
  refine av_min q40 q41 q42 q43 (by decide) (by decide) dX8_next_169 ?_
  refine av_puti am_ci8 (by decide) am_f8_5 q48 (tyX8_ok 5 (by decide)) rfl dX8_next_172 ?_
  exact vX8_next_175 l hfl N h108
set_option maxRecDepth 20000 in
theorem vX8_next_85 (l : Launch) (hfl : l.stackTraces = false) (N : Nat)  : am_V l cX8_next 1 RX8 (am_E none yX8_next.name) 2 82 85 (kX8_next_85 N) := by
  refine av_live ?_
  refine av_puti am_ci8 (by decide) am_f8_3 q46 (tyX8_ok 3 (by decide)) rfl dX8_next_85 ?_
  refine av_aload_n dX8_next_88 rfl ?_
  refine av_geti am_ci8 (by decide) am_f8_4 q47 dX8_next_89 ?_
  refine av_iconst (v := 2) dX8_next_92 (by decide) ?_
  refine av_icne (tgt := 108) dX8_next_93 (by decide) ?_ ?_
  · exact vX8_next_108 l hfl N
  refine av_aload_n dX8_next_96 rfl ?_
  refine av_aload_n dX8_next_97 rfl ?_
  refine av_aload_n dX8_next_98 rfl ?_
  refine av_geti am_ci8 (by decide) am_f8_2 q45 dX8_next_99 ?_
  refine av_callV am_hT (mX8_digitAt l hfl N) am_ci8 ⟨by decide +kernel, by decide +kernel, by decide +kernel⟩ q56 q57 q53 q58 q59 (by decide) (by decide) dX8_next_102 ?_
  refine av_puti am_ci8 (by decide) am_f8_5 q48 (tyX8_ok 5 (by decide)) rfl dX8_next_105 ?_
  exact vX8_next_108 l hfl N
set_option maxRecDepth 20000 in
theorem vX8_next_43 (l : Launch) (hfl : l.stackTraces = false) (N : Nat)  : am_V l cX8_next 1 RX8 (am_E none yX8_next.name) 2 82 43 (kX8_next_43 N) := by
  refine av_live ?_
  refine av_aload_n dX8_next_43 rfl ?_
  refine av_aload_n dX8_next_44 rfl ?_
  refine av_aload_n dX8_next_45 rfl ?_
  refine av_geti am_ci8 (by decide) am_f8_2 q45 dX8_next_46 ?_
  refine av_callV am_hT (mX8_kindAt l hfl N) am_ci8 ⟨by decide +kernel, by decide +kernel, by decide +kernel⟩ q51 q52 q53 q54 q55 (by decide) (by decide) dX8_next_49 ?_
  refine av_puti am_ci8 (by decide) am_f8_4 q47 (tyX8_ok 4 (by decide)) rfl dX8_next_52 ?_
  refine av_aload_n dX8_next_55 rfl ?_
  refine av_iconst (v := 0) dX8_next_56 (by decide) ?_
  refine av_puti am_ci8 (by decide) am_f8_5 q48 (tyX8_ok 5 (by decide)) rfl dX8_next_57 ?_
  refine av_aload_n dX8_next_60 rfl ?_
  refine av_aload_n dX8_next_61 rfl ?_
  refine av_geti am_ci8 (by decide) am_f8_2 q45 dX8_next_62 ?_
  refine av_aload_n dX8_next_65 rfl ?_
  refine av_geti am_ci8 (by decide) am_f8_1 q44 dX8_next_66 ?_
  refine av_icge (tgt := 81) dX8_next_69 (by decide) ?_ ?_
  · refine av_aload_n dX8_next_81 rfl ?_
    refine av_geti am_ci8 (by decide) am_f8_1 q44 dX8_next_82 ?_
    exact vX8_next_85 l hfl N
  refine av_aload_n dX8_next_72 rfl ?_
  refine av_geti am_ci8 (by decide) am_f8_2 q45 dX8_next_73 ?_
  refine av_iconst (v := 1) dX8_next_76 (by decide) ?_
  refine av_iadd dX8_next_77 ?_
  refine av_goto (tgt := 85) dX8_next_78 (by decide) ?_
  exact vX8_next_85 l hfl N
set_option maxRecDepth 20000 in
theorem vX8_next_8 (l : Launch) (hfl : l.stackTraces = false) (N : Nat)  : am_V l cX8_next 1 RX8 (am_E none yX8_next.name) 2 82 8 (kX8_next_8 N) := by
  refine av_live ?_
  refine av_loop (fun r8 h8 => ?_) N
  refine av_aload_n dX8_next_8 rfl ?_
  refine av_geti am_ci8 (by decide) am_f8_2 q45 dX8_next_9 ?_
  refine av_aload_n dX8_next_12 rfl ?_
  refine av_geti am_ci8 (by decide) am_f8_1 q44 dX8_next_13 ?_
  refine av_icge (tgt := 43) dX8_next_16 (by decide) ?_ ?_
  · exact vX8_next_43 l hfl N
  refine av_aload_n dX8_next_19 rfl ?_
  refine av_aload_n dX8_next_20 rfl ?_
  refine av_geti am_ci8 (by decide) am_f8_2 q45 dX8_next_21 ?_
  refine av_callV am_hT (mX8_kindAt l hfl N) am_ci8 ⟨by decide +kernel, by decide +kernel, by decide +kernel⟩ q51 q52 q53 q54 q55 (by decide) (by decide) dX8_next_24 ?_
  refine av_ifne (tgt := 43) dX8_next_27 (by decide) ?_ ?_
  · exact vX8_next_43 l hfl N
  refine av_aload_n dX8_next_30 rfl ?_
  refine av_dup dX8_next_31 ?_
  refine av_geti am_ci8 (by decide) am_f8_2 q45 dX8_next_32 ?_
  refine av_iconst (v := 1) dX8_next_35 (by decide) ?_
  refine av_iadd dX8_next_36 ?_
  refine av_puti am_ci8 (by decide) am_f8_2 q45 (tyX8_ok 2 (by decide)) rfl dX8_next_37 ?_
  refine av_goto (tgt := 8) dX8_next_40 (by decide) ?_
  exact av_live h8
set_option maxRecDepth 20000 in
theorem vX8_next_0 (l : Launch) (hfl : l.stackTraces = false) (N : Nat)  : am_V l cX8_next 1 RX8 (am_E none yX8_next.name) 2 82 0 (kX8_next_0 N) := by
  refine av_live ?_
  refine av_aload_n dX8_next_0 rfl ?_
  refine av_aload_n dX8_next_1 rfl ?_
  refine av_geti am_ci8 (by decide) am_f8_3 q46 dX8_next_2 ?_
  refine av_puti am_ci8 (by decide) am_f8_2 q45 (tyX8_ok 2 (by decide)) rfl dX8_next_5 ?_
  exact vX8_next_8 l hfl N
theorem mX8_next (l : Launch) (hfl : l.stackTraces = false) (N : Nat) : am_M l yX8_next cX8_next 1 none 2 82 (fX8_next N) := av_meth hfl (by decide +kernel) rfl (vX8_next_0 l hfl N)
/-! MessengerBoard$Tokens.isWord(Ljava/lang/String;)Z -/
noncomputable def kX8_isWord_45 (N : Nat) : am_K := c_live [] <|
  c_i (0) <|
  c_zret
noncomputable def bX8_isWord_49 (N : Nat) (r49 : am_K) : am_K :=
  c_ild 3 <|
  c_ild 2 <|
  c_icge (
  c_i (1) <|
  c_zret) <|
  c_rld 0 <|
  c_getr 8 0 <|
  c_rld 0 <|
  c_geti 8 2 <|
  c_ild 3 <|
  c_ii (fun x y => x + y) <|
  c_ial <|
  c_rld 1 <|
  c_ild 3 <|
  c_callT 1 (fJ0_charAt_5068e N) <|
  c_iceq (
  c_inc 3 (1) <|
  c_live [0, 1, 2, 3] r49) <|
  c_i (0) <|
  c_zret
noncomputable def kX8_isWord_49 (N : Nat) : am_K := c_live [0, 1, 2, 3] (am_loop (bX8_isWord_49 N) N)
noncomputable def kX8_isWord_0 (N : Nat) : am_K := c_live [0, 1] <|
  c_rld 1 <|
  c_callT 0 (fJ0_length_8abf5 N) <|
  c_ist 2 <|
  c_rld 0 <|
  c_geti 8 4 <|
  c_i (1) <|
  c_icne (
  kX8_isWord_45 N) <|
  c_rld 0 <|
  c_geti 8 3 <|
  c_rld 0 <|
  c_geti 8 2 <|
  c_ii (fun x y => x - y) <|
  c_ild 2 <|
  c_icne (
  kX8_isWord_45 N) <|
  c_rld 0 <|
  c_geti 8 2 <|
  c_iflt (
  kX8_isWord_45 N) <|
  c_rld 0 <|
  c_geti 8 3 <|
  c_rld 0 <|
  c_getr 8 0 <|
  c_alen <|
  c_icle (
  c_i (0) <|
  c_ist 3 <|
  kX8_isWord_49 N) <|
  kX8_isWord_45 N
noncomputable def fX8_isWord (N : Nat) : am_F := am_fn 4 (kX8_isWord_0 N)
set_option maxRecDepth 20000 in
theorem vX8_isWord_45 (l : Launch) (hfl : l.stackTraces = false) (N : Nat)  : am_V l cX8_isWord 4 RX8 (am_E (some .boolean) yX8_isWord.name) 5 145 45 (kX8_isWord_45 N) := by
  refine av_live ?_
  refine av_iconst (v := 0) dX8_isWord_45 (by decide) ?_
  exact av_zreturn am_hz dX8_isWord_46
set_option maxRecDepth 20000 in
theorem vX8_isWord_49 (l : Launch) (hfl : l.stackTraces = false) (N : Nat)  : am_V l cX8_isWord 4 RX8 (am_E (some .boolean) yX8_isWord.name) 5 145 49 (kX8_isWord_49 N) := by
  refine av_live ?_
  refine av_loop (fun r49 h49 => ?_) N
  refine av_iload_n dX8_isWord_49 rfl ?_
  refine av_iload_n dX8_isWord_50 rfl ?_
  refine av_icge (tgt := 81) dX8_isWord_51 (by decide) ?_ ?_
  · refine av_iconst (v := 1) dX8_isWord_81 (by decide) ?_
    exact av_zreturn am_hz dX8_isWord_82
  refine av_aload_n dX8_isWord_54 rfl ?_
  refine av_getr am_ci8 (by decide) am_f8_0 q39 dX8_isWord_55 ?_
  refine av_aload_n dX8_isWord_58 rfl ?_
  refine av_geti am_ci8 (by decide) am_f8_2 q45 dX8_isWord_59 ?_
  refine av_iload_n dX8_isWord_62 rfl ?_
  refine av_iadd dX8_isWord_63 ?_
  refine av_iaload dX8_isWord_64 ?_
  refine av_aload_n dX8_isWord_65 rfl ?_
  refine av_iload_n dX8_isWord_66 rfl ?_
  refine av_callT am_hT (mJ0_charAt_5068e l hfl N) ⟨by decide +kernel, by decide +kernel, by decide +kernel⟩ q65 q66 q5 q67 q68 (by decide) (by decide) dX8_isWord_67 ?_
  refine av_iceq (tgt := 75) dX8_isWord_70 (by decide) ?_ ?_
  · refine av_iinc dX8_isWord_75 (by decide) (by decide) ?_
    refine av_goto (tgt := 49) dX8_isWord_78 (by decide) ?_
    exact av_live h49
  refine av_iconst (v := 0) dX8_isWord_73 (by decide) ?_
  exact av_zreturn am_hz dX8_isWord_74
set_option maxRecDepth 20000 in
theorem vX8_isWord_0 (l : Launch) (hfl : l.stackTraces = false) (N : Nat)  : am_V l cX8_isWord 4 RX8 (am_E (some .boolean) yX8_isWord.name) 5 145 0 (kX8_isWord_0 N) := by
  refine av_live ?_
  refine av_aload_n dX8_isWord_0 rfl ?_
  refine av_callT am_hT (mJ0_length_8abf5 l hfl N) ⟨by decide +kernel, by decide +kernel, by decide +kernel⟩ q61 q62 q5 q63 q64 (by decide) (by decide) dX8_isWord_1 ?_
  refine av_istore_n dX8_isWord_4 rfl (by decide) ?_
  refine av_aload_n dX8_isWord_5 rfl ?_
  refine av_geti am_ci8 (by decide) am_f8_4 q47 dX8_isWord_6 ?_
  refine av_iconst (v := 1) dX8_isWord_9 (by decide) ?_
  refine av_icne (tgt := 45) dX8_isWord_10 (by decide) ?_ ?_
  · exact vX8_isWord_45 l hfl N
  refine av_aload_n dX8_isWord_13 rfl ?_
  refine av_geti am_ci8 (by decide) am_f8_3 q46 dX8_isWord_14 ?_
  refine av_aload_n dX8_isWord_17 rfl ?_
  refine av_geti am_ci8 (by decide) am_f8_2 q45 dX8_isWord_18 ?_
  refine av_isub dX8_isWord_21 ?_
  refine av_iload_n dX8_isWord_22 rfl ?_
  refine av_icne (tgt := 45) dX8_isWord_23 (by decide) ?_ ?_
  · exact vX8_isWord_45 l hfl N
  refine av_aload_n dX8_isWord_26 rfl ?_
  refine av_geti am_ci8 (by decide) am_f8_2 q45 dX8_isWord_27 ?_
  refine av_iflt (tgt := 45) dX8_isWord_30 (by decide) ?_ ?_
  · exact vX8_isWord_45 l hfl N
  refine av_aload_n dX8_isWord_33 rfl ?_
  refine av_geti am_ci8 (by decide) am_f8_3 q46 dX8_isWord_34 ?_
  refine av_aload_n dX8_isWord_37 rfl ?_
  refine av_getr am_ci8 (by decide) am_f8_0 q39 dX8_isWord_38 ?_
  refine av_arraylength dX8_isWord_41 ?_
  refine av_icle (tgt := 47) dX8_isWord_42 (by decide) ?_ ?_
  · refine av_iconst (v := 0) dX8_isWord_47 (by decide) ?_
    refine av_istore_n dX8_isWord_48 rfl (by decide) ?_
    exact vX8_isWord_49 l hfl N
  exact vX8_isWord_45 l hfl N
theorem mX8_isWord (l : Launch) (hfl : l.stackTraces = false) (N : Nat) : am_M l yX8_isWord cX8_isWord 4 (some .boolean) 5 145 (fX8_isWord N) := av_meth hfl (by decide +kernel) rfl (vX8_isWord_0 l hfl N)
/-! MessengerBoard$Tokens.fail(I)V -/
noncomputable def kX8_fail_20 (N : Nat) : am_K := c_live [] <|
  c_vret
noncomputable def kX8_fail_0 (N : Nat) : am_K := c_live [0, 1] <|
  c_rld 0 <|
  c_geti 8 6 <|
  c_ifne (
  kX8_fail_20 N) <|
  c_rld 0 <|
  c_ild 1 <|
  c_puti 8 6 <|
  c_rld 0 <|
  c_rld 0 <|
  c_geti 8 2 <|
  c_puti 8 7 <|
  kX8_fail_20 N
noncomputable def fX8_fail (N : Nat) : am_F := am_fn 2 (kX8_fail_0 N)
set_option maxRecDepth 20000 in
theorem vX8_fail_20 (l : Launch) (hfl : l.stackTraces = false) (N : Nat)  : am_V l cX8_fail 2 RX8 (am_E none yX8_fail.name) 1 60 20 (kX8_fail_20 N) := by
  refine av_live ?_
  exact av_return_ am_hv dX8_fail_20
set_option maxRecDepth 20000 in
theorem vX8_fail_0 (l : Launch) (hfl : l.stackTraces = false) (N : Nat)  : am_V l cX8_fail 2 RX8 (am_E none yX8_fail.name) 1 60 0 (kX8_fail_0 N) := by
  refine av_live ?_
  refine av_aload_n dX8_fail_0 rfl ?_
  refine av_geti am_ci8 (by decide) am_f8_6 q49 dX8_fail_1 ?_
  refine av_ifne (tgt := 20) dX8_fail_4 (by decide) ?_ ?_
  · exact vX8_fail_20 l hfl N
  refine av_aload_n dX8_fail_7 rfl ?_
  refine av_iload_n dX8_fail_8 rfl ?_
  refine av_puti am_ci8 (by decide) am_f8_6 q49 (tyX8_ok 6 (by decide)) rfl dX8_fail_9 ?_
  refine av_aload_n dX8_fail_12 rfl ?_
  refine av_aload_n dX8_fail_13 rfl ?_
  refine av_geti am_ci8 (by decide) am_f8_2 q45 dX8_fail_14 ?_
  refine av_puti am_ci8 (by decide) am_f8_7 q50 (tyX8_ok 7 (by decide)) rfl dX8_fail_17 ?_
  exact vX8_fail_20 l hfl N
theorem mX8_fail (l : Launch) (hfl : l.stackTraces = false) (N : Nat) : am_M l yX8_fail cX8_fail 2 none 1 60 (fX8_fail N) := av_meth hfl (by decide +kernel) rfl (vX8_fail_0 l hfl N)
/-! MessengerBoard$Tokens.sound()Z -/
noncomputable def kX8_sound_12 (N : Nat) : am_K := c_live [] <|
  c_zret
noncomputable def kX8_sound_0 (N : Nat) : am_K := c_live [0] <|
  c_rld 0 <|
  c_geti 8 6 <|
  c_ifne (
  c_i (0) <|
  kX8_sound_12 N) <|
  c_i (1) <|
  kX8_sound_12 N
noncomputable def fX8_sound (N : Nat) : am_F := am_fn 1 (kX8_sound_0 N)
set_option maxRecDepth 20000 in
theorem vX8_sound_12 (l : Launch) (hfl : l.stackTraces = false) (N : Nat)  : am_V l cX8_sound 1 RX8 (am_E (some .boolean) yX8_sound.name) 1 60 12 (kX8_sound_12 N) := by
  refine av_live ?_
  exact av_zreturn am_hz dX8_sound_12
set_option maxRecDepth 20000 in
theorem vX8_sound_0 (l : Launch) (hfl : l.stackTraces = false) (N : Nat)  : am_V l cX8_sound 1 RX8 (am_E (some .boolean) yX8_sound.name) 1 60 0 (kX8_sound_0 N) := by
  refine av_live ?_
  refine av_aload_n dX8_sound_0 rfl ?_
  refine av_geti am_ci8 (by decide) am_f8_6 q49 dX8_sound_1 ?_
  refine av_ifne (tgt := 11) dX8_sound_4 (by decide) ?_ ?_
  · refine av_iconst (v := 0) dX8_sound_11 (by decide) ?_
    exact vX8_sound_12 l hfl N
  refine av_iconst (v := 1) dX8_sound_7 (by decide) ?_
  refine av_goto (tgt := 12) dX8_sound_8 (by decide) ?_
  exact vX8_sound_12 l hfl N
theorem mX8_sound (l : Launch) (hfl : l.stackTraces = false) (N : Nat) : am_M l yX8_sound cX8_sound 1 (some .boolean) 1 60 (fX8_sound N) := av_meth hfl (by decide +kernel) rfl (vX8_sound_0 l hfl N)
/-! MessengerBoard$Tokens.isNumber()Z -/
noncomputable def kX8_isNumber_13 (N : Nat) : am_K := c_live [] <|
  c_zret
noncomputable def kX8_isNumber_0 (N : Nat) : am_K := c_live [0] <|
  c_rld 0 <|
  c_geti 8 4 <|
  c_i (2) <|
  c_icne (
  c_i (0) <|
  kX8_isNumber_13 N) <|
  c_i (1) <|
  kX8_isNumber_13 N
noncomputable def fX8_isNumber (N : Nat) : am_F := am_fn 1 (kX8_isNumber_0 N)
set_option maxRecDepth 20000 in
theorem vX8_isNumber_13 (l : Launch) (hfl : l.stackTraces = false) (N : Nat)  : am_V l cX8_isNumber 1 RX8 (am_E (some .boolean) yX8_isNumber.name) 1 60 13 (kX8_isNumber_13 N) := by
  refine av_live ?_
  exact av_zreturn am_hz dX8_isNumber_13
set_option maxRecDepth 20000 in
theorem vX8_isNumber_0 (l : Launch) (hfl : l.stackTraces = false) (N : Nat)  : am_V l cX8_isNumber 1 RX8 (am_E (some .boolean) yX8_isNumber.name) 1 60 0 (kX8_isNumber_0 N) := by
  refine av_live ?_
  refine av_aload_n dX8_isNumber_0 rfl ?_
  refine av_geti am_ci8 (by decide) am_f8_4 q47 dX8_isNumber_1 ?_
  refine av_iconst (v := 2) dX8_isNumber_4 (by decide) ?_
  refine av_icne (tgt := 12) dX8_isNumber_5 (by decide) ?_ ?_
  · refine av_iconst (v := 0) dX8_isNumber_12 (by decide) ?_
    exact vX8_isNumber_13 l hfl N
  refine av_iconst (v := 1) dX8_isNumber_8 (by decide) ?_
  refine av_goto (tgt := 13) dX8_isNumber_9 (by decide) ?_
  exact vX8_isNumber_13 l hfl N
theorem mX8_isNumber (l : Launch) (hfl : l.stackTraces = false) (N : Nat) : am_M l yX8_isNumber cX8_isNumber 1 (some .boolean) 1 60 (fX8_isNumber N) := av_meth hfl (by decide +kernel) rfl (vX8_isNumber_0 l hfl N)
/-! MessengerBoard$Tokens.value()I -/
noncomputable def kX8_value_0 (N : Nat) : am_K := c_live [0] <|
  c_rld 0 <|
  c_geti 8 5 <|
  c_iret
noncomputable def fX8_value (N : Nat) : am_F := am_fn 1 (kX8_value_0 N)
set_option maxRecDepth 20000 in
theorem vX8_value_0 (l : Launch) (hfl : l.stackTraces = false) (N : Nat)  : am_V l cX8_value 1 RX8 (am_E (some .int) yX8_value.name) 1 60 0 (kX8_value_0 N) := by
  refine av_live ?_
  refine av_aload_n dX8_value_0 rfl ?_
  refine av_geti am_ci8 (by decide) am_f8_5 q48 dX8_value_1 ?_
  exact av_ireturn am_hi dX8_value_4
theorem mX8_value (l : Launch) (hfl : l.stackTraces = false) (N : Nat) : am_M l yX8_value cX8_value 1 (some .int) 1 60 (fX8_value N) := av_meth hfl (by decide +kernel) rfl (vX8_value_0 l hfl N)
/-! MessengerBoard$Tokens.isSign(C)Z -/
noncomputable def kX8_isSign_45 (N : Nat) : am_K := c_live [] <|
  c_zret
noncomputable def kX8_isSign_44 (N : Nat) : am_K := c_live [] <|
  c_i (0) <|
  kX8_isSign_45 N
noncomputable def kX8_isSign_0 (N : Nat) : am_K := c_live [0, 1] <|
  c_rld 0 <|
  c_geti 8 4 <|
  c_i (3) <|
  c_icne (
  kX8_isSign_44 N) <|
  c_rld 0 <|
  c_geti 8 2 <|
  c_iflt (
  kX8_isSign_44 N) <|
  c_rld 0 <|
  c_geti 8 2 <|
  c_rld 0 <|
  c_getr 8 0 <|
  c_alen <|
  c_icge (
  kX8_isSign_44 N) <|
  c_rld 0 <|
  c_getr 8 0 <|
  c_rld 0 <|
  c_geti 8 2 <|
  c_ial <|
  c_ild 1 <|
  c_icne (
  kX8_isSign_44 N) <|
  c_i (1) <|
  kX8_isSign_45 N
noncomputable def fX8_isSign (N : Nat) : am_F := am_fn 2 (kX8_isSign_0 N)
set_option maxRecDepth 20000 in
theorem vX8_isSign_45 (l : Launch) (hfl : l.stackTraces = false) (N : Nat)  : am_V l cX8_isSign 2 RX8 (am_E (some .boolean) yX8_isSign.name) 1 60 45 (kX8_isSign_45 N) := by
  refine av_live ?_
  exact av_zreturn am_hz dX8_isSign_45
set_option maxRecDepth 20000 in
theorem vX8_isSign_44 (l : Launch) (hfl : l.stackTraces = false) (N : Nat)  : am_V l cX8_isSign 2 RX8 (am_E (some .boolean) yX8_isSign.name) 1 60 44 (kX8_isSign_44 N) := by
  refine av_live ?_
  refine av_iconst (v := 0) dX8_isSign_44 (by decide) ?_
  exact vX8_isSign_45 l hfl N
set_option maxRecDepth 20000 in
theorem vX8_isSign_0 (l : Launch) (hfl : l.stackTraces = false) (N : Nat)  : am_V l cX8_isSign 2 RX8 (am_E (some .boolean) yX8_isSign.name) 1 60 0 (kX8_isSign_0 N) := by
  refine av_live ?_
  refine av_aload_n dX8_isSign_0 rfl ?_
  refine av_geti am_ci8 (by decide) am_f8_4 q47 dX8_isSign_1 ?_
  refine av_iconst (v := 3) dX8_isSign_4 (by decide) ?_
  refine av_icne (tgt := 44) dX8_isSign_5 (by decide) ?_ ?_
  · exact vX8_isSign_44 l hfl N
  refine av_aload_n dX8_isSign_8 rfl ?_
  refine av_geti am_ci8 (by decide) am_f8_2 q45 dX8_isSign_9 ?_
  refine av_iflt (tgt := 44) dX8_isSign_12 (by decide) ?_ ?_
  · exact vX8_isSign_44 l hfl N
  refine av_aload_n dX8_isSign_15 rfl ?_
  refine av_geti am_ci8 (by decide) am_f8_2 q45 dX8_isSign_16 ?_
  refine av_aload_n dX8_isSign_19 rfl ?_
  refine av_getr am_ci8 (by decide) am_f8_0 q39 dX8_isSign_20 ?_
  refine av_arraylength dX8_isSign_23 ?_
  refine av_icge (tgt := 44) dX8_isSign_24 (by decide) ?_ ?_
  · exact vX8_isSign_44 l hfl N
  refine av_aload_n dX8_isSign_27 rfl ?_
  refine av_getr am_ci8 (by decide) am_f8_0 q39 dX8_isSign_28 ?_
  refine av_aload_n dX8_isSign_31 rfl ?_
  refine av_geti am_ci8 (by decide) am_f8_2 q45 dX8_isSign_32 ?_
  refine av_iaload dX8_isSign_35 ?_
  refine av_iload_n dX8_isSign_36 rfl ?_
  refine av_icne (tgt := 44) dX8_isSign_37 (by decide) ?_ ?_
  · exact vX8_isSign_44 l hfl N
  refine av_iconst (v := 1) dX8_isSign_40 (by decide) ?_
  refine av_goto (tgt := 45) dX8_isSign_41 (by decide) ?_
  exact vX8_isSign_45 l hfl N
theorem mX8_isSign (l : Launch) (hfl : l.stackTraces = false) (N : Nat) : am_M l yX8_isSign cX8_isSign 2 (some .boolean) 1 60 (fX8_isSign N) := av_meth hfl (by decide +kernel) rfl (vX8_isSign_0 l hfl N)
/-! MessengerBoard$Tokens.atEnd()Z -/
noncomputable def kX8_atEnd_12 (N : Nat) : am_K := c_live [] <|
  c_zret
noncomputable def kX8_atEnd_0 (N : Nat) : am_K := c_live [0] <|
  c_rld 0 <|
  c_geti 8 4 <|
  c_ifne (
  c_i (0) <|
  kX8_atEnd_12 N) <|
  c_i (1) <|
  kX8_atEnd_12 N
noncomputable def fX8_atEnd (N : Nat) : am_F := am_fn 1 (kX8_atEnd_0 N)
set_option maxRecDepth 20000 in
theorem vX8_atEnd_12 (l : Launch) (hfl : l.stackTraces = false) (N : Nat)  : am_V l cX8_atEnd 1 RX8 (am_E (some .boolean) yX8_atEnd.name) 1 60 12 (kX8_atEnd_12 N) := by
  refine av_live ?_
  exact av_zreturn am_hz dX8_atEnd_12
set_option maxRecDepth 20000 in
theorem vX8_atEnd_0 (l : Launch) (hfl : l.stackTraces = false) (N : Nat)  : am_V l cX8_atEnd 1 RX8 (am_E (some .boolean) yX8_atEnd.name) 1 60 0 (kX8_atEnd_0 N) := by
  refine av_live ?_
  refine av_aload_n dX8_atEnd_0 rfl ?_
  refine av_geti am_ci8 (by decide) am_f8_4 q47 dX8_atEnd_1 ?_
  refine av_ifne (tgt := 11) dX8_atEnd_4 (by decide) ?_ ?_
  · refine av_iconst (v := 0) dX8_atEnd_11 (by decide) ?_
    exact vX8_atEnd_12 l hfl N
  refine av_iconst (v := 1) dX8_atEnd_7 (by decide) ?_
  refine av_goto (tgt := 12) dX8_atEnd_8 (by decide) ?_
  exact vX8_atEnd_12 l hfl N
theorem mX8_atEnd (l : Launch) (hfl : l.stackTraces = false) (N : Nat) : am_M l yX8_atEnd cX8_atEnd 1 (some .boolean) 1 60 (fX8_atEnd N) := av_meth hfl (by decide +kernel) rfl (vX8_atEnd_0 l hfl N)
/-! MessengerBoard$Tokens.errorCode()I -/
noncomputable def kX8_errorCode_0 (N : Nat) : am_K := c_live [0] <|
  c_rld 0 <|
  c_geti 8 6 <|
  c_iret
noncomputable def fX8_errorCode (N : Nat) : am_F := am_fn 1 (kX8_errorCode_0 N)
set_option maxRecDepth 20000 in
theorem vX8_errorCode_0 (l : Launch) (hfl : l.stackTraces = false) (N : Nat)  : am_V l cX8_errorCode 1 RX8 (am_E (some .int) yX8_errorCode.name) 1 60 0 (kX8_errorCode_0 N) := by
  refine av_live ?_
  refine av_aload_n dX8_errorCode_0 rfl ?_
  refine av_geti am_ci8 (by decide) am_f8_6 q49 dX8_errorCode_1 ?_
  exact av_ireturn am_hi dX8_errorCode_4
theorem mX8_errorCode (l : Launch) (hfl : l.stackTraces = false) (N : Nat) : am_M l yX8_errorCode cX8_errorCode 1 (some .int) 1 60 (fX8_errorCode N) := av_meth hfl (by decide +kernel) rfl (vX8_errorCode_0 l hfl N)
/-! MessengerBoard$Tokens.errorPlace()I -/
noncomputable def kX8_errorPlace_0 (N : Nat) : am_K := c_live [0] <|
  c_rld 0 <|
  c_geti 8 7 <|
  c_iret
noncomputable def fX8_errorPlace (N : Nat) : am_F := am_fn 1 (kX8_errorPlace_0 N)
set_option maxRecDepth 20000 in
theorem vX8_errorPlace_0 (l : Launch) (hfl : l.stackTraces = false) (N : Nat)  : am_V l cX8_errorPlace 1 RX8 (am_E (some .int) yX8_errorPlace.name) 1 60 0 (kX8_errorPlace_0 N) := by
  refine av_live ?_
  refine av_aload_n dX8_errorPlace_0 rfl ?_
  refine av_geti am_ci8 (by decide) am_f8_7 q50 dX8_errorPlace_1 ?_
  exact av_ireturn am_hi dX8_errorPlace_4
theorem mX8_errorPlace (l : Launch) (hfl : l.stackTraces = false) (N : Nat) : am_M l yX8_errorPlace cX8_errorPlace 1 (some .int) 1 60 (fX8_errorPlace N) := av_meth hfl (by decide +kernel) rfl (vX8_errorPlace_0 l hfl N)
