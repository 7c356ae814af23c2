/-! bestDelay(LMessengerBoard;III[J)I -/
noncomputable def kL_bestDelay_0 (N : Nat) : am_K := c_live [0, 1, 2, 3, 4] <|
  c_rld 4 <|
  c_i (0) <|
  c_rld 0 <|
  c_ild 1 <|
  c_ild 2 <|
  c_ild 3 <|
  c_callH 10 3 (fX10_bestDelay N) 5 (am_kh2 "java/util/NoSuchElementException" (
  c_i (1) <|
  c_iret) "java/lang/IllegalArgumentException" (
  c_i (2) <|
  c_iret)) <|
  c_il (fun x => x.toInt64) <|
  c_las <|
  c_i (0) <|
  c_iret
noncomputable def fL_bestDelay (N : Nat) : am_F := am_fn 6 (kL_bestDelay_0 N)
set_option maxRecDepth 20000 in
theorem vL_bestDelay_0 (l : Launch) (hfl : l.stackTraces = false) (N : Nat)  : am_V l cL_bestDelay 6 RL (am_EH (some .int) yL_bestDelay.name [(0, 12, 15, 18), (0, 12, 19, 13)]) 11 242 0 (kL_bestDelay_0 N) := by
  refine av_live ?_
  refine av_aload dL_bestDelay_0 ?_
  refine av_iconst (v := 0) dL_bestDelay_2 (by decide) ?_
  refine av_aload_n dL_bestDelay_3 rfl ?_
  refine av_iload_n dL_bestDelay_4 rfl ?_
  refine av_iload_n dL_bestDelay_5 rfl ?_
  refine av_iload_n dL_bestDelay_6 rfl ?_
  refine av_callH2 (mX10_bestDelay l hfl N) am_ci10 ⟨by decide +kernel, by decide +kernel, by decide +kernel⟩ q986 q987 q111 q988 q989 (by decide) (by decide) dL_bestDelay_7 (by decide) (by decide) (by decide) (by decide) q990 q991 q992 q993 (Or.inl ⟨rfl, dL_bestDelay_15⟩) (Or.inl ⟨rfl, dL_bestDelay_19⟩) (by decide) ?_ ?_ ?_
  · refine av_iconst (v := 1) dL_bestDelay_17 (by decide) ?_
    exact av_ireturn am_hiH dL_bestDelay_18
  · refine av_iconst (v := 2) dL_bestDelay_21 (by decide) ?_
    exact av_ireturn am_hiH dL_bestDelay_22
  refine av_i2l dL_bestDelay_10 ?_
  refine av_lastore dL_bestDelay_11 ?_
  refine av_goto (tgt := 23) dL_bestDelay_12 (by decide) ?_
  refine av_iconst (v := 0) dL_bestDelay_23 (by decide) ?_
  exact av_ireturn am_hiH dL_bestDelay_24
theorem mL_bestDelay (l : Launch) (hfl : l.stackTraces = false) (N : Nat) : am_MH l yL_bestDelay cL_bestDelay 6 (some .int) [(0, 12, 15, 18), (0, 12, 19, 13)] 11 242 (fL_bestDelay N) := av_methH hfl (by decide +kernel) rfl (vL_bestDelay_0 l hfl N)
/-! distance(LMessengerBoard;IIII[J)I -/
noncomputable def kL_distance_0 (N : Nat) : am_K := c_live [0, 1, 2, 3, 4, 5] <|
  c_rld 5 <|
  c_i (0) <|
  c_rld 0 <|
  c_ild 1 <|
  c_ild 2 <|
  c_ild 3 <|
  c_ild 4 <|
  c_callH 10 4 (fX10_distance N) 6 (am_kh1 "java/util/NoSuchElementException" (
  c_i (1) <|
  c_iret)) <|
  c_il (fun x => x.toInt64) <|
  c_las <|
  c_i (0) <|
  c_iret
noncomputable def fL_distance (N : Nat) : am_F := am_fn 7 (kL_distance_0 N)
set_option maxRecDepth 20000 in
theorem vL_distance_0 (l : Launch) (hfl : l.stackTraces = false) (N : Nat)  : am_V l cL_distance 7 RL (am_EH (some .int) yL_distance.name [(0, 14, 17, 18)]) 10 159 0 (kL_distance_0 N) := by
  refine av_live ?_
  refine av_aload dL_distance_0 ?_
  refine av_iconst (v := 0) dL_distance_2 (by decide) ?_
  refine av_aload_n dL_distance_3 rfl ?_
  refine av_iload_n dL_distance_4 rfl ?_
  refine av_iload_n dL_distance_5 rfl ?_
  refine av_iload_n dL_distance_6 rfl ?_
  refine av_iload dL_distance_7 ?_
  refine av_callH1 (mX10_distance l hfl N) am_ci10 ⟨by decide +kernel, by decide +kernel, by decide +kernel⟩ q994 q995 q111 q996 q997 (by decide) (by decide) dL_distance_9 (by decide) (by decide) q990 q991 (Or.inl ⟨rfl, dL_distance_17⟩) (by decide) ?_ ?_
  · refine av_iconst (v := 1) dL_distance_19 (by decide) ?_
    exact av_ireturn am_hiH dL_distance_20
  refine av_i2l dL_distance_12 ?_
  refine av_lastore dL_distance_13 ?_
  refine av_goto (tgt := 21) dL_distance_14 (by decide) ?_
  refine av_iconst (v := 0) dL_distance_21 (by decide) ?_
  exact av_ireturn am_hiH dL_distance_22
theorem mL_distance (l : Launch) (hfl : l.stackTraces = false) (N : Nat) : am_MH l yL_distance cL_distance 7 (some .int) [(0, 14, 17, 18)] 10 159 (fL_distance N) := av_methH hfl (by decide +kernel) rfl (vL_distance_0 l hfl N)
/-! event(LMessengerBoard;II[J)I -/
noncomputable def kL_event_0 (N : Nat) : am_K := c_live [0, 1, 2, 3] <|
  c_rld 3 <|
  c_i (0) <|
  c_rld 0 <|
  c_ild 1 <|
  c_ild 2 <|
  c_callH 10 2 (fX10_event N) 4 (am_kh1 "java/util/NoSuchElementException" (
  c_i (1) <|
  c_iret)) <|
  c_il (fun x => x.toInt64) <|
  c_las <|
  c_i (0) <|
  c_iret
noncomputable def fL_event (N : Nat) : am_F := am_fn 5 (kL_event_0 N)
set_option maxRecDepth 20000 in
theorem vL_event_0 (l : Launch) (hfl : l.stackTraces = false) (N : Nat)  : am_V l cL_event 5 RL (am_EH (some .int) yL_event.name [(0, 10, 13, 18)]) 10 143 0 (kL_event_0 N) := by
  refine av_live ?_
  refine av_aload_n dL_event_0 rfl ?_
  refine av_iconst (v := 0) dL_event_1 (by decide) ?_
  refine av_aload_n dL_event_2 rfl ?_
  refine av_iload_n dL_event_3 rfl ?_
  refine av_iload_n dL_event_4 rfl ?_
  refine av_callH1 (mX10_event l hfl N) am_ci10 ⟨by decide +kernel, by decide +kernel, by decide +kernel⟩ q998 q999 q111 q1000 q1001 (by decide) (by decide) dL_event_5 (by decide) (by decide) q990 q991 (Or.inl ⟨rfl, dL_event_13⟩) (by decide) ?_ ?_
  · refine av_iconst (v := 1) dL_event_15 (by decide) ?_
    exact av_ireturn am_hiH dL_event_16
  refine av_i2l dL_event_8 ?_
  refine av_lastore dL_event_9 ?_
  refine av_goto (tgt := 17) dL_event_10 (by decide) ?_
  refine av_iconst (v := 0) dL_event_17 (by decide) ?_
  exact av_ireturn am_hiH dL_event_18
theorem mL_event (l : Launch) (hfl : l.stackTraces = false) (N : Nat) : am_MH l yL_event cL_event 5 (some .int) [(0, 10, 13, 18)] 10 143 (fL_event N) := av_methH hfl (by decide +kernel) rfl (vL_event_0 l hfl N)
/-! failing(LMessengerBoard;I[J)I -/
noncomputable def kL_failing_0 (N : Nat) : am_K := c_live [0, 1, 2] <|
  c_rld 2 <|
  c_i (0) <|
  c_rld 0 <|
  c_ild 1 <|
  c_callH 10 1 (fX10_failing N) 3 (am_kh1 "java/lang/IllegalArgumentException" (
  c_i (1) <|
  c_iret)) <|
  c_il (fun x => x.toInt64) <|
  c_las <|
  c_i (0) <|
  c_iret
noncomputable def fL_failing (N : Nat) : am_F := am_fn 4 (kL_failing_0 N)
set_option maxRecDepth 20000 in
theorem vL_failing_0 (l : Launch) (hfl : l.stackTraces = false) (N : Nat)  : am_V l cL_failing 4 RL (am_EH (some .int) yL_failing.name [(0, 9, 12, 13)]) 10 218 0 (kL_failing_0 N) := by
  refine av_live ?_
  refine av_aload_n dL_failing_0 rfl ?_
  refine av_iconst (v := 0) dL_failing_1 (by decide) ?_
  refine av_aload_n dL_failing_2 rfl ?_
  refine av_iload_n dL_failing_3 rfl ?_
  refine av_callH1 (mX10_failing l hfl N) am_ci10 ⟨by decide +kernel, by decide +kernel, by decide +kernel⟩ q1002 q1003 q111 q1004 q1005 (by decide) (by decide) dL_failing_4 (by decide) (by decide) q992 q993 (Or.inr ⟨rfl, 3, rfl, dL_failing_12⟩) (by decide) ?_ ?_
  · refine av_iconst (v := 1) dL_failing_13 (by decide) ?_
    exact av_ireturn am_hiH dL_failing_14
  refine av_i2l dL_failing_7 ?_
  refine av_lastore dL_failing_8 ?_
  refine av_goto (tgt := 15) dL_failing_9 (by decide) ?_
  refine av_iconst (v := 0) dL_failing_15 (by decide) ?_
  exact av_ireturn am_hiH dL_failing_16
theorem mL_failing (l : Launch) (hfl : l.stackTraces = false) (N : Nat) : am_MH l yL_failing cL_failing 4 (some .int) [(0, 9, 12, 13)] 10 218 (fL_failing N) := av_methH hfl (by decide +kernel) rfl (vL_failing_0 l hfl N)
/-! format(LMessengerBoard;I[J)I -/
noncomputable def kL_format_0 (N : Nat) : am_K := c_live [0, 1, 2] <|
  c_rld 2 <|
  c_i (0) <|
  c_rld 0 <|
  c_ild 1 <|
  c_callH 10 1 (fX10_format N) 3 (am_kh1 "java/util/NoSuchElementException" (
  c_i (1) <|
  c_iret)) <|
  c_il (fun x => x.toInt64) <|
  c_las <|
  c_i (0) <|
  c_iret
noncomputable def fL_format (N : Nat) : am_F := am_fn 4 (kL_format_0 N)
set_option maxRecDepth 20000 in
theorem vL_format_0 (l : Launch) (hfl : l.stackTraces = false) (N : Nat)  : am_V l cL_format 4 RL (am_EH (some .int) yL_format.name [(0, 9, 12, 18)]) 9 180 0 (kL_format_0 N) := by
  refine av_live ?_
  refine av_aload_n dL_format_0 rfl ?_
  refine av_iconst (v := 0) dL_format_1 (by decide) ?_
  refine av_aload_n dL_format_2 rfl ?_
  refine av_iload_n dL_format_3 rfl ?_
  refine av_callH1 (mX10_format l hfl N) am_ci10 ⟨by decide +kernel, by decide +kernel, by decide +kernel⟩ q1006 q1007 q111 q1008 q1009 (by decide) (by decide) dL_format_4 (by decide) (by decide) q990 q991 (Or.inr ⟨rfl, 3, rfl, dL_format_12⟩) (by decide) ?_ ?_
  · refine av_iconst (v := 1) dL_format_13 (by decide) ?_
    exact av_ireturn am_hiH dL_format_14
  refine av_i2l dL_format_7 ?_
  refine av_lastore dL_format_8 ?_
  refine av_goto (tgt := 15) dL_format_9 (by decide) ?_
  refine av_iconst (v := 0) dL_format_15 (by decide) ?_
  exact av_ireturn am_hiH dL_format_16
theorem mL_format (l : Launch) (hfl : l.stackTraces = false) (N : Nat) : am_MH l yL_format cL_format 4 (some .int) [(0, 9, 12, 18)] 9 180 (fL_format N) := av_methH hfl (by decide +kernel) rfl (vL_format_0 l hfl N)
/-! isWall(LMessengerBoard;II[J)I -/
noncomputable def kL_isWall_16 (N : Nat) : am_K := c_live [] <|
  c_las <|
  c_i (0) <|
  c_iret
noncomputable def kL_isWall_0 (N : Nat) : am_K := c_live [0, 1, 2, 3] <|
  c_rld 3 <|
  c_i (0) <|
  c_rld 0 <|
  c_ild 1 <|
  c_ild 2 <|
  c_callH 10 2 (fX10_isWall N) 4 (am_kh1 "java/util/NoSuchElementException" (
  c_i (1) <|
  c_iret)) <|
  c_ifeq (
  c_l 0 <|
  kL_isWall_16 N) <|
  c_l 1 <|
  kL_isWall_16 N
noncomputable def fL_isWall (N : Nat) : am_F := am_fn 5 (kL_isWall_0 N)
set_option maxRecDepth 20000 in
theorem vL_isWall_16 (l : Launch) (hfl : l.stackTraces = false) (N : Nat)  : am_V l cL_isWall 5 RL (am_EH (some .int) yL_isWall.name [(0, 17, 20, 18)]) 10 144 16 (kL_isWall_16 N) := by
  refine av_live ?_
  refine av_lastore dL_isWall_16 ?_
  refine av_goto (tgt := 24) dL_isWall_17 (by decide) ?_
  refine av_iconst (v := 0) dL_isWall_24 (by decide) ?_
  exact av_ireturn am_hiH dL_isWall_25
set_option maxRecDepth 20000 in
theorem vL_isWall_0 (l : Launch) (hfl : l.stackTraces = false) (N : Nat)  : am_V l cL_isWall 5 RL (am_EH (some .int) yL_isWall.name [(0, 17, 20, 18)]) 10 144 0 (kL_isWall_0 N) := by
  refine av_live ?_
  refine av_aload_n dL_isWall_0 rfl ?_
  refine av_iconst (v := 0) dL_isWall_1 (by decide) ?_
  refine av_aload_n dL_isWall_2 rfl ?_
  refine av_iload_n dL_isWall_3 rfl ?_
  refine av_iload_n dL_isWall_4 rfl ?_
  refine av_callH1 (mX10_isWall l hfl N) am_ci10 ⟨by decide +kernel, by decide +kernel, by decide +kernel⟩ q1010 q1011 q111 q1012 q1013 (by decide) (by decide) dL_isWall_5 (by decide) (by decide) q990 q991 (Or.inl ⟨rfl, dL_isWall_20⟩) (by decide) ?_ ?_
  · refine av_iconst (v := 1) dL_isWall_22 (by decide) ?_
    exact av_ireturn am_hiH dL_isWall_23
  refine av_ifeq (tgt := 15) dL_isWall_8 (by decide) ?_ ?_
  · refine av_lconst dL_isWall_15 (by decide) ?_
    exact vL_isWall_16 l hfl N
  refine av_lconst dL_isWall_11 (by decide) ?_
  refine av_goto (tgt := 16) dL_isWall_12 (by decide) ?_
  exact vL_isWall_16 l hfl N
theorem mL_isWall (l : Launch) (hfl : l.stackTraces = false) (N : Nat) : am_MH l yL_isWall cL_isWall 5 (some .int) [(0, 17, 20, 18)] 10 144 (fL_isWall N) := av_methH hfl (by decide +kernel) rfl (vL_isWall_0 l hfl N)
/-! isWatched(LMessengerBoard;III[J)I -/
noncomputable def kL_isWatched_18 (N : Nat) : am_K := c_live [] <|
  c_las <|
  c_i (0) <|
  c_iret
noncomputable def kL_isWatched_0 (N : Nat) : am_K := c_live [0, 1, 2, 3, 4] <|
  c_rld 4 <|
  c_i (0) <|
  c_rld 0 <|
  c_ild 1 <|
  c_ild 2 <|
  c_ild 3 <|
  c_callH 10 3 (fX10_isWatched N) 5 (am_kh2 "java/util/NoSuchElementException" (
  c_i (1) <|
  c_iret) "java/lang/IllegalArgumentException" (
  c_i (2) <|
  c_iret)) <|
  c_ifeq (
  c_l 0 <|
  kL_isWatched_18 N) <|
  c_l 1 <|
  kL_isWatched_18 N
noncomputable def fL_isWatched (N : Nat) : am_F := am_fn 6 (kL_isWatched_0 N)
set_option maxRecDepth 20000 in
theorem vL_isWatched_18 (l : Launch) (hfl : l.stackTraces = false) (N : Nat)  : am_V l cL_isWatched 6 RL (am_EH (some .int) yL_isWatched.name [(0, 19, 22, 18), (0, 19, 26, 13)]) 10 158 18 (kL_isWatched_18 N) := by
  refine av_live ?_
  refine av_lastore dL_isWatched_18 ?_
  refine av_goto (tgt := 30) dL_isWatched_19 (by decide) ?_
  refine av_iconst (v := 0) dL_isWatched_30 (by decide) ?_
  exact av_ireturn am_hiH dL_isWatched_31
set_option maxRecDepth 20000 in
theorem vL_isWatched_0 (l : Launch) (hfl : l.stackTraces = false) (N : Nat)  : am_V l cL_isWatched 6 RL (am_EH (some .int) yL_isWatched.name [(0, 19, 22, 18), (0, 19, 26, 13)]) 10 158 0 (kL_isWatched_0 N) := by
  refine av_live ?_
  refine av_aload dL_isWatched_0 ?_
  refine av_iconst (v := 0) dL_isWatched_2 (by decide) ?_
  refine av_aload_n dL_isWatched_3 rfl ?_
  refine av_iload_n dL_isWatched_4 rfl ?_
  refine av_iload_n dL_isWatched_5 rfl ?_
  refine av_iload_n dL_isWatched_6 rfl ?_
  refine av_callH2 (mX10_isWatched l hfl N) am_ci10 ⟨by decide +kernel, by decide +kernel, by decide +kernel⟩ q1014 q1015 q111 q1016 q1017 (by decide) (by decide) dL_isWatched_7 (by decide) (by decide) (by decide) (by decide) q990 q991 q992 q993 (Or.inl ⟨rfl, dL_isWatched_22⟩) (Or.inl ⟨rfl, dL_isWatched_26⟩) (by decide) ?_ ?_ ?_
  · refine av_iconst (v := 1) dL_isWatched_24 (by decide) ?_
    exact av_ireturn am_hiH dL_isWatched_25
  · refine av_iconst (v := 2) dL_isWatched_28 (by decide) ?_
    exact av_ireturn am_hiH dL_isWatched_29
  refine av_ifeq (tgt := 17) dL_isWatched_10 (by decide) ?_ ?_
  · refine av_lconst dL_isWatched_17 (by decide) ?_
    exact vL_isWatched_18 l hfl N
  refine av_lconst dL_isWatched_13 (by decide) ?_
  refine av_goto (tgt := 18) dL_isWatched_14 (by decide) ?_
  exact vL_isWatched_18 l hfl N
theorem mL_isWatched (l : Launch) (hfl : l.stackTraces = false) (N : Nat) : am_MH l yL_isWatched cL_isWatched 6 (some .int) [(0, 19, 22, 18), (0, 19, 26, 13)] 10 158 (fL_isWatched N) := av_methH hfl (by decide +kernel) rfl (vL_isWatched_0 l hfl N)
/-! load(LMessengerBoard;I[J)I -/
noncomputable def kL_load_0 (N : Nat) : am_K := c_live [0, 1, 2] <|
  c_rld 2 <|
  c_i (0) <|
  c_rld 0 <|
  c_ild 1 <|
  c_callH 10 1 (fX10_load N) 3 (am_kh1 "java/lang/IllegalArgumentException" (
  c_i (1) <|
  c_iret)) <|
  c_il (fun x => x.toInt64) <|
  c_las <|
  c_i (0) <|
  c_iret
noncomputable def fL_load (N : Nat) : am_F := am_fn 4 (kL_load_0 N)
set_option maxRecDepth 20000 in
theorem vL_load_0 (l : Launch) (hfl : l.stackTraces = false) (N : Nat)  : am_V l cL_load 4 RL (am_EH (some .int) yL_load.name [(0, 9, 12, 13)]) 9 238 0 (kL_load_0 N) := by
  refine av_live ?_
  refine av_aload_n dL_load_0 rfl ?_
  refine av_iconst (v := 0) dL_load_1 (by decide) ?_
  refine av_aload_n dL_load_2 rfl ?_
  refine av_iload_n dL_load_3 rfl ?_
  refine av_callH1 (mX10_load l hfl N) am_ci10 ⟨by decide +kernel, by decide +kernel, by decide +kernel⟩ q1018 q1019 q111 q1020 q1021 (by decide) (by decide) dL_load_4 (by decide) (by decide) q992 q993 (Or.inr ⟨rfl, 3, rfl, dL_load_12⟩) (by decide) ?_ ?_
  · refine av_iconst (v := 1) dL_load_13 (by decide) ?_
    exact av_ireturn am_hiH dL_load_14
  refine av_i2l dL_load_7 ?_
  refine av_lastore dL_load_8 ?_
  refine av_goto (tgt := 15) dL_load_9 (by decide) ?_
  refine av_iconst (v := 0) dL_load_15 (by decide) ?_
  exact av_ireturn am_hiH dL_load_16
theorem mL_load (l : Launch) (hfl : l.stackTraces = false) (N : Nat) : am_MH l yL_load cL_load 4 (some .int) [(0, 9, 12, 13)] 9 238 (fL_load N) := av_methH hfl (by decide +kernel) rfl (vL_load_0 l hfl N)
/-! movePicket(LMessengerBoard;III[J)I -/
noncomputable def kL_movePicket_0 (N : Nat) : am_K := c_live [0, 1, 2, 3, 4] <|
  c_rld 4 <|
  c_i (0) <|
  c_rld 0 <|
  c_ild 1 <|
  c_ild 2 <|
  c_ild 3 <|
  c_callH 10 3 (fX10_movePicket N) 5 (am_kh1 "java/util/NoSuchElementException" (
  c_i (1) <|
  c_iret)) <|
  c_il (fun x => x.toInt64) <|
  c_las <|
  c_i (0) <|
  c_iret
noncomputable def fL_movePicket (N : Nat) : am_F := am_fn 6 (kL_movePicket_0 N)
set_option maxRecDepth 20000 in
theorem vL_movePicket_0 (l : Launch) (hfl : l.stackTraces = false) (N : Nat)  : am_V l cL_movePicket 6 RL (am_EH (some .int) yL_movePicket.name [(0, 12, 15, 18)]) 10 148 0 (kL_movePicket_0 N) := by
  refine av_live ?_
  refine av_aload dL_movePicket_0 ?_
  refine av_iconst (v := 0) dL_movePicket_2 (by decide) ?_
  refine av_aload_n dL_movePicket_3 rfl ?_
  refine av_iload_n dL_movePicket_4 rfl ?_
  refine av_iload_n dL_movePicket_5 rfl ?_
  refine av_iload_n dL_movePicket_6 rfl ?_
  refine av_callH1 (mX10_movePicket l hfl N) am_ci10 ⟨by decide +kernel, by decide +kernel, by decide +kernel⟩ q1022 q1023 q111 q1024 q1025 (by decide) (by decide) dL_movePicket_7 (by decide) (by decide) q990 q991 (Or.inl ⟨rfl, dL_movePicket_15⟩) (by decide) ?_ ?_
  · refine av_iconst (v := 1) dL_movePicket_17 (by decide) ?_
    exact av_ireturn am_hiH dL_movePicket_18
  refine av_i2l dL_movePicket_10 ?_
  refine av_lastore dL_movePicket_11 ?_
  refine av_goto (tgt := 19) dL_movePicket_12 (by decide) ?_
  refine av_iconst (v := 0) dL_movePicket_19 (by decide) ?_
  exact av_ireturn am_hiH dL_movePicket_20
theorem mL_movePicket (l : Launch) (hfl : l.stackTraces = false) (N : Nat) : am_MH l yL_movePicket cL_movePicket 6 (some .int) [(0, 12, 15, 18)] 10 148 (fL_movePicket N) := av_methH hfl (by decide +kernel) rfl (vL_movePicket_0 l hfl N)
/-! movePlan(LMessengerBoard;II[J)I -/
noncomputable def kL_movePlan_0 (N : Nat) : am_K := c_live [0, 1, 2, 3] <|
  c_rld 3 <|
  c_i (0) <|
  c_rld 0 <|
  c_ild 1 <|
  c_ild 2 <|
  c_callH 10 2 (fX10_movePlan N) 4 (am_kh2 "java/util/NoSuchElementException" (
  c_i (1) <|
  c_iret) "java/lang/IllegalArgumentException" (
  c_i (2) <|
  c_iret)) <|
  c_il (fun x => x.toInt64) <|
  c_las <|
  c_i (0) <|
  c_iret
noncomputable def fL_movePlan (N : Nat) : am_F := am_fn 5 (kL_movePlan_0 N)
set_option maxRecDepth 20000 in
theorem vL_movePlan_0 (l : Launch) (hfl : l.stackTraces = false) (N : Nat)  : am_V l cL_movePlan 5 RL (am_EH (some .int) yL_movePlan.name [(0, 10, 13, 18), (0, 10, 17, 13)]) 10 148 0 (kL_movePlan_0 N) := by
  refine av_live ?_
  refine av_aload_n dL_movePlan_0 rfl ?_
  refine av_iconst (v := 0) dL_movePlan_1 (by decide) ?_
  refine av_aload_n dL_movePlan_2 rfl ?_
  refine av_iload_n dL_movePlan_3 rfl ?_
  refine av_iload_n dL_movePlan_4 rfl ?_
  refine av_callH2 (mX10_movePlan l hfl N) am_ci10 ⟨by decide +kernel, by decide +kernel, by decide +kernel⟩ q1026 q1027 q111 q1028 q1029 (by decide) (by decide) dL_movePlan_5 (by decide) (by decide) (by decide) (by decide) q990 q991 q992 q993 (Or.inl ⟨rfl, dL_movePlan_13⟩) (Or.inl ⟨rfl, dL_movePlan_17⟩) (by decide) ?_ ?_ ?_
  · refine av_iconst (v := 1) dL_movePlan_15 (by decide) ?_
    exact av_ireturn am_hiH dL_movePlan_16
  · refine av_iconst (v := 2) dL_movePlan_19 (by decide) ?_
    exact av_ireturn am_hiH dL_movePlan_20
  refine av_i2l dL_movePlan_8 ?_
  refine av_lastore dL_movePlan_9 ?_
  refine av_goto (tgt := 21) dL_movePlan_10 (by decide) ?_
  refine av_iconst (v := 0) dL_movePlan_21 (by decide) ?_
  exact av_ireturn am_hiH dL_movePlan_22
theorem mL_movePlan (l : Launch) (hfl : l.stackTraces = false) (N : Nat) : am_MH l yL_movePlan cL_movePlan 5 (some .int) [(0, 10, 13, 18), (0, 10, 17, 13)] 10 148 (fL_movePlan N) := av_methH hfl (by decide +kernel) rfl (vL_movePlan_0 l hfl N)
/-! order(LMessengerBoard;II[J)I -/
noncomputable def kL_order_0 (N : Nat) : am_K := c_live [0, 1, 2, 3] <|
  c_rld 3 <|
  c_i (0) <|
  c_rld 0 <|
  c_ild 1 <|
  c_ild 2 <|
  c_callH 10 2 (fX10_order N) 4 (am_kh1 "java/util/NoSuchElementException" (
  c_i (1) <|
  c_iret)) <|
  c_il (fun x => x.toInt64) <|
  c_las <|
  c_i (0) <|
  c_iret
noncomputable def fL_order (N : Nat) : am_F := am_fn 5 (kL_order_0 N)
set_option maxRecDepth 20000 in
theorem vL_order_0 (l : Launch) (hfl : l.stackTraces = false) (N : Nat)  : am_V l cL_order 5 RL (am_EH (some .int) yL_order.name [(0, 10, 13, 18)]) 10 143 0 (kL_order_0 N) := by
  refine av_live ?_
  refine av_aload_n dL_order_0 rfl ?_
  refine av_iconst (v := 0) dL_order_1 (by decide) ?_
  refine av_aload_n dL_order_2 rfl ?_
  refine av_iload_n dL_order_3 rfl ?_
  refine av_iload_n dL_order_4 rfl ?_
  refine av_callH1 (mX10_order l hfl N) am_ci10 ⟨by decide +kernel, by decide +kernel, by decide +kernel⟩ q1030 q1031 q111 q1032 q1033 (by decide) (by decide) dL_order_5 (by decide) (by decide) q990 q991 (Or.inl ⟨rfl, dL_order_13⟩) (by decide) ?_ ?_
  · refine av_iconst (v := 1) dL_order_15 (by decide) ?_
    exact av_ireturn am_hiH dL_order_16
  refine av_i2l dL_order_8 ?_
  refine av_lastore dL_order_9 ?_
  refine av_goto (tgt := 17) dL_order_10 (by decide) ?_
  refine av_iconst (v := 0) dL_order_17 (by decide) ?_
  exact av_ireturn am_hiH dL_order_18
theorem mL_order (l : Launch) (hfl : l.stackTraces = false) (N : Nat) : am_MH l yL_order cL_order 5 (some .int) [(0, 10, 13, 18)] 10 143 (fL_order N) := av_methH hfl (by decide +kernel) rfl (vL_order_0 l hfl N)
/-! orders(LMessengerBoard;I[J)I -/
noncomputable def kL_orders_0 (N : Nat) : am_K := c_live [0, 1, 2] <|
  c_rld 2 <|
  c_i (0) <|
  c_rld 0 <|
  c_ild 1 <|
  c_callH 10 1 (fX10_orders N) 3 (am_kh1 "java/lang/IllegalArgumentException" (
  c_i (1) <|
  c_iret)) <|
  c_il (fun x => x.toInt64) <|
  c_las <|
  c_i (0) <|
  c_iret
noncomputable def fL_orders (N : Nat) : am_F := am_fn 4 (kL_orders_0 N)
set_option maxRecDepth 20000 in
theorem vL_orders_0 (l : Launch) (hfl : l.stackTraces = false) (N : Nat)  : am_V l cL_orders 4 RL (am_EH (some .int) yL_orders.name [(0, 9, 12, 13)]) 9 129 0 (kL_orders_0 N) := by
  refine av_live ?_
  refine av_aload_n dL_orders_0 rfl ?_
  refine av_iconst (v := 0) dL_orders_1 (by decide) ?_
  refine av_aload_n dL_orders_2 rfl ?_
  refine av_iload_n dL_orders_3 rfl ?_
  refine av_callH1 (mX10_orders l hfl N) am_ci10 ⟨by decide +kernel, by decide +kernel, by decide +kernel⟩ q1034 q1035 q111 q1036 q1037 (by decide) (by decide) dL_orders_4 (by decide) (by decide) q992 q993 (Or.inr ⟨rfl, 3, rfl, dL_orders_12⟩) (by decide) ?_ ?_
  · refine av_iconst (v := 1) dL_orders_13 (by decide) ?_
    exact av_ireturn am_hiH dL_orders_14
  refine av_i2l dL_orders_7 ?_
  refine av_lastore dL_orders_8 ?_
  refine av_goto (tgt := 15) dL_orders_9 (by decide) ?_
  refine av_iconst (v := 0) dL_orders_15 (by decide) ?_
  exact av_ireturn am_hiH dL_orders_16
theorem mL_orders (l : Launch) (hfl : l.stackTraces = false) (N : Nat) : am_MH l yL_orders cL_orders 4 (some .int) [(0, 9, 12, 13)] 9 129 (fL_orders N) := av_methH hfl (by decide +kernel) rfl (vL_orders_0 l hfl N)
/-! pass(LMessengerBoard;I[J)I -/
noncomputable def kL_pass_0 (N : Nat) : am_K := c_live [0, 1, 2] <|
  c_rld 2 <|
  c_i (0) <|
  c_rld 0 <|
  c_ild 1 <|
  c_callH 10 1 (fX10_pass N) 3 (am_kh1 "java/lang/IllegalArgumentException" (
  c_i (1) <|
  c_iret)) <|
  c_il (fun x => x.toInt64) <|
  c_las <|
  c_i (0) <|
  c_iret
noncomputable def fL_pass (N : Nat) : am_F := am_fn 4 (kL_pass_0 N)
set_option maxRecDepth 20000 in
theorem vL_pass_0 (l : Launch) (hfl : l.stackTraces = false) (N : Nat)  : am_V l cL_pass 4 RL (am_EH (some .int) yL_pass.name [(0, 9, 12, 13)]) 10 215 0 (kL_pass_0 N) := by
  refine av_live ?_
  refine av_aload_n dL_pass_0 rfl ?_
  refine av_iconst (v := 0) dL_pass_1 (by decide) ?_
  refine av_aload_n dL_pass_2 rfl ?_
  refine av_iload_n dL_pass_3 rfl ?_
  refine av_callH1 (mX10_pass l hfl N) am_ci10 ⟨by decide +kernel, by decide +kernel, by decide +kernel⟩ q1038 q1039 q111 q1040 q1041 (by decide) (by decide) dL_pass_4 (by decide) (by decide) q992 q993 (Or.inr ⟨rfl, 3, rfl, dL_pass_12⟩) (by decide) ?_ ?_
  · refine av_iconst (v := 1) dL_pass_13 (by decide) ?_
    exact av_ireturn am_hiH dL_pass_14
  refine av_i2l dL_pass_7 ?_
  refine av_lastore dL_pass_8 ?_
  refine av_goto (tgt := 15) dL_pass_9 (by decide) ?_
  refine av_iconst (v := 0) dL_pass_15 (by decide) ?_
  exact av_ireturn am_hiH dL_pass_16
theorem mL_pass (l : Launch) (hfl : l.stackTraces = false) (N : Nat) : am_MH l yL_pass cL_pass 4 (some .int) [(0, 9, 12, 13)] 10 215 (fL_pass N) := av_methH hfl (by decide +kernel) rfl (vL_pass_0 l hfl N)
/-! picket(LMessengerBoard;II[J)I -/
noncomputable def kL_picket_0 (N : Nat) : am_K := c_live [0, 1, 2, 3] <|
  c_rld 3 <|
  c_i (0) <|
  c_rld 0 <|
  c_ild 1 <|
  c_ild 2 <|
  c_callH 10 2 (fX10_picket N) 4 (am_kh1 "java/util/NoSuchElementException" (
  c_i (1) <|
  c_iret)) <|
  c_il (fun x => x.toInt64) <|
  c_las <|
  c_i (0) <|
  c_iret
noncomputable def fL_picket (N : Nat) : am_F := am_fn 5 (kL_picket_0 N)
set_option maxRecDepth 20000 in
theorem vL_picket_0 (l : Launch) (hfl : l.stackTraces = false) (N : Nat)  : am_V l cL_picket 5 RL (am_EH (some .int) yL_picket.name [(0, 10, 13, 18)]) 10 143 0 (kL_picket_0 N) := by
  refine av_live ?_
  refine av_aload_n dL_picket_0 rfl ?_
  refine av_iconst (v := 0) dL_picket_1 (by decide) ?_
  refine av_aload_n dL_picket_2 rfl ?_
  refine av_iload_n dL_picket_3 rfl ?_
  refine av_iload_n dL_picket_4 rfl ?_
  refine av_callH1 (mX10_picket l hfl N) am_ci10 ⟨by decide +kernel, by decide +kernel, by decide +kernel⟩ q1042 q1043 q111 q1044 q1045 (by decide) (by decide) dL_picket_5 (by decide) (by decide) q990 q991 (Or.inl ⟨rfl, dL_picket_13⟩) (by decide) ?_ ?_
  · refine av_iconst (v := 1) dL_picket_15 (by decide) ?_
    exact av_ireturn am_hiH dL_picket_16
  refine av_i2l dL_picket_8 ?_
  refine av_lastore dL_picket_9 ?_
  refine av_goto (tgt := 17) dL_picket_10 (by decide) ?_
  refine av_iconst (v := 0) dL_picket_17 (by decide) ?_
  exact av_ireturn am_hiH dL_picket_18
theorem mL_picket (l : Launch) (hfl : l.stackTraces = false) (N : Nat) : am_MH l yL_picket cL_picket 5 (some .int) [(0, 10, 13, 18)] 10 143 (fL_picket N) := av_methH hfl (by decide +kernel) rfl (vL_picket_0 l hfl N)
/-! plan(LMessengerBoard;II[J)I -/
noncomputable def kL_plan_0 (N : Nat) : am_K := c_live [0, 1, 2, 3] <|
  c_rld 3 <|
  c_i (0) <|
  c_rld 0 <|
  c_ild 1 <|
  c_ild 2 <|
  c_callH 10 2 (fX10_plan N) 4 (am_kh1 "java/util/NoSuchElementException" (
  c_i (1) <|
  c_iret)) <|
  c_il (fun x => x.toInt64) <|
  c_las <|
  c_i (0) <|
  c_iret
noncomputable def fL_plan (N : Nat) : am_F := am_fn 5 (kL_plan_0 N)
set_option maxRecDepth 20000 in
theorem vL_plan_0 (l : Launch) (hfl : l.stackTraces = false) (N : Nat)  : am_V l cL_plan 5 RL (am_EH (some .int) yL_plan.name [(0, 10, 13, 18)]) 10 143 0 (kL_plan_0 N) := by
  refine av_live ?_
  refine av_aload_n dL_plan_0 rfl ?_
  refine av_iconst (v := 0) dL_plan_1 (by decide) ?_
  refine av_aload_n dL_plan_2 rfl ?_
  refine av_iload_n dL_plan_3 rfl ?_
  refine av_iload_n dL_plan_4 rfl ?_
  refine av_callH1 (mX10_plan l hfl N) am_ci10 ⟨by decide +kernel, by decide +kernel, by decide +kernel⟩ q1046 q1047 q111 q1048 q1049 (by decide) (by decide) dL_plan_5 (by decide) (by decide) q990 q991 (Or.inl ⟨rfl, dL_plan_13⟩) (by decide) ?_ ?_
  · refine av_iconst (v := 1) dL_plan_15 (by decide) ?_
    exact av_ireturn am_hiH dL_plan_16
  refine av_i2l dL_plan_8 ?_
  refine av_lastore dL_plan_9 ?_
  refine av_goto (tgt := 17) dL_plan_10 (by decide) ?_
  refine av_iconst (v := 0) dL_plan_17 (by decide) ?_
  exact av_ireturn am_hiH dL_plan_18
theorem mL_plan (l : Launch) (hfl : l.stackTraces = false) (N : Nat) : am_MH l yL_plan cL_plan 5 (some .int) [(0, 10, 13, 18)] 10 143 (fL_plan N) := av_methH hfl (by decide +kernel) rfl (vL_plan_0 l hfl N)
/-! query(LMessengerBoard;I[J)I -/
noncomputable def kL_query_0 (N : Nat) : am_K := c_live [0, 1, 2] <|
  c_rld 2 <|
  c_i (0) <|
  c_rld 0 <|
  c_ild 1 <|
  c_callH 10 1 (fX10_query N) 3 (am_kh1 "java/lang/IllegalArgumentException" (
  c_i (1) <|
  c_iret)) <|
  c_il (fun x => x.toInt64) <|
  c_las <|
  c_i (0) <|
  c_iret
noncomputable def fL_query (N : Nat) : am_F := am_fn 4 (kL_query_0 N)
set_option maxRecDepth 20000 in
theorem vL_query_0 (l : Launch) (hfl : l.stackTraces = false) (N : Nat)  : am_V l cL_query 4 RL (am_EH (some .int) yL_query.name [(0, 9, 12, 13)]) 58 2870 0 (kL_query_0 N) := by
  refine av_live ?_
  refine av_aload_n dL_query_0 rfl ?_
  refine av_iconst (v := 0) dL_query_1 (by decide) ?_
  refine av_aload_n dL_query_2 rfl ?_
  refine av_iload_n dL_query_3 rfl ?_
  refine av_callH1 (mX10_query l hfl N) am_ci10 ⟨by decide +kernel, by decide +kernel, by decide +kernel⟩ q1050 q1051 q111 q1052 q1053 (by decide) (by decide) dL_query_4 (by decide) (by decide) q992 q993 (Or.inr ⟨rfl, 3, rfl, dL_query_12⟩) (by decide) ?_ ?_
  · refine av_iconst (v := 1) dL_query_13 (by decide) ?_
    exact av_ireturn am_hiH dL_query_14
  refine av_i2l dL_query_7 ?_
  refine av_lastore dL_query_8 ?_
  refine av_goto (tgt := 15) dL_query_9 (by decide) ?_
  refine av_iconst (v := 0) dL_query_15 (by decide) ?_
  exact av_ireturn am_hiH dL_query_16
theorem mL_query (l : Launch) (hfl : l.stackTraces = false) (N : Nat) : am_MH l yL_query cL_query 4 (some .int) [(0, 9, 12, 13)] 58 2870 (fL_query N) := av_methH hfl (by decide +kernel) rfl (vL_query_0 l hfl N)
/-! send(LMessengerBoard;III[J)I -/
noncomputable def kL_send_0 (N : Nat) : am_K := c_live [0, 1, 2, 3, 4] <|
  c_rld 4 <|
  c_i (0) <|
  c_rld 0 <|
  c_ild 1 <|
  c_ild 2 <|
  c_ild 3 <|
  c_callH 10 3 (fX10_send N) 5 (am_kh2 "java/util/NoSuchElementException" (
  c_i (1) <|
  c_iret) "java/lang/IllegalArgumentException" (
  c_i (2) <|
  c_iret)) <|
  c_il (fun x => x.toInt64) <|
  c_las <|
  c_i (0) <|
  c_iret
noncomputable def fL_send (N : Nat) : am_F := am_fn 6 (kL_send_0 N)
set_option maxRecDepth 20000 in
theorem vL_send_0 (l : Launch) (hfl : l.stackTraces = false) (N : Nat)  : am_V l cL_send 6 RL (am_EH (some .int) yL_send.name [(0, 12, 15, 18), (0, 12, 19, 13)]) 11 168 0 (kL_send_0 N) := by
  refine av_live ?_
  refine av_aload dL_send_0 ?_
  refine av_iconst (v := 0) dL_send_2 (by decide) ?_
  refine av_aload_n dL_send_3 rfl ?_
  refine av_iload_n dL_send_4 rfl ?_
  refine av_iload_n dL_send_5 rfl ?_
  refine av_iload_n dL_send_6 rfl ?_
  refine av_callH2 (mX10_send l hfl N) am_ci10 ⟨by decide +kernel, by decide +kernel, by decide +kernel⟩ q1054 q1055 q111 q1056 q1057 (by decide) (by decide) dL_send_7 (by decide) (by decide) (by decide) (by decide) q990 q991 q992 q993 (Or.inl ⟨rfl, dL_send_15⟩) (Or.inl ⟨rfl, dL_send_19⟩) (by decide) ?_ ?_ ?_
  · refine av_iconst (v := 1) dL_send_17 (by decide) ?_
    exact av_ireturn am_hiH dL_send_18
  · refine av_iconst (v := 2) dL_send_21 (by decide) ?_
    exact av_ireturn am_hiH dL_send_22
  refine av_i2l dL_send_10 ?_
  refine av_lastore dL_send_11 ?_
  refine av_goto (tgt := 23) dL_send_12 (by decide) ?_
  refine av_iconst (v := 0) dL_send_23 (by decide) ?_
  exact av_ireturn am_hiH dL_send_24
theorem mL_send (l : Launch) (hfl : l.stackTraces = false) (N : Nat) : am_MH l yL_send cL_send 6 (some .int) [(0, 12, 15, 18), (0, 12, 19, 13)] 11 168 (fL_send N) := av_methH hfl (by decide +kernel) rfl (vL_send_0 l hfl N)
/-! setPatience(LMessengerBoard;I[J)I -/
noncomputable def kL_setPatience_0 (N : Nat) : am_K := c_live [0, 1, 2] <|
  c_rld 2 <|
  c_i (0) <|
  c_rld 0 <|
  c_ild 1 <|
  c_callH 10 1 (fX10_setPatience N) 3 (am_kh1 "java/lang/IllegalArgumentException" (
  c_i (1) <|
  c_iret)) <|
  c_il (fun x => x.toInt64) <|
  c_las <|
  c_i (0) <|
  c_iret
noncomputable def fL_setPatience (N : Nat) : am_F := am_fn 4 (kL_setPatience_0 N)
set_option maxRecDepth 20000 in
theorem vL_setPatience_0 (l : Launch) (hfl : l.stackTraces = false) (N : Nat)  : am_V l cL_setPatience 4 RL (am_EH (some .int) yL_setPatience.name [(0, 9, 12, 13)]) 9 147 0 (kL_setPatience_0 N) := by
  refine av_live ?_
  refine av_aload_n dL_setPatience_0 rfl ?_
  refine av_iconst (v := 0) dL_setPatience_1 (by decide) ?_
  refine av_aload_n dL_setPatience_2 rfl ?_
  refine av_iload_n dL_setPatience_3 rfl ?_
  refine av_callH1 (mX10_setPatience l hfl N) am_ci10 ⟨by decide +kernel, by decide +kernel, by decide +kernel⟩ q1058 q1059 q111 q1060 q1061 (by decide) (by decide) dL_setPatience_4 (by decide) (by decide) q992 q993 (Or.inr ⟨rfl, 3, rfl, dL_setPatience_12⟩) (by decide) ?_ ?_
  · refine av_iconst (v := 1) dL_setPatience_13 (by decide) ?_
    exact av_ireturn am_hiH dL_setPatience_14
  refine av_i2l dL_setPatience_7 ?_
  refine av_lastore dL_setPatience_8 ?_
  refine av_goto (tgt := 15) dL_setPatience_9 (by decide) ?_
  refine av_iconst (v := 0) dL_setPatience_15 (by decide) ?_
  exact av_ireturn am_hiH dL_setPatience_16
theorem mL_setPatience (l : Launch) (hfl : l.stackTraces = false) (N : Nat) : am_MH l yL_setPatience cL_setPatience 4 (some .int) [(0, 9, 12, 13)] 9 147 (fL_setPatience N) := av_methH hfl (by decide +kernel) rfl (vL_setPatience_0 l hfl N)
/-! size(LMessengerBoard;I[J)I -/
noncomputable def kL_size_0 (N : Nat) : am_K := c_live [0, 1, 2] <|
  c_rld 2 <|
  c_i (0) <|
  c_rld 0 <|
  c_ild 1 <|
  c_callH 10 1 (fX10_size N) 3 (am_kh1 "java/util/NoSuchElementException" (
  c_i (1) <|
  c_iret)) <|
  c_il (fun x => x.toInt64) <|
  c_las <|
  c_i (0) <|
  c_iret
noncomputable def fL_size (N : Nat) : am_F := am_fn 4 (kL_size_0 N)
set_option maxRecDepth 20000 in
theorem vL_size_0 (l : Launch) (hfl : l.stackTraces = false) (N : Nat)  : am_V l cL_size 4 RL (am_EH (some .int) yL_size.name [(0, 9, 12, 18)]) 9 121 0 (kL_size_0 N) := by
  refine av_live ?_
  refine av_aload_n dL_size_0 rfl ?_
  refine av_iconst (v := 0) dL_size_1 (by decide) ?_
  refine av_aload_n dL_size_2 rfl ?_
  refine av_iload_n dL_size_3 rfl ?_
  refine av_callH1 (mX10_size l hfl N) am_ci10 ⟨by decide +kernel, by decide +kernel, by decide +kernel⟩ q1062 q1063 q111 q1064 q1065 (by decide) (by decide) dL_size_4 (by decide) (by decide) q990 q991 (Or.inr ⟨rfl, 3, rfl, dL_size_12⟩) (by decide) ?_ ?_
  · refine av_iconst (v := 1) dL_size_13 (by decide) ?_
    exact av_ireturn am_hiH dL_size_14
  refine av_i2l dL_size_7 ?_
  refine av_lastore dL_size_8 ?_
  refine av_goto (tgt := 15) dL_size_9 (by decide) ?_
  refine av_iconst (v := 0) dL_size_15 (by decide) ?_
  exact av_ireturn am_hiH dL_size_16
theorem mL_size (l : Launch) (hfl : l.stackTraces = false) (N : Nat) : am_MH l yL_size cL_size 4 (some .int) [(0, 9, 12, 18)] 9 121 (fL_size N) := av_methH hfl (by decide +kernel) rfl (vL_size_0 l hfl N)
/-! stateAt(LMessengerBoard;II[J)I -/
noncomputable def kL_stateAt_0 (N : Nat) : am_K := c_live [0, 1, 2, 3] <|
  c_rld 3 <|
  c_i (0) <|
  c_rld 0 <|
  c_ild 1 <|
  c_ild 2 <|
  c_callH 10 2 (fX10_stateAt N) 4 (am_kh2 "java/util/NoSuchElementException" (
  c_i (1) <|
  c_iret) "java/lang/IllegalArgumentException" (
  c_i (2) <|
  c_iret)) <|
  c_il (fun x => x.toInt64) <|
  c_las <|
  c_i (0) <|
  c_iret
noncomputable def fL_stateAt (N : Nat) : am_F := am_fn 5 (kL_stateAt_0 N)
set_option maxRecDepth 20000 in
theorem vL_stateAt_0 (l : Launch) (hfl : l.stackTraces = false) (N : Nat)  : am_V l cL_stateAt 5 RL (am_EH (some .int) yL_stateAt.name [(0, 10, 13, 18), (0, 10, 17, 13)]) 10 146 0 (kL_stateAt_0 N) := by
  refine av_live ?_
  refine av_aload_n dL_stateAt_0 rfl ?_
  refine av_iconst (v := 0) dL_stateAt_1 (by decide) ?_
  refine av_aload_n dL_stateAt_2 rfl ?_
  refine av_iload_n dL_stateAt_3 rfl ?_
  refine av_iload_n dL_stateAt_4 rfl ?_
  refine av_callH2 (mX10_stateAt l hfl N) am_ci10 ⟨by decide +kernel, by decide +kernel, by decide +kernel⟩ q1066 q1067 q111 q1068 q1069 (by decide) (by decide) dL_stateAt_5 (by decide) (by decide) (by decide) (by decide) q990 q991 q992 q993 (Or.inl ⟨rfl, dL_stateAt_13⟩) (Or.inl ⟨rfl, dL_stateAt_17⟩) (by decide) ?_ ?_ ?_
  · refine av_iconst (v := 1) dL_stateAt_15 (by decide) ?_
    exact av_ireturn am_hiH dL_stateAt_16
  · refine av_iconst (v := 2) dL_stateAt_19 (by decide) ?_
    exact av_ireturn am_hiH dL_stateAt_20
  refine av_i2l dL_stateAt_8 ?_
  refine av_lastore dL_stateAt_9 ?_
  refine av_goto (tgt := 21) dL_stateAt_10 (by decide) ?_
  refine av_iconst (v := 0) dL_stateAt_21 (by decide) ?_
  exact av_ireturn am_hiH dL_stateAt_22
theorem mL_stateAt (l : Launch) (hfl : l.stackTraces = false) (N : Nat) : am_MH l yL_stateAt cL_stateAt 5 (some .int) [(0, 10, 13, 18), (0, 10, 17, 13)] 10 146 (fL_stateAt N) := av_methH hfl (by decide +kernel) rfl (vL_stateAt_0 l hfl N)
/-! step(LMessengerBoard;IIII[J)I -/
noncomputable def kL_step_0 (N : Nat) : am_K := c_live [0, 1, 2, 3, 4, 5] <|
  c_rld 5 <|
  c_i (0) <|
  c_rld 0 <|
  c_ild 1 <|
  c_ild 2 <|
  c_ild 3 <|
  c_ild 4 <|
  c_callH 10 4 (fX10_step N) 6 (am_kh1 "java/util/NoSuchElementException" (
  c_i (1) <|
  c_iret)) <|
  c_il (fun x => x.toInt64) <|
  c_las <|
  c_i (0) <|
  c_iret
noncomputable def fL_step (N : Nat) : am_F := am_fn 7 (kL_step_0 N)
set_option maxRecDepth 20000 in
theorem vL_step_0 (l : Launch) (hfl : l.stackTraces = false) (N : Nat)  : am_V l cL_step 7 RL (am_EH (some .int) yL_step.name [(0, 14, 17, 18)]) 10 164 0 (kL_step_0 N) := by
  refine av_live ?_
  refine av_aload dL_step_0 ?_
  refine av_iconst (v := 0) dL_step_2 (by decide) ?_
  refine av_aload_n dL_step_3 rfl ?_
  refine av_iload_n dL_step_4 rfl ?_
  refine av_iload_n dL_step_5 rfl ?_
  refine av_iload_n dL_step_6 rfl ?_
  refine av_iload dL_step_7 ?_
  refine av_callH1 (mX10_step l hfl N) am_ci10 ⟨by decide +kernel, by decide +kernel, by decide +kernel⟩ q1070 q1071 q111 q1072 q1073 (by decide) (by decide) dL_step_9 (by decide) (by decide) q990 q991 (Or.inl ⟨rfl, dL_step_17⟩) (by decide) ?_ ?_
  · refine av_iconst (v := 1) dL_step_19 (by decide) ?_
    exact av_ireturn am_hiH dL_step_20
  refine av_i2l dL_step_12 ?_
  refine av_lastore dL_step_13 ?_
  refine av_goto (tgt := 21) dL_step_14 (by decide) ?_
  refine av_iconst (v := 0) dL_step_21 (by decide) ?_
  exact av_ireturn am_hiH dL_step_22
theorem mL_step (l : Launch) (hfl : l.stackTraces = false) (N : Nat) : am_MH l yL_step cL_step 7 (some .int) [(0, 14, 17, 18)] 10 164 (fL_step N) := av_methH hfl (by decide +kernel) rfl (vL_step_0 l hfl N)
/-! unit(LMessengerBoard;II[J)I -/
noncomputable def kL_unit_0 (N : Nat) : am_K := c_live [0, 1, 2, 3] <|
  c_rld 3 <|
  c_i (0) <|
  c_rld 0 <|
  c_ild 1 <|
  c_ild 2 <|
  c_callH 10 2 (fX10_unit N) 4 (am_kh1 "java/util/NoSuchElementException" (
  c_i (1) <|
  c_iret)) <|
  c_il (fun x => x.toInt64) <|
  c_las <|
  c_i (0) <|
  c_iret
noncomputable def fL_unit (N : Nat) : am_F := am_fn 5 (kL_unit_0 N)
set_option maxRecDepth 20000 in
theorem vL_unit_0 (l : Launch) (hfl : l.stackTraces = false) (N : Nat)  : am_V l cL_unit 5 RL (am_EH (some .int) yL_unit.name [(0, 10, 13, 18)]) 10 143 0 (kL_unit_0 N) := by
  refine av_live ?_
  refine av_aload_n dL_unit_0 rfl ?_
  refine av_iconst (v := 0) dL_unit_1 (by decide) ?_
  refine av_aload_n dL_unit_2 rfl ?_
  refine av_iload_n dL_unit_3 rfl ?_
  refine av_iload_n dL_unit_4 rfl ?_
  refine av_callH1 (mX10_unit l hfl N) am_ci10 ⟨by decide +kernel, by decide +kernel, by decide +kernel⟩ q1074 q1075 q111 q1076 q1077 (by decide) (by decide) dL_unit_5 (by decide) (by decide) q990 q991 (Or.inl ⟨rfl, dL_unit_13⟩) (by decide) ?_ ?_
  · refine av_iconst (v := 1) dL_unit_15 (by decide) ?_
    exact av_ireturn am_hiH dL_unit_16
  refine av_i2l dL_unit_8 ?_
  refine av_lastore dL_unit_9 ?_
  refine av_goto (tgt := 17) dL_unit_10 (by decide) ?_
  refine av_iconst (v := 0) dL_unit_17 (by decide) ?_
  exact av_ireturn am_hiH dL_unit_18
theorem mL_unit (l : Launch) (hfl : l.stackTraces = false) (N : Nat) : am_MH l yL_unit cL_unit 5 (some .int) [(0, 10, 13, 18)] 10 143 (fL_unit N) := av_methH hfl (by decide +kernel) rfl (vL_unit_0 l hfl N)
/-! wall(LMessengerBoard;II[J)I -/
noncomputable def kL_wall_0 (N : Nat) : am_K := c_live [0, 1, 2, 3] <|
  c_rld 3 <|
  c_i (0) <|
  c_rld 0 <|
  c_ild 1 <|
  c_ild 2 <|
  c_callH 10 2 (fX10_wall N) 4 (am_kh1 "java/util/NoSuchElementException" (
  c_i (1) <|
  c_iret)) <|
  c_il (fun x => x.toInt64) <|
  c_las <|
  c_i (0) <|
  c_iret
noncomputable def fL_wall (N : Nat) : am_F := am_fn 5 (kL_wall_0 N)
set_option maxRecDepth 20000 in
theorem vL_wall_0 (l : Launch) (hfl : l.stackTraces = false) (N : Nat)  : am_V l cL_wall 5 RL (am_EH (some .int) yL_wall.name [(0, 10, 13, 18)]) 10 147 0 (kL_wall_0 N) := by
  refine av_live ?_
  refine av_aload_n dL_wall_0 rfl ?_
  refine av_iconst (v := 0) dL_wall_1 (by decide) ?_
  refine av_aload_n dL_wall_2 rfl ?_
  refine av_iload_n dL_wall_3 rfl ?_
  refine av_iload_n dL_wall_4 rfl ?_
  refine av_callH1 (mX10_wall l hfl N) am_ci10 ⟨by decide +kernel, by decide +kernel, by decide +kernel⟩ q1078 q1079 q111 q1080 q1081 (by decide) (by decide) dL_wall_5 (by decide) (by decide) q990 q991 (Or.inl ⟨rfl, dL_wall_13⟩) (by decide) ?_ ?_
  · refine av_iconst (v := 1) dL_wall_15 (by decide) ?_
    exact av_ireturn am_hiH dL_wall_16
  refine av_i2l dL_wall_8 ?_
  refine av_lastore dL_wall_9 ?_
  refine av_goto (tgt := 17) dL_wall_10 (by decide) ?_
  refine av_iconst (v := 0) dL_wall_17 (by decide) ?_
  exact av_ireturn am_hiH dL_wall_18
theorem mL_wall (l : Launch) (hfl : l.stackTraces = false) (N : Nat) : am_MH l yL_wall cL_wall 5 (some .int) [(0, 10, 13, 18)] 10 147 (fL_wall N) := av_methH hfl (by decide +kernel) rfl (vL_wall_0 l hfl N)
/-! wasAt(LMessengerBoard;II[J)I -/
noncomputable def kL_wasAt_0 (N : Nat) : am_K := c_live [0, 1, 2, 3] <|
  c_rld 3 <|
  c_i (0) <|
  c_rld 0 <|
  c_ild 1 <|
  c_ild 2 <|
  c_callH 10 2 (fX10_wasAt N) 4 (am_kh2 "java/util/NoSuchElementException" (
  c_i (1) <|
  c_iret) "java/lang/IllegalArgumentException" (
  c_i (2) <|
  c_iret)) <|
  c_il (fun x => x.toInt64) <|
  c_las <|
  c_i (0) <|
  c_iret
noncomputable def fL_wasAt (N : Nat) : am_F := am_fn 5 (kL_wasAt_0 N)
set_option maxRecDepth 20000 in
theorem vL_wasAt_0 (l : Launch) (hfl : l.stackTraces = false) (N : Nat)  : am_V l cL_wasAt 5 RL (am_EH (some .int) yL_wasAt.name [(0, 10, 13, 18), (0, 10, 17, 13)]) 10 143 0 (kL_wasAt_0 N) := by
  refine av_live ?_
  refine av_aload_n dL_wasAt_0 rfl ?_
  refine av_iconst (v := 0) dL_wasAt_1 (by decide) ?_
  refine av_aload_n dL_wasAt_2 rfl ?_
  refine av_iload_n dL_wasAt_3 rfl ?_
  refine av_iload_n dL_wasAt_4 rfl ?_
  refine av_callH2 (mX10_wasAt l hfl N) am_ci10 ⟨by decide +kernel, by decide +kernel, by decide +kernel⟩ q1082 q1083 q111 q1084 q1085 (by decide) (by decide) dL_wasAt_5 (by decide) (by decide) (by decide) (by decide) q990 q991 q992 q993 (Or.inl ⟨rfl, dL_wasAt_13⟩) (Or.inl ⟨rfl, dL_wasAt_17⟩) (by decide) ?_ ?_ ?_
  · refine av_iconst (v := 1) dL_wasAt_15 (by decide) ?_
    exact av_ireturn am_hiH dL_wasAt_16
  · refine av_iconst (v := 2) dL_wasAt_19 (by decide) ?_
    exact av_ireturn am_hiH dL_wasAt_20
  refine av_i2l dL_wasAt_8 ?_
  refine av_lastore dL_wasAt_9 ?_
  refine av_goto (tgt := 21) dL_wasAt_10 (by decide) ?_
  refine av_iconst (v := 0) dL_wasAt_21 (by decide) ?_
  exact av_ireturn am_hiH dL_wasAt_22
theorem mL_wasAt (l : Launch) (hfl : l.stackTraces = false) (N : Nat) : am_MH l yL_wasAt cL_wasAt 5 (some .int) [(0, 10, 13, 18), (0, 10, 17, 13)] 10 143 (fL_wasAt N) := av_methH hfl (by decide +kernel) rfl (vL_wasAt_0 l hfl N)
/-! wouldArrive(LMessengerBoard;III[J)I -/
noncomputable def kL_wouldArrive_0 (N : Nat) : am_K := c_live [0, 1, 2, 3, 4] <|
  c_rld 4 <|
  c_i (0) <|
  c_rld 0 <|
  c_ild 1 <|
  c_ild 2 <|
  c_ild 3 <|
  c_callH 10 3 (fX10_wouldArrive N) 5 (am_kh2 "java/util/NoSuchElementException" (
  c_i (1) <|
  c_iret) "java/lang/IllegalArgumentException" (
  c_i (2) <|
  c_iret)) <|
  c_il (fun x => x.toInt64) <|
  c_las <|
  c_i (0) <|
  c_iret
noncomputable def fL_wouldArrive (N : Nat) : am_F := am_fn 6 (kL_wouldArrive_0 N)
set_option maxRecDepth 20000 in
theorem vL_wouldArrive_0 (l : Launch) (hfl : l.stackTraces = false) (N : Nat)  : am_V l cL_wouldArrive 6 RL (am_EH (some .int) yL_wouldArrive.name [(0, 12, 15, 18), (0, 12, 19, 13)]) 11 241 0 (kL_wouldArrive_0 N) := by
  refine av_live ?_
  refine av_aload dL_wouldArrive_0 ?_
  refine av_iconst (v := 0) dL_wouldArrive_2 (by decide) ?_
  refine av_aload_n dL_wouldArrive_3 rfl ?_
  refine av_iload_n dL_wouldArrive_4 rfl ?_
  refine av_iload_n dL_wouldArrive_5 rfl ?_
  refine av_iload_n dL_wouldArrive_6 rfl ?_
  refine av_callH2 (mX10_wouldArrive l hfl N) am_ci10 ⟨by decide +kernel, by decide +kernel, by decide +kernel⟩ q1086 q1087 q111 q1088 q1089 (by decide) (by decide) dL_wouldArrive_7 (by decide) (by decide) (by decide) (by decide) q990 q991 q992 q993 (Or.inl ⟨rfl, dL_wouldArrive_15⟩) (Or.inl ⟨rfl, dL_wouldArrive_19⟩) (by decide) ?_ ?_ ?_
  · refine av_iconst (v := 1) dL_wouldArrive_17 (by decide) ?_
    exact av_ireturn am_hiH dL_wouldArrive_18
  · refine av_iconst (v := 2) dL_wouldArrive_21 (by decide) ?_
    exact av_ireturn am_hiH dL_wouldArrive_22
  refine av_i2l dL_wouldArrive_10 ?_
  refine av_lastore dL_wouldArrive_11 ?_
  refine av_goto (tgt := 23) dL_wouldArrive_12 (by decide) ?_
  refine av_iconst (v := 0) dL_wouldArrive_23 (by decide) ?_
  exact av_ireturn am_hiH dL_wouldArrive_24
theorem mL_wouldArrive (l : Launch) (hfl : l.stackTraces = false) (N : Nat) : am_MH l yL_wouldArrive cL_wouldArrive 6 (some .int) [(0, 12, 15, 18), (0, 12, 19, 13)] 11 241 (fL_wouldArrive N) := av_methH hfl (by decide +kernel) rfl (vL_wouldArrive_0 l hfl N)
/-! wouldBe(LMessengerBoard;IIII[J)I -/
noncomputable def kL_wouldBe_0 (N : Nat) : am_K := c_live [0, 1, 2, 3, 4, 5] <|
  c_rld 5 <|
  c_i (0) <|
  c_rld 0 <|
  c_ild 1 <|
  c_ild 2 <|
  c_ild 3 <|
  c_ild 4 <|
  c_callH 10 4 (fX10_wouldBe N) 6 (am_kh2 "java/util/NoSuchElementException" (
  c_i (1) <|
  c_iret) "java/lang/IllegalArgumentException" (
  c_i (2) <|
  c_iret)) <|
  c_il (fun x => x.toInt64) <|
  c_las <|
  c_i (0) <|
  c_iret
noncomputable def fL_wouldBe (N : Nat) : am_F := am_fn 7 (kL_wouldBe_0 N)
set_option maxRecDepth 20000 in
theorem vL_wouldBe_0 (l : Launch) (hfl : l.stackTraces = false) (N : Nat)  : am_V l cL_wouldBe 7 RL (am_EH (some .int) yL_wouldBe.name [(0, 14, 17, 18), (0, 14, 21, 13)]) 11 218 0 (kL_wouldBe_0 N) := by
  refine av_live ?_
  refine av_aload dL_wouldBe_0 ?_
  refine av_iconst (v := 0) dL_wouldBe_2 (by decide) ?_
  refine av_aload_n dL_wouldBe_3 rfl ?_
  refine av_iload_n dL_wouldBe_4 rfl ?_
  refine av_iload_n dL_wouldBe_5 rfl ?_
  refine av_iload_n dL_wouldBe_6 rfl ?_
  refine av_iload dL_wouldBe_7 ?_
  refine av_callH2 (mX10_wouldBe l hfl N) am_ci10 ⟨by decide +kernel, by decide +kernel, by decide +kernel⟩ q1090 q1091 q111 q1092 q1093 (by decide) (by decide) dL_wouldBe_9 (by decide) (by decide) (by decide) (by decide) q990 q991 q992 q993 (Or.inl ⟨rfl, dL_wouldBe_17⟩) (Or.inl ⟨rfl, dL_wouldBe_21⟩) (by decide) ?_ ?_ ?_
  · refine av_iconst (v := 1) dL_wouldBe_19 (by decide) ?_
    exact av_ireturn am_hiH dL_wouldBe_20
  · refine av_iconst (v := 2) dL_wouldBe_23 (by decide) ?_
    exact av_ireturn am_hiH dL_wouldBe_24
  refine av_i2l dL_wouldBe_12 ?_
  refine av_lastore dL_wouldBe_13 ?_
  refine av_goto (tgt := 25) dL_wouldBe_14 (by decide) ?_
  refine av_iconst (v := 0) dL_wouldBe_25 (by decide) ?_
  exact av_ireturn am_hiH dL_wouldBe_26
theorem mL_wouldBe (l : Launch) (hfl : l.stackTraces = false) (N : Nat) : am_MH l yL_wouldBe cL_wouldBe 7 (some .int) [(0, 14, 17, 18), (0, 14, 21, 13)] 11 218 (fL_wouldBe N) := av_methH hfl (by decide +kernel) rfl (vL_wouldBe_0 l hfl N)
