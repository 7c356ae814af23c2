/-! THE LAW: its cases -/
noncomputable def bLc_0 (L : Nat) (sc : Nat → Int32) (r23 : am_K) : am_K :=
  c_rld 1 <|
  c_rld 0 <|
  c_ild 4 <|
  c_i (1) <|
  c_ii (fun x y => x + y) <|
  c_sld L sc <|
  c_rld 0 <|
  c_ild 4 <|
  c_i (2) <|
  c_ii (fun x y => x + y) <|
  c_sld L sc <|
  c_rld 0 <|
  c_ild 4 <|
  c_i (3) <|
  c_ii (fun x y => x + y) <|
  c_sld L sc <|
  c_rld 0 <|
  c_ild 4 <|
  c_i (4) <|
  c_ii (fun x y => x + y) <|
  c_sld L sc <|
  c_rld 0 <|
  c_ild 4 <|
  c_i (5) <|
  c_ii (fun x y => x + y) <|
  c_sld L sc <|
  c_callR 10 5 (fX10_feed w_N) <|
  c_rld 2 <|
  c_rld 0 <|
  c_ild 4 <|
  c_i (1) <|
  c_ii (fun x y => x + y) <|
  c_sld L sc <|
  c_rld 0 <|
  c_ild 4 <|
  c_i (2) <|
  c_ii (fun x y => x + y) <|
  c_sld L sc <|
  c_rld 0 <|
  c_ild 4 <|
  c_i (3) <|
  c_ii (fun x y => x + y) <|
  c_sld L sc <|
  c_rld 0 <|
  c_ild 4 <|
  c_i (4) <|
  c_ii (fun x y => x + y) <|
  c_sld L sc <|
  c_rld 0 <|
  c_ild 4 <|
  c_i (5) <|
  c_ii (fun x y => x + y) <|
  c_sld L sc <|
  c_callR 11 5 (fX11_feed w_N) <|
  c_iceq (
  kL_law_2276 w_N L sc r23) <|
  c_i (0) <|
  c_zret
noncomputable def bLc_1 (L : Nat) (sc : Nat → Int32) (r23 : am_K) : am_K :=
  c_rld 1 <|
  c_rld 0 <|
  c_ild 4 <|
  c_i (1) <|
  c_ii (fun x y => x + y) <|
  c_sld L sc <|
  c_rld 3 <|
  c_callSN 3 (fL_load w_N) <|
  c_ist 5 <|
  c_rld 2 <|
  c_rld 0 <|
  c_ild 4 <|
  c_i (1) <|
  c_ii (fun x y => x + y) <|
  c_sld L sc <|
  c_callR 11 1 (fX11_load w_N) <|
  c_ist 6 <|
  c_rld 2 <|
  c_callR 11 0 (fX11_thrown w_N) <|
  c_ild 5 <|
  c_iceq (
  c_ild 5 <|
  c_ifne (
  kL_law_326 w_N L sc r23) <|
  c_rld 3 <|
  c_i (0) <|
  c_lal <|
  c_ild 6 <|
  c_il (fun x => x.toInt64) <|
  c_cmp (fun x y => lg_cmp x y) <|
  c_ifeq (
  kL_law_326 w_N L sc r23) <|
  c_i (0) <|
  c_zret) <|
  c_i (0) <|
  c_zret
noncomputable def bLc_2 (L : Nat) (sc : Nat → Int32) (r23 : am_K) : am_K :=
  c_rld 1 <|
  c_callR 10 0 (fX10_errorPosition w_N) <|
  c_rld 2 <|
  c_callR 11 0 (fX11_errorPosition w_N) <|
  c_iceq (
  kL_law_2276 w_N L sc r23) <|
  c_i (0) <|
  c_zret
noncomputable def bLc_3 (L : Nat) (sc : Nat → Int32) (r23 : am_K) : am_K :=
  c_rld 1 <|
  c_rld 0 <|
  c_ild 4 <|
  c_i (1) <|
  c_ii (fun x y => x + y) <|
  c_sld L sc <|
  c_rld 3 <|
  c_callSN 3 (fL_size w_N) <|
  c_ist 5 <|
  c_rld 2 <|
  c_rld 0 <|
  c_ild 4 <|
  c_i (1) <|
  c_ii (fun x y => x + y) <|
  c_sld L sc <|
  c_callR 11 1 (fX11_size w_N) <|
  c_ist 6 <|
  c_rld 2 <|
  c_callR 11 0 (fX11_thrown w_N) <|
  c_ild 5 <|
  c_iceq (
  c_ild 5 <|
  c_ifne (
  kL_law_395 w_N L sc r23) <|
  c_rld 3 <|
  c_i (0) <|
  c_lal <|
  c_ild 6 <|
  c_il (fun x => x.toInt64) <|
  c_cmp (fun x y => lg_cmp x y) <|
  c_ifeq (
  kL_law_395 w_N L sc r23) <|
  c_i (0) <|
  c_zret) <|
  c_i (0) <|
  c_zret
noncomputable def bLc_4 (L : Nat) (sc : Nat → Int32) (r23 : am_K) : am_K :=
  c_rld 1 <|
  c_rld 0 <|
  c_ild 4 <|
  c_i (1) <|
  c_ii (fun x y => x + y) <|
  c_sld L sc <|
  c_rld 0 <|
  c_ild 4 <|
  c_i (2) <|
  c_ii (fun x y => x + y) <|
  c_sld L sc <|
  c_rld 3 <|
  c_callSN 4 (fL_unit w_N) <|
  c_ist 5 <|
  c_rld 2 <|
  c_rld 0 <|
  c_ild 4 <|
  c_i (1) <|
  c_ii (fun x y => x + y) <|
  c_sld L sc <|
  c_rld 0 <|
  c_ild 4 <|
  c_i (2) <|
  c_ii (fun x y => x + y) <|
  c_sld L sc <|
  c_callR 11 2 (fX11_unit w_N) <|
  c_ist 6 <|
  c_rld 2 <|
  c_callR 11 0 (fX11_thrown w_N) <|
  c_ild 5 <|
  c_iceq (
  c_ild 5 <|
  c_ifne (
  kL_law_463 w_N L sc r23) <|
  c_rld 3 <|
  c_i (0) <|
  c_lal <|
  c_ild 6 <|
  c_il (fun x => x.toInt64) <|
  c_cmp (fun x y => lg_cmp x y) <|
  c_ifeq (
  kL_law_463 w_N L sc r23) <|
  c_i (0) <|
  c_zret) <|
  c_i (0) <|
  c_zret
noncomputable def bLc_5 (L : Nat) (sc : Nat → Int32) (r23 : am_K) : am_K :=
  c_rld 1 <|
  c_rld 0 <|
  c_ild 4 <|
  c_i (1) <|
  c_ii (fun x y => x + y) <|
  c_sld L sc <|
  c_rld 0 <|
  c_ild 4 <|
  c_i (2) <|
  c_ii (fun x y => x + y) <|
  c_sld L sc <|
  c_rld 3 <|
  c_callSN 4 (fL_picket w_N) <|
  c_ist 5 <|
  c_rld 2 <|
  c_rld 0 <|
  c_ild 4 <|
  c_i (1) <|
  c_ii (fun x y => x + y) <|
  c_sld L sc <|
  c_rld 0 <|
  c_ild 4 <|
  c_i (2) <|
  c_ii (fun x y => x + y) <|
  c_sld L sc <|
  c_callR 11 2 (fX11_picket w_N) <|
  c_ist 6 <|
  c_rld 2 <|
  c_callR 11 0 (fX11_thrown w_N) <|
  c_ild 5 <|
  c_iceq (
  c_ild 5 <|
  c_ifne (
  kL_law_531 w_N L sc r23) <|
  c_rld 3 <|
  c_i (0) <|
  c_lal <|
  c_ild 6 <|
  c_il (fun x => x.toInt64) <|
  c_cmp (fun x y => lg_cmp x y) <|
  c_ifeq (
  kL_law_531 w_N L sc r23) <|
  c_i (0) <|
  c_zret) <|
  c_i (0) <|
  c_zret
noncomputable def bLc_6 (L : Nat) (sc : Nat → Int32) (r23 : am_K) : am_K :=
  c_rld 1 <|
  c_rld 0 <|
  c_ild 4 <|
  c_i (1) <|
  c_ii (fun x y => x + y) <|
  c_sld L sc <|
  c_rld 0 <|
  c_ild 4 <|
  c_i (2) <|
  c_ii (fun x y => x + y) <|
  c_sld L sc <|
  c_rld 3 <|
  c_callSN 4 (fL_order w_N) <|
  c_ist 5 <|
  c_rld 2 <|
  c_rld 0 <|
  c_ild 4 <|
  c_i (1) <|
  c_ii (fun x y => x + y) <|
  c_sld L sc <|
  c_rld 0 <|
  c_ild 4 <|
  c_i (2) <|
  c_ii (fun x y => x + y) <|
  c_sld L sc <|
  c_callR 11 2 (fX11_order w_N) <|
  c_ist 6 <|
  c_rld 2 <|
  c_callR 11 0 (fX11_thrown w_N) <|
  c_ild 5 <|
  c_iceq (
  c_ild 5 <|
  c_ifne (
  kL_law_599 w_N L sc r23) <|
  c_rld 3 <|
  c_i (0) <|
  c_lal <|
  c_ild 6 <|
  c_il (fun x => x.toInt64) <|
  c_cmp (fun x y => lg_cmp x y) <|
  c_ifeq (
  kL_law_599 w_N L sc r23) <|
  c_i (0) <|
  c_zret) <|
  c_i (0) <|
  c_zret
noncomputable def bLc_7 (L : Nat) (sc : Nat → Int32) (r23 : am_K) : am_K :=
  c_rld 1 <|
  c_rld 0 <|
  c_ild 4 <|
  c_i (1) <|
  c_ii (fun x y => x + y) <|
  c_sld L sc <|
  c_rld 0 <|
  c_ild 4 <|
  c_i (2) <|
  c_ii (fun x y => x + y) <|
  c_sld L sc <|
  c_rld 3 <|
  c_callSN 4 (fL_plan w_N) <|
  c_ist 5 <|
  c_rld 2 <|
  c_rld 0 <|
  c_ild 4 <|
  c_i (1) <|
  c_ii (fun x y => x + y) <|
  c_sld L sc <|
  c_rld 0 <|
  c_ild 4 <|
  c_i (2) <|
  c_ii (fun x y => x + y) <|
  c_sld L sc <|
  c_callR 11 2 (fX11_plan w_N) <|
  c_ist 6 <|
  c_rld 2 <|
  c_callR 11 0 (fX11_thrown w_N) <|
  c_ild 5 <|
  c_iceq (
  c_ild 5 <|
  c_ifne (
  kL_law_667 w_N L sc r23) <|
  c_rld 3 <|
  c_i (0) <|
  c_lal <|
  c_ild 6 <|
  c_il (fun x => x.toInt64) <|
  c_cmp (fun x y => lg_cmp x y) <|
  c_ifeq (
  kL_law_667 w_N L sc r23) <|
  c_i (0) <|
  c_zret) <|
  c_i (0) <|
  c_zret
noncomputable def bLc_8 (L : Nat) (sc : Nat → Int32) (r23 : am_K) : am_K :=
  c_rld 1 <|
  c_rld 0 <|
  c_ild 4 <|
  c_i (1) <|
  c_ii (fun x y => x + y) <|
  c_sld L sc <|
  c_rld 0 <|
  c_ild 4 <|
  c_i (2) <|
  c_ii (fun x y => x + y) <|
  c_sld L sc <|
  c_rld 3 <|
  c_callSN 4 (fL_event w_N) <|
  c_ist 5 <|
  c_rld 2 <|
  c_rld 0 <|
  c_ild 4 <|
  c_i (1) <|
  c_ii (fun x y => x + y) <|
  c_sld L sc <|
  c_rld 0 <|
  c_ild 4 <|
  c_i (2) <|
  c_ii (fun x y => x + y) <|
  c_sld L sc <|
  c_callR 11 2 (fX11_event w_N) <|
  c_ist 6 <|
  c_rld 2 <|
  c_callR 11 0 (fX11_thrown w_N) <|
  c_ild 5 <|
  c_iceq (
  c_ild 5 <|
  c_ifne (
  kL_law_735 w_N L sc r23) <|
  c_rld 3 <|
  c_i (0) <|
  c_lal <|
  c_ild 6 <|
  c_il (fun x => x.toInt64) <|
  c_cmp (fun x y => lg_cmp x y) <|
  c_ifeq (
  kL_law_735 w_N L sc r23) <|
  c_i (0) <|
  c_zret) <|
  c_i (0) <|
  c_zret
noncomputable def bLc_9 (L : Nat) (sc : Nat → Int32) (r23 : am_K) : am_K :=
  c_rld 1 <|
  c_rld 0 <|
  c_ild 4 <|
  c_i (1) <|
  c_ii (fun x y => x + y) <|
  c_sld L sc <|
  c_rld 3 <|
  c_callSN 3 (fL_orders w_N) <|
  c_ist 5 <|
  c_rld 2 <|
  c_rld 0 <|
  c_ild 4 <|
  c_i (1) <|
  c_ii (fun x y => x + y) <|
  c_sld L sc <|
  c_callR 11 1 (fX11_orders w_N) <|
  c_ist 6 <|
  c_rld 2 <|
  c_callR 11 0 (fX11_thrown w_N) <|
  c_ild 5 <|
  c_iceq (
  c_ild 5 <|
  c_ifne (
  kL_law_791 w_N L sc r23) <|
  c_rld 3 <|
  c_i (0) <|
  c_lal <|
  c_ild 6 <|
  c_il (fun x => x.toInt64) <|
  c_cmp (fun x y => lg_cmp x y) <|
  c_ifeq (
  kL_law_791 w_N L sc r23) <|
  c_i (0) <|
  c_zret) <|
  c_i (0) <|
  c_zret
noncomputable def bLc_10 (L : Nat) (sc : Nat → Int32) (r23 : am_K) : am_K :=
  c_rld 1 <|
  c_rld 0 <|
  c_ild 4 <|
  c_i (1) <|
  c_ii (fun x y => x + y) <|
  c_sld L sc <|
  c_rld 0 <|
  c_ild 4 <|
  c_i (2) <|
  c_ii (fun x y => x + y) <|
  c_sld L sc <|
  c_rld 3 <|
  c_callSN 4 (fL_isWall w_N) <|
  c_ist 5 <|
  c_rld 2 <|
  c_rld 0 <|
  c_ild 4 <|
  c_i (1) <|
  c_ii (fun x y => x + y) <|
  c_sld L sc <|
  c_rld 0 <|
  c_ild 4 <|
  c_i (2) <|
  c_ii (fun x y => x + y) <|
  c_sld L sc <|
  c_callR 11 2 (fX11_isWall w_N) <|
  c_ist 6 <|
  c_rld 2 <|
  c_callR 11 0 (fX11_thrown w_N) <|
  c_ild 5 <|
  c_iceq (
  c_ild 5 <|
  c_ifne (
  kL_law_866 w_N L sc r23) <|
  c_rld 3 <|
  c_i (0) <|
  c_lal <|
  c_ild 6 <|
  c_ifeq (
  c_l 0 <|
  kL_law_860 w_N L sc r23) <|
  c_l 1 <|
  kL_law_860 w_N L sc r23) <|
  c_i (0) <|
  c_zret
noncomputable def bLc_11 (L : Nat) (sc : Nat → Int32) (r23 : am_K) : am_K :=
  c_rld 1 <|
  c_rld 0 <|
  c_ild 4 <|
  c_i (1) <|
  c_ii (fun x y => x + y) <|
  c_sld L sc <|
  c_rld 0 <|
  c_ild 4 <|
  c_i (2) <|
  c_ii (fun x y => x + y) <|
  c_sld L sc <|
  c_rld 0 <|
  c_ild 4 <|
  c_i (3) <|
  c_ii (fun x y => x + y) <|
  c_sld L sc <|
  c_rld 3 <|
  c_callSN 5 (fL_isWatched w_N) <|
  c_ist 5 <|
  c_rld 2 <|
  c_rld 0 <|
  c_ild 4 <|
  c_i (1) <|
  c_ii (fun x y => x + y) <|
  c_sld L sc <|
  c_rld 0 <|
  c_ild 4 <|
  c_i (2) <|
  c_ii (fun x y => x + y) <|
  c_sld L sc <|
  c_rld 0 <|
  c_ild 4 <|
  c_i (3) <|
  c_ii (fun x y => x + y) <|
  c_sld L sc <|
  c_callR 11 3 (fX11_isWatched w_N) <|
  c_ist 6 <|
  c_rld 2 <|
  c_callR 11 0 (fX11_thrown w_N) <|
  c_ild 5 <|
  c_iceq (
  c_ild 5 <|
  c_ifne (
  kL_law_953 w_N L sc r23) <|
  c_rld 3 <|
  c_i (0) <|
  c_lal <|
  c_ild 6 <|
  c_ifeq (
  c_l 0 <|
  kL_law_947 w_N L sc r23) <|
  c_l 1 <|
  kL_law_947 w_N L sc r23) <|
  c_i (0) <|
  c_zret
noncomputable def bLc_12 (L : Nat) (sc : Nat → Int32) (r23 : am_K) : am_K :=
  c_rld 1 <|
  c_rld 0 <|
  c_ild 4 <|
  c_i (1) <|
  c_ii (fun x y => x + y) <|
  c_sld L sc <|
  c_rld 0 <|
  c_ild 4 <|
  c_i (2) <|
  c_ii (fun x y => x + y) <|
  c_sld L sc <|
  c_rld 0 <|
  c_ild 4 <|
  c_i (3) <|
  c_ii (fun x y => x + y) <|
  c_sld L sc <|
  c_rld 0 <|
  c_ild 4 <|
  c_i (4) <|
  c_ii (fun x y => x + y) <|
  c_sld L sc <|
  c_rld 3 <|
  c_callSN 6 (fL_distance w_N) <|
  c_ist 5 <|
  c_rld 2 <|
  c_rld 0 <|
  c_ild 4 <|
  c_i (1) <|
  c_ii (fun x y => x + y) <|
  c_sld L sc <|
  c_rld 0 <|
  c_ild 4 <|
  c_i (2) <|
  c_ii (fun x y => x + y) <|
  c_sld L sc <|
  c_rld 0 <|
  c_ild 4 <|
  c_i (3) <|
  c_ii (fun x y => x + y) <|
  c_sld L sc <|
  c_rld 0 <|
  c_ild 4 <|
  c_i (4) <|
  c_ii (fun x y => x + y) <|
  c_sld L sc <|
  c_callR 11 4 (fX11_distance w_N) <|
  c_ist 6 <|
  c_rld 2 <|
  c_callR 11 0 (fX11_thrown w_N) <|
  c_ild 5 <|
  c_iceq (
  c_ild 5 <|
  c_ifne (
  kL_law_1045 w_N L sc r23) <|
  c_rld 3 <|
  c_i (0) <|
  c_lal <|
  c_ild 6 <|
  c_il (fun x => x.toInt64) <|
  c_cmp (fun x y => lg_cmp x y) <|
  c_ifeq (
  kL_law_1045 w_N L sc r23) <|
  c_i (0) <|
  c_zret) <|
  c_i (0) <|
  c_zret
noncomputable def bLc_13 (L : Nat) (sc : Nat → Int32) (r23 : am_K) : am_K :=
  c_rld 1 <|
  c_rld 0 <|
  c_ild 4 <|
  c_i (1) <|
  c_ii (fun x y => x + y) <|
  c_sld L sc <|
  c_rld 0 <|
  c_ild 4 <|
  c_i (2) <|
  c_ii (fun x y => x + y) <|
  c_sld L sc <|
  c_rld 0 <|
  c_ild 4 <|
  c_i (3) <|
  c_ii (fun x y => x + y) <|
  c_sld L sc <|
  c_rld 0 <|
  c_ild 4 <|
  c_i (4) <|
  c_ii (fun x y => x + y) <|
  c_sld L sc <|
  c_rld 3 <|
  c_callSN 6 (fL_step w_N) <|
  c_ist 5 <|
  c_rld 2 <|
  c_rld 0 <|
  c_ild 4 <|
  c_i (1) <|
  c_ii (fun x y => x + y) <|
  c_sld L sc <|
  c_rld 0 <|
  c_ild 4 <|
  c_i (2) <|
  c_ii (fun x y => x + y) <|
  c_sld L sc <|
  c_rld 0 <|
  c_ild 4 <|
  c_i (3) <|
  c_ii (fun x y => x + y) <|
  c_sld L sc <|
  c_rld 0 <|
  c_ild 4 <|
  c_i (4) <|
  c_ii (fun x y => x + y) <|
  c_sld L sc <|
  c_callR 11 4 (fX11_step w_N) <|
  c_ist 6 <|
  c_rld 2 <|
  c_callR 11 0 (fX11_thrown w_N) <|
  c_ild 5 <|
  c_iceq (
  c_ild 5 <|
  c_ifne (
  kL_law_1137 w_N L sc r23) <|
  c_rld 3 <|
  c_i (0) <|
  c_lal <|
  c_ild 6 <|
  c_il (fun x => x.toInt64) <|
  c_cmp (fun x y => lg_cmp x y) <|
  c_ifeq (
  kL_law_1137 w_N L sc r23) <|
  c_i (0) <|
  c_zret) <|
  c_i (0) <|
  c_zret
noncomputable def bLc_14 (L : Nat) (sc : Nat → Int32) (r23 : am_K) : am_K :=
  c_rld 1 <|
  c_rld 0 <|
  c_ild 4 <|
  c_i (1) <|
  c_ii (fun x y => x + y) <|
  c_sld L sc <|
  c_rld 0 <|
  c_ild 4 <|
  c_i (2) <|
  c_ii (fun x y => x + y) <|
  c_sld L sc <|
  c_rld 3 <|
  c_callSN 4 (fL_wasAt w_N) <|
  c_ist 5 <|
  c_rld 2 <|
  c_rld 0 <|
  c_ild 4 <|
  c_i (1) <|
  c_ii (fun x y => x + y) <|
  c_sld L sc <|
  c_rld 0 <|
  c_ild 4 <|
  c_i (2) <|
  c_ii (fun x y => x + y) <|
  c_sld L sc <|
  c_callR 11 2 (fX11_wasAt w_N) <|
  c_ist 6 <|
  c_rld 2 <|
  c_callR 11 0 (fX11_thrown w_N) <|
  c_ild 5 <|
  c_iceq (
  c_ild 5 <|
  c_ifne (
  kL_law_1205 w_N L sc r23) <|
  c_rld 3 <|
  c_i (0) <|
  c_lal <|
  c_ild 6 <|
  c_il (fun x => x.toInt64) <|
  c_cmp (fun x y => lg_cmp x y) <|
  c_ifeq (
  kL_law_1205 w_N L sc r23) <|
  c_i (0) <|
  c_zret) <|
  c_i (0) <|
  c_zret
noncomputable def bLc_15 (L : Nat) (sc : Nat → Int32) (r23 : am_K) : am_K :=
  c_rld 1 <|
  c_rld 0 <|
  c_ild 4 <|
  c_i (1) <|
  c_ii (fun x y => x + y) <|
  c_sld L sc <|
  c_rld 0 <|
  c_ild 4 <|
  c_i (2) <|
  c_ii (fun x y => x + y) <|
  c_sld L sc <|
  c_rld 3 <|
  c_callSN 4 (fL_stateAt w_N) <|
  c_ist 5 <|
  c_rld 2 <|
  c_rld 0 <|
  c_ild 4 <|
  c_i (1) <|
  c_ii (fun x y => x + y) <|
  c_sld L sc <|
  c_rld 0 <|
  c_ild 4 <|
  c_i (2) <|
  c_ii (fun x y => x + y) <|
  c_sld L sc <|
  c_callR 11 2 (fX11_stateAt w_N) <|
  c_ist 6 <|
  c_rld 2 <|
  c_callR 11 0 (fX11_thrown w_N) <|
  c_ild 5 <|
  c_iceq (
  c_ild 5 <|
  c_ifne (
  kL_law_1273 w_N L sc r23) <|
  c_rld 3 <|
  c_i (0) <|
  c_lal <|
  c_ild 6 <|
  c_il (fun x => x.toInt64) <|
  c_cmp (fun x y => lg_cmp x y) <|
  c_ifeq (
  kL_law_1273 w_N L sc r23) <|
  c_i (0) <|
  c_zret) <|
  c_i (0) <|
  c_zret
noncomputable def bLc_16 (L : Nat) (sc : Nat → Int32) (r23 : am_K) : am_K :=
  c_rld 1 <|
  c_callR 10 0 (fX10_crossed w_N) <|
  c_rld 2 <|
  c_callR 11 0 (fX11_crossed w_N) <|
  c_iceq (
  kL_law_2276 w_N L sc r23) <|
  c_i (0) <|
  c_zret
noncomputable def bLc_17 (L : Nat) (sc : Nat → Int32) (r23 : am_K) : am_K :=
  c_rld 1 <|
  c_rld 0 <|
  c_ild 4 <|
  c_i (1) <|
  c_ii (fun x y => x + y) <|
  c_sld L sc <|
  c_rld 0 <|
  c_ild 4 <|
  c_i (2) <|
  c_ii (fun x y => x + y) <|
  c_sld L sc <|
  c_rld 0 <|
  c_ild 4 <|
  c_i (3) <|
  c_ii (fun x y => x + y) <|
  c_sld L sc <|
  c_rld 0 <|
  c_ild 4 <|
  c_i (4) <|
  c_ii (fun x y => x + y) <|
  c_sld L sc <|
  c_rld 3 <|
  c_callSN 6 (fL_wouldBe w_N) <|
  c_ist 5 <|
  c_rld 2 <|
  c_rld 0 <|
  c_ild 4 <|
  c_i (1) <|
  c_ii (fun x y => x + y) <|
  c_sld L sc <|
  c_rld 0 <|
  c_ild 4 <|
  c_i (2) <|
  c_ii (fun x y => x + y) <|
  c_sld L sc <|
  c_rld 0 <|
  c_ild 4 <|
  c_i (3) <|
  c_ii (fun x y => x + y) <|
  c_sld L sc <|
  c_rld 0 <|
  c_ild 4 <|
  c_i (4) <|
  c_ii (fun x y => x + y) <|
  c_sld L sc <|
  c_callR 11 4 (fX11_wouldBe w_N) <|
  c_ist 6 <|
  c_rld 2 <|
  c_callR 11 0 (fX11_thrown w_N) <|
  c_ild 5 <|
  c_iceq (
  c_ild 5 <|
  c_ifne (
  kL_law_1378 w_N L sc r23) <|
  c_rld 3 <|
  c_i (0) <|
  c_lal <|
  c_ild 6 <|
  c_il (fun x => x.toInt64) <|
  c_cmp (fun x y => lg_cmp x y) <|
  c_ifeq (
  kL_law_1378 w_N L sc r23) <|
  c_i (0) <|
  c_zret) <|
  c_i (0) <|
  c_zret
noncomputable def bLc_18 (L : Nat) (sc : Nat → Int32) (r23 : am_K) : am_K :=
  c_rld 1 <|
  c_rld 0 <|
  c_ild 4 <|
  c_i (1) <|
  c_ii (fun x y => x + y) <|
  c_sld L sc <|
  c_rld 0 <|
  c_ild 4 <|
  c_i (2) <|
  c_ii (fun x y => x + y) <|
  c_sld L sc <|
  c_rld 0 <|
  c_ild 4 <|
  c_i (3) <|
  c_ii (fun x y => x + y) <|
  c_sld L sc <|
  c_rld 3 <|
  c_callSN 5 (fL_wouldArrive w_N) <|
  c_ist 5 <|
  c_rld 2 <|
  c_rld 0 <|
  c_ild 4 <|
  c_i (1) <|
  c_ii (fun x y => x + y) <|
  c_sld L sc <|
  c_rld 0 <|
  c_ild 4 <|
  c_i (2) <|
  c_ii (fun x y => x + y) <|
  c_sld L sc <|
  c_rld 0 <|
  c_ild 4 <|
  c_i (3) <|
  c_ii (fun x y => x + y) <|
  c_sld L sc <|
  c_callR 11 3 (fX11_wouldArrive w_N) <|
  c_ist 6 <|
  c_rld 2 <|
  c_callR 11 0 (fX11_thrown w_N) <|
  c_ild 5 <|
  c_iceq (
  c_ild 5 <|
  c_ifne (
  kL_law_1458 w_N L sc r23) <|
  c_rld 3 <|
  c_i (0) <|
  c_lal <|
  c_ild 6 <|
  c_il (fun x => x.toInt64) <|
  c_cmp (fun x y => lg_cmp x y) <|
  c_ifeq (
  kL_law_1458 w_N L sc r23) <|
  c_i (0) <|
  c_zret) <|
  c_i (0) <|
  c_zret
noncomputable def bLc_19 (L : Nat) (sc : Nat → Int32) (r23 : am_K) : am_K :=
  c_rld 1 <|
  c_rld 0 <|
  c_ild 4 <|
  c_i (1) <|
  c_ii (fun x y => x + y) <|
  c_sld L sc <|
  c_rld 0 <|
  c_ild 4 <|
  c_i (2) <|
  c_ii (fun x y => x + y) <|
  c_sld L sc <|
  c_rld 0 <|
  c_ild 4 <|
  c_i (3) <|
  c_ii (fun x y => x + y) <|
  c_sld L sc <|
  c_rld 3 <|
  c_callSN 5 (fL_bestDelay w_N) <|
  c_ist 5 <|
  c_rld 2 <|
  c_rld 0 <|
  c_ild 4 <|
  c_i (1) <|
  c_ii (fun x y => x + y) <|
  c_sld L sc <|
  c_rld 0 <|
  c_ild 4 <|
  c_i (2) <|
  c_ii (fun x y => x + y) <|
  c_sld L sc <|
  c_rld 0 <|
  c_ild 4 <|
  c_i (3) <|
  c_ii (fun x y => x + y) <|
  c_sld L sc <|
  c_callR 11 3 (fX11_bestDelay w_N) <|
  c_ist 6 <|
  c_rld 2 <|
  c_callR 11 0 (fX11_thrown w_N) <|
  c_ild 5 <|
  c_iceq (
  c_ild 5 <|
  c_ifne (
  kL_law_1538 w_N L sc r23) <|
  c_rld 3 <|
  c_i (0) <|
  c_lal <|
  c_ild 6 <|
  c_il (fun x => x.toInt64) <|
  c_cmp (fun x y => lg_cmp x y) <|
  c_ifeq (
  kL_law_1538 w_N L sc r23) <|
  c_i (0) <|
  c_zret) <|
  c_i (0) <|
  c_zret
noncomputable def bLc_20 (L : Nat) (sc : Nat → Int32) (r23 : am_K) : am_K :=
  c_rld 1 <|
  c_rld 0 <|
  c_ild 4 <|
  c_i (1) <|
  c_ii (fun x y => x + y) <|
  c_sld L sc <|
  c_rld 3 <|
  c_callSN 3 (fL_failing w_N) <|
  c_ist 5 <|
  c_rld 2 <|
  c_rld 0 <|
  c_ild 4 <|
  c_i (1) <|
  c_ii (fun x y => x + y) <|
  c_sld L sc <|
  c_callR 11 1 (fX11_failing w_N) <|
  c_ist 6 <|
  c_rld 2 <|
  c_callR 11 0 (fX11_thrown w_N) <|
  c_ild 5 <|
  c_iceq (
  c_ild 5 <|
  c_ifne (
  kL_law_1594 w_N L sc r23) <|
  c_rld 3 <|
  c_i (0) <|
  c_lal <|
  c_ild 6 <|
  c_il (fun x => x.toInt64) <|
  c_cmp (fun x y => lg_cmp x y) <|
  c_ifeq (
  kL_law_1594 w_N L sc r23) <|
  c_i (0) <|
  c_zret) <|
  c_i (0) <|
  c_zret
noncomputable def bLc_21 (L : Nat) (sc : Nat → Int32) (r23 : am_K) : am_K :=
  c_rld 1 <|
  c_callR 10 0 (fX10_meanDelay w_N) <|
  c_dst 5 <|
  c_rld 2 <|
  c_callR 11 0 (fX11_meanDelay w_N) <|
  c_dst 7 <|
  c_dld 5 <|
  c_dld 7 <|
  c_dcmp .l <|
  c_ifeq (
  kL_law_1635 w_N L sc r23) <|
  c_dld 5 <|
  c_dld 5 <|
  c_dcmp .l <|
  c_ifeq (
  kL_law_1633 w_N L sc) <|
  c_dld 7 <|
  c_dld 7 <|
  c_dcmp .l <|
  c_ifne (
  kL_law_1635 w_N L sc r23) <|
  kL_law_1633 w_N L sc
noncomputable def bLc_22 (L : Nat) (sc : Nat → Int32) (r23 : am_K) : am_K :=
  c_rld 1 <|
  c_callR 10 0 (fX10_success w_N) <|
  c_f2d <|
  c_dst 5 <|
  c_rld 2 <|
  c_callR 11 0 (fX11_success w_N) <|
  c_f2d <|
  c_dst 7 <|
  c_dld 5 <|
  c_dld 7 <|
  c_dcmp .l <|
  c_ifeq (
  kL_law_1678 w_N L sc r23) <|
  c_dld 5 <|
  c_dld 5 <|
  c_dcmp .l <|
  c_ifeq (
  kL_law_1676 w_N L sc) <|
  c_dld 7 <|
  c_dld 7 <|
  c_dcmp .l <|
  c_ifne (
  kL_law_1678 w_N L sc r23) <|
  kL_law_1676 w_N L sc
noncomputable def bLc_23 (L : Nat) (sc : Nat → Int32) (r23 : am_K) : am_K :=
  c_rld 1 <|
  c_rld 0 <|
  c_ild 4 <|
  c_i (1) <|
  c_ii (fun x y => x + y) <|
  c_sld L sc <|
  c_rld 3 <|
  c_callSN 3 (fL_pass w_N) <|
  c_ist 5 <|
  c_rld 2 <|
  c_rld 0 <|
  c_ild 4 <|
  c_i (1) <|
  c_ii (fun x y => x + y) <|
  c_sld L sc <|
  c_callR 11 1 (fX11_pass w_N) <|
  c_ist 6 <|
  c_rld 2 <|
  c_callR 11 0 (fX11_thrown w_N) <|
  c_ild 5 <|
  c_iceq (
  c_ild 5 <|
  c_ifne (
  kL_law_1734 w_N L sc r23) <|
  c_rld 3 <|
  c_i (0) <|
  c_lal <|
  c_ild 6 <|
  c_il (fun x => x.toInt64) <|
  c_cmp (fun x y => lg_cmp x y) <|
  c_ifeq (
  kL_law_1734 w_N L sc r23) <|
  c_i (0) <|
  c_zret) <|
  c_i (0) <|
  c_zret
noncomputable def bLc_24 (L : Nat) (sc : Nat → Int32) (r23 : am_K) : am_K :=
  c_rld 1 <|
  c_rld 0 <|
  c_ild 4 <|
  c_i (1) <|
  c_ii (fun x y => x + y) <|
  c_sld L sc <|
  c_rld 0 <|
  c_ild 4 <|
  c_i (2) <|
  c_ii (fun x y => x + y) <|
  c_sld L sc <|
  c_rld 0 <|
  c_ild 4 <|
  c_i (3) <|
  c_ii (fun x y => x + y) <|
  c_sld L sc <|
  c_rld 3 <|
  c_callSN 5 (fL_send w_N) <|
  c_ist 5 <|
  c_rld 2 <|
  c_rld 0 <|
  c_ild 4 <|
  c_i (1) <|
  c_ii (fun x y => x + y) <|
  c_sld L sc <|
  c_rld 0 <|
  c_ild 4 <|
  c_i (2) <|
  c_ii (fun x y => x + y) <|
  c_sld L sc <|
  c_rld 0 <|
  c_ild 4 <|
  c_i (3) <|
  c_ii (fun x y => x + y) <|
  c_sld L sc <|
  c_callR 11 3 (fX11_send w_N) <|
  c_ist 6 <|
  c_rld 2 <|
  c_callR 11 0 (fX11_thrown w_N) <|
  c_ild 5 <|
  c_iceq (
  c_ild 5 <|
  c_ifne (
  kL_law_1814 w_N L sc r23) <|
  c_rld 3 <|
  c_i (0) <|
  c_lal <|
  c_ild 6 <|
  c_il (fun x => x.toInt64) <|
  c_cmp (fun x y => lg_cmp x y) <|
  c_ifeq (
  kL_law_1814 w_N L sc r23) <|
  c_i (0) <|
  c_zret) <|
  c_i (0) <|
  c_zret
noncomputable def bLc_25 (L : Nat) (sc : Nat → Int32) (r23 : am_K) : am_K :=
  c_rld 1 <|
  c_rld 0 <|
  c_ild 4 <|
  c_i (1) <|
  c_ii (fun x y => x + y) <|
  c_sld L sc <|
  c_rld 0 <|
  c_ild 4 <|
  c_i (2) <|
  c_ii (fun x y => x + y) <|
  c_sld L sc <|
  c_rld 3 <|
  c_callSN 4 (fL_wall w_N) <|
  c_ist 5 <|
  c_rld 2 <|
  c_rld 0 <|
  c_ild 4 <|
  c_i (1) <|
  c_ii (fun x y => x + y) <|
  c_sld L sc <|
  c_rld 0 <|
  c_ild 4 <|
  c_i (2) <|
  c_ii (fun x y => x + y) <|
  c_sld L sc <|
  c_callR 11 2 (fX11_wall w_N) <|
  c_ist 6 <|
  c_rld 2 <|
  c_callR 11 0 (fX11_thrown w_N) <|
  c_ild 5 <|
  c_iceq (
  c_ild 5 <|
  c_ifne (
  kL_law_1882 w_N L sc r23) <|
  c_rld 3 <|
  c_i (0) <|
  c_lal <|
  c_ild 6 <|
  c_il (fun x => x.toInt64) <|
  c_cmp (fun x y => lg_cmp x y) <|
  c_ifeq (
  kL_law_1882 w_N L sc r23) <|
  c_i (0) <|
  c_zret) <|
  c_i (0) <|
  c_zret
noncomputable def bLc_26 (L : Nat) (sc : Nat → Int32) (r23 : am_K) : am_K :=
  c_rld 1 <|
  c_rld 0 <|
  c_ild 4 <|
  c_i (1) <|
  c_ii (fun x y => x + y) <|
  c_sld L sc <|
  c_rld 0 <|
  c_ild 4 <|
  c_i (2) <|
  c_ii (fun x y => x + y) <|
  c_sld L sc <|
  c_rld 0 <|
  c_ild 4 <|
  c_i (3) <|
  c_ii (fun x y => x + y) <|
  c_sld L sc <|
  c_rld 3 <|
  c_callSN 5 (fL_movePicket w_N) <|
  c_ist 5 <|
  c_rld 2 <|
  c_rld 0 <|
  c_ild 4 <|
  c_i (1) <|
  c_ii (fun x y => x + y) <|
  c_sld L sc <|
  c_rld 0 <|
  c_ild 4 <|
  c_i (2) <|
  c_ii (fun x y => x + y) <|
  c_sld L sc <|
  c_rld 0 <|
  c_ild 4 <|
  c_i (3) <|
  c_ii (fun x y => x + y) <|
  c_sld L sc <|
  c_callR 11 3 (fX11_movePicket w_N) <|
  c_ist 6 <|
  c_rld 2 <|
  c_callR 11 0 (fX11_thrown w_N) <|
  c_ild 5 <|
  c_iceq (
  c_ild 5 <|
  c_ifne (
  kL_law_1962 w_N L sc r23) <|
  c_rld 3 <|
  c_i (0) <|
  c_lal <|
  c_ild 6 <|
  c_il (fun x => x.toInt64) <|
  c_cmp (fun x y => lg_cmp x y) <|
  c_ifeq (
  kL_law_1962 w_N L sc r23) <|
  c_i (0) <|
  c_zret) <|
  c_i (0) <|
  c_zret
noncomputable def bLc_27 (L : Nat) (sc : Nat → Int32) (r23 : am_K) : am_K :=
  c_rld 1 <|
  c_rld 0 <|
  c_ild 4 <|
  c_i (1) <|
  c_ii (fun x y => x + y) <|
  c_sld L sc <|
  c_rld 0 <|
  c_ild 4 <|
  c_i (2) <|
  c_ii (fun x y => x + y) <|
  c_sld L sc <|
  c_rld 3 <|
  c_callSN 4 (fL_movePlan w_N) <|
  c_ist 5 <|
  c_rld 2 <|
  c_rld 0 <|
  c_ild 4 <|
  c_i (1) <|
  c_ii (fun x y => x + y) <|
  c_sld L sc <|
  c_rld 0 <|
  c_ild 4 <|
  c_i (2) <|
  c_ii (fun x y => x + y) <|
  c_sld L sc <|
  c_callR 11 2 (fX11_movePlan w_N) <|
  c_ist 6 <|
  c_rld 2 <|
  c_callR 11 0 (fX11_thrown w_N) <|
  c_ild 5 <|
  c_iceq (
  c_ild 5 <|
  c_ifne (
  kL_law_2030 w_N L sc r23) <|
  c_rld 3 <|
  c_i (0) <|
  c_lal <|
  c_ild 6 <|
  c_il (fun x => x.toInt64) <|
  c_cmp (fun x y => lg_cmp x y) <|
  c_ifeq (
  kL_law_2030 w_N L sc r23) <|
  c_i (0) <|
  c_zret) <|
  c_i (0) <|
  c_zret
noncomputable def bLc_28 (L : Nat) (sc : Nat → Int32) (r23 : am_K) : am_K :=
  c_rld 1 <|
  c_rld 0 <|
  c_ild 4 <|
  c_i (1) <|
  c_ii (fun x y => x + y) <|
  c_sld L sc <|
  c_rld 3 <|
  c_callSN 3 (fL_setPatience w_N) <|
  c_ist 5 <|
  c_rld 2 <|
  c_rld 0 <|
  c_ild 4 <|
  c_i (1) <|
  c_ii (fun x y => x + y) <|
  c_sld L sc <|
  c_callR 11 1 (fX11_setPatience w_N) <|
  c_ist 6 <|
  c_rld 2 <|
  c_callR 11 0 (fX11_thrown w_N) <|
  c_ild 5 <|
  c_iceq (
  c_ild 5 <|
  c_ifne (
  kL_law_2086 w_N L sc r23) <|
  c_rld 3 <|
  c_i (0) <|
  c_lal <|
  c_ild 6 <|
  c_il (fun x => x.toInt64) <|
  c_cmp (fun x y => lg_cmp x y) <|
  c_ifeq (
  kL_law_2086 w_N L sc r23) <|
  c_i (0) <|
  c_zret) <|
  c_i (0) <|
  c_zret
noncomputable def bLc_29 (L : Nat) (sc : Nat → Int32) (r23 : am_K) : am_K :=
  c_rld 1 <|
  c_rld 0 <|
  c_ild 4 <|
  c_i (1) <|
  c_ii (fun x y => x + y) <|
  c_sld L sc <|
  c_rld 3 <|
  c_callSN 3 (fL_format w_N) <|
  c_ist 5 <|
  c_rld 2 <|
  c_rld 0 <|
  c_ild 4 <|
  c_i (1) <|
  c_ii (fun x y => x + y) <|
  c_sld L sc <|
  c_callR 11 1 (fX11_format w_N) <|
  c_ist 6 <|
  c_rld 2 <|
  c_callR 11 0 (fX11_thrown w_N) <|
  c_ild 5 <|
  c_iceq (
  c_ild 5 <|
  c_ifne (
  kL_law_2142 w_N L sc r23) <|
  c_rld 3 <|
  c_i (0) <|
  c_lal <|
  c_ild 6 <|
  c_il (fun x => x.toInt64) <|
  c_cmp (fun x y => lg_cmp x y) <|
  c_ifeq (
  kL_law_2142 w_N L sc r23) <|
  c_i (0) <|
  c_zret) <|
  c_i (0) <|
  c_zret
noncomputable def bLc_30 (L : Nat) (sc : Nat → Int32) (r23 : am_K) : am_K :=
  c_rld 1 <|
  c_rld 0 <|
  c_ild 4 <|
  c_i (1) <|
  c_ii (fun x y => x + y) <|
  c_sld L sc <|
  c_callR 10 1 (fX10_formattedByte w_N) <|
  c_rld 2 <|
  c_rld 0 <|
  c_ild 4 <|
  c_i (1) <|
  c_ii (fun x y => x + y) <|
  c_sld L sc <|
  c_callR 11 1 (fX11_formattedByte w_N) <|
  c_iceq (
  kL_law_2276 w_N L sc r23) <|
  c_i (0) <|
  c_zret
noncomputable def bLc_31 (L : Nat) (sc : Nat → Int32) (r23 : am_K) : am_K :=
  c_rld 1 <|
  c_callR 10 0 (fX10_undoCount w_N) <|
  c_rld 2 <|
  c_callR 11 0 (fX11_undoCount w_N) <|
  c_iceq (
  kL_law_2276 w_N L sc r23) <|
  c_i (0) <|
  c_zret
noncomputable def bLc_32 (L : Nat) (sc : Nat → Int32) (r23 : am_K) : am_K :=
  c_rld 1 <|
  c_callR 10 0 (fX10_undo w_N) <|
  c_rld 2 <|
  c_callR 11 0 (fX11_undo w_N) <|
  c_iceq (
  kL_law_2276 w_N L sc r23) <|
  c_i (0) <|
  c_zret
noncomputable def bLc_33 (L : Nat) (sc : Nat → Int32) (r23 : am_K) : am_K :=
  c_rld 1 <|
  c_callR 10 0 (fX10_saveSnapshot w_N) <|
  c_rld 2 <|
  c_callR 11 0 (fX11_saveSnapshot w_N) <|
  kL_law_2276 w_N L sc r23
noncomputable def bLc_34 (L : Nat) (sc : Nat → Int32) (r23 : am_K) : am_K :=
  c_rld 1 <|
  c_callR 10 0 (fX10_restoreSnapshot w_N) <|
  c_rld 2 <|
  c_callR 11 0 (fX11_restoreSnapshot w_N) <|
  c_iceq (
  kL_law_2276 w_N L sc r23) <|
  c_i (0) <|
  c_zret
noncomputable def bLc_35 (L : Nat) (sc : Nat → Int32) (r23 : am_K) : am_K :=
  c_rld 1 <|
  c_rld 0 <|
  c_ild 4 <|
  c_i (1) <|
  c_ii (fun x y => x + y) <|
  c_sld L sc <|
  c_rld 3 <|
  c_callSN 3 (fL_query w_N) <|
  c_ist 5 <|
  c_rld 2 <|
  c_rld 0 <|
  c_ild 4 <|
  c_i (1) <|
  c_ii (fun x y => x + y) <|
  c_sld L sc <|
  c_callR 11 1 (fX11_query w_N) <|
  c_ist 6 <|
  c_rld 2 <|
  c_callR 11 0 (fX11_thrown w_N) <|
  c_ild 5 <|
  c_iceq (
  c_ild 5 <|
  c_ifne (
  kL_law_2273 w_N L sc r23) <|
  c_rld 3 <|
  c_i (0) <|
  c_lal <|
  c_ild 6 <|
  c_il (fun x => x.toInt64) <|
  c_cmp (fun x y => lg_cmp x y) <|
  c_ifeq (
  kL_law_2273 w_N L sc r23) <|
  c_i (0) <|
  c_zret) <|
  c_i (0) <|
  c_zret
noncomputable def bLc (L : Nat) (sc : Nat → Int32) (r23 : am_K) : List am_K := [bLc_0 L sc r23, bLc_1 L sc r23, bLc_2 L sc r23, bLc_3 L sc r23, bLc_4 L sc r23, bLc_5 L sc r23, bLc_6 L sc r23, bLc_7 L sc r23, bLc_8 L sc r23, bLc_9 L sc r23, bLc_10 L sc r23, bLc_11 L sc r23, bLc_12 L sc r23, bLc_13 L sc r23, bLc_14 L sc r23, bLc_15 L sc r23, bLc_16 L sc r23, bLc_17 L sc r23, bLc_18 L sc r23, bLc_19 L sc r23, bLc_20 L sc r23, bLc_21 L sc r23, bLc_22 L sc r23, bLc_23 L sc r23, bLc_24 L sc r23, bLc_25 L sc r23, bLc_26 L sc r23, bLc_27 L sc r23, bLc_28 L sc r23, bLc_29 L sc r23, bLc_30 L sc r23, bLc_31 L sc r23, bLc_32 L sc r23, bLc_33 L sc r23, bLc_34 L sc r23, bLc_35 L sc r23]
section L74
variable {S S1 S2 T : am_S} {x y z t v : Int32} {L i c : Nat} {sc : Nat → Int32} {K : am_K}
theorem bLc_e : bL_law_23 w_N L sc K = (c_ild 4 <|
  c_rld 0 <|
  c_slen L <|
  c_i (6) <|
  c_ii (fun x y => x - y) <|
  c_icgt (
  c_i (1) <|
  c_zret) <|
  c_rld 0 <|
  c_ild 4 <|
  c_sld L sc <|
  c_i (63) <|
  c_ii (fun x y => x &&& y) <|
  c_sw (0) 36 (fun i => (bLc L sc K).getD i (fun _ _ _ => none)) <|
  kL_law_2276 w_N L sc K) := rfl
abbrev q_LV (i : Nat) : List (Nat × Value) := [(0, .ref 70), (1, .ref 100), (2, .ref 138), (3, .ref 151), (4, .int (nI i))]
theorem q_len6 (hL : L ≤ 3072) : (nI L - nI 6).toInt = (L : Int) - 6 := by
  rcases Nat.lt_or_ge L 6 with h | h
  · rcases (show L = 0 ∨ L = 1 ∨ L = 2 ∨ L = 3 ∨ L = 4 ∨ L = 5 by omega) with rfl | rfl | rfl | rfl | rfl | rfl <;> decide
  · rw [w_subN h, nI_toInt (by omega)]
    omega
theorem q_end (hL : L ≤ 3072) (hi : i ≤ 3100) (h : ¬ i + 6 ≤ L) : bL_law_23 w_N L sc K (q_LV i) [] S = some (.inl (some (.int (nI 1))), S) := by
  have e := q_len6 hL
  have g : nI L - nI 6 < nI i := by
    rw [fa_lt, e, nI_toInt (by omega)]
    omega
  rw [bLc_e]
  simp (disch := omega) only [x_cs0, x_csi, x_csr, x_csn, x_csl, x_ret_v, x_ret_t, x_ret_n, x_tl_s, x_tl_n, x_lk0, x_lk, x_rem0, x_rem_i, x_rem_r, x_rem_l, x_rem2_0, x_rem2_i, x_rem2_r, x_rem2_l, x_pick0, x_pick_c, x_st1, x_st2, x_live, x_i, x_l, x_a, x_ild, x_lld, x_rld, x_ist, x_lst, x_rst, x_inc, x_ii, x_ll, x_li, x_cmp, x_ui, x_il, x_lti, x_idiv, x_irem, x_dup_i, x_dup_r, x_pop_i, x_pop_r, x_dupx_ir, x_dup2_ir, x_ifeq, x_iceq, x_iflt, x_iclt, x_ifge, x_icge, x_ifgt, x_icgt, x_ifle, x_icle, x_ifne, x_icne, x_ifnull_r, x_ifnull_n, x_ifnonnull_r, x_ifnonnull_n, x_sw, x_vret, x_iret, x_lret, x_zret, x_zret0, x_zret1, x_rf_s, x_rf_n, x_geti, x_getr, x_puti, x_putz, x_putr, x_ial, x_ias, x_lal, x_las, x_aal, x_aas, x_aast, x_alen, x_new, x_newa, x_copy, x_min, x_abs, x_minl, x_oinit, x_throw, x_callS0, x_callS1, x_callS2, x_callS3, x_callS4, x_callV0, x_callV1, x_callV2, x_callV3, x_callV4, x_callV5, x_retI_v, x_callI0, x_callI1, x_callI2, x_retN_v, x_callSN1, x_callSN2, x_callT0, x_callT1, x_fn, x_sl0, x_sli, x_slr, x_sll, x_ar0, x_ari, x_arr, x_arl, ↓reduceIte, Nat.reduceAdd, Nat.reduceSub, Nat.reduceMul, Nat.reduceEqDiff, Nat.reduceLeDiff, Nat.reduceLT, if_true, if_false, Nat.le_refl, and_true, true_and, and_self, reduceCtorEq, or_false, false_or, or_true, true_or, Nat.zero_le, fa_lit, nI_add, w_mul, nI_ltI, nI_leI, nI_eq, nI_clamp, nI_toInt, if_pos, if_neg, w_div, w_rem2, x_slen, x_sld, g]
theorem q_law2276 {lv : List (Nat × Value)} (h0 : am_lk lv 0 = some (.ref 70)) (h1 : am_lk lv 1 = some (.ref 100)) (h2 : am_lk lv 2 = some (.ref 138)) (h3 : am_lk lv 3 = some (.ref 151)) (h4 : am_lk lv 4 = some (.int (nI i))) : kL_law_2276 w_N L sc K lv [] S = K (q_LV (i + 6)) [] S := by
  simp (disch := omega) only [kL_law_2276, x_cs0, x_csi, x_csr, x_csn, x_csl, x_ret_v, x_ret_t, x_ret_n, x_tl_s, x_tl_n, x_lk0, x_lk, x_rem0, x_rem_i, x_rem_r, x_rem_l, x_rem2_0, x_rem2_i, x_rem2_r, x_rem2_l, x_pick0, x_pick_c, x_st1, x_st2, x_live, x_i, x_l, x_a, x_ild, x_lld, x_rld, x_ist, x_lst, x_rst, x_inc, x_ii, x_ll, x_li, x_cmp, x_ui, x_il, x_lti, x_idiv, x_irem, x_dup_i, x_dup_r, x_pop_i, x_pop_r, x_dupx_ir, x_dup2_ir, x_ifeq, x_iceq, x_iflt, x_iclt, x_ifge, x_icge, x_ifgt, x_icgt, x_ifle, x_icle, x_ifne, x_icne, x_ifnull_r, x_ifnull_n, x_ifnonnull_r, x_ifnonnull_n, x_sw, x_vret, x_iret, x_lret, x_zret, x_zret0, x_zret1, x_rf_s, x_rf_n, x_geti, x_getr, x_puti, x_putz, x_putr, x_ial, x_ias, x_lal, x_las, x_aal, x_aas, x_aast, x_alen, x_new, x_newa, x_copy, x_min, x_abs, x_minl, x_oinit, x_throw, x_callS0, x_callS1, x_callS2, x_callS3, x_callS4, x_callV0, x_callV1, x_callV2, x_callV3, x_callV4, x_callV5, x_retI_v, x_callI0, x_callI1, x_callI2, x_retN_v, x_callSN1, x_callSN2, x_callT0, x_callT1, x_fn, x_sl0, x_sli, x_slr, x_sll, x_ar0, x_ari, x_arr, x_arl, ↓reduceIte, Nat.reduceAdd, Nat.reduceSub, Nat.reduceMul, Nat.reduceEqDiff, Nat.reduceLeDiff, Nat.reduceLT, if_true, if_false, Nat.le_refl, and_true, true_and, and_self, reduceCtorEq, or_false, false_or, or_true, true_or, Nat.zero_le, fa_lit, nI_add, w_mul, nI_ltI, nI_leI, nI_eq, nI_clamp, nI_toInt, if_pos, if_neg, w_div, w_rem2, h0, h1, h2, h3, h4]
theorem q_case (hL : L ≤ 3072) (hi : i + 6 ≤ L) : (∃ c, c < 36 ∧ bL_law_23 w_N L sc K (q_LV i) [] S = (bLc L sc K).getD c (fun _ _ _ => none) (q_LV i) [] S) ∨ bL_law_23 w_N L sc K (q_LV i) [] S = kL_law_2276 w_N L sc K (q_LV i) [] S := by
  have e := q_len6 hL
  have g : ¬ nI L - nI 6 < nI i := by
    rw [fa_lt, e, nI_toInt (by omega)]
    omega
  rw [bLc_e]
  by_cases c : s_is (sc i &&& nI 63) 36
  · obtain ⟨k, k1, k2, k3⟩ := s_is_n c
    refine Or.inl ⟨k, k1, ?_⟩
    have hs := fun ks kd => x_swN (ks := ks) (kd := kd) (lv := q_LV i) (S := S) (st := []) (i := k) (n := 36) k1 (by omega)
    generalize hb : bLc L sc K = bl at *
    generalize kL_law_2276 w_N L sc K = K2
    simp (disch := omega) only [x_cs0, x_csi, x_csr, x_csn, x_csl, x_ret_v, x_ret_t, x_ret_n, x_tl_s, x_tl_n, x_lk0, x_lk, x_rem0, x_rem_i, x_rem_r, x_rem_l, x_rem2_0, x_rem2_i, x_rem2_r, x_rem2_l, x_pick0, x_pick_c, x_st1, x_st2, x_live, x_i, x_l, x_a, x_ild, x_lld, x_rld, x_ist, x_lst, x_rst, x_inc, x_ii, x_ll, x_li, x_cmp, x_ui, x_il, x_lti, x_idiv, x_irem, x_dup_i, x_dup_r, x_pop_i, x_pop_r, x_dupx_ir, x_dup2_ir, x_ifeq, x_iceq, x_iflt, x_iclt, x_ifge, x_icge, x_ifgt, x_icgt, x_ifle, x_icle, x_ifne, x_icne, x_ifnull_r, x_ifnull_n, x_ifnonnull_r, x_ifnonnull_n, x_sw, x_vret, x_iret, x_lret, x_zret, x_zret0, x_zret1, x_rf_s, x_rf_n, x_geti, x_getr, x_puti, x_putz, x_putr, x_ial, x_ias, x_lal, x_las, x_aal, x_aas, x_aast, x_alen, x_new, x_newa, x_copy, x_min, x_abs, x_minl, x_oinit, x_throw, x_callS0, x_callS1, x_callS2, x_callS3, x_callS4, x_callV0, x_callV1, x_callV2, x_callV3, x_callV4, x_callV5, x_retI_v, x_callI0, x_callI1, x_callI2, x_retN_v, x_callSN1, x_callSN2, x_callT0, x_callT1, x_fn, x_sl0, x_sli, x_slr, x_sll, x_ar0, x_ari, x_arr, x_arl, ↓reduceIte, Nat.reduceAdd, Nat.reduceSub, Nat.reduceMul, Nat.reduceEqDiff, Nat.reduceLeDiff, Nat.reduceLT, if_true, if_false, Nat.le_refl, and_true, true_and, and_self, reduceCtorEq, or_false, false_or, or_true, true_or, Nat.zero_le, fa_lit, nI_add, w_mul, nI_ltI, nI_leI, nI_eq, nI_clamp, nI_toInt, if_pos, if_neg, w_div, w_rem2, x_slen, x_sld, g, k3, hs]
  · refine Or.inr ?_
    have hs := fun ks kd => x_swD (x := sc i &&& nI 63) (n := 36) (lv := q_LV i) (S := S) (st := []) (ks := ks) (kd := kd) c
    generalize hb : bLc L sc K = bl at *
    generalize kL_law_2276 w_N L sc K = K2
    simp (disch := omega) only [x_cs0, x_csi, x_csr, x_csn, x_csl, x_ret_v, x_ret_t, x_ret_n, x_tl_s, x_tl_n, x_lk0, x_lk, x_rem0, x_rem_i, x_rem_r, x_rem_l, x_rem2_0, x_rem2_i, x_rem2_r, x_rem2_l, x_pick0, x_pick_c, x_st1, x_st2, x_live, x_i, x_l, x_a, x_ild, x_lld, x_rld, x_ist, x_lst, x_rst, x_inc, x_ii, x_ll, x_li, x_cmp, x_ui, x_il, x_lti, x_idiv, x_irem, x_dup_i, x_dup_r, x_pop_i, x_pop_r, x_dupx_ir, x_dup2_ir, x_ifeq, x_iceq, x_iflt, x_iclt, x_ifge, x_icge, x_ifgt, x_icgt, x_ifle, x_icle, x_ifne, x_icne, x_ifnull_r, x_ifnull_n, x_ifnonnull_r, x_ifnonnull_n, x_sw, x_vret, x_iret, x_lret, x_zret, x_zret0, x_zret1, x_rf_s, x_rf_n, x_geti, x_getr, x_puti, x_putz, x_putr, x_ial, x_ias, x_lal, x_las, x_aal, x_aas, x_aast, x_alen, x_new, x_newa, x_copy, x_min, x_abs, x_minl, x_oinit, x_throw, x_callS0, x_callS1, x_callS2, x_callS3, x_callS4, x_callV0, x_callV1, x_callV2, x_callV3, x_callV4, x_callV5, x_retI_v, x_callI0, x_callI1, x_callI2, x_retN_v, x_callSN1, x_callSN2, x_callT0, x_callT1, x_fn, x_sl0, x_sli, x_slr, x_sll, x_ar0, x_ari, x_arr, x_arl, ↓reduceIte, Nat.reduceAdd, Nat.reduceSub, Nat.reduceMul, Nat.reduceEqDiff, Nat.reduceLeDiff, Nat.reduceLT, if_true, if_false, Nat.le_refl, and_true, true_and, and_self, reduceCtorEq, or_false, false_or, or_true, true_or, Nat.zero_le, fa_lit, nI_add, w_mul, nI_ltI, nI_leI, nI_eq, nI_clamp, nI_toInt, if_pos, if_neg, w_div, w_rem2, x_slen, x_sld, g, hs]
end L74
