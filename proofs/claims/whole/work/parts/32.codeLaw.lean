noncomputable def kL_law_2276 (N : Nat) (L : Nat) (sc : Nat → Int32) (r23 : am_K) : am_K := c_live [0, 1, 2, 3, 4] <|
  c_inc 4 (6) <|
  c_live [0, 1, 2, 3, 4] r23
noncomputable def kL_law_326 (N : Nat) (L : Nat) (sc : Nat → Int32) (r23 : am_K) : am_K := c_live [0, 1, 2, 3, 4] <|
  kL_law_2276 N L sc r23
noncomputable def kL_law_395 (N : Nat) (L : Nat) (sc : Nat → Int32) (r23 : am_K) : am_K := c_live [0, 1, 2, 3, 4] <|
  kL_law_2276 N L sc r23
noncomputable def kL_law_463 (N : Nat) (L : Nat) (sc : Nat → Int32) (r23 : am_K) : am_K := c_live [0, 1, 2, 3, 4] <|
  kL_law_2276 N L sc r23
noncomputable def kL_law_531 (N : Nat) (L : Nat) (sc : Nat → Int32) (r23 : am_K) : am_K := c_live [0, 1, 2, 3, 4] <|
  kL_law_2276 N L sc r23
noncomputable def kL_law_599 (N : Nat) (L : Nat) (sc : Nat → Int32) (r23 : am_K) : am_K := c_live [0, 1, 2, 3, 4] <|
  kL_law_2276 N L sc r23
noncomputable def kL_law_667 (N : Nat) (L : Nat) (sc : Nat → Int32) (r23 : am_K) : am_K := c_live [0, 1, 2, 3, 4] <|
  kL_law_2276 N L sc r23
noncomputable def kL_law_735 (N : Nat) (L : Nat) (sc : Nat → Int32) (r23 : am_K) : am_K := c_live [0, 1, 2, 3, 4] <|
  kL_law_2276 N L sc r23
noncomputable def kL_law_791 (N : Nat) (L : Nat) (sc : Nat → Int32) (r23 : am_K) : am_K := c_live [0, 1, 2, 3, 4] <|
  kL_law_2276 N L sc r23
noncomputable def kL_law_866 (N : Nat) (L : Nat) (sc : Nat → Int32) (r23 : am_K) : am_K := c_live [0, 1, 2, 3, 4] <|
  kL_law_2276 N L sc r23
noncomputable def kL_law_860 (N : Nat) (L : Nat) (sc : Nat → Int32) (r23 : am_K) : am_K := c_live [0, 1, 2, 3, 4] <|
  c_cmp (fun x y => lg_cmp x y) <|
  c_ifeq (
  kL_law_866 N L sc r23) <|
  c_i (0) <|
  c_zret
noncomputable def kL_law_953 (N : Nat) (L : Nat) (sc : Nat → Int32) (r23 : am_K) : am_K := c_live [0, 1, 2, 3, 4] <|
  kL_law_2276 N L sc r23
noncomputable def kL_law_947 (N : Nat) (L : Nat) (sc : Nat → Int32) (r23 : am_K) : am_K := c_live [0, 1, 2, 3, 4] <|
  c_cmp (fun x y => lg_cmp x y) <|
  c_ifeq (
  kL_law_953 N L sc r23) <|
  c_i (0) <|
  c_zret
noncomputable def kL_law_1045 (N : Nat) (L : Nat) (sc : Nat → Int32) (r23 : am_K) : am_K := c_live [0, 1, 2, 3, 4] <|
  kL_law_2276 N L sc r23
noncomputable def kL_law_1137 (N : Nat) (L : Nat) (sc : Nat → Int32) (r23 : am_K) : am_K := c_live [0, 1, 2, 3, 4] <|
  kL_law_2276 N L sc r23
noncomputable def kL_law_1205 (N : Nat) (L : Nat) (sc : Nat → Int32) (r23 : am_K) : am_K := c_live [0, 1, 2, 3, 4] <|
  kL_law_2276 N L sc r23
noncomputable def kL_law_1273 (N : Nat) (L : Nat) (sc : Nat → Int32) (r23 : am_K) : am_K := c_live [0, 1, 2, 3, 4] <|
  kL_law_2276 N L sc r23
noncomputable def kL_law_1378 (N : Nat) (L : Nat) (sc : Nat → Int32) (r23 : am_K) : am_K := c_live [0, 1, 2, 3, 4] <|
  kL_law_2276 N L sc r23
noncomputable def kL_law_1458 (N : Nat) (L : Nat) (sc : Nat → Int32) (r23 : am_K) : am_K := c_live [0, 1, 2, 3, 4] <|
  kL_law_2276 N L sc r23
noncomputable def kL_law_1538 (N : Nat) (L : Nat) (sc : Nat → Int32) (r23 : am_K) : am_K := c_live [0, 1, 2, 3, 4] <|
  kL_law_2276 N L sc r23
noncomputable def kL_law_1594 (N : Nat) (L : Nat) (sc : Nat → Int32) (r23 : am_K) : am_K := c_live [0, 1, 2, 3, 4] <|
  kL_law_2276 N L sc r23
noncomputable def kL_law_1635 (N : Nat) (L : Nat) (sc : Nat → Int32) (r23 : am_K) : am_K := c_live [0, 1, 2, 3, 4] <|
  kL_law_2276 N L sc r23
noncomputable def kL_law_1633 (N : Nat) (L : Nat) (sc : Nat → Int32) : am_K := c_live [] <|
  c_i (0) <|
  c_zret
noncomputable def kL_law_1678 (N : Nat) (L : Nat) (sc : Nat → Int32) (r23 : am_K) : am_K := c_live [0, 1, 2, 3, 4] <|
  kL_law_2276 N L sc r23
noncomputable def kL_law_1676 (N : Nat) (L : Nat) (sc : Nat → Int32) : am_K := c_live [] <|
  c_i (0) <|
  c_zret
noncomputable def kL_law_1734 (N : Nat) (L : Nat) (sc : Nat → Int32) (r23 : am_K) : am_K := c_live [0, 1, 2, 3, 4] <|
  kL_law_2276 N L sc r23
noncomputable def kL_law_1814 (N : Nat) (L : Nat) (sc : Nat → Int32) (r23 : am_K) : am_K := c_live [0, 1, 2, 3, 4] <|
  kL_law_2276 N L sc r23
noncomputable def kL_law_1882 (N : Nat) (L : Nat) (sc : Nat → Int32) (r23 : am_K) : am_K := c_live [0, 1, 2, 3, 4] <|
  kL_law_2276 N L sc r23
noncomputable def kL_law_1962 (N : Nat) (L : Nat) (sc : Nat → Int32) (r23 : am_K) : am_K := c_live [0, 1, 2, 3, 4] <|
  kL_law_2276 N L sc r23
noncomputable def kL_law_2030 (N : Nat) (L : Nat) (sc : Nat → Int32) (r23 : am_K) : am_K := c_live [0, 1, 2, 3, 4] <|
  kL_law_2276 N L sc r23
noncomputable def kL_law_2086 (N : Nat) (L : Nat) (sc : Nat → Int32) (r23 : am_K) : am_K := c_live [0, 1, 2, 3, 4] <|
  kL_law_2276 N L sc r23
noncomputable def kL_law_2142 (N : Nat) (L : Nat) (sc : Nat → Int32) (r23 : am_K) : am_K := c_live [0, 1, 2, 3, 4] <|
  kL_law_2276 N L sc r23
noncomputable def kL_law_2273 (N : Nat) (L : Nat) (sc : Nat → Int32) (r23 : am_K) : am_K := c_live [0, 1, 2, 3, 4] <|
  kL_law_2276 N L sc r23
noncomputable def bL_law_23 (N : Nat) (L : Nat) (sc : Nat → Int32) (r23 : am_K) : am_K :=
  c_ild 4 <|
  c_rld 0 <|
  c_slen L <|
  c_i (6) <|
  c_ii (fun x y => x - y) <|
  c_icgt (
  c_i (1) <|
  c_zret) <|
  c_rld 0 <|
  c_ild 4 <|
  c_sld L sc <|
  c_i (63) <|
  c_ii (fun x y => x &&& y) <|
  c_sw (0) 36 (fun i => ([
(  c_rld 1 <|
  c_rld 0 <|
  c_ild 4 <|
  c_i (1) <|
  c_ii (fun x y => x + y) <|
  c_sld L sc <|
  c_rld 0 <|
  c_ild 4 <|
  c_i (2) <|
  c_ii (fun x y => x + y) <|
  c_sld L sc <|
  c_rld 0 <|
  c_ild 4 <|
  c_i (3) <|
  c_ii (fun x y => x + y) <|
  c_sld L sc <|
  c_rld 0 <|
  c_ild 4 <|
  c_i (4) <|
  c_ii (fun x y => x + y) <|
  c_sld L sc <|
  c_rld 0 <|
  c_ild 4 <|
  c_i (5) <|
  c_ii (fun x y => x + y) <|
  c_sld L sc <|
  c_callR 10 5 (fX10_feed N) <|
  c_rld 2 <|
  c_rld 0 <|
  c_ild 4 <|
  c_i (1) <|
  c_ii (fun x y => x + y) <|
  c_sld L sc <|
  c_rld 0 <|
  c_ild 4 <|
  c_i (2) <|
  c_ii (fun x y => x + y) <|
  c_sld L sc <|
  c_rld 0 <|
  c_ild 4 <|
  c_i (3) <|
  c_ii (fun x y => x + y) <|
  c_sld L sc <|
  c_rld 0 <|
  c_ild 4 <|
  c_i (4) <|
  c_ii (fun x y => x + y) <|
  c_sld L sc <|
  c_rld 0 <|
  c_ild 4 <|
  c_i (5) <|
  c_ii (fun x y => x + y) <|
  c_sld L sc <|
  c_callR 11 5 (fX11_feed N) <|
  c_iceq (
  kL_law_2276 N L sc r23) <|
  c_i (0) <|
  c_zret),
(  c_rld 1 <|
  c_rld 0 <|
  c_ild 4 <|
  c_i (1) <|
  c_ii (fun x y => x + y) <|
  c_sld L sc <|
  c_rld 3 <|
  c_callSN 3 (fL_load N) <|
  c_ist 5 <|
  c_rld 2 <|
  c_rld 0 <|
  c_ild 4 <|
  c_i (1) <|
  c_ii (fun x y => x + y) <|
  c_sld L sc <|
  c_callR 11 1 (fX11_load N) <|
  c_ist 6 <|
  c_rld 2 <|
  c_callR 11 0 (fX11_thrown N) <|
  c_ild 5 <|
  c_iceq (
  c_ild 5 <|
  c_ifne (
  kL_law_326 N L sc r23) <|
  c_rld 3 <|
  c_i (0) <|
  c_lal <|
  c_ild 6 <|
  c_il (fun x => x.toInt64) <|
  c_cmp (fun x y => lg_cmp x y) <|
  c_ifeq (
  kL_law_326 N L sc r23) <|
  c_i (0) <|
  c_zret) <|
  c_i (0) <|
  c_zret),
(  c_rld 1 <|
  c_callR 10 0 (fX10_errorPosition N) <|
  c_rld 2 <|
  c_callR 11 0 (fX11_errorPosition N) <|
  c_iceq (
  kL_law_2276 N L sc r23) <|
  c_i (0) <|
  c_zret),
(  c_rld 1 <|
  c_rld 0 <|
  c_ild 4 <|
  c_i (1) <|
  c_ii (fun x y => x + y) <|
  c_sld L sc <|
  c_rld 3 <|
  c_callSN 3 (fL_size N) <|
  c_ist 5 <|
  c_rld 2 <|
  c_rld 0 <|
  c_ild 4 <|
  c_i (1) <|
  c_ii (fun x y => x + y) <|
  c_sld L sc <|
  c_callR 11 1 (fX11_size N) <|
  c_ist 6 <|
  c_rld 2 <|
  c_callR 11 0 (fX11_thrown N) <|
  c_ild 5 <|
  c_iceq (
  c_ild 5 <|
  c_ifne (
  kL_law_395 N L sc r23) <|
  c_rld 3 <|
  c_i (0) <|
  c_lal <|
  c_ild 6 <|
  c_il (fun x => x.toInt64) <|
  c_cmp (fun x y => lg_cmp x y) <|
  c_ifeq (
  kL_law_395 N L sc r23) <|
  c_i (0) <|
  c_zret) <|
  c_i (0) <|
  c_zret),
(  c_rld 1 <|
  c_rld 0 <|
  c_ild 4 <|
  c_i (1) <|
  c_ii (fun x y => x + y) <|
  c_sld L sc <|
  c_rld 0 <|
  c_ild 4 <|
  c_i (2) <|
  c_ii (fun x y => x + y) <|
  c_sld L sc <|
  c_rld 3 <|
  c_callSN 4 (fL_unit N) <|
  c_ist 5 <|
  c_rld 2 <|
  c_rld 0 <|
  c_ild 4 <|
  c_i (1) <|
  c_ii (fun x y => x + y) <|
  c_sld L sc <|
  c_rld 0 <|
  c_ild 4 <|
  c_i (2) <|
  c_ii (fun x y => x + y) <|
  c_sld L sc <|
  c_callR 11 2 (fX11_unit N) <|
  c_ist 6 <|
  c_rld 2 <|
  c_callR 11 0 (fX11_thrown N) <|
  c_ild 5 <|
  c_iceq (
  c_ild 5 <|
  c_ifne (
  kL_law_463 N L sc r23) <|
  c_rld 3 <|
  c_i (0) <|
  c_lal <|
  c_ild 6 <|
  c_il (fun x => x.toInt64) <|
  c_cmp (fun x y => lg_cmp x y) <|
  c_ifeq (
  kL_law_463 N L sc r23) <|
  c_i (0) <|
  c_zret) <|
  c_i (0) <|
  c_zret),
(  c_rld 1 <|
  c_rld 0 <|
  c_ild 4 <|
  c_i (1) <|
  c_ii (fun x y => x + y) <|
  c_sld L sc <|
  c_rld 0 <|
  c_ild 4 <|
  c_i (2) <|
  c_ii (fun x y => x + y) <|
  c_sld L sc <|
  c_rld 3 <|
  c_callSN 4 (fL_picket N) <|
  c_ist 5 <|
  c_rld 2 <|
  c_rld 0 <|
  c_ild 4 <|
  c_i (1) <|
  c_ii (fun x y => x + y) <|
  c_sld L sc <|
  c_rld 0 <|
  c_ild 4 <|
  c_i (2) <|
  c_ii (fun x y => x + y) <|
  c_sld L sc <|
  c_callR 11 2 (fX11_picket N) <|
  c_ist 6 <|
  c_rld 2 <|
  c_callR 11 0 (fX11_thrown N) <|
  c_ild 5 <|
  c_iceq (
  c_ild 5 <|
  c_ifne (
  kL_law_531 N L sc r23) <|
  c_rld 3 <|
  c_i (0) <|
  c_lal <|
  c_ild 6 <|
  c_il (fun x => x.toInt64) <|
  c_cmp (fun x y => lg_cmp x y) <|
  c_ifeq (
  kL_law_531 N L sc r23) <|
  c_i (0) <|
  c_zret) <|
  c_i (0) <|
  c_zret),
(  c_rld 1 <|
  c_rld 0 <|
  c_ild 4 <|
  c_i (1) <|
  c_ii (fun x y => x + y) <|
  c_sld L sc <|
  c_rld 0 <|
  c_ild 4 <|
  c_i (2) <|
  c_ii (fun x y => x + y) <|
  c_sld L sc <|
  c_rld 3 <|
  c_callSN 4 (fL_order N) <|
  c_ist 5 <|
  c_rld 2 <|
  c_rld 0 <|
  c_ild 4 <|
  c_i (1) <|
  c_ii (fun x y => x + y) <|
  c_sld L sc <|
  c_rld 0 <|
  c_ild 4 <|
  c_i (2) <|
  c_ii (fun x y => x + y) <|
  c_sld L sc <|
  c_callR 11 2 (fX11_order N) <|
  c_ist 6 <|
  c_rld 2 <|
  c_callR 11 0 (fX11_thrown N) <|
  c_ild 5 <|
  c_iceq (
  c_ild 5 <|
  c_ifne (
  kL_law_599 N L sc r23) <|
  c_rld 3 <|
  c_i (0) <|
  c_lal <|
  c_ild 6 <|
  c_il (fun x => x.toInt64) <|
  c_cmp (fun x y => lg_cmp x y) <|
  c_ifeq (
  kL_law_599 N L sc r23) <|
  c_i (0) <|
  c_zret) <|
  c_i (0) <|
  c_zret),
(  c_rld 1 <|
  c_rld 0 <|
  c_ild 4 <|
  c_i (1) <|
  c_ii (fun x y => x + y) <|
  c_sld L sc <|
  c_rld 0 <|
  c_ild 4 <|
  c_i (2) <|
  c_ii (fun x y => x + y) <|
  c_sld L sc <|
  c_rld 3 <|
  c_callSN 4 (fL_plan N) <|
  c_ist 5 <|
  c_rld 2 <|
  c_rld 0 <|
  c_ild 4 <|
  c_i (1) <|
  c_ii (fun x y => x + y) <|
  c_sld L sc <|
  c_rld 0 <|
  c_ild 4 <|
  c_i (2) <|
  c_ii (fun x y => x + y) <|
  c_sld L sc <|
  c_callR 11 2 (fX11_plan N) <|
  c_ist 6 <|
  c_rld 2 <|
  c_callR 11 0 (fX11_thrown N) <|
  c_ild 5 <|
  c_iceq (
  c_ild 5 <|
  c_ifne (
  kL_law_667 N L sc r23) <|
  c_rld 3 <|
  c_i (0) <|
  c_lal <|
  c_ild 6 <|
  c_il (fun x => x.toInt64) <|
  c_cmp (fun x y => lg_cmp x y) <|
  c_ifeq (
  kL_law_667 N L sc r23) <|
  c_i (0) <|
  c_zret) <|
  c_i (0) <|
  c_zret),
(  c_rld 1 <|
  c_rld 0 <|
  c_ild 4 <|
  c_i (1) <|
  c_ii (fun x y => x + y) <|
  c_sld L sc <|
  c_rld 0 <|
  c_ild 4 <|
  c_i (2) <|
  c_ii (fun x y => x + y) <|
  c_sld L sc <|
  c_rld 3 <|
  c_callSN 4 (fL_event N) <|
  c_ist 5 <|
  c_rld 2 <|
  c_rld 0 <|
  c_ild 4 <|
  c_i (1) <|
  c_ii (fun x y => x + y) <|
  c_sld L sc <|
  c_rld 0 <|
  c_ild 4 <|
  c_i (2) <|
  c_ii (fun x y => x + y) <|
  c_sld L sc <|
  c_callR 11 2 (fX11_event N) <|
  c_ist 6 <|
  c_rld 2 <|
  c_callR 11 0 (fX11_thrown N) <|
  c_ild 5 <|
  c_iceq (
  c_ild 5 <|
  c_ifne (
  kL_law_735 N L sc r23) <|
  c_rld 3 <|
  c_i (0) <|
  c_lal <|
  c_ild 6 <|
  c_il (fun x => x.toInt64) <|
  c_cmp (fun x y => lg_cmp x y) <|
  c_ifeq (
  kL_law_735 N L sc r23) <|
  c_i (0) <|
  c_zret) <|
  c_i (0) <|
  c_zret),
(  c_rld 1 <|
  c_rld 0 <|
  c_ild 4 <|
  c_i (1) <|
  c_ii (fun x y => x + y) <|
  c_sld L sc <|
  c_rld 3 <|
  c_callSN 3 (fL_orders N) <|
  c_ist 5 <|
  c_rld 2 <|
  c_rld 0 <|
  c_ild 4 <|
  c_i (1) <|
  c_ii (fun x y => x + y) <|
  c_sld L sc <|
  c_callR 11 1 (fX11_orders N) <|
  c_ist 6 <|
  c_rld 2 <|
  c_callR 11 0 (fX11_thrown N) <|
  c_ild 5 <|
  c_iceq (
  c_ild 5 <|
  c_ifne (
  kL_law_791 N L sc r23) <|
  c_rld 3 <|
  c_i (0) <|
  c_lal <|
  c_ild 6 <|
  c_il (fun x => x.toInt64) <|
  c_cmp (fun x y => lg_cmp x y) <|
  c_ifeq (
  kL_law_791 N L sc r23) <|
  c_i (0) <|
  c_zret) <|
  c_i (0) <|
  c_zret),
(  c_rld 1 <|
  c_rld 0 <|
  c_ild 4 <|
  c_i (1) <|
  c_ii (fun x y => x + y) <|
  c_sld L sc <|
  c_rld 0 <|
  c_ild 4 <|
  c_i (2) <|
  c_ii (fun x y => x + y) <|
  c_sld L sc <|
  c_rld 3 <|
  c_callSN 4 (fL_isWall N) <|
  c_ist 5 <|
  c_rld 2 <|
  c_rld 0 <|
  c_ild 4 <|
  c_i (1) <|
  c_ii (fun x y => x + y) <|
  c_sld L sc <|
  c_rld 0 <|
  c_ild 4 <|
  c_i (2) <|
  c_ii (fun x y => x + y) <|
  c_sld L sc <|
  c_callR 11 2 (fX11_isWall N) <|
  c_ist 6 <|
  c_rld 2 <|
  c_callR 11 0 (fX11_thrown N) <|
  c_ild 5 <|
  c_iceq (
  c_ild 5 <|
  c_ifne (
  kL_law_866 N L sc r23) <|
  c_rld 3 <|
  c_i (0) <|
  c_lal <|
  c_ild 6 <|
  c_ifeq (
  c_l 0 <|
  kL_law_860 N L sc r23) <|
  c_l 1 <|
  kL_law_860 N L sc r23) <|
  c_i (0) <|
  c_zret),
(  c_rld 1 <|
  c_rld 0 <|
  c_ild 4 <|
  c_i (1) <|
  c_ii (fun x y => x + y) <|
  c_sld L sc <|
  c_rld 0 <|
  c_ild 4 <|
  c_i (2) <|
  c_ii (fun x y => x + y) <|
  c_sld L sc <|
  c_rld 0 <|
  c_ild 4 <|
  c_i (3) <|
  c_ii (fun x y => x + y) <|
  c_sld L sc <|
  c_rld 3 <|
  c_callSN 5 (fL_isWatched N) <|
  c_ist 5 <|
  c_rld 2 <|
  c_rld 0 <|
  c_ild 4 <|
  c_i (1) <|
  c_ii (fun x y => x + y) <|
  c_sld L sc <|
  c_rld 0 <|
  c_ild 4 <|
  c_i (2) <|
  c_ii (fun x y => x + y) <|
  c_sld L sc <|
  c_rld 0 <|
  c_ild 4 <|
  c_i (3) <|
  c_ii (fun x y => x + y) <|
  c_sld L sc <|
  c_callR 11 3 (fX11_isWatched N) <|
  c_ist 6 <|
  c_rld 2 <|
  c_callR 11 0 (fX11_thrown N) <|
  c_ild 5 <|
  c_iceq (
  c_ild 5 <|
  c_ifne (
  kL_law_953 N L sc r23) <|
  c_rld 3 <|
  c_i (0) <|
  c_lal <|
  c_ild 6 <|
  c_ifeq (
  c_l 0 <|
  kL_law_947 N L sc r23) <|
  c_l 1 <|
  kL_law_947 N L sc r23) <|
  c_i (0) <|
  c_zret),
(  c_rld 1 <|
  c_rld 0 <|
  c_ild 4 <|
  c_i (1) <|
  c_ii (fun x y => x + y) <|
  c_sld L sc <|
  c_rld 0 <|
  c_ild 4 <|
  c_i (2) <|
  c_ii (fun x y => x + y) <|
  c_sld L sc <|
  c_rld 0 <|
  c_ild 4 <|
  c_i (3) <|
  c_ii (fun x y => x + y) <|
  c_sld L sc <|
  c_rld 0 <|
  c_ild 4 <|
  c_i (4) <|
  c_ii (fun x y => x + y) <|
  c_sld L sc <|
  c_rld 3 <|
  c_callSN 6 (fL_distance N) <|
  c_ist 5 <|
  c_rld 2 <|
  c_rld 0 <|
  c_ild 4 <|
  c_i (1) <|
  c_ii (fun x y => x + y) <|
  c_sld L sc <|
  c_rld 0 <|
  c_ild 4 <|
  c_i (2) <|
  c_ii (fun x y => x + y) <|
  c_sld L sc <|
  c_rld 0 <|
  c_ild 4 <|
  c_i (3) <|
  c_ii (fun x y => x + y) <|
  c_sld L sc <|
  c_rld 0 <|
  c_ild 4 <|
  c_i (4) <|
  c_ii (fun x y => x + y) <|
  c_sld L sc <|
  c_callR 11 4 (fX11_distance N) <|
  c_ist 6 <|
  c_rld 2 <|
  c_callR 11 0 (fX11_thrown N) <|
  c_ild 5 <|
  c_iceq (
  c_ild 5 <|
  c_ifne (
  kL_law_1045 N L sc r23) <|
  c_rld 3 <|
  c_i (0) <|
  c_lal <|
  c_ild 6 <|
  c_il (fun x => x.toInt64) <|
  c_cmp (fun x y => lg_cmp x y) <|
  c_ifeq (
  kL_law_1045 N L sc r23) <|
  c_i (0) <|
  c_zret) <|
  c_i (0) <|
  c_zret),
(  c_rld 1 <|
  c_rld 0 <|
  c_ild 4 <|
  c_i (1) <|
  c_ii (fun x y => x + y) <|
  c_sld L sc <|
  c_rld 0 <|
  c_ild 4 <|
  c_i (2) <|
  c_ii (fun x y => x + y) <|
  c_sld L sc <|
  c_rld 0 <|
  c_ild 4 <|
  c_i (3) <|
  c_ii (fun x y => x + y) <|
  c_sld L sc <|
  c_rld 0 <|
  c_ild 4 <|
  c_i (4) <|
  c_ii (fun x y => x + y) <|
  c_sld L sc <|
  c_rld 3 <|
  c_callSN 6 (fL_step N) <|
  c_ist 5 <|
  c_rld 2 <|
  c_rld 0 <|
  c_ild 4 <|
  c_i (1) <|
  c_ii (fun x y => x + y) <|
  c_sld L sc <|
  c_rld 0 <|
  c_ild 4 <|
  c_i (2) <|
  c_ii (fun x y => x + y) <|
  c_sld L sc <|
  c_rld 0 <|
  c_ild 4 <|
  c_i (3) <|
  c_ii (fun x y => x + y) <|
  c_sld L sc <|
  c_rld 0 <|
  c_ild 4 <|
  c_i (4) <|
  c_ii (fun x y => x + y) <|
  c_sld L sc <|
  c_callR 11 4 (fX11_step N) <|
  c_ist 6 <|
  c_rld 2 <|
  c_callR 11 0 (fX11_thrown N) <|
  c_ild 5 <|
  c_iceq (
  c_ild 5 <|
  c_ifne (
  kL_law_1137 N L sc r23) <|
  c_rld 3 <|
  c_i (0) <|
  c_lal <|
  c_ild 6 <|
  c_il (fun x => x.toInt64) <|
  c_cmp (fun x y => lg_cmp x y) <|
  c_ifeq (
  kL_law_1137 N L sc r23) <|
  c_i (0) <|
  c_zret) <|
  c_i (0) <|
  c_zret),
(  c_rld 1 <|
  c_rld 0 <|
  c_ild 4 <|
  c_i (1) <|
  c_ii (fun x y => x + y) <|
  c_sld L sc <|
  c_rld 0 <|
  c_ild 4 <|
  c_i (2) <|
  c_ii (fun x y => x + y) <|
  c_sld L sc <|
  c_rld 3 <|
  c_callSN 4 (fL_wasAt N) <|
  c_ist 5 <|
  c_rld 2 <|
  c_rld 0 <|
  c_ild 4 <|
  c_i (1) <|
  c_ii (fun x y => x + y) <|
  c_sld L sc <|
  c_rld 0 <|
  c_ild 4 <|
  c_i (2) <|
  c_ii (fun x y => x + y) <|
  c_sld L sc <|
  c_callR 11 2 (fX11_wasAt N) <|
  c_ist 6 <|
  c_rld 2 <|
  c_callR 11 0 (fX11_thrown N) <|
  c_ild 5 <|
  c_iceq (
  c_ild 5 <|
  c_ifne (
  kL_law_1205 N L sc r23) <|
  c_rld 3 <|
  c_i (0) <|
  c_lal <|
  c_ild 6 <|
  c_il (fun x => x.toInt64) <|
  c_cmp (fun x y => lg_cmp x y) <|
  c_ifeq (
  kL_law_1205 N L sc r23) <|
  c_i (0) <|
  c_zret) <|
  c_i (0) <|
  c_zret),
(  c_rld 1 <|
  c_rld 0 <|
  c_ild 4 <|
  c_i (1) <|
  c_ii (fun x y => x + y) <|
  c_sld L sc <|
  c_rld 0 <|
  c_ild 4 <|
  c_i (2) <|
  c_ii (fun x y => x + y) <|
  c_sld L sc <|
  c_rld 3 <|
  c_callSN 4 (fL_stateAt N) <|
  c_ist 5 <|
  c_rld 2 <|
  c_rld 0 <|
  c_ild 4 <|
  c_i (1) <|
  c_ii (fun x y => x + y) <|
  c_sld L sc <|
  c_rld 0 <|
  c_ild 4 <|
  c_i (2) <|
  c_ii (fun x y => x + y) <|
  c_sld L sc <|
  c_callR 11 2 (fX11_stateAt N) <|
  c_ist 6 <|
  c_rld 2 <|
  c_callR 11 0 (fX11_thrown N) <|
  c_ild 5 <|
  c_iceq (
  c_ild 5 <|
  c_ifne (
  kL_law_1273 N L sc r23) <|
  c_rld 3 <|
  c_i (0) <|
  c_lal <|
  c_ild 6 <|
  c_il (fun x => x.toInt64) <|
  c_cmp (fun x y => lg_cmp x y) <|
  c_ifeq (
  kL_law_1273 N L sc r23) <|
  c_i (0) <|
  c_zret) <|
  c_i (0) <|
  c_zret),
(  c_rld 1 <|
  c_callR 10 0 (fX10_crossed N) <|
  c_rld 2 <|
  c_callR 11 0 (fX11_crossed N) <|
  c_iceq (
  kL_law_2276 N L sc r23) <|
  c_i (0) <|
  c_zret),
(  c_rld 1 <|
  c_rld 0 <|
  c_ild 4 <|
  c_i (1) <|
  c_ii (fun x y => x + y) <|
  c_sld L sc <|
  c_rld 0 <|
  c_ild 4 <|
  c_i (2) <|
  c_ii (fun x y => x + y) <|
  c_sld L sc <|
  c_rld 0 <|
  c_ild 4 <|
  c_i (3) <|
  c_ii (fun x y => x + y) <|
  c_sld L sc <|
  c_rld 0 <|
  c_ild 4 <|
  c_i (4) <|
  c_ii (fun x y => x + y) <|
  c_sld L sc <|
  c_rld 3 <|
  c_callSN 6 (fL_wouldBe N) <|
  c_ist 5 <|
  c_rld 2 <|
  c_rld 0 <|
  c_ild 4 <|
  c_i (1) <|
  c_ii (fun x y => x + y) <|
  c_sld L sc <|
  c_rld 0 <|
  c_ild 4 <|
  c_i (2) <|
  c_ii (fun x y => x + y) <|
  c_sld L sc <|
  c_rld 0 <|
  c_ild 4 <|
  c_i (3) <|
  c_ii (fun x y => x + y) <|
  c_sld L sc <|
  c_rld 0 <|
  c_ild 4 <|
  c_i (4) <|
  c_ii (fun x y => x + y) <|
  c_sld L sc <|
  c_callR 11 4 (fX11_wouldBe N) <|
  c_ist 6 <|
  c_rld 2 <|
  c_callR 11 0 (fX11_thrown N) <|
  c_ild 5 <|
  c_iceq (
  c_ild 5 <|
  c_ifne (
  kL_law_1378 N L sc r23) <|
  c_rld 3 <|
  c_i (0) <|
  c_lal <|
  c_ild 6 <|
  c_il (fun x => x.toInt64) <|
  c_cmp (fun x y => lg_cmp x y) <|
  c_ifeq (
  kL_law_1378 N L sc r23) <|
  c_i (0) <|
  c_zret) <|
  c_i (0) <|
  c_zret),
(  c_rld 1 <|
  c_rld 0 <|
  c_ild 4 <|
  c_i (1) <|
  c_ii (fun x y => x + y) <|
  c_sld L sc <|
  c_rld 0 <|
  c_ild 4 <|
  c_i (2) <|
  c_ii (fun x y => x + y) <|
  c_sld L sc <|
  c_rld 0 <|
  c_ild 4 <|
  c_i (3) <|
  c_ii (fun x y => x + y) <|
  c_sld L sc <|
  c_rld 3 <|
  c_callSN 5 (fL_wouldArrive N) <|
  c_ist 5 <|
  c_rld 2 <|
  c_rld 0 <|
  c_ild 4 <|
  c_i (1) <|
  c_ii (fun x y => x + y) <|
  c_sld L sc <|
  c_rld 0 <|
  c_ild 4 <|
  c_i (2) <|
  c_ii (fun x y => x + y) <|
  c_sld L sc <|
  c_rld 0 <|
  c_ild 4 <|
  c_i (3) <|
  c_ii (fun x y => x + y) <|
  c_sld L sc <|
  c_callR 11 3 (fX11_wouldArrive N) <|
  c_ist 6 <|
  c_rld 2 <|
  c_callR 11 0 (fX11_thrown N) <|
  c_ild 5 <|
  c_iceq (
  c_ild 5 <|
  c_ifne (
  kL_law_1458 N L sc r23) <|
  c_rld 3 <|
  c_i (0) <|
  c_lal <|
  c_ild 6 <|
  c_il (fun x => x.toInt64) <|
  c_cmp (fun x y => lg_cmp x y) <|
  c_ifeq (
  kL_law_1458 N L sc r23) <|
  c_i (0) <|
  c_zret) <|
  c_i (0) <|
  c_zret),
(  c_rld 1 <|
  c_rld 0 <|
  c_ild 4 <|
  c_i (1) <|
  c_ii (fun x y => x + y) <|
  c_sld L sc <|
  c_rld 0 <|
  c_ild 4 <|
  c_i (2) <|
  c_ii (fun x y => x + y) <|
  c_sld L sc <|
  c_rld 0 <|
  c_ild 4 <|
  c_i (3) <|
  c_ii (fun x y => x + y) <|
  c_sld L sc <|
  c_rld 3 <|
  c_callSN 5 (fL_bestDelay N) <|
  c_ist 5 <|
  c_rld 2 <|
  c_rld 0 <|
  c_ild 4 <|
  c_i (1) <|
  c_ii (fun x y => x + y) <|
  c_sld L sc <|
  c_rld 0 <|
  c_ild 4 <|
  c_i (2) <|
  c_ii (fun x y => x + y) <|
  c_sld L sc <|
  c_rld 0 <|
  c_ild 4 <|
  c_i (3) <|
  c_ii (fun x y => x + y) <|
  c_sld L sc <|
  c_callR 11 3 (fX11_bestDelay N) <|
  c_ist 6 <|
  c_rld 2 <|
  c_callR 11 0 (fX11_thrown N) <|
  c_ild 5 <|
  c_iceq (
  c_ild 5 <|
  c_ifne (
  kL_law_1538 N L sc r23) <|
  c_rld 3 <|
  c_i (0) <|
  c_lal <|
  c_ild 6 <|
  c_il (fun x => x.toInt64) <|
  c_cmp (fun x y => lg_cmp x y) <|
  c_ifeq (
  kL_law_1538 N L sc r23) <|
  c_i (0) <|
  c_zret) <|
  c_i (0) <|
  c_zret),
(  c_rld 1 <|
  c_rld 0 <|
  c_ild 4 <|
  c_i (1) <|
  c_ii (fun x y => x + y) <|
  c_sld L sc <|
  c_rld 3 <|
  c_callSN 3 (fL_failing N) <|
  c_ist 5 <|
  c_rld 2 <|
  c_rld 0 <|
  c_ild 4 <|
  c_i (1) <|
  c_ii (fun x y => x + y) <|
  c_sld L sc <|
  c_callR 11 1 (fX11_failing N) <|
  c_ist 6 <|
  c_rld 2 <|
  c_callR 11 0 (fX11_thrown N) <|
  c_ild 5 <|
  c_iceq (
  c_ild 5 <|
  c_ifne (
  kL_law_1594 N L sc r23) <|
  c_rld 3 <|
  c_i (0) <|
  c_lal <|
  c_ild 6 <|
  c_il (fun x => x.toInt64) <|
  c_cmp (fun x y => lg_cmp x y) <|
  c_ifeq (
  kL_law_1594 N L sc r23) <|
  c_i (0) <|
  c_zret) <|
  c_i (0) <|
  c_zret),
(  c_rld 1 <|
  c_callR 10 0 (fX10_meanDelay N) <|
  c_dst 5 <|
  c_rld 2 <|
  c_callR 11 0 (fX11_meanDelay N) <|
  c_dst 7 <|
  c_dld 5 <|
  c_dld 7 <|
  c_dcmp .l <|
  c_ifeq (
  kL_law_1635 N L sc r23) <|
  c_dld 5 <|
  c_dld 5 <|
  c_dcmp .l <|
  c_ifeq (
  kL_law_1633 N L sc) <|
  c_dld 7 <|
  c_dld 7 <|
  c_dcmp .l <|
  c_ifne (
  kL_law_1635 N L sc r23) <|
  kL_law_1633 N L sc),
(  c_rld 1 <|
  c_callR 10 0 (fX10_success N) <|
  c_f2d <|
  c_dst 5 <|
  c_rld 2 <|
  c_callR 11 0 (fX11_success N) <|
  c_f2d <|
  c_dst 7 <|
  c_dld 5 <|
  c_dld 7 <|
  c_dcmp .l <|
  c_ifeq (
  kL_law_1678 N L sc r23) <|
  c_dld 5 <|
  c_dld 5 <|
  c_dcmp .l <|
  c_ifeq (
  kL_law_1676 N L sc) <|
  c_dld 7 <|
  c_dld 7 <|
  c_dcmp .l <|
  c_ifne (
  kL_law_1678 N L sc r23) <|
  kL_law_1676 N L sc),
(  c_rld 1 <|
  c_rld 0 <|
  c_ild 4 <|
  c_i (1) <|
  c_ii (fun x y => x + y) <|
  c_sld L sc <|
  c_rld 3 <|
  c_callSN 3 (fL_pass N) <|
  c_ist 5 <|
  c_rld 2 <|
  c_rld 0 <|
  c_ild 4 <|
  c_i (1) <|
  c_ii (fun x y => x + y) <|
  c_sld L sc <|
  c_callR 11 1 (fX11_pass N) <|
  c_ist 6 <|
  c_rld 2 <|
  c_callR 11 0 (fX11_thrown N) <|
  c_ild 5 <|
  c_iceq (
  c_ild 5 <|
  c_ifne (
  kL_law_1734 N L sc r23) <|
  c_rld 3 <|
  c_i (0) <|
  c_lal <|
  c_ild 6 <|
  c_il (fun x => x.toInt64) <|
  c_cmp (fun x y => lg_cmp x y) <|
  c_ifeq (
  kL_law_1734 N L sc r23) <|
  c_i (0) <|
  c_zret) <|
  c_i (0) <|
  c_zret),
(  c_rld 1 <|
  c_rld 0 <|
  c_ild 4 <|
  c_i (1) <|
  c_ii (fun x y => x + y) <|
  c_sld L sc <|
  c_rld 0 <|
  c_ild 4 <|
  c_i (2) <|
  c_ii (fun x y => x + y) <|
  c_sld L sc <|
  c_rld 0 <|
  c_ild 4 <|
  c_i (3) <|
  c_ii (fun x y => x + y) <|
  c_sld L sc <|
  c_rld 3 <|
  c_callSN 5 (fL_send N) <|
  c_ist 5 <|
  c_rld 2 <|
  c_rld 0 <|
  c_ild 4 <|
  c_i (1) <|
  c_ii (fun x y => x + y) <|
  c_sld L sc <|
  c_rld 0 <|
  c_ild 4 <|
  c_i (2) <|
  c_ii (fun x y => x + y) <|
  c_sld L sc <|
  c_rld 0 <|
  c_ild 4 <|
  c_i (3) <|
  c_ii (fun x y => x + y) <|
  c_sld L sc <|
  c_callR 11 3 (fX11_send N) <|
  c_ist 6 <|
  c_rld 2 <|
  c_callR 11 0 (fX11_thrown N) <|
  c_ild 5 <|
  c_iceq (
  c_ild 5 <|
  c_ifne (
  kL_law_1814 N L sc r23) <|
  c_rld 3 <|
  c_i (0) <|
  c_lal <|
  c_ild 6 <|
  c_il (fun x => x.toInt64) <|
  c_cmp (fun x y => lg_cmp x y) <|
  c_ifeq (
  kL_law_1814 N L sc r23) <|
  c_i (0) <|
  c_zret) <|
  c_i (0) <|
  c_zret),
(  c_rld 1 <|
  c_rld 0 <|
  c_ild 4 <|
  c_i (1) <|
  c_ii (fun x y => x + y) <|
  c_sld L sc <|
  c_rld 0 <|
  c_ild 4 <|
  c_i (2) <|
  c_ii (fun x y => x + y) <|
  c_sld L sc <|
  c_rld 3 <|
  c_callSN 4 (fL_wall N) <|
  c_ist 5 <|
  c_rld 2 <|
  c_rld 0 <|
  c_ild 4 <|
  c_i (1) <|
  c_ii (fun x y => x + y) <|
  c_sld L sc <|
  c_rld 0 <|
  c_ild 4 <|
  c_i (2) <|
  c_ii (fun x y => x + y) <|
  c_sld L sc <|
  c_callR 11 2 (fX11_wall N) <|
  c_ist 6 <|
  c_rld 2 <|
  c_callR 11 0 (fX11_thrown N) <|
  c_ild 5 <|
  c_iceq (
  c_ild 5 <|
  c_ifne (
  kL_law_1882 N L sc r23) <|
  c_rld 3 <|
  c_i (0) <|
  c_lal <|
  c_ild 6 <|
  c_il (fun x => x.toInt64) <|
  c_cmp (fun x y => lg_cmp x y) <|
  c_ifeq (
  kL_law_1882 N L sc r23) <|
  c_i (0) <|
  c_zret) <|
  c_i (0) <|
  c_zret),
(  c_rld 1 <|
  c_rld 0 <|
  c_ild 4 <|
  c_i (1) <|
  c_ii (fun x y => x + y) <|
  c_sld L sc <|
  c_rld 0 <|
  c_ild 4 <|
  c_i (2) <|
  c_ii (fun x y => x + y) <|
  c_sld L sc <|
  c_rld 0 <|
  c_ild 4 <|
  c_i (3) <|
  c_ii (fun x y => x + y) <|
  c_sld L sc <|
  c_rld 3 <|
  c_callSN 5 (fL_movePicket N) <|
  c_ist 5 <|
  c_rld 2 <|
  c_rld 0 <|
  c_ild 4 <|
  c_i (1) <|
  c_ii (fun x y => x + y) <|
  c_sld L sc <|
  c_rld 0 <|
  c_ild 4 <|
  c_i (2) <|
  c_ii (fun x y => x + y) <|
  c_sld L sc <|
  c_rld 0 <|
  c_ild 4 <|
  c_i (3) <|
  c_ii (fun x y => x + y) <|
  c_sld L sc <|
  c_callR 11 3 (fX11_movePicket N) <|
  c_ist 6 <|
  c_rld 2 <|
  c_callR 11 0 (fX11_thrown N) <|
  c_ild 5 <|
  c_iceq (
  c_ild 5 <|
  c_ifne (
  kL_law_1962 N L sc r23) <|
  c_rld 3 <|
  c_i (0) <|
  c_lal <|
  c_ild 6 <|
  c_il (fun x => x.toInt64) <|
  c_cmp (fun x y => lg_cmp x y) <|
  c_ifeq (
  kL_law_1962 N L sc r23) <|
  c_i (0) <|
  c_zret) <|
  c_i (0) <|
  c_zret),
(  c_rld 1 <|
  c_rld 0 <|
  c_ild 4 <|
  c_i (1) <|
  c_ii (fun x y => x + y) <|
  c_sld L sc <|
  c_rld 0 <|
  c_ild 4 <|
  c_i (2) <|
  c_ii (fun x y => x + y) <|
  c_sld L sc <|
  c_rld 3 <|
  c_callSN 4 (fL_movePlan N) <|
  c_ist 5 <|
  c_rld 2 <|
  c_rld 0 <|
  c_ild 4 <|
  c_i (1) <|
  c_ii (fun x y => x + y) <|
  c_sld L sc <|
  c_rld 0 <|
  c_ild 4 <|
  c_i (2) <|
  c_ii (fun x y => x + y) <|
  c_sld L sc <|
  c_callR 11 2 (fX11_movePlan N) <|
  c_ist 6 <|
  c_rld 2 <|
  c_callR 11 0 (fX11_thrown N) <|
  c_ild 5 <|
  c_iceq (
  c_ild 5 <|
  c_ifne (
  kL_law_2030 N L sc r23) <|
  c_rld 3 <|
  c_i (0) <|
  c_lal <|
  c_ild 6 <|
  c_il (fun x => x.toInt64) <|
  c_cmp (fun x y => lg_cmp x y) <|
  c_ifeq (
  kL_law_2030 N L sc r23) <|
  c_i (0) <|
  c_zret) <|
  c_i (0) <|
  c_zret),
(  c_rld 1 <|
  c_rld 0 <|
  c_ild 4 <|
  c_i (1) <|
  c_ii (fun x y => x + y) <|
  c_sld L sc <|
  c_rld 3 <|
  c_callSN 3 (fL_setPatience N) <|
  c_ist 5 <|
  c_rld 2 <|
  c_rld 0 <|
  c_ild 4 <|
  c_i (1) <|
  c_ii (fun x y => x + y) <|
  c_sld L sc <|
  c_callR 11 1 (fX11_setPatience N) <|
  c_ist 6 <|
  c_rld 2 <|
  c_callR 11 0 (fX11_thrown N) <|
  c_ild 5 <|
  c_iceq (
  c_ild 5 <|
  c_ifne (
  kL_law_2086 N L sc r23) <|
  c_rld 3 <|
  c_i (0) <|
  c_lal <|
  c_ild 6 <|
  c_il (fun x => x.toInt64) <|
  c_cmp (fun x y => lg_cmp x y) <|
  c_ifeq (
  kL_law_2086 N L sc r23) <|
  c_i (0) <|
  c_zret) <|
  c_i (0) <|
  c_zret),
(  c_rld 1 <|
  c_rld 0 <|
  c_ild 4 <|
  c_i (1) <|
  c_ii (fun x y => x + y) <|
  c_sld L sc <|
  c_rld 3 <|
  c_callSN 3 (fL_format N) <|
  c_ist 5 <|
  c_rld 2 <|
  c_rld 0 <|
  c_ild 4 <|
  c_i (1) <|
  c_ii (fun x y => x + y) <|
  c_sld L sc <|
  c_callR 11 1 (fX11_format N) <|
  c_ist 6 <|
  c_rld 2 <|
  c_callR 11 0 (fX11_thrown N) <|
  c_ild 5 <|
  c_iceq (
  c_ild 5 <|
  c_ifne (
  kL_law_2142 N L sc r23) <|
  c_rld 3 <|
  c_i (0) <|
  c_lal <|
  c_ild 6 <|
  c_il (fun x => x.toInt64) <|
  c_cmp (fun x y => lg_cmp x y) <|
  c_ifeq (
  kL_law_2142 N L sc r23) <|
  c_i (0) <|
  c_zret) <|
  c_i (0) <|
  c_zret),
(  c_rld 1 <|
  c_rld 0 <|
  c_ild 4 <|
  c_i (1) <|
  c_ii (fun x y => x + y) <|
  c_sld L sc <|
  c_callR 10 1 (fX10_formattedByte N) <|
  c_rld 2 <|
  c_rld 0 <|
  c_ild 4 <|
  c_i (1) <|
  c_ii (fun x y => x + y) <|
  c_sld L sc <|
  c_callR 11 1 (fX11_formattedByte N) <|
  c_iceq (
  kL_law_2276 N L sc r23) <|
  c_i (0) <|
  c_zret),
(  c_rld 1 <|
  c_callR 10 0 (fX10_undoCount N) <|
  c_rld 2 <|
  c_callR 11 0 (fX11_undoCount N) <|
  c_iceq (
  kL_law_2276 N L sc r23) <|
  c_i (0) <|
  c_zret),
(  c_rld 1 <|
  c_callR 10 0 (fX10_undo N) <|
  c_rld 2 <|
  c_callR 11 0 (fX11_undo N) <|
  c_iceq (
  kL_law_2276 N L sc r23) <|
  c_i (0) <|
  c_zret),
(  c_rld 1 <|
  c_callR 10 0 (fX10_saveSnapshot N) <|
  c_rld 2 <|
  c_callR 11 0 (fX11_saveSnapshot N) <|
  kL_law_2276 N L sc r23),
(  c_rld 1 <|
  c_callR 10 0 (fX10_restoreSnapshot N) <|
  c_rld 2 <|
  c_callR 11 0 (fX11_restoreSnapshot N) <|
  c_iceq (
  kL_law_2276 N L sc r23) <|
  c_i (0) <|
  c_zret),
(  c_rld 1 <|
  c_rld 0 <|
  c_ild 4 <|
  c_i (1) <|
  c_ii (fun x y => x + y) <|
  c_sld L sc <|
  c_rld 3 <|
  c_callSN 3 (fL_query N) <|
  c_ist 5 <|
  c_rld 2 <|
  c_rld 0 <|
  c_ild 4 <|
  c_i (1) <|
  c_ii (fun x y => x + y) <|
  c_sld L sc <|
  c_callR 11 1 (fX11_query N) <|
  c_ist 6 <|
  c_rld 2 <|
  c_callR 11 0 (fX11_thrown N) <|
  c_ild 5 <|
  c_iceq (
  c_ild 5 <|
  c_ifne (
  kL_law_2273 N L sc r23) <|
  c_rld 3 <|
  c_i (0) <|
  c_lal <|
  c_ild 6 <|
  c_il (fun x => x.toInt64) <|
  c_cmp (fun x y => lg_cmp x y) <|
  c_ifeq (
  kL_law_2273 N L sc r23) <|
  c_i (0) <|
  c_zret) <|
  c_i (0) <|
  c_zret)] : List am_K).getD i (fun _ _ _ => none)) <|
  kL_law_2276 N L sc r23
noncomputable def kL_law_23 (N : Nat) (L : Nat) (sc : Nat → Int32) : am_K := c_live [0, 1, 2, 3, 4] (am_loop (bL_law_23 N L sc) N)
noncomputable def kL_law_0 (N : Nat) (L : Nat) (sc : Nat → Int32) : am_K := c_live [0] <|
  c_new 10 <|
  c_dup <|
  c_callI 0 (fX10_init N) <|
  c_rst 1 <|
  c_new 11 <|
  c_dup <|
  c_callI 0 (fX11_init N) <|
  c_rst 2 <|
  c_i (1) <|
  c_newa 21 <|
  c_rst 3 <|
  c_i (0) <|
  c_ist 4 <|
  kL_law_23 N L sc
set_option maxRecDepth 20000 in
theorem vL_law_2276 (l : Launch) (hfl : l.stackTraces = false) (N : Nat) (L : Nat) (sc : Nat → Int32)  {r23 : am_K} (h23 : am_V l cL_law 9 RL (am_EL L sc) 59 2893 23 r23) : am_V l cL_law 9 RL (am_EL L sc) 59 2893 2276 (kL_law_2276 N L sc r23) := by
  refine av_live ?_
  refine av_iinc dL_law_2276 (by decide) (by decide) ?_
  refine av_goto (tgt := 23) dL_law_2279 (by decide) ?_
  exact av_live h23
set_option maxRecDepth 20000 in
theorem vL_law_326 (l : Launch) (hfl : l.stackTraces = false) (N : Nat) (L : Nat) (sc : Nat → Int32)  {r23 : am_K} (h23 : am_V l cL_law 9 RL (am_EL L sc) 59 2893 23 r23) : am_V l cL_law 9 RL (am_EL L sc) 59 2893 326 (kL_law_326 N L sc r23) := by
  refine av_live ?_
  refine av_goto (tgt := 2276) dL_law_326 (by decide) ?_
  exact vL_law_2276 l hfl N L sc h23
set_option maxRecDepth 20000 in
theorem vL_law_395 (l : Launch) (hfl : l.stackTraces = false) (N : Nat) (L : Nat) (sc : Nat → Int32)  {r23 : am_K} (h23 : am_V l cL_law 9 RL (am_EL L sc) 59 2893 23 r23) : am_V l cL_law 9 RL (am_EL L sc) 59 2893 395 (kL_law_395 N L sc r23) := by
  refine av_live ?_
  refine av_goto (tgt := 2276) dL_law_395 (by decide) ?_
  exact vL_law_2276 l hfl N L sc h23
set_option maxRecDepth 20000 in
theorem vL_law_463 (l : Launch) (hfl : l.stackTraces = false) (N : Nat) (L : Nat) (sc : Nat → Int32)  {r23 : am_K} (h23 : am_V l cL_law 9 RL (am_EL L sc) 59 2893 23 r23) : am_V l cL_law 9 RL (am_EL L sc) 59 2893 463 (kL_law_463 N L sc r23) := by
  refine av_live ?_
  refine av_goto (tgt := 2276) dL_law_463 (by decide) ?_
  exact vL_law_2276 l hfl N L sc h23
set_option maxRecDepth 20000 in
theorem vL_law_531 (l : Launch) (hfl : l.stackTraces = false) (N : Nat) (L : Nat) (sc : Nat → Int32)  {r23 : am_K} (h23 : am_V l cL_law 9 RL (am_EL L sc) 59 2893 23 r23) : am_V l cL_law 9 RL (am_EL L sc) 59 2893 531 (kL_law_531 N L sc r23) := by
  refine av_live ?_
  refine av_goto (tgt := 2276) dL_law_531 (by decide) ?_
  exact vL_law_2276 l hfl N L sc h23
set_option maxRecDepth 20000 in
theorem vL_law_599 (l : Launch) (hfl : l.stackTraces = false) (N : Nat) (L : Nat) (sc : Nat → Int32)  {r23 : am_K} (h23 : am_V l cL_law 9 RL (am_EL L sc) 59 2893 23 r23) : am_V l cL_law 9 RL (am_EL L sc) 59 2893 599 (kL_law_599 N L sc r23) := by
  refine av_live ?_
  refine av_goto (tgt := 2276) dL_law_599 (by decide) ?_
  exact vL_law_2276 l hfl N L sc h23
set_option maxRecDepth 20000 in
theorem vL_law_667 (l : Launch) (hfl : l.stackTraces = false) (N : Nat) (L : Nat) (sc : Nat → Int32)  {r23 : am_K} (h23 : am_V l cL_law 9 RL (am_EL L sc) 59 2893 23 r23) : am_V l cL_law 9 RL (am_EL L sc) 59 2893 667 (kL_law_667 N L sc r23) := by
  refine av_live ?_
  refine av_goto (tgt := 2276) dL_law_667 (by decide) ?_
  exact vL_law_2276 l hfl N L sc h23
set_option maxRecDepth 20000 in
theorem vL_law_735 (l : Launch) (hfl : l.stackTraces = false) (N : Nat) (L : Nat) (sc : Nat → Int32)  {r23 : am_K} (h23 : am_V l cL_law 9 RL (am_EL L sc) 59 2893 23 r23) : am_V l cL_law 9 RL (am_EL L sc) 59 2893 735 (kL_law_735 N L sc r23) := by
  refine av_live ?_
  refine av_goto (tgt := 2276) dL_law_735 (by decide) ?_
  exact vL_law_2276 l hfl N L sc h23
set_option maxRecDepth 20000 in
theorem vL_law_791 (l : Launch) (hfl : l.stackTraces = false) (N : Nat) (L : Nat) (sc : Nat → Int32)  {r23 : am_K} (h23 : am_V l cL_law 9 RL (am_EL L sc) 59 2893 23 r23) : am_V l cL_law 9 RL (am_EL L sc) 59 2893 791 (kL_law_791 N L sc r23) := by
  refine av_live ?_
  refine av_goto (tgt := 2276) dL_law_791 (by decide) ?_
  exact vL_law_2276 l hfl N L sc h23
set_option maxRecDepth 20000 in
theorem vL_law_866 (l : Launch) (hfl : l.stackTraces = false) (N : Nat) (L : Nat) (sc : Nat → Int32)  {r23 : am_K} (h23 : am_V l cL_law 9 RL (am_EL L sc) 59 2893 23 r23) : am_V l cL_law 9 RL (am_EL L sc) 59 2893 866 (kL_law_866 N L sc r23) := by
  refine av_live ?_
  refine av_goto (tgt := 2276) dL_law_866 (by decide) ?_
  exact vL_law_2276 l hfl N L sc h23
set_option maxRecDepth 20000 in
theorem vL_law_860 (l : Launch) (hfl : l.stackTraces = false) (N : Nat) (L : Nat) (sc : Nat → Int32)  {r23 : am_K} (h23 : am_V l cL_law 9 RL (am_EL L sc) 59 2893 23 r23) : am_V l cL_law 9 RL (am_EL L sc) 59 2893 860 (kL_law_860 N L sc r23) := by
  refine av_live ?_
  refine av_lcmp dL_law_860 ?_
  refine av_ifeq (tgt := 866) dL_law_861 (by decide) ?_ ?_
  · exact vL_law_866 l hfl N L sc h23
  refine av_iconst (v := 0) dL_law_864 (by decide) ?_
  exact av_zreturn am_hzL dL_law_865
set_option maxRecDepth 20000 in
theorem vL_law_953 (l : Launch) (hfl : l.stackTraces = false) (N : Nat) (L : Nat) (sc : Nat → Int32)  {r23 : am_K} (h23 : am_V l cL_law 9 RL (am_EL L sc) 59 2893 23 r23) : am_V l cL_law 9 RL (am_EL L sc) 59 2893 953 (kL_law_953 N L sc r23) := by
  refine av_live ?_
  refine av_goto (tgt := 2276) dL_law_953 (by decide) ?_
  exact vL_law_2276 l hfl N L sc h23
set_option maxRecDepth 20000 in
theorem vL_law_947 (l : Launch) (hfl : l.stackTraces = false) (N : Nat) (L : Nat) (sc : Nat → Int32)  {r23 : am_K} (h23 : am_V l cL_law 9 RL (am_EL L sc) 59 2893 23 r23) : am_V l cL_law 9 RL (am_EL L sc) 59 2893 947 (kL_law_947 N L sc r23) := by
  refine av_live ?_
  refine av_lcmp dL_law_947 ?_
  refine av_ifeq (tgt := 953) dL_law_948 (by decide) ?_ ?_
  · exact vL_law_953 l hfl N L sc h23
  refine av_iconst (v := 0) dL_law_951 (by decide) ?_
  exact av_zreturn am_hzL dL_law_952
set_option maxRecDepth 20000 in
theorem vL_law_1045 (l : Launch) (hfl : l.stackTraces = false) (N : Nat) (L : Nat) (sc : Nat → Int32)  {r23 : am_K} (h23 : am_V l cL_law 9 RL (am_EL L sc) 59 2893 23 r23) : am_V l cL_law 9 RL (am_EL L sc) 59 2893 1045 (kL_law_1045 N L sc r23) := by
  refine av_live ?_
  refine av_goto (tgt := 2276) dL_law_1045 (by decide) ?_
  exact vL_law_2276 l hfl N L sc h23
set_option maxRecDepth 20000 in
theorem vL_law_1137 (l : Launch) (hfl : l.stackTraces = false) (N : Nat) (L : Nat) (sc : Nat → Int32)  {r23 : am_K} (h23 : am_V l cL_law 9 RL (am_EL L sc) 59 2893 23 r23) : am_V l cL_law 9 RL (am_EL L sc) 59 2893 1137 (kL_law_1137 N L sc r23) := by
  refine av_live ?_
  refine av_goto (tgt := 2276) dL_law_1137 (by decide) ?_
  exact vL_law_2276 l hfl N L sc h23
set_option maxRecDepth 20000 in
theorem vL_law_1205 (l : Launch) (hfl : l.stackTraces = false) (N : Nat) (L : Nat) (sc : Nat → Int32)  {r23 : am_K} (h23 : am_V l cL_law 9 RL (am_EL L sc) 59 2893 23 r23) : am_V l cL_law 9 RL (am_EL L sc) 59 2893 1205 (kL_law_1205 N L sc r23) := by
  refine av_live ?_
  refine av_goto (tgt := 2276) dL_law_1205 (by decide) ?_
  exact vL_law_2276 l hfl N L sc h23
set_option maxRecDepth 20000 in
theorem vL_law_1273 (l : Launch) (hfl : l.stackTraces = false) (N : Nat) (L : Nat) (sc : Nat → Int32)  {r23 : am_K} (h23 : am_V l cL_law 9 RL (am_EL L sc) 59 2893 23 r23) : am_V l cL_law 9 RL (am_EL L sc) 59 2893 1273 (kL_law_1273 N L sc r23) := by
  refine av_live ?_
  refine av_goto (tgt := 2276) dL_law_1273 (by decide) ?_
  exact vL_law_2276 l hfl N L sc h23
set_option maxRecDepth 20000 in
theorem vL_law_1378 (l : Launch) (hfl : l.stackTraces = false) (N : Nat) (L : Nat) (sc : Nat → Int32)  {r23 : am_K} (h23 : am_V l cL_law 9 RL (am_EL L sc) 59 2893 23 r23) : am_V l cL_law 9 RL (am_EL L sc) 59 2893 1378 (kL_law_1378 N L sc r23) := by
  refine av_live ?_
  refine av_goto (tgt := 2276) dL_law_1378 (by decide) ?_
  exact vL_law_2276 l hfl N L sc h23
set_option maxRecDepth 20000 in
theorem vL_law_1458 (l : Launch) (hfl : l.stackTraces = false) (N : Nat) (L : Nat) (sc : Nat → Int32)  {r23 : am_K} (h23 : am_V l cL_law 9 RL (am_EL L sc) 59 2893 23 r23) : am_V l cL_law 9 RL (am_EL L sc) 59 2893 1458 (kL_law_1458 N L sc r23) := by
  refine av_live ?_
  refine av_goto (tgt := 2276) dL_law_1458 (by decide) ?_
  exact vL_law_2276 l hfl N L sc h23
set_option maxRecDepth 20000 in
theorem vL_law_1538 (l : Launch) (hfl : l.stackTraces = false) (N : Nat) (L : Nat) (sc : Nat → Int32)  {r23 : am_K} (h23 : am_V l cL_law 9 RL (am_EL L sc) 59 2893 23 r23) : am_V l cL_law 9 RL (am_EL L sc) 59 2893 1538 (kL_law_1538 N L sc r23) := by
  refine av_live ?_
  refine av_goto (tgt := 2276) dL_law_1538 (by decide) ?_
  exact vL_law_2276 l hfl N L sc h23
set_option maxRecDepth 20000 in
theorem vL_law_1594 (l : Launch) (hfl : l.stackTraces = false) (N : Nat) (L : Nat) (sc : Nat → Int32)  {r23 : am_K} (h23 : am_V l cL_law 9 RL (am_EL L sc) 59 2893 23 r23) : am_V l cL_law 9 RL (am_EL L sc) 59 2893 1594 (kL_law_1594 N L sc r23) := by
  refine av_live ?_
  refine av_goto (tgt := 2276) dL_law_1594 (by decide) ?_
  exact vL_law_2276 l hfl N L sc h23
set_option maxRecDepth 20000 in
theorem vL_law_1635 (l : Launch) (hfl : l.stackTraces = false) (N : Nat) (L : Nat) (sc : Nat → Int32)  {r23 : am_K} (h23 : am_V l cL_law 9 RL (am_EL L sc) 59 2893 23 r23) : am_V l cL_law 9 RL (am_EL L sc) 59 2893 1635 (kL_law_1635 N L sc r23) := by
  refine av_live ?_
  refine av_goto (tgt := 2276) dL_law_1635 (by decide) ?_
  exact vL_law_2276 l hfl N L sc h23
set_option maxRecDepth 20000 in
theorem vL_law_1633 (l : Launch) (hfl : l.stackTraces = false) (N : Nat) (L : Nat) (sc : Nat → Int32)  : am_V l cL_law 9 RL (am_EL L sc) 59 2893 1633 (kL_law_1633 N L sc) := by
  refine av_live ?_
  refine av_iconst (v := 0) dL_law_1633 (by decide) ?_
  exact av_zreturn am_hzL dL_law_1634
set_option maxRecDepth 20000 in
theorem vL_law_1678 (l : Launch) (hfl : l.stackTraces = false) (N : Nat) (L : Nat) (sc : Nat → Int32)  {r23 : am_K} (h23 : am_V l cL_law 9 RL (am_EL L sc) 59 2893 23 r23) : am_V l cL_law 9 RL (am_EL L sc) 59 2893 1678 (kL_law_1678 N L sc r23) := by
  refine av_live ?_
  refine av_goto (tgt := 2276) dL_law_1678 (by decide) ?_
  exact vL_law_2276 l hfl N L sc h23
set_option maxRecDepth 20000 in
theorem vL_law_1676 (l : Launch) (hfl : l.stackTraces = false) (N : Nat) (L : Nat) (sc : Nat → Int32)  : am_V l cL_law 9 RL (am_EL L sc) 59 2893 1676 (kL_law_1676 N L sc) := by
  refine av_live ?_
  refine av_iconst (v := 0) dL_law_1676 (by decide) ?_
  exact av_zreturn am_hzL dL_law_1677
set_option maxRecDepth 20000 in
theorem vL_law_1734 (l : Launch) (hfl : l.stackTraces = false) (N : Nat) (L : Nat) (sc : Nat → Int32)  {r23 : am_K} (h23 : am_V l cL_law 9 RL (am_EL L sc) 59 2893 23 r23) : am_V l cL_law 9 RL (am_EL L sc) 59 2893 1734 (kL_law_1734 N L sc r23) := by
  refine av_live ?_
  refine av_goto (tgt := 2276) dL_law_1734 (by decide) ?_
  exact vL_law_2276 l hfl N L sc h23
set_option maxRecDepth 20000 in
theorem vL_law_1814 (l : Launch) (hfl : l.stackTraces = false) (N : Nat) (L : Nat) (sc : Nat → Int32)  {r23 : am_K} (h23 : am_V l cL_law 9 RL (am_EL L sc) 59 2893 23 r23) : am_V l cL_law 9 RL (am_EL L sc) 59 2893 1814 (kL_law_1814 N L sc r23) := by
  refine av_live ?_
  refine av_goto (tgt := 2276) dL_law_1814 (by decide) ?_
  exact vL_law_2276 l hfl N L sc h23
set_option maxRecDepth 20000 in
theorem vL_law_1882 (l : Launch) (hfl : l.stackTraces = false) (N : Nat) (L : Nat) (sc : Nat → Int32)  {r23 : am_K} (h23 : am_V l cL_law 9 RL (am_EL L sc) 59 2893 23 r23) : am_V l cL_law 9 RL (am_EL L sc) 59 2893 1882 (kL_law_1882 N L sc r23) := by
  refine av_live ?_
  refine av_goto (tgt := 2276) dL_law_1882 (by decide) ?_
  exact vL_law_2276 l hfl N L sc h23
set_option maxRecDepth 20000 in
theorem vL_law_1962 (l : Launch) (hfl : l.stackTraces = false) (N : Nat) (L : Nat) (sc : Nat → Int32)  {r23 : am_K} (h23 : am_V l cL_law 9 RL (am_EL L sc) 59 2893 23 r23) : am_V l cL_law 9 RL (am_EL L sc) 59 2893 1962 (kL_law_1962 N L sc r23) := by
  refine av_live ?_
  refine av_goto (tgt := 2276) dL_law_1962 (by decide) ?_
  exact vL_law_2276 l hfl N L sc h23
set_option maxRecDepth 20000 in
theorem vL_law_2030 (l : Launch) (hfl : l.stackTraces = false) (N : Nat) (L : Nat) (sc : Nat → Int32)  {r23 : am_K} (h23 : am_V l cL_law 9 RL (am_EL L sc) 59 2893 23 r23) : am_V l cL_law 9 RL (am_EL L sc) 59 2893 2030 (kL_law_2030 N L sc r23) := by
  refine av_live ?_
  refine av_goto (tgt := 2276) dL_law_2030 (by decide) ?_
  exact vL_law_2276 l hfl N L sc h23
set_option maxRecDepth 20000 in
theorem vL_law_2086 (l : Launch) (hfl : l.stackTraces = false) (N : Nat) (L : Nat) (sc : Nat → Int32)  {r23 : am_K} (h23 : am_V l cL_law 9 RL (am_EL L sc) 59 2893 23 r23) : am_V l cL_law 9 RL (am_EL L sc) 59 2893 2086 (kL_law_2086 N L sc r23) := by
  refine av_live ?_
  refine av_goto (tgt := 2276) dL_law_2086 (by decide) ?_
  exact vL_law_2276 l hfl N L sc h23
set_option maxRecDepth 20000 in
theorem vL_law_2142 (l : Launch) (hfl : l.stackTraces = false) (N : Nat) (L : Nat) (sc : Nat → Int32)  {r23 : am_K} (h23 : am_V l cL_law 9 RL (am_EL L sc) 59 2893 23 r23) : am_V l cL_law 9 RL (am_EL L sc) 59 2893 2142 (kL_law_2142 N L sc r23) := by
  refine av_live ?_
  refine av_goto (tgt := 2276) dL_law_2142 (by decide) ?_
  exact vL_law_2276 l hfl N L sc h23
set_option maxRecDepth 20000 in
theorem vL_law_2273 (l : Launch) (hfl : l.stackTraces = false) (N : Nat) (L : Nat) (sc : Nat → Int32)  {r23 : am_K} (h23 : am_V l cL_law 9 RL (am_EL L sc) 59 2893 23 r23) : am_V l cL_law 9 RL (am_EL L sc) 59 2893 2273 (kL_law_2273 N L sc r23) := by
  refine av_live ?_
  refine av_goto (tgt := 2276) dL_law_2273 (by decide) ?_
  exact vL_law_2276 l hfl N L sc h23
set_option maxRecDepth 20000 in
theorem vL_law_23 (l : Launch) (hfl : l.stackTraces = false) (N : Nat) (L : Nat) (sc : Nat → Int32)  : am_V l cL_law 9 RL (am_EL L sc) 59 2893 23 (kL_law_23 N L sc) := by
  refine av_live ?_
  refine av_loop (fun r23 h23 => ?_) N
  refine av_iload dL_law_23 ?_
  refine av_aload_n dL_law_25 rfl ?_
  refine av_slen dL_law_26 ?_
  refine av_bipush (v := 6) dL_law_27 (by decide) ?_
  refine av_isub dL_law_29 ?_
  refine av_icgt (tgt := 2282) dL_law_30 (by decide) ?_ ?_
  · refine av_iconst (v := 1) dL_law_2282 (by decide) ?_
    exact av_zreturn am_hzL dL_law_2283
  refine av_aload_n dL_law_33 rfl ?_
  refine av_iload dL_law_34 ?_
  refine av_sld dL_law_36 ?_
  refine av_bipush (v := 63) dL_law_37 (by decide) ?_
  refine av_iand dL_law_39 ?_
  refine av_sw (n := 36) (tgt := 2276) (fun i => ([200, 273, 329, 342, 398, 466, 534, 602, 670, 738, 794, 869, 956, 1048, 1140, 1208, 1276, 1289, 1381, 1461, 1541, 1597, 1638, 1681, 1737, 1817, 1885, 1965, 2033, 2089, 2145, 2170, 2183, 2196, 2207, 2220] : List Nat).getD i 0) dL_law_40 (by decide) (by decide) ?_ (by decide +kernel) ?_
  · exact vL_law_2276 l hfl N L sc h23
  · intro i hi
    match i, hi with
    | 0, _ =>
      show am_V _ _ _ _ _ _ _ 200 (
  c_rld 1 <|
  c_rld 0 <|
  c_ild 4 <|
  c_i (1) <|
  c_ii (fun x y => x + y) <|
  c_sld L sc <|
  c_rld 0 <|
  c_ild 4 <|
  c_i (2) <|
  c_ii (fun x y => x + y) <|
  c_sld L sc <|
  c_rld 0 <|
  c_ild 4 <|
  c_i (3) <|
  c_ii (fun x y => x + y) <|
  c_sld L sc <|
  c_rld 0 <|
  c_ild 4 <|
  c_i (4) <|
  c_ii (fun x y => x + y) <|
  c_sld L sc <|
  c_rld 0 <|
  c_ild 4 <|
  c_i (5) <|
  c_ii (fun x y => x + y) <|
  c_sld L sc <|
  c_callR 10 5 (fX10_feed N) <|
  c_rld 2 <|
  c_rld 0 <|
  c_ild 4 <|
  c_i (1) <|
  c_ii (fun x y => x + y) <|
  c_sld L sc <|
  c_rld 0 <|
  c_ild 4 <|
  c_i (2) <|
  c_ii (fun x y => x + y) <|
  c_sld L sc <|
  c_rld 0 <|
  c_ild 4 <|
  c_i (3) <|
  c_ii (fun x y => x + y) <|
  c_sld L sc <|
  c_rld 0 <|
  c_ild 4 <|
  c_i (4) <|
  c_ii (fun x y => x + y) <|
  c_sld L sc <|
  c_rld 0 <|
  c_ild 4 <|
  c_i (5) <|
  c_ii (fun x y => x + y) <|
  c_sld L sc <|
  c_callR 11 5 (fX11_feed N) <|
  c_iceq (
  kL_law_2276 N L sc r23) <|
  c_i (0) <|
  c_zret)
      refine av_aload_n dL_law_200 rfl ?_
      refine av_aload_n dL_law_201 rfl ?_
      refine av_iload dL_law_202 ?_
      refine av_iconst (v := 1) dL_law_204 (by decide) ?_
      refine av_iadd dL_law_205 ?_
      refine av_sld dL_law_206 ?_
      refine av_aload_n dL_law_207 rfl ?_
      refine av_iload dL_law_208 ?_
      refine av_iconst (v := 2) dL_law_210 (by decide) ?_
      refine av_iadd dL_law_211 ?_
      refine av_sld dL_law_212 ?_
      refine av_aload_n dL_law_213 rfl ?_
      refine av_iload dL_law_214 ?_
      refine av_iconst (v := 3) dL_law_216 (by decide) ?_
      refine av_iadd dL_law_217 ?_
      refine av_sld dL_law_218 ?_
      refine av_aload_n dL_law_219 rfl ?_
      refine av_iload dL_law_220 ?_
      refine av_iconst (v := 4) dL_law_222 (by decide) ?_
      refine av_iadd dL_law_223 ?_
      refine av_sld dL_law_224 ?_
      refine av_aload_n dL_law_225 rfl ?_
      refine av_iload dL_law_226 ?_
      refine av_iconst (v := 5) dL_law_228 (by decide) ?_
      refine av_iadd dL_law_229 ?_
      refine av_sld dL_law_230 ?_
      refine av_callR (mX10_feed l hfl N) am_ci10 ⟨by decide +kernel, by decide +kernel, by decide +kernel⟩ q1104 q1105 q111 q1106 q1107 (by decide) (by decide) dL_law_231 ?_
      refine av_aload_n dL_law_234 rfl ?_
      refine av_aload_n dL_law_235 rfl ?_
      refine av_iload dL_law_236 ?_
      refine av_iconst (v := 1) dL_law_238 (by decide) ?_
      refine av_iadd dL_law_239 ?_
      refine av_sld dL_law_240 ?_
      refine av_aload_n dL_law_241 rfl ?_
      refine av_iload dL_law_242 ?_
      refine av_iconst (v := 2) dL_law_244 (by decide) ?_
      refine av_iadd dL_law_245 ?_
      refine av_sld dL_law_246 ?_
      refine av_aload_n dL_law_247 rfl ?_
      refine av_iload dL_law_248 ?_
      refine av_iconst (v := 3) dL_law_250 (by decide) ?_
      refine av_iadd dL_law_251 ?_
      refine av_sld dL_law_252 ?_
      refine av_aload_n dL_law_253 rfl ?_
      refine av_iload dL_law_254 ?_
      refine av_iconst (v := 4) dL_law_256 (by decide) ?_
      refine av_iadd dL_law_257 ?_
      refine av_sld dL_law_258 ?_
      refine av_aload_n dL_law_259 rfl ?_
      refine av_iload dL_law_260 ?_
      refine av_iconst (v := 5) dL_law_262 (by decide) ?_
      refine av_iadd dL_law_263 ?_
      refine av_sld dL_law_264 ?_
      refine av_callR (mX11_feed l hfl N) am_ci11 ⟨by decide +kernel, by decide +kernel, by decide +kernel⟩ q1108 q1109 q628 q1110 q1111 (by decide) (by decide) dL_law_265 ?_
      refine av_iceq (tgt := 2276) dL_law_268 (by decide) ?_ ?_
      · exact vL_law_2276 l hfl N L sc h23
      refine av_iconst (v := 0) dL_law_271 (by decide) ?_
      exact av_zreturn am_hzL dL_law_272
    | 1, _ =>
      show am_V _ _ _ _ _ _ _ 273 (
  c_rld 1 <|
  c_rld 0 <|
  c_ild 4 <|
  c_i (1) <|
  c_ii (fun x y => x + y) <|
  c_sld L sc <|
  c_rld 3 <|
  c_callSN 3 (fL_load N) <|
  c_ist 5 <|
  c_rld 2 <|
  c_rld 0 <|
  c_ild 4 <|
  c_i (1) <|
  c_ii (fun x y => x + y) <|
  c_sld L sc <|
  c_callR 11 1 (fX11_load N) <|
  c_ist 6 <|
  c_rld 2 <|
  c_callR 11 0 (fX11_thrown N) <|
  c_ild 5 <|
  c_iceq (
  c_ild 5 <|
  c_ifne (
  kL_law_326 N L sc r23) <|
  c_rld 3 <|
  c_i (0) <|
  c_lal <|
  c_ild 6 <|
  c_il (fun x => x.toInt64) <|
  c_cmp (fun x y => lg_cmp x y) <|
  c_ifeq (
  kL_law_326 N L sc r23) <|
  c_i (0) <|
  c_zret) <|
  c_i (0) <|
  c_zret)
      refine av_aload_n dL_law_273 rfl ?_
      refine av_aload_n dL_law_274 rfl ?_
      refine av_iload dL_law_275 ?_
      refine av_iconst (v := 1) dL_law_277 (by decide) ?_
      refine av_iadd dL_law_278 ?_
      refine av_sld dL_law_279 ?_
      refine av_aload_n dL_law_280 rfl ?_
      refine av_callSH (mL_load l hfl N) ⟨by decide +kernel, by decide +kernel, by decide +kernel⟩ q1112 q1113 q1114 q1115 (by decide) (by decide) dL_law_281 ?_
      refine av_istore dL_law_284 (by decide) ?_
      refine av_aload_n dL_law_286 rfl ?_
      refine av_aload_n dL_law_287 rfl ?_
      refine av_iload dL_law_288 ?_
      refine av_iconst (v := 1) dL_law_290 (by decide) ?_
      refine av_iadd dL_law_291 ?_
      refine av_sld dL_law_292 ?_
      refine av_callR (mX11_load l hfl N) am_ci11 ⟨by decide +kernel, by decide +kernel, by decide +kernel⟩ q1116 q1117 q628 q1118 q1119 (by decide) (by decide) dL_law_293 ?_
      refine av_istore dL_law_296 (by decide) ?_
      refine av_aload_n dL_law_298 rfl ?_
      refine av_callR (mX11_thrown l hfl N) am_ci11 ⟨by decide +kernel, by decide +kernel, by decide +kernel⟩ q1120 q1121 q628 q1122 q1123 (by decide) (by decide) dL_law_299 ?_
      refine av_iload dL_law_302 ?_
      refine av_iceq (tgt := 309) dL_law_304 (by decide) ?_ ?_
      · refine av_iload dL_law_309 ?_
        refine av_ifne (tgt := 326) dL_law_311 (by decide) ?_ ?_
        · exact vL_law_326 l hfl N L sc h23
        refine av_aload_n dL_law_314 rfl ?_
        refine av_iconst (v := 0) dL_law_315 (by decide) ?_
        refine av_laload dL_law_316 ?_
        refine av_iload dL_law_317 ?_
        refine av_i2l dL_law_319 ?_
        refine av_lcmp dL_law_320 ?_
        refine av_ifeq (tgt := 326) dL_law_321 (by decide) ?_ ?_
        · exact vL_law_326 l hfl N L sc h23
        refine av_iconst (v := 0) dL_law_324 (by decide) ?_
        exact av_zreturn am_hzL dL_law_325
      refine av_iconst (v := 0) dL_law_307 (by decide) ?_
      exact av_zreturn am_hzL dL_law_308
    | 2, _ =>
      show am_V _ _ _ _ _ _ _ 329 (
  c_rld 1 <|
  c_callR 10 0 (fX10_errorPosition N) <|
  c_rld 2 <|
  c_callR 11 0 (fX11_errorPosition N) <|
  c_iceq (
  kL_law_2276 N L sc r23) <|
  c_i (0) <|
  c_zret)
      refine av_aload_n dL_law_329 rfl ?_
      refine av_callR (mX10_errorPosition l hfl N) am_ci10 ⟨by decide +kernel, by decide +kernel, by decide +kernel⟩ q1124 q1125 q111 q1126 q1127 (by decide) (by decide) dL_law_330 ?_
      refine av_aload_n dL_law_333 rfl ?_
      refine av_callR (mX11_errorPosition l hfl N) am_ci11 ⟨by decide +kernel, by decide +kernel, by decide +kernel⟩ q1128 q1129 q628 q1130 q1131 (by decide) (by decide) dL_law_334 ?_
      refine av_iceq (tgt := 2276) dL_law_337 (by decide) ?_ ?_
      · exact vL_law_2276 l hfl N L sc h23
      refine av_iconst (v := 0) dL_law_340 (by decide) ?_
      exact av_zreturn am_hzL dL_law_341
    | 3, _ =>
      show am_V _ _ _ _ _ _ _ 342 (
  c_rld 1 <|
  c_rld 0 <|
  c_ild 4 <|
  c_i (1) <|
  c_ii (fun x y => x + y) <|
  c_sld L sc <|
  c_rld 3 <|
  c_callSN 3 (fL_size N) <|
  c_ist 5 <|
  c_rld 2 <|
  c_rld 0 <|
  c_ild 4 <|
  c_i (1) <|
  c_ii (fun x y => x + y) <|
  c_sld L sc <|
  c_callR 11 1 (fX11_size N) <|
  c_ist 6 <|
  c_rld 2 <|
  c_callR 11 0 (fX11_thrown N) <|
  c_ild 5 <|
  c_iceq (
  c_ild 5 <|
  c_ifne (
  kL_law_395 N L sc r23) <|
  c_rld 3 <|
  c_i (0) <|
  c_lal <|
  c_ild 6 <|
  c_il (fun x => x.toInt64) <|
  c_cmp (fun x y => lg_cmp x y) <|
  c_ifeq (
  kL_law_395 N L sc r23) <|
  c_i (0) <|
  c_zret) <|
  c_i (0) <|
  c_zret)
      refine av_aload_n dL_law_342 rfl ?_
      refine av_aload_n dL_law_343 rfl ?_
      refine av_iload dL_law_344 ?_
      refine av_iconst (v := 1) dL_law_346 (by decide) ?_
      refine av_iadd dL_law_347 ?_
      refine av_sld dL_law_348 ?_
      refine av_aload_n dL_law_349 rfl ?_
      refine av_callSH (mL_size l hfl N) ⟨by decide +kernel, by decide +kernel, by decide +kernel⟩ q1132 q1133 q1114 q1134 (by decide) (by decide) dL_law_350 ?_
      refine av_istore dL_law_353 (by decide) ?_
      refine av_aload_n dL_law_355 rfl ?_
      refine av_aload_n dL_law_356 rfl ?_
      refine av_iload dL_law_357 ?_
      refine av_iconst (v := 1) dL_law_359 (by decide) ?_
      refine av_iadd dL_law_360 ?_
      refine av_sld dL_law_361 ?_
      refine av_callR (mX11_size l hfl N) am_ci11 ⟨by decide +kernel, by decide +kernel, by decide +kernel⟩ q1135 q1136 q628 q1137 q1138 (by decide) (by decide) dL_law_362 ?_
      refine av_istore dL_law_365 (by decide) ?_
      refine av_aload_n dL_law_367 rfl ?_
      refine av_callR (mX11_thrown l hfl N) am_ci11 ⟨by decide +kernel, by decide +kernel, by decide +kernel⟩ q1120 q1121 q628 q1122 q1123 (by decide) (by decide) dL_law_368 ?_
      refine av_iload dL_law_371 ?_
      refine av_iceq (tgt := 378) dL_law_373 (by decide) ?_ ?_
      · refine av_iload dL_law_378 ?_
        refine av_ifne (tgt := 395) dL_law_380 (by decide) ?_ ?_
        · exact vL_law_395 l hfl N L sc h23
        refine av_aload_n dL_law_383 rfl ?_
        refine av_iconst (v := 0) dL_law_384 (by decide) ?_
        refine av_laload dL_law_385 ?_
        refine av_iload dL_law_386 ?_
        refine av_i2l dL_law_388 ?_
        refine av_lcmp dL_law_389 ?_
        refine av_ifeq (tgt := 395) dL_law_390 (by decide) ?_ ?_
        · exact vL_law_395 l hfl N L sc h23
        refine av_iconst (v := 0) dL_law_393 (by decide) ?_
        exact av_zreturn am_hzL dL_law_394
      refine av_iconst (v := 0) dL_law_376 (by decide) ?_
      exact av_zreturn am_hzL dL_law_377
    | 4, _ =>
      show am_V _ _ _ _ _ _ _ 398 (
  c_rld 1 <|
  c_rld 0 <|
  c_ild 4 <|
  c_i (1) <|
  c_ii (fun x y => x + y) <|
  c_sld L sc <|
  c_rld 0 <|
  c_ild 4 <|
  c_i (2) <|
  c_ii (fun x y => x + y) <|
  c_sld L sc <|
  c_rld 3 <|
  c_callSN 4 (fL_unit N) <|
  c_ist 5 <|
  c_rld 2 <|
  c_rld 0 <|
  c_ild 4 <|
  c_i (1) <|
  c_ii (fun x y => x + y) <|
  c_sld L sc <|
  c_rld 0 <|
  c_ild 4 <|
  c_i (2) <|
  c_ii (fun x y => x + y) <|
  c_sld L sc <|
  c_callR 11 2 (fX11_unit N) <|
  c_ist 6 <|
  c_rld 2 <|
  c_callR 11 0 (fX11_thrown N) <|
  c_ild 5 <|
  c_iceq (
  c_ild 5 <|
  c_ifne (
  kL_law_463 N L sc r23) <|
  c_rld 3 <|
  c_i (0) <|
  c_lal <|
  c_ild 6 <|
  c_il (fun x => x.toInt64) <|
  c_cmp (fun x y => lg_cmp x y) <|
  c_ifeq (
  kL_law_463 N L sc r23) <|
  c_i (0) <|
  c_zret) <|
  c_i (0) <|
  c_zret)
      refine av_aload_n dL_law_398 rfl ?_
      refine av_aload_n dL_law_399 rfl ?_
      refine av_iload dL_law_400 ?_
      refine av_iconst (v := 1) dL_law_402 (by decide) ?_
      refine av_iadd dL_law_403 ?_
      refine av_sld dL_law_404 ?_
      refine av_aload_n dL_law_405 rfl ?_
      refine av_iload dL_law_406 ?_
      refine av_iconst (v := 2) dL_law_408 (by decide) ?_
      refine av_iadd dL_law_409 ?_
      refine av_sld dL_law_410 ?_
      refine av_aload_n dL_law_411 rfl ?_
      refine av_callSH (mL_unit l hfl N) ⟨by decide +kernel, by decide +kernel, by decide +kernel⟩ q1139 q1140 q1114 q1141 (by decide) (by decide) dL_law_412 ?_
      refine av_istore dL_law_415 (by decide) ?_
      refine av_aload_n dL_law_417 rfl ?_
      refine av_aload_n dL_law_418 rfl ?_
      refine av_iload dL_law_419 ?_
      refine av_iconst (v := 1) dL_law_421 (by decide) ?_
      refine av_iadd dL_law_422 ?_
      refine av_sld dL_law_423 ?_
      refine av_aload_n dL_law_424 rfl ?_
      refine av_iload dL_law_425 ?_
      refine av_iconst (v := 2) dL_law_427 (by decide) ?_
      refine av_iadd dL_law_428 ?_
      refine av_sld dL_law_429 ?_
      refine av_callR (mX11_unit l hfl N) am_ci11 ⟨by decide +kernel, by decide +kernel, by decide +kernel⟩ q1142 q1143 q628 q1144 q1145 (by decide) (by decide) dL_law_430 ?_
      refine av_istore dL_law_433 (by decide) ?_
      refine av_aload_n dL_law_435 rfl ?_
      refine av_callR (mX11_thrown l hfl N) am_ci11 ⟨by decide +kernel, by decide +kernel, by decide +kernel⟩ q1120 q1121 q628 q1122 q1123 (by decide) (by decide) dL_law_436 ?_
      refine av_iload dL_law_439 ?_
      refine av_iceq (tgt := 446) dL_law_441 (by decide) ?_ ?_
      · refine av_iload dL_law_446 ?_
        refine av_ifne (tgt := 463) dL_law_448 (by decide) ?_ ?_
        · exact vL_law_463 l hfl N L sc h23
        refine av_aload_n dL_law_451 rfl ?_
        refine av_iconst (v := 0) dL_law_452 (by decide) ?_
        refine av_laload dL_law_453 ?_
        refine av_iload dL_law_454 ?_
        refine av_i2l dL_law_456 ?_
        refine av_lcmp dL_law_457 ?_
        refine av_ifeq (tgt := 463) dL_law_458 (by decide) ?_ ?_
        · exact vL_law_463 l hfl N L sc h23
        refine av_iconst (v := 0) dL_law_461 (by decide) ?_
        exact av_zreturn am_hzL dL_law_462
      refine av_iconst (v := 0) dL_law_444 (by decide) ?_
      exact av_zreturn am_hzL dL_law_445
    | 5, _ =>
      show am_V _ _ _ _ _ _ _ 466 (
  c_rld 1 <|
  c_rld 0 <|
  c_ild 4 <|
  c_i (1) <|
  c_ii (fun x y => x + y) <|
  c_sld L sc <|
  c_rld 0 <|
  c_ild 4 <|
  c_i (2) <|
  c_ii (fun x y => x + y) <|
  c_sld L sc <|
  c_rld 3 <|
  c_callSN 4 (fL_picket N) <|
  c_ist 5 <|
  c_rld 2 <|
  c_rld 0 <|
  c_ild 4 <|
  c_i (1) <|
  c_ii (fun x y => x + y) <|
  c_sld L sc <|
  c_rld 0 <|
  c_ild 4 <|
  c_i (2) <|
  c_ii (fun x y => x + y) <|
  c_sld L sc <|
  c_callR 11 2 (fX11_picket N) <|
  c_ist 6 <|
  c_rld 2 <|
  c_callR 11 0 (fX11_thrown N) <|
  c_ild 5 <|
  c_iceq (
  c_ild 5 <|
  c_ifne (
  kL_law_531 N L sc r23) <|
  c_rld 3 <|
  c_i (0) <|
  c_lal <|
  c_ild 6 <|
  c_il (fun x => x.toInt64) <|
  c_cmp (fun x y => lg_cmp x y) <|
  c_ifeq (
  kL_law_531 N L sc r23) <|
  c_i (0) <|
  c_zret) <|
  c_i (0) <|
  c_zret)
      refine av_aload_n dL_law_466 rfl ?_
      refine av_aload_n dL_law_467 rfl ?_
      refine av_iload dL_law_468 ?_
      refine av_iconst (v := 1) dL_law_470 (by decide) ?_
      refine av_iadd dL_law_471 ?_
      refine av_sld dL_law_472 ?_
      refine av_aload_n dL_law_473 rfl ?_
      refine av_iload dL_law_474 ?_
      refine av_iconst (v := 2) dL_law_476 (by decide) ?_
      refine av_iadd dL_law_477 ?_
      refine av_sld dL_law_478 ?_
      refine av_aload_n dL_law_479 rfl ?_
      refine av_callSH (mL_picket l hfl N) ⟨by decide +kernel, by decide +kernel, by decide +kernel⟩ q1146 q1147 q1114 q1148 (by decide) (by decide) dL_law_480 ?_
      refine av_istore dL_law_483 (by decide) ?_
      refine av_aload_n dL_law_485 rfl ?_
      refine av_aload_n dL_law_486 rfl ?_
      refine av_iload dL_law_487 ?_
      refine av_iconst (v := 1) dL_law_489 (by decide) ?_
      refine av_iadd dL_law_490 ?_
      refine av_sld dL_law_491 ?_
      refine av_aload_n dL_law_492 rfl ?_
      refine av_iload dL_law_493 ?_
      refine av_iconst (v := 2) dL_law_495 (by decide) ?_
      refine av_iadd dL_law_496 ?_
      refine av_sld dL_law_497 ?_
      refine av_callR (mX11_picket l hfl N) am_ci11 ⟨by decide +kernel, by decide +kernel, by decide +kernel⟩ q1149 q1150 q628 q1151 q1152 (by decide) (by decide) dL_law_498 ?_
      refine av_istore dL_law_501 (by decide) ?_
      refine av_aload_n dL_law_503 rfl ?_
      refine av_callR (mX11_thrown l hfl N) am_ci11 ⟨by decide +kernel, by decide +kernel, by decide +kernel⟩ q1120 q1121 q628 q1122 q1123 (by decide) (by decide) dL_law_504 ?_
      refine av_iload dL_law_507 ?_
      refine av_iceq (tgt := 514) dL_law_509 (by decide) ?_ ?_
      · refine av_iload dL_law_514 ?_
        refine av_ifne (tgt := 531) dL_law_516 (by decide) ?_ ?_
        · exact vL_law_531 l hfl N L sc h23
        refine av_aload_n dL_law_519 rfl ?_
        refine av_iconst (v := 0) dL_law_520 (by decide) ?_
        refine av_laload dL_law_521 ?_
        refine av_iload dL_law_522 ?_
        refine av_i2l dL_law_524 ?_
        refine av_lcmp dL_law_525 ?_
        refine av_ifeq (tgt := 531) dL_law_526 (by decide) ?_ ?_
        · exact vL_law_531 l hfl N L sc h23
        refine av_iconst (v := 0) dL_law_529 (by decide) ?_
        exact av_zreturn am_hzL dL_law_530
      refine av_iconst (v := 0) dL_law_512 (by decide) ?_
      exact av_zreturn am_hzL dL_law_513
    | 6, _ =>
      show am_V _ _ _ _ _ _ _ 534 (
  c_rld 1 <|
  c_rld 0 <|
  c_ild 4 <|
  c_i (1) <|
  c_ii (fun x y => x + y) <|
  c_sld L sc <|
  c_rld 0 <|
  c_ild 4 <|
  c_i (2) <|
  c_ii (fun x y => x + y) <|
  c_sld L sc <|
  c_rld 3 <|
  c_callSN 4 (fL_order N) <|
  c_ist 5 <|
  c_rld 2 <|
  c_rld 0 <|
  c_ild 4 <|
  c_i (1) <|
  c_ii (fun x y => x + y) <|
  c_sld L sc <|
  c_rld 0 <|
  c_ild 4 <|
  c_i (2) <|
  c_ii (fun x y => x + y) <|
  c_sld L sc <|
  c_callR 11 2 (fX11_order N) <|
  c_ist 6 <|
  c_rld 2 <|
  c_callR 11 0 (fX11_thrown N) <|
  c_ild 5 <|
  c_iceq (
  c_ild 5 <|
  c_ifne (
  kL_law_599 N L sc r23) <|
  c_rld 3 <|
  c_i (0) <|
  c_lal <|
  c_ild 6 <|
  c_il (fun x => x.toInt64) <|
  c_cmp (fun x y => lg_cmp x y) <|
  c_ifeq (
  kL_law_599 N L sc r23) <|
  c_i (0) <|
  c_zret) <|
  c_i (0) <|
  c_zret)
      refine av_aload_n dL_law_534 rfl ?_
      refine av_aload_n dL_law_535 rfl ?_
      refine av_iload dL_law_536 ?_
      refine av_iconst (v := 1) dL_law_538 (by decide) ?_
      refine av_iadd dL_law_539 ?_
      refine av_sld dL_law_540 ?_
      refine av_aload_n dL_law_541 rfl ?_
      refine av_iload dL_law_542 ?_
      refine av_iconst (v := 2) dL_law_544 (by decide) ?_
      refine av_iadd dL_law_545 ?_
      refine av_sld dL_law_546 ?_
      refine av_aload_n dL_law_547 rfl ?_
      refine av_callSH (mL_order l hfl N) ⟨by decide +kernel, by decide +kernel, by decide +kernel⟩ q1153 q1154 q1114 q1155 (by decide) (by decide) dL_law_548 ?_
      refine av_istore dL_law_551 (by decide) ?_
      refine av_aload_n dL_law_553 rfl ?_
      refine av_aload_n dL_law_554 rfl ?_
      refine av_iload dL_law_555 ?_
      refine av_iconst (v := 1) dL_law_557 (by decide) ?_
      refine av_iadd dL_law_558 ?_
      refine av_sld dL_law_559 ?_
      refine av_aload_n dL_law_560 rfl ?_
      refine av_iload dL_law_561 ?_
      refine av_iconst (v := 2) dL_law_563 (by decide) ?_
      refine av_iadd dL_law_564 ?_
      refine av_sld dL_law_565 ?_
      refine av_callR (mX11_order l hfl N) am_ci11 ⟨by decide +kernel, by decide +kernel, by decide +kernel⟩ q1156 q1157 q628 q1158 q1159 (by decide) (by decide) dL_law_566 ?_
      refine av_istore dL_law_569 (by decide) ?_
      refine av_aload_n dL_law_571 rfl ?_
      refine av_callR (mX11_thrown l hfl N) am_ci11 ⟨by decide +kernel, by decide +kernel, by decide +kernel⟩ q1120 q1121 q628 q1122 q1123 (by decide) (by decide) dL_law_572 ?_
      refine av_iload dL_law_575 ?_
      refine av_iceq (tgt := 582) dL_law_577 (by decide) ?_ ?_
      · refine av_iload dL_law_582 ?_
        refine av_ifne (tgt := 599) dL_law_584 (by decide) ?_ ?_
        · exact vL_law_599 l hfl N L sc h23
        refine av_aload_n dL_law_587 rfl ?_
        refine av_iconst (v := 0) dL_law_588 (by decide) ?_
        refine av_laload dL_law_589 ?_
        refine av_iload dL_law_590 ?_
        refine av_i2l dL_law_592 ?_
        refine av_lcmp dL_law_593 ?_
        refine av_ifeq (tgt := 599) dL_law_594 (by decide) ?_ ?_
        · exact vL_law_599 l hfl N L sc h23
        refine av_iconst (v := 0) dL_law_597 (by decide) ?_
        exact av_zreturn am_hzL dL_law_598
      refine av_iconst (v := 0) dL_law_580 (by decide) ?_
      exact av_zreturn am_hzL dL_law_581
    | 7, _ =>
      show am_V _ _ _ _ _ _ _ 602 (
  c_rld 1 <|
  c_rld 0 <|
  c_ild 4 <|
  c_i (1) <|
  c_ii (fun x y => x + y) <|
  c_sld L sc <|
  c_rld 0 <|
  c_ild 4 <|
  c_i (2) <|
  c_ii (fun x y => x + y) <|
  c_sld L sc <|
  c_rld 3 <|
  c_callSN 4 (fL_plan N) <|
  c_ist 5 <|
  c_rld 2 <|
  c_rld 0 <|
  c_ild 4 <|
  c_i (1) <|
  c_ii (fun x y => x + y) <|
  c_sld L sc <|
  c_rld 0 <|
  c_ild 4 <|
  c_i (2) <|
  c_ii (fun x y => x + y) <|
  c_sld L sc <|
  c_callR 11 2 (fX11_plan N) <|
  c_ist 6 <|
  c_rld 2 <|
  c_callR 11 0 (fX11_thrown N) <|
  c_ild 5 <|
  c_iceq (
  c_ild 5 <|
  c_ifne (
  kL_law_667 N L sc r23) <|
  c_rld 3 <|
  c_i (0) <|
  c_lal <|
  c_ild 6 <|
  c_il (fun x => x.toInt64) <|
  c_cmp (fun x y => lg_cmp x y) <|
  c_ifeq (
  kL_law_667 N L sc r23) <|
  c_i (0) <|
  c_zret) <|
  c_i (0) <|
  c_zret)
      refine av_aload_n dL_law_602 rfl ?_
      refine av_aload_n dL_law_603 rfl ?_
      refine av_iload dL_law_604 ?_
      refine av_iconst (v := 1) dL_law_606 (by decide) ?_
      refine av_iadd dL_law_607 ?_
      refine av_sld dL_law_608 ?_
      refine av_aload_n dL_law_609 rfl ?_
      refine av_iload dL_law_610 ?_
      refine av_iconst (v := 2) dL_law_612 (by decide) ?_
      refine av_iadd dL_law_613 ?_
      refine av_sld dL_law_614 ?_
      refine av_aload_n dL_law_615 rfl ?_
      refine av_callSH (mL_plan l hfl N) ⟨by decide +kernel, by decide +kernel, by decide +kernel⟩ q1160 q1161 q1114 q1162 (by decide) (by decide) dL_law_616 ?_
      refine av_istore dL_law_619 (by decide) ?_
      refine av_aload_n dL_law_621 rfl ?_
      refine av_aload_n dL_law_622 rfl ?_
      refine av_iload dL_law_623 ?_
      refine av_iconst (v := 1) dL_law_625 (by decide) ?_
      refine av_iadd dL_law_626 ?_
      refine av_sld dL_law_627 ?_
      refine av_aload_n dL_law_628 rfl ?_
      refine av_iload dL_law_629 ?_
      refine av_iconst (v := 2) dL_law_631 (by decide) ?_
      refine av_iadd dL_law_632 ?_
      refine av_sld dL_law_633 ?_
      refine av_callR (mX11_plan l hfl N) am_ci11 ⟨by decide +kernel, by decide +kernel, by decide +kernel⟩ q1163 q1164 q628 q1165 q1166 (by decide) (by decide) dL_law_634 ?_
      refine av_istore dL_law_637 (by decide) ?_
      refine av_aload_n dL_law_639 rfl ?_
      refine av_callR (mX11_thrown l hfl N) am_ci11 ⟨by decide +kernel, by decide +kernel, by decide +kernel⟩ q1120 q1121 q628 q1122 q1123 (by decide) (by decide) dL_law_640 ?_
      refine av_iload dL_law_643 ?_
      refine av_iceq (tgt := 650) dL_law_645 (by decide) ?_ ?_
      · refine av_iload dL_law_650 ?_
        refine av_ifne (tgt := 667) dL_law_652 (by decide) ?_ ?_
        · exact vL_law_667 l hfl N L sc h23
        refine av_aload_n dL_law_655 rfl ?_
        refine av_iconst (v := 0) dL_law_656 (by decide) ?_
        refine av_laload dL_law_657 ?_
        refine av_iload dL_law_658 ?_
        refine av_i2l dL_law_660 ?_
        refine av_lcmp dL_law_661 ?_
        refine av_ifeq (tgt := 667) dL_law_662 (by decide) ?_ ?_
        · exact vL_law_667 l hfl N L sc h23
        refine av_iconst (v := 0) dL_law_665 (by decide) ?_
        exact av_zreturn am_hzL dL_law_666
      refine av_iconst (v := 0) dL_law_648 (by decide) ?_
      exact av_zreturn am_hzL dL_law_649
    | 8, _ =>
      show am_V _ _ _ _ _ _ _ 670 (
  c_rld 1 <|
  c_rld 0 <|
  c_ild 4 <|
  c_i (1) <|
  c_ii (fun x y => x + y) <|
  c_sld L sc <|
  c_rld 0 <|
  c_ild 4 <|
  c_i (2) <|
  c_ii (fun x y => x + y) <|
  c_sld L sc <|
  c_rld 3 <|
  c_callSN 4 (fL_event N) <|
  c_ist 5 <|
  c_rld 2 <|
  c_rld 0 <|
  c_ild 4 <|
  c_i (1) <|
  c_ii (fun x y => x + y) <|
  c_sld L sc <|
  c_rld 0 <|
  c_ild 4 <|
  c_i (2) <|
  c_ii (fun x y => x + y) <|
  c_sld L sc <|
  c_callR 11 2 (fX11_event N) <|
  c_ist 6 <|
  c_rld 2 <|
  c_callR 11 0 (fX11_thrown N) <|
  c_ild 5 <|
  c_iceq (
  c_ild 5 <|
  c_ifne (
  kL_law_735 N L sc r23) <|
  c_rld 3 <|
  c_i (0) <|
  c_lal <|
  c_ild 6 <|
  c_il (fun x => x.toInt64) <|
  c_cmp (fun x y => lg_cmp x y) <|
  c_ifeq (
  kL_law_735 N L sc r23) <|
  c_i (0) <|
  c_zret) <|
  c_i (0) <|
  c_zret)
      refine av_aload_n dL_law_670 rfl ?_
      refine av_aload_n dL_law_671 rfl ?_
      refine av_iload dL_law_672 ?_
      refine av_iconst (v := 1) dL_law_674 (by decide) ?_
      refine av_iadd dL_law_675 ?_
      refine av_sld dL_law_676 ?_
      refine av_aload_n dL_law_677 rfl ?_
      refine av_iload dL_law_678 ?_
      refine av_iconst (v := 2) dL_law_680 (by decide) ?_
      refine av_iadd dL_law_681 ?_
      refine av_sld dL_law_682 ?_
      refine av_aload_n dL_law_683 rfl ?_
      refine av_callSH (mL_event l hfl N) ⟨by decide +kernel, by decide +kernel, by decide +kernel⟩ q1167 q1168 q1114 q1169 (by decide) (by decide) dL_law_684 ?_
      refine av_istore dL_law_687 (by decide) ?_
      refine av_aload_n dL_law_689 rfl ?_
      refine av_aload_n dL_law_690 rfl ?_
      refine av_iload dL_law_691 ?_
      refine av_iconst (v := 1) dL_law_693 (by decide) ?_
      refine av_iadd dL_law_694 ?_
      refine av_sld dL_law_695 ?_
      refine av_aload_n dL_law_696 rfl ?_
      refine av_iload dL_law_697 ?_
      refine av_iconst (v := 2) dL_law_699 (by decide) ?_
      refine av_iadd dL_law_700 ?_
      refine av_sld dL_law_701 ?_
      refine av_callR (mX11_event l hfl N) am_ci11 ⟨by decide +kernel, by decide +kernel, by decide +kernel⟩ q1170 q1171 q628 q1172 q1173 (by decide) (by decide) dL_law_702 ?_
      refine av_istore dL_law_705 (by decide) ?_
      refine av_aload_n dL_law_707 rfl ?_
      refine av_callR (mX11_thrown l hfl N) am_ci11 ⟨by decide +kernel, by decide +kernel, by decide +kernel⟩ q1120 q1121 q628 q1122 q1123 (by decide) (by decide) dL_law_708 ?_
      refine av_iload dL_law_711 ?_
      refine av_iceq (tgt := 718) dL_law_713 (by decide) ?_ ?_
      · refine av_iload dL_law_718 ?_
        refine av_ifne (tgt := 735) dL_law_720 (by decide) ?_ ?_
        · exact vL_law_735 l hfl N L sc h23
        refine av_aload_n dL_law_723 rfl ?_
        refine av_iconst (v := 0) dL_law_724 (by decide) ?_
        refine av_laload dL_law_725 ?_
        refine av_iload dL_law_726 ?_
        refine av_i2l dL_law_728 ?_
        refine av_lcmp dL_law_729 ?_
        refine av_ifeq (tgt := 735) dL_law_730 (by decide) ?_ ?_
        · exact vL_law_735 l hfl N L sc h23
        refine av_iconst (v := 0) dL_law_733 (by decide) ?_
        exact av_zreturn am_hzL dL_law_734
      refine av_iconst (v := 0) dL_law_716 (by decide) ?_
      exact av_zreturn am_hzL dL_law_717
    | 9, _ =>
      show am_V _ _ _ _ _ _ _ 738 (
  c_rld 1 <|
  c_rld 0 <|
  c_ild 4 <|
  c_i (1) <|
  c_ii (fun x y => x + y) <|
  c_sld L sc <|
  c_rld 3 <|
  c_callSN 3 (fL_orders N) <|
  c_ist 5 <|
  c_rld 2 <|
  c_rld 0 <|
  c_ild 4 <|
  c_i (1) <|
  c_ii (fun x y => x + y) <|
  c_sld L sc <|
  c_callR 11 1 (fX11_orders N) <|
  c_ist 6 <|
  c_rld 2 <|
  c_callR 11 0 (fX11_thrown N) <|
  c_ild 5 <|
  c_iceq (
  c_ild 5 <|
  c_ifne (
  kL_law_791 N L sc r23) <|
  c_rld 3 <|
  c_i (0) <|
  c_lal <|
  c_ild 6 <|
  c_il (fun x => x.toInt64) <|
  c_cmp (fun x y => lg_cmp x y) <|
  c_ifeq (
  kL_law_791 N L sc r23) <|
  c_i (0) <|
  c_zret) <|
  c_i (0) <|
  c_zret)
      refine av_aload_n dL_law_738 rfl ?_
      refine av_aload_n dL_law_739 rfl ?_
      refine av_iload dL_law_740 ?_
      refine av_iconst (v := 1) dL_law_742 (by decide) ?_
      refine av_iadd dL_law_743 ?_
      refine av_sld dL_law_744 ?_
      refine av_aload_n dL_law_745 rfl ?_
      refine av_callSH (mL_orders l hfl N) ⟨by decide +kernel, by decide +kernel, by decide +kernel⟩ q1174 q1175 q1114 q1176 (by decide) (by decide) dL_law_746 ?_
      refine av_istore dL_law_749 (by decide) ?_
      refine av_aload_n dL_law_751 rfl ?_
      refine av_aload_n dL_law_752 rfl ?_
      refine av_iload dL_law_753 ?_
      refine av_iconst (v := 1) dL_law_755 (by decide) ?_
      refine av_iadd dL_law_756 ?_
      refine av_sld dL_law_757 ?_
      refine av_callR (mX11_orders l hfl N) am_ci11 ⟨by decide +kernel, by decide +kernel, by decide +kernel⟩ q1177 q1178 q628 q1179 q1180 (by decide) (by decide) dL_law_758 ?_
      refine av_istore dL_law_761 (by decide) ?_
      refine av_aload_n dL_law_763 rfl ?_
      refine av_callR (mX11_thrown l hfl N) am_ci11 ⟨by decide +kernel, by decide +kernel, by decide +kernel⟩ q1120 q1121 q628 q1122 q1123 (by decide) (by decide) dL_law_764 ?_
      refine av_iload dL_law_767 ?_
      refine av_iceq (tgt := 774) dL_law_769 (by decide) ?_ ?_
      · refine av_iload dL_law_774 ?_
        refine av_ifne (tgt := 791) dL_law_776 (by decide) ?_ ?_
        · exact vL_law_791 l hfl N L sc h23
        refine av_aload_n dL_law_779 rfl ?_
        refine av_iconst (v := 0) dL_law_780 (by decide) ?_
        refine av_laload dL_law_781 ?_
        refine av_iload dL_law_782 ?_
        refine av_i2l dL_law_784 ?_
        refine av_lcmp dL_law_785 ?_
        refine av_ifeq (tgt := 791) dL_law_786 (by decide) ?_ ?_
        · exact vL_law_791 l hfl N L sc h23
        refine av_iconst (v := 0) dL_law_789 (by decide) ?_
        exact av_zreturn am_hzL dL_law_790
      refine av_iconst (v := 0) dL_law_772 (by decide) ?_
      exact av_zreturn am_hzL dL_law_773
    | 10, _ =>
      show am_V _ _ _ _ _ _ _ 794 (
  c_rld 1 <|
  c_rld 0 <|
  c_ild 4 <|
  c_i (1) <|
  c_ii (fun x y => x + y) <|
  c_sld L sc <|
  c_rld 0 <|
  c_ild 4 <|
  c_i (2) <|
  c_ii (fun x y => x + y) <|
  c_sld L sc <|
  c_rld 3 <|
  c_callSN 4 (fL_isWall N) <|
  c_ist 5 <|
  c_rld 2 <|
  c_rld 0 <|
  c_ild 4 <|
  c_i (1) <|
  c_ii (fun x y => x + y) <|
  c_sld L sc <|
  c_rld 0 <|
  c_ild 4 <|
  c_i (2) <|
  c_ii (fun x y => x + y) <|
  c_sld L sc <|
  c_callR 11 2 (fX11_isWall N) <|
  c_ist 6 <|
  c_rld 2 <|
  c_callR 11 0 (fX11_thrown N) <|
  c_ild 5 <|
  c_iceq (
  c_ild 5 <|
  c_ifne (
  kL_law_866 N L sc r23) <|
  c_rld 3 <|
  c_i (0) <|
  c_lal <|
  c_ild 6 <|
  c_ifeq (
  c_l 0 <|
  kL_law_860 N L sc r23) <|
  c_l 1 <|
  kL_law_860 N L sc r23) <|
  c_i (0) <|
  c_zret)
      refine av_aload_n dL_law_794 rfl ?_
      refine av_aload_n dL_law_795 rfl ?_
      refine av_iload dL_law_796 ?_
      refine av_iconst (v := 1) dL_law_798 (by decide) ?_
      refine av_iadd dL_law_799 ?_
      refine av_sld dL_law_800 ?_
      refine av_aload_n dL_law_801 rfl ?_
      refine av_iload dL_law_802 ?_
      refine av_iconst (v := 2) dL_law_804 (by decide) ?_
      refine av_iadd dL_law_805 ?_
      refine av_sld dL_law_806 ?_
      refine av_aload_n dL_law_807 rfl ?_
      refine av_callSH (mL_isWall l hfl N) ⟨by decide +kernel, by decide +kernel, by decide +kernel⟩ q1181 q1182 q1114 q1183 (by decide) (by decide) dL_law_808 ?_
      refine av_istore dL_law_811 (by decide) ?_
      refine av_aload_n dL_law_813 rfl ?_
      refine av_aload_n dL_law_814 rfl ?_
      refine av_iload dL_law_815 ?_
      refine av_iconst (v := 1) dL_law_817 (by decide) ?_
      refine av_iadd dL_law_818 ?_
      refine av_sld dL_law_819 ?_
      refine av_aload_n dL_law_820 rfl ?_
      refine av_iload dL_law_821 ?_
      refine av_iconst (v := 2) dL_law_823 (by decide) ?_
      refine av_iadd dL_law_824 ?_
      refine av_sld dL_law_825 ?_
      refine av_callR (mX11_isWall l hfl N) am_ci11 ⟨by decide +kernel, by decide +kernel, by decide +kernel⟩ q1184 q1185 q628 q1186 q1187 (by decide) (by decide) dL_law_826 ?_
      refine av_istore dL_law_829 (by decide) ?_
      refine av_aload_n dL_law_831 rfl ?_
      refine av_callR (mX11_thrown l hfl N) am_ci11 ⟨by decide +kernel, by decide +kernel, by decide +kernel⟩ q1120 q1121 q628 q1122 q1123 (by decide) (by decide) dL_law_832 ?_
      refine av_iload dL_law_835 ?_
      refine av_iceq (tgt := 842) dL_law_837 (by decide) ?_ ?_
      · refine av_iload dL_law_842 ?_
        refine av_ifne (tgt := 866) dL_law_844 (by decide) ?_ ?_
        · exact vL_law_866 l hfl N L sc h23
        refine av_aload_n dL_law_847 rfl ?_
        refine av_iconst (v := 0) dL_law_848 (by decide) ?_
        refine av_laload dL_law_849 ?_
        refine av_iload dL_law_850 ?_
        refine av_ifeq (tgt := 859) dL_law_852 (by decide) ?_ ?_
        · refine av_lconst dL_law_859 (by decide) ?_
          exact vL_law_860 l hfl N L sc h23
        refine av_lconst dL_law_855 (by decide) ?_
        refine av_goto (tgt := 860) dL_law_856 (by decide) ?_
        exact vL_law_860 l hfl N L sc h23
      refine av_iconst (v := 0) dL_law_840 (by decide) ?_
      exact av_zreturn am_hzL dL_law_841
    | 11, _ =>
      show am_V _ _ _ _ _ _ _ 869 (
  c_rld 1 <|
  c_rld 0 <|
  c_ild 4 <|
  c_i (1) <|
  c_ii (fun x y => x + y) <|
  c_sld L sc <|
  c_rld 0 <|
  c_ild 4 <|
  c_i (2) <|
  c_ii (fun x y => x + y) <|
  c_sld L sc <|
  c_rld 0 <|
  c_ild 4 <|
  c_i (3) <|
  c_ii (fun x y => x + y) <|
  c_sld L sc <|
  c_rld 3 <|
  c_callSN 5 (fL_isWatched N) <|
  c_ist 5 <|
  c_rld 2 <|
  c_rld 0 <|
  c_ild 4 <|
  c_i (1) <|
  c_ii (fun x y => x + y) <|
  c_sld L sc <|
  c_rld 0 <|
  c_ild 4 <|
  c_i (2) <|
  c_ii (fun x y => x + y) <|
  c_sld L sc <|
  c_rld 0 <|
  c_ild 4 <|
  c_i (3) <|
  c_ii (fun x y => x + y) <|
  c_sld L sc <|
  c_callR 11 3 (fX11_isWatched N) <|
  c_ist 6 <|
  c_rld 2 <|
  c_callR 11 0 (fX11_thrown N) <|
  c_ild 5 <|
  c_iceq (
  c_ild 5 <|
  c_ifne (
  kL_law_953 N L sc r23) <|
  c_rld 3 <|
  c_i (0) <|
  c_lal <|
  c_ild 6 <|
  c_ifeq (
  c_l 0 <|
  kL_law_947 N L sc r23) <|
  c_l 1 <|
  kL_law_947 N L sc r23) <|
  c_i (0) <|
  c_zret)
      refine av_aload_n dL_law_869 rfl ?_
      refine av_aload_n dL_law_870 rfl ?_
      refine av_iload dL_law_871 ?_
      refine av_iconst (v := 1) dL_law_873 (by decide) ?_
      refine av_iadd dL_law_874 ?_
      refine av_sld dL_law_875 ?_
      refine av_aload_n dL_law_876 rfl ?_
      refine av_iload dL_law_877 ?_
      refine av_iconst (v := 2) dL_law_879 (by decide) ?_
      refine av_iadd dL_law_880 ?_
      refine av_sld dL_law_881 ?_
      refine av_aload_n dL_law_882 rfl ?_
      refine av_iload dL_law_883 ?_
      refine av_iconst (v := 3) dL_law_885 (by decide) ?_
      refine av_iadd dL_law_886 ?_
      refine av_sld dL_law_887 ?_
      refine av_aload_n dL_law_888 rfl ?_
      refine av_callSH (mL_isWatched l hfl N) ⟨by decide +kernel, by decide +kernel, by decide +kernel⟩ q1188 q1189 q1114 q1190 (by decide) (by decide) dL_law_889 ?_
      refine av_istore dL_law_892 (by decide) ?_
      refine av_aload_n dL_law_894 rfl ?_
      refine av_aload_n dL_law_895 rfl ?_
      refine av_iload dL_law_896 ?_
      refine av_iconst (v := 1) dL_law_898 (by decide) ?_
      refine av_iadd dL_law_899 ?_
      refine av_sld dL_law_900 ?_
      refine av_aload_n dL_law_901 rfl ?_
      refine av_iload dL_law_902 ?_
      refine av_iconst (v := 2) dL_law_904 (by decide) ?_
      refine av_iadd dL_law_905 ?_
      refine av_sld dL_law_906 ?_
      refine av_aload_n dL_law_907 rfl ?_
      refine av_iload dL_law_908 ?_
      refine av_iconst (v := 3) dL_law_910 (by decide) ?_
      refine av_iadd dL_law_911 ?_
      refine av_sld dL_law_912 ?_
      refine av_callR (mX11_isWatched l hfl N) am_ci11 ⟨by decide +kernel, by decide +kernel, by decide +kernel⟩ q1191 q1192 q628 q1193 q1194 (by decide) (by decide) dL_law_913 ?_
      refine av_istore dL_law_916 (by decide) ?_
      refine av_aload_n dL_law_918 rfl ?_
      refine av_callR (mX11_thrown l hfl N) am_ci11 ⟨by decide +kernel, by decide +kernel, by decide +kernel⟩ q1120 q1121 q628 q1122 q1123 (by decide) (by decide) dL_law_919 ?_
      refine av_iload dL_law_922 ?_
      refine av_iceq (tgt := 929) dL_law_924 (by decide) ?_ ?_
      · refine av_iload dL_law_929 ?_
        refine av_ifne (tgt := 953) dL_law_931 (by decide) ?_ ?_
        · exact vL_law_953 l hfl N L sc h23
        refine av_aload_n dL_law_934 rfl ?_
        refine av_iconst (v := 0) dL_law_935 (by decide) ?_
        refine av_laload dL_law_936 ?_
        refine av_iload dL_law_937 ?_
        refine av_ifeq (tgt := 946) dL_law_939 (by decide) ?_ ?_
        · refine av_lconst dL_law_946 (by decide) ?_
          exact vL_law_947 l hfl N L sc h23
        refine av_lconst dL_law_942 (by decide) ?_
        refine av_goto (tgt := 947) dL_law_943 (by decide) ?_
        exact vL_law_947 l hfl N L sc h23
      refine av_iconst (v := 0) dL_law_927 (by decide) ?_
      exact av_zreturn am_hzL dL_law_928
    | 12, _ =>
      show am_V _ _ _ _ _ _ _ 956 (
  c_rld 1 <|
  c_rld 0 <|
  c_ild 4 <|
  c_i (1) <|
  c_ii (fun x y => x + y) <|
  c_sld L sc <|
  c_rld 0 <|
  c_ild 4 <|
  c_i (2) <|
  c_ii (fun x y => x + y) <|
  c_sld L sc <|
  c_rld 0 <|
  c_ild 4 <|
  c_i (3) <|
  c_ii (fun x y => x + y) <|
  c_sld L sc <|
  c_rld 0 <|
  c_ild 4 <|
  c_i (4) <|
  c_ii (fun x y => x + y) <|
  c_sld L sc <|
  c_rld 3 <|
  c_callSN 6 (fL_distance N) <|
  c_ist 5 <|
  c_rld 2 <|
  c_rld 0 <|
  c_ild 4 <|
  c_i (1) <|
  c_ii (fun x y => x + y) <|
  c_sld L sc <|
  c_rld 0 <|
  c_ild 4 <|
  c_i (2) <|
  c_ii (fun x y => x + y) <|
  c_sld L sc <|
  c_rld 0 <|
  c_ild 4 <|
  c_i (3) <|
  c_ii (fun x y => x + y) <|
  c_sld L sc <|
  c_rld 0 <|
  c_ild 4 <|
  c_i (4) <|
  c_ii (fun x y => x + y) <|
  c_sld L sc <|
  c_callR 11 4 (fX11_distance N) <|
  c_ist 6 <|
  c_rld 2 <|
  c_callR 11 0 (fX11_thrown N) <|
  c_ild 5 <|
  c_iceq (
  c_ild 5 <|
  c_ifne (
  kL_law_1045 N L sc r23) <|
  c_rld 3 <|
  c_i (0) <|
  c_lal <|
  c_ild 6 <|
  c_il (fun x => x.toInt64) <|
  c_cmp (fun x y => lg_cmp x y) <|
  c_ifeq (
  kL_law_1045 N L sc r23) <|
  c_i (0) <|
  c_zret) <|
  c_i (0) <|
  c_zret)
      refine av_aload_n dL_law_956 rfl ?_
      refine av_aload_n dL_law_957 rfl ?_
      refine av_iload dL_law_958 ?_
      refine av_iconst (v := 1) dL_law_960 (by decide) ?_
      refine av_iadd dL_law_961 ?_
      refine av_sld dL_law_962 ?_
      refine av_aload_n dL_law_963 rfl ?_
      refine av_iload dL_law_964 ?_
      refine av_iconst (v := 2) dL_law_966 (by decide) ?_
      refine av_iadd dL_law_967 ?_
      refine av_sld dL_law_968 ?_
      refine av_aload_n dL_law_969 rfl ?_
      refine av_iload dL_law_970 ?_
      refine av_iconst (v := 3) dL_law_972 (by decide) ?_
      refine av_iadd dL_law_973 ?_
      refine av_sld dL_law_974 ?_
      refine av_aload_n dL_law_975 rfl ?_
      refine av_iload dL_law_976 ?_
      refine av_iconst (v := 4) dL_law_978 (by decide) ?_
      refine av_iadd dL_law_979 ?_
      refine av_sld dL_law_980 ?_
      refine av_aload_n dL_law_981 rfl ?_
      refine av_callSH (mL_distance l hfl N) ⟨by decide +kernel, by decide +kernel, by decide +kernel⟩ q1195 q1196 q1114 q1197 (by decide) (by decide) dL_law_982 ?_
      refine av_istore dL_law_985 (by decide) ?_
      refine av_aload_n dL_law_987 rfl ?_
      refine av_aload_n dL_law_988 rfl ?_
      refine av_iload dL_law_989 ?_
      refine av_iconst (v := 1) dL_law_991 (by decide) ?_
      refine av_iadd dL_law_992 ?_
      refine av_sld dL_law_993 ?_
      refine av_aload_n dL_law_994 rfl ?_
      refine av_iload dL_law_995 ?_
      refine av_iconst (v := 2) dL_law_997 (by decide) ?_
      refine av_iadd dL_law_998 ?_
      refine av_sld dL_law_999 ?_
      refine av_aload_n dL_law_1000 rfl ?_
      refine av_iload dL_law_1001 ?_
      refine av_iconst (v := 3) dL_law_1003 (by decide) ?_
      refine av_iadd dL_law_1004 ?_
      refine av_sld dL_law_1005 ?_
      refine av_aload_n dL_law_1006 rfl ?_
      refine av_iload dL_law_1007 ?_
      refine av_iconst (v := 4) dL_law_1009 (by decide) ?_
      refine av_iadd dL_law_1010 ?_
      refine av_sld dL_law_1011 ?_
      refine av_callR (mX11_distance l hfl N) am_ci11 ⟨by decide +kernel, by decide +kernel, by decide +kernel⟩ q1198 q1199 q628 q1200 q1201 (by decide) (by decide) dL_law_1012 ?_
      refine av_istore dL_law_1015 (by decide) ?_
      refine av_aload_n dL_law_1017 rfl ?_
      refine av_callR (mX11_thrown l hfl N) am_ci11 ⟨by decide +kernel, by decide +kernel, by decide +kernel⟩ q1120 q1121 q628 q1122 q1123 (by decide) (by decide) dL_law_1018 ?_
      refine av_iload dL_law_1021 ?_
      refine av_iceq (tgt := 1028) dL_law_1023 (by decide) ?_ ?_
      · refine av_iload dL_law_1028 ?_
        refine av_ifne (tgt := 1045) dL_law_1030 (by decide) ?_ ?_
        · exact vL_law_1045 l hfl N L sc h23
        refine av_aload_n dL_law_1033 rfl ?_
        refine av_iconst (v := 0) dL_law_1034 (by decide) ?_
        refine av_laload dL_law_1035 ?_
        refine av_iload dL_law_1036 ?_
        refine av_i2l dL_law_1038 ?_
        refine av_lcmp dL_law_1039 ?_
        refine av_ifeq (tgt := 1045) dL_law_1040 (by decide) ?_ ?_
        · exact vL_law_1045 l hfl N L sc h23
        refine av_iconst (v := 0) dL_law_1043 (by decide) ?_
        exact av_zreturn am_hzL dL_law_1044
      refine av_iconst (v := 0) dL_law_1026 (by decide) ?_
      exact av_zreturn am_hzL dL_law_1027
    | 13, _ =>
      show am_V _ _ _ _ _ _ _ 1048 (
  c_rld 1 <|
  c_rld 0 <|
  c_ild 4 <|
  c_i (1) <|
  c_ii (fun x y => x + y) <|
  c_sld L sc <|
  c_rld 0 <|
  c_ild 4 <|
  c_i (2) <|
  c_ii (fun x y => x + y) <|
  c_sld L sc <|
  c_rld 0 <|
  c_ild 4 <|
  c_i (3) <|
  c_ii (fun x y => x + y) <|
  c_sld L sc <|
  c_rld 0 <|
  c_ild 4 <|
  c_i (4) <|
  c_ii (fun x y => x + y) <|
  c_sld L sc <|
  c_rld 3 <|
  c_callSN 6 (fL_step N) <|
  c_ist 5 <|
  c_rld 2 <|
  c_rld 0 <|
  c_ild 4 <|
  c_i (1) <|
  c_ii (fun x y => x + y) <|
  c_sld L sc <|
  c_rld 0 <|
  c_ild 4 <|
  c_i (2) <|
  c_ii (fun x y => x + y) <|
  c_sld L sc <|
  c_rld 0 <|
  c_ild 4 <|
  c_i (3) <|
  c_ii (fun x y => x + y) <|
  c_sld L sc <|
  c_rld 0 <|
  c_ild 4 <|
  c_i (4) <|
  c_ii (fun x y => x + y) <|
  c_sld L sc <|
  c_callR 11 4 (fX11_step N) <|
  c_ist 6 <|
  c_rld 2 <|
  c_callR 11 0 (fX11_thrown N) <|
  c_ild 5 <|
  c_iceq (
  c_ild 5 <|
  c_ifne (
  kL_law_1137 N L sc r23) <|
  c_rld 3 <|
  c_i (0) <|
  c_lal <|
  c_ild 6 <|
  c_il (fun x => x.toInt64) <|
  c_cmp (fun x y => lg_cmp x y) <|
  c_ifeq (
  kL_law_1137 N L sc r23) <|
  c_i (0) <|
  c_zret) <|
  c_i (0) <|
  c_zret)
      refine av_aload_n dL_law_1048 rfl ?_
      refine av_aload_n dL_law_1049 rfl ?_
      refine av_iload dL_law_1050 ?_
      refine av_iconst (v := 1) dL_law_1052 (by decide) ?_
      refine av_iadd dL_law_1053 ?_
      refine av_sld dL_law_1054 ?_
      refine av_aload_n dL_law_1055 rfl ?_
      refine av_iload dL_law_1056 ?_
      refine av_iconst (v := 2) dL_law_1058 (by decide) ?_
      refine av_iadd dL_law_1059 ?_
      refine av_sld dL_law_1060 ?_
      refine av_aload_n dL_law_1061 rfl ?_
      refine av_iload dL_law_1062 ?_
      refine av_iconst (v := 3) dL_law_1064 (by decide) ?_
      refine av_iadd dL_law_1065 ?_
      refine av_sld dL_law_1066 ?_
      refine av_aload_n dL_law_1067 rfl ?_
      refine av_iload dL_law_1068 ?_
      refine av_iconst (v := 4) dL_law_1070 (by decide) ?_
      refine av_iadd dL_law_1071 ?_
      refine av_sld dL_law_1072 ?_
      refine av_aload_n dL_law_1073 rfl ?_
      refine av_callSH (mL_step l hfl N) ⟨by decide +kernel, by decide +kernel, by decide +kernel⟩ q1202 q1203 q1114 q1204 (by decide) (by decide) dL_law_1074 ?_
      refine av_istore dL_law_1077 (by decide) ?_
      refine av_aload_n dL_law_1079 rfl ?_
      refine av_aload_n dL_law_1080 rfl ?_
      refine av_iload dL_law_1081 ?_
      refine av_iconst (v := 1) dL_law_1083 (by decide) ?_
      refine av_iadd dL_law_1084 ?_
      refine av_sld dL_law_1085 ?_
      refine av_aload_n dL_law_1086 rfl ?_
      refine av_iload dL_law_1087 ?_
      refine av_iconst (v := 2) dL_law_1089 (by decide) ?_
      refine av_iadd dL_law_1090 ?_
      refine av_sld dL_law_1091 ?_
      refine av_aload_n dL_law_1092 rfl ?_
      refine av_iload dL_law_1093 ?_
      refine av_iconst (v := 3) dL_law_1095 (by decide) ?_
      refine av_iadd dL_law_1096 ?_
      refine av_sld dL_law_1097 ?_
      refine av_aload_n dL_law_1098 rfl ?_
      refine av_iload dL_law_1099 ?_
      refine av_iconst (v := 4) dL_law_1101 (by decide) ?_
      refine av_iadd dL_law_1102 ?_
      refine av_sld dL_law_1103 ?_
      refine av_callR (mX11_step l hfl N) am_ci11 ⟨by decide +kernel, by decide +kernel, by decide +kernel⟩ q1205 q1206 q628 q1207 q1208 (by decide) (by decide) dL_law_1104 ?_
      refine av_istore dL_law_1107 (by decide) ?_
      refine av_aload_n dL_law_1109 rfl ?_
      refine av_callR (mX11_thrown l hfl N) am_ci11 ⟨by decide +kernel, by decide +kernel, by decide +kernel⟩ q1120 q1121 q628 q1122 q1123 (by decide) (by decide) dL_law_1110 ?_
      refine av_iload dL_law_1113 ?_
      refine av_iceq (tgt := 1120) dL_law_1115 (by decide) ?_ ?_
      · refine av_iload dL_law_1120 ?_
        refine av_ifne (tgt := 1137) dL_law_1122 (by decide) ?_ ?_
        · exact vL_law_1137 l hfl N L sc h23
        refine av_aload_n dL_law_1125 rfl ?_
        refine av_iconst (v := 0) dL_law_1126 (by decide) ?_
        refine av_laload dL_law_1127 ?_
        refine av_iload dL_law_1128 ?_
        refine av_i2l dL_law_1130 ?_
        refine av_lcmp dL_law_1131 ?_
        refine av_ifeq (tgt := 1137) dL_law_1132 (by decide) ?_ ?_
        · exact vL_law_1137 l hfl N L sc h23
        refine av_iconst (v := 0) dL_law_1135 (by decide) ?_
        exact av_zreturn am_hzL dL_law_1136
      refine av_iconst (v := 0) dL_law_1118 (by decide) ?_
      exact av_zreturn am_hzL dL_law_1119
    | 14, _ =>
      show am_V _ _ _ _ _ _ _ 1140 (
  c_rld 1 <|
  c_rld 0 <|
  c_ild 4 <|
  c_i (1) <|
  c_ii (fun x y => x + y) <|
  c_sld L sc <|
  c_rld 0 <|
  c_ild 4 <|
  c_i (2) <|
  c_ii (fun x y => x + y) <|
  c_sld L sc <|
  c_rld 3 <|
  c_callSN 4 (fL_wasAt N) <|
  c_ist 5 <|
  c_rld 2 <|
  c_rld 0 <|
  c_ild 4 <|
  c_i (1) <|
  c_ii (fun x y => x + y) <|
  c_sld L sc <|
  c_rld 0 <|
  c_ild 4 <|
  c_i (2) <|
  c_ii (fun x y => x + y) <|
  c_sld L sc <|
  c_callR 11 2 (fX11_wasAt N) <|
  c_ist 6 <|
  c_rld 2 <|
  c_callR 11 0 (fX11_thrown N) <|
  c_ild 5 <|
  c_iceq (
  c_ild 5 <|
  c_ifne (
  kL_law_1205 N L sc r23) <|
  c_rld 3 <|
  c_i (0) <|
  c_lal <|
  c_ild 6 <|
  c_il (fun x => x.toInt64) <|
  c_cmp (fun x y => lg_cmp x y) <|
  c_ifeq (
  kL_law_1205 N L sc r23) <|
  c_i (0) <|
  c_zret) <|
  c_i (0) <|
  c_zret)
      refine av_aload_n dL_law_1140 rfl ?_
      refine av_aload_n dL_law_1141 rfl ?_
      refine av_iload dL_law_1142 ?_
      refine av_iconst (v := 1) dL_law_1144 (by decide) ?_
      refine av_iadd dL_law_1145 ?_
      refine av_sld dL_law_1146 ?_
      refine av_aload_n dL_law_1147 rfl ?_
      refine av_iload dL_law_1148 ?_
      refine av_iconst (v := 2) dL_law_1150 (by decide) ?_
      refine av_iadd dL_law_1151 ?_
      refine av_sld dL_law_1152 ?_
      refine av_aload_n dL_law_1153 rfl ?_
      refine av_callSH (mL_wasAt l hfl N) ⟨by decide +kernel, by decide +kernel, by decide +kernel⟩ q1209 q1210 q1114 q1211 (by decide) (by decide) dL_law_1154 ?_
      refine av_istore dL_law_1157 (by decide) ?_
      refine av_aload_n dL_law_1159 rfl ?_
      refine av_aload_n dL_law_1160 rfl ?_
      refine av_iload dL_law_1161 ?_
      refine av_iconst (v := 1) dL_law_1163 (by decide) ?_
      refine av_iadd dL_law_1164 ?_
      refine av_sld dL_law_1165 ?_
      refine av_aload_n dL_law_1166 rfl ?_
      refine av_iload dL_law_1167 ?_
      refine av_iconst (v := 2) dL_law_1169 (by decide) ?_
      refine av_iadd dL_law_1170 ?_
      refine av_sld dL_law_1171 ?_
      refine av_callR (mX11_wasAt l hfl N) am_ci11 ⟨by decide +kernel, by decide +kernel, by decide +kernel⟩ q1212 q1213 q628 q1214 q1215 (by decide) (by decide) dL_law_1172 ?_
      refine av_istore dL_law_1175 (by decide) ?_
      refine av_aload_n dL_law_1177 rfl ?_
      refine av_callR (mX11_thrown l hfl N) am_ci11 ⟨by decide +kernel, by decide +kernel, by decide +kernel⟩ q1120 q1121 q628 q1122 q1123 (by decide) (by decide) dL_law_1178 ?_
      refine av_iload dL_law_1181 ?_
      refine av_iceq (tgt := 1188) dL_law_1183 (by decide) ?_ ?_
      · refine av_iload dL_law_1188 ?_
        refine av_ifne (tgt := 1205) dL_law_1190 (by decide) ?_ ?_
        · exact vL_law_1205 l hfl N L sc h23
        refine av_aload_n dL_law_1193 rfl ?_
        refine av_iconst (v := 0) dL_law_1194 (by decide) ?_
        refine av_laload dL_law_1195 ?_
        refine av_iload dL_law_1196 ?_
        refine av_i2l dL_law_1198 ?_
        refine av_lcmp dL_law_1199 ?_
        refine av_ifeq (tgt := 1205) dL_law_1200 (by decide) ?_ ?_
        · exact vL_law_1205 l hfl N L sc h23
        refine av_iconst (v := 0) dL_law_1203 (by decide) ?_
        exact av_zreturn am_hzL dL_law_1204
      refine av_iconst (v := 0) dL_law_1186 (by decide) ?_
      exact av_zreturn am_hzL dL_law_1187
    | 15, _ =>
      show am_V _ _ _ _ _ _ _ 1208 (
  c_rld 1 <|
  c_rld 0 <|
  c_ild 4 <|
  c_i (1) <|
  c_ii (fun x y => x + y) <|
  c_sld L sc <|
  c_rld 0 <|
  c_ild 4 <|
  c_i (2) <|
  c_ii (fun x y => x + y) <|
  c_sld L sc <|
  c_rld 3 <|
  c_callSN 4 (fL_stateAt N) <|
  c_ist 5 <|
  c_rld 2 <|
  c_rld 0 <|
  c_ild 4 <|
  c_i (1) <|
  c_ii (fun x y => x + y) <|
  c_sld L sc <|
  c_rld 0 <|
  c_ild 4 <|
  c_i (2) <|
  c_ii (fun x y => x + y) <|
  c_sld L sc <|
  c_callR 11 2 (fX11_stateAt N) <|
  c_ist 6 <|
  c_rld 2 <|
  c_callR 11 0 (fX11_thrown N) <|
  c_ild 5 <|
  c_iceq (
  c_ild 5 <|
  c_ifne (
  kL_law_1273 N L sc r23) <|
  c_rld 3 <|
  c_i (0) <|
  c_lal <|
  c_ild 6 <|
  c_il (fun x => x.toInt64) <|
  c_cmp (fun x y => lg_cmp x y) <|
  c_ifeq (
  kL_law_1273 N L sc r23) <|
  c_i (0) <|
  c_zret) <|
  c_i (0) <|
  c_zret)
      refine av_aload_n dL_law_1208 rfl ?_
      refine av_aload_n dL_law_1209 rfl ?_
      refine av_iload dL_law_1210 ?_
      refine av_iconst (v := 1) dL_law_1212 (by decide) ?_
      refine av_iadd dL_law_1213 ?_
      refine av_sld dL_law_1214 ?_
      refine av_aload_n dL_law_1215 rfl ?_
      refine av_iload dL_law_1216 ?_
      refine av_iconst (v := 2) dL_law_1218 (by decide) ?_
      refine av_iadd dL_law_1219 ?_
      refine av_sld dL_law_1220 ?_
      refine av_aload_n dL_law_1221 rfl ?_
      refine av_callSH (mL_stateAt l hfl N) ⟨by decide +kernel, by decide +kernel, by decide +kernel⟩ q1216 q1217 q1114 q1218 (by decide) (by decide) dL_law_1222 ?_
      refine av_istore dL_law_1225 (by decide) ?_
      refine av_aload_n dL_law_1227 rfl ?_
      refine av_aload_n dL_law_1228 rfl ?_
      refine av_iload dL_law_1229 ?_
      refine av_iconst (v := 1) dL_law_1231 (by decide) ?_
      refine av_iadd dL_law_1232 ?_
      refine av_sld dL_law_1233 ?_
      refine av_aload_n dL_law_1234 rfl ?_
      refine av_iload dL_law_1235 ?_
      refine av_iconst (v := 2) dL_law_1237 (by decide) ?_
      refine av_iadd dL_law_1238 ?_
      refine av_sld dL_law_1239 ?_
      refine av_callR (mX11_stateAt l hfl N) am_ci11 ⟨by decide +kernel, by decide +kernel, by decide +kernel⟩ q1219 q1220 q628 q1221 q1222 (by decide) (by decide) dL_law_1240 ?_
      refine av_istore dL_law_1243 (by decide) ?_
      refine av_aload_n dL_law_1245 rfl ?_
      refine av_callR (mX11_thrown l hfl N) am_ci11 ⟨by decide +kernel, by decide +kernel, by decide +kernel⟩ q1120 q1121 q628 q1122 q1123 (by decide) (by decide) dL_law_1246 ?_
      refine av_iload dL_law_1249 ?_
      refine av_iceq (tgt := 1256) dL_law_1251 (by decide) ?_ ?_
      · refine av_iload dL_law_1256 ?_
        refine av_ifne (tgt := 1273) dL_law_1258 (by decide) ?_ ?_
        · exact vL_law_1273 l hfl N L sc h23
        refine av_aload_n dL_law_1261 rfl ?_
        refine av_iconst (v := 0) dL_law_1262 (by decide) ?_
        refine av_laload dL_law_1263 ?_
        refine av_iload dL_law_1264 ?_
        refine av_i2l dL_law_1266 ?_
        refine av_lcmp dL_law_1267 ?_
        refine av_ifeq (tgt := 1273) dL_law_1268 (by decide) ?_ ?_
        · exact vL_law_1273 l hfl N L sc h23
        refine av_iconst (v := 0) dL_law_1271 (by decide) ?_
        exact av_zreturn am_hzL dL_law_1272
      refine av_iconst (v := 0) dL_law_1254 (by decide) ?_
      exact av_zreturn am_hzL dL_law_1255
    | 16, _ =>
      show am_V _ _ _ _ _ _ _ 1276 (
  c_rld 1 <|
  c_callR 10 0 (fX10_crossed N) <|
  c_rld 2 <|
  c_callR 11 0 (fX11_crossed N) <|
  c_iceq (
  kL_law_2276 N L sc r23) <|
  c_i (0) <|
  c_zret)
      refine av_aload_n dL_law_1276 rfl ?_
      refine av_callR (mX10_crossed l hfl N) am_ci10 ⟨by decide +kernel, by decide +kernel, by decide +kernel⟩ q1223 q1224 q111 q1225 q1226 (by decide) (by decide) dL_law_1277 ?_
      refine av_aload_n dL_law_1280 rfl ?_
      refine av_callR (mX11_crossed l hfl N) am_ci11 ⟨by decide +kernel, by decide +kernel, by decide +kernel⟩ q1227 q1228 q628 q1229 q1230 (by decide) (by decide) dL_law_1281 ?_
      refine av_iceq (tgt := 2276) dL_law_1284 (by decide) ?_ ?_
      · exact vL_law_2276 l hfl N L sc h23
      refine av_iconst (v := 0) dL_law_1287 (by decide) ?_
      exact av_zreturn am_hzL dL_law_1288
    | 17, _ =>
      show am_V _ _ _ _ _ _ _ 1289 (
  c_rld 1 <|
  c_rld 0 <|
  c_ild 4 <|
  c_i (1) <|
  c_ii (fun x y => x + y) <|
  c_sld L sc <|
  c_rld 0 <|
  c_ild 4 <|
  c_i (2) <|
  c_ii (fun x y => x + y) <|
  c_sld L sc <|
  c_rld 0 <|
  c_ild 4 <|
  c_i (3) <|
  c_ii (fun x y => x + y) <|
  c_sld L sc <|
  c_rld 0 <|
  c_ild 4 <|
  c_i (4) <|
  c_ii (fun x y => x + y) <|
  c_sld L sc <|
  c_rld 3 <|
  c_callSN 6 (fL_wouldBe N) <|
  c_ist 5 <|
  c_rld 2 <|
  c_rld 0 <|
  c_ild 4 <|
  c_i (1) <|
  c_ii (fun x y => x + y) <|
  c_sld L sc <|
  c_rld 0 <|
  c_ild 4 <|
  c_i (2) <|
  c_ii (fun x y => x + y) <|
  c_sld L sc <|
  c_rld 0 <|
  c_ild 4 <|
  c_i (3) <|
  c_ii (fun x y => x + y) <|
  c_sld L sc <|
  c_rld 0 <|
  c_ild 4 <|
  c_i (4) <|
  c_ii (fun x y => x + y) <|
  c_sld L sc <|
  c_callR 11 4 (fX11_wouldBe N) <|
  c_ist 6 <|
  c_rld 2 <|
  c_callR 11 0 (fX11_thrown N) <|
  c_ild 5 <|
  c_iceq (
  c_ild 5 <|
  c_ifne (
  kL_law_1378 N L sc r23) <|
  c_rld 3 <|
  c_i (0) <|
  c_lal <|
  c_ild 6 <|
  c_il (fun x => x.toInt64) <|
  c_cmp (fun x y => lg_cmp x y) <|
  c_ifeq (
  kL_law_1378 N L sc r23) <|
  c_i (0) <|
  c_zret) <|
  c_i (0) <|
  c_zret)
      refine av_aload_n dL_law_1289 rfl ?_
      refine av_aload_n dL_law_1290 rfl ?_
      refine av_iload dL_law_1291 ?_
      refine av_iconst (v := 1) dL_law_1293 (by decide) ?_
      refine av_iadd dL_law_1294 ?_
      refine av_sld dL_law_1295 ?_
      refine av_aload_n dL_law_1296 rfl ?_
      refine av_iload dL_law_1297 ?_
      refine av_iconst (v := 2) dL_law_1299 (by decide) ?_
      refine av_iadd dL_law_1300 ?_
      refine av_sld dL_law_1301 ?_
      refine av_aload_n dL_law_1302 rfl ?_
      refine av_iload dL_law_1303 ?_
      refine av_iconst (v := 3) dL_law_1305 (by decide) ?_
      refine av_iadd dL_law_1306 ?_
      refine av_sld dL_law_1307 ?_
      refine av_aload_n dL_law_1308 rfl ?_
      refine av_iload dL_law_1309 ?_
      refine av_iconst (v := 4) dL_law_1311 (by decide) ?_
      refine av_iadd dL_law_1312 ?_
      refine av_sld dL_law_1313 ?_
      refine av_aload_n dL_law_1314 rfl ?_
      refine av_callSH (mL_wouldBe l hfl N) ⟨by decide +kernel, by decide +kernel, by decide +kernel⟩ q1231 q1232 q1114 q1233 (by decide) (by decide) dL_law_1315 ?_
      refine av_istore dL_law_1318 (by decide) ?_
      refine av_aload_n dL_law_1320 rfl ?_
      refine av_aload_n dL_law_1321 rfl ?_
      refine av_iload dL_law_1322 ?_
      refine av_iconst (v := 1) dL_law_1324 (by decide) ?_
      refine av_iadd dL_law_1325 ?_
      refine av_sld dL_law_1326 ?_
      refine av_aload_n dL_law_1327 rfl ?_
      refine av_iload dL_law_1328 ?_
      refine av_iconst (v := 2) dL_law_1330 (by decide) ?_
      refine av_iadd dL_law_1331 ?_
      refine av_sld dL_law_1332 ?_
      refine av_aload_n dL_law_1333 rfl ?_
      refine av_iload dL_law_1334 ?_
      refine av_iconst (v := 3) dL_law_1336 (by decide) ?_
      refine av_iadd dL_law_1337 ?_
      refine av_sld dL_law_1338 ?_
      refine av_aload_n dL_law_1339 rfl ?_
      refine av_iload dL_law_1340 ?_
      refine av_iconst (v := 4) dL_law_1342 (by decide) ?_
      refine av_iadd dL_law_1343 ?_
      refine av_sld dL_law_1344 ?_
      refine av_callR (mX11_wouldBe l hfl N) am_ci11 ⟨by decide +kernel, by decide +kernel, by decide +kernel⟩ q1234 q1235 q628 q1236 q1237 (by decide) (by decide) dL_law_1345 ?_
      refine av_istore dL_law_1348 (by decide) ?_
      refine av_aload_n dL_law_1350 rfl ?_
      refine av_callR (mX11_thrown l hfl N) am_ci11 ⟨by decide +kernel, by decide +kernel, by decide +kernel⟩ q1120 q1121 q628 q1122 q1123 (by decide) (by decide) dL_law_1351 ?_
      refine av_iload dL_law_1354 ?_
      refine av_iceq (tgt := 1361) dL_law_1356 (by decide) ?_ ?_
      · refine av_iload dL_law_1361 ?_
        refine av_ifne (tgt := 1378) dL_law_1363 (by decide) ?_ ?_
        · exact vL_law_1378 l hfl N L sc h23
        refine av_aload_n dL_law_1366 rfl ?_
        refine av_iconst (v := 0) dL_law_1367 (by decide) ?_
        refine av_laload dL_law_1368 ?_
        refine av_iload dL_law_1369 ?_
        refine av_i2l dL_law_1371 ?_
        refine av_lcmp dL_law_1372 ?_
        refine av_ifeq (tgt := 1378) dL_law_1373 (by decide) ?_ ?_
        · exact vL_law_1378 l hfl N L sc h23
        refine av_iconst (v := 0) dL_law_1376 (by decide) ?_
        exact av_zreturn am_hzL dL_law_1377
      refine av_iconst (v := 0) dL_law_1359 (by decide) ?_
      exact av_zreturn am_hzL dL_law_1360
    | 18, _ =>
      show am_V _ _ _ _ _ _ _ 1381 (
  c_rld 1 <|
  c_rld 0 <|
  c_ild 4 <|
  c_i (1) <|
  c_ii (fun x y => x + y) <|
  c_sld L sc <|
  c_rld 0 <|
  c_ild 4 <|
  c_i (2) <|
  c_ii (fun x y => x + y) <|
  c_sld L sc <|
  c_rld 0 <|
  c_ild 4 <|
  c_i (3) <|
  c_ii (fun x y => x + y) <|
  c_sld L sc <|
  c_rld 3 <|
  c_callSN 5 (fL_wouldArrive N) <|
  c_ist 5 <|
  c_rld 2 <|
  c_rld 0 <|
  c_ild 4 <|
  c_i (1) <|
  c_ii (fun x y => x + y) <|
  c_sld L sc <|
  c_rld 0 <|
  c_ild 4 <|
  c_i (2) <|
  c_ii (fun x y => x + y) <|
  c_sld L sc <|
  c_rld 0 <|
  c_ild 4 <|
  c_i (3) <|
  c_ii (fun x y => x + y) <|
  c_sld L sc <|
  c_callR 11 3 (fX11_wouldArrive N) <|
  c_ist 6 <|
  c_rld 2 <|
  c_callR 11 0 (fX11_thrown N) <|
  c_ild 5 <|
  c_iceq (
  c_ild 5 <|
  c_ifne (
  kL_law_1458 N L sc r23) <|
  c_rld 3 <|
  c_i (0) <|
  c_lal <|
  c_ild 6 <|
  c_il (fun x => x.toInt64) <|
  c_cmp (fun x y => lg_cmp x y) <|
  c_ifeq (
  kL_law_1458 N L sc r23) <|
  c_i (0) <|
  c_zret) <|
  c_i (0) <|
  c_zret)
      refine av_aload_n dL_law_1381 rfl ?_
      refine av_aload_n dL_law_1382 rfl ?_
      refine av_iload dL_law_1383 ?_
      refine av_iconst (v := 1) dL_law_1385 (by decide) ?_
      refine av_iadd dL_law_1386 ?_
      refine av_sld dL_law_1387 ?_
      refine av_aload_n dL_law_1388 rfl ?_
      refine av_iload dL_law_1389 ?_
      refine av_iconst (v := 2) dL_law_1391 (by decide) ?_
      refine av_iadd dL_law_1392 ?_
      refine av_sld dL_law_1393 ?_
      refine av_aload_n dL_law_1394 rfl ?_
      refine av_iload dL_law_1395 ?_
      refine av_iconst (v := 3) dL_law_1397 (by decide) ?_
      refine av_iadd dL_law_1398 ?_
      refine av_sld dL_law_1399 ?_
      refine av_aload_n dL_law_1400 rfl ?_
      refine av_callSH (mL_wouldArrive l hfl N) ⟨by decide +kernel, by decide +kernel, by decide +kernel⟩ q1238 q1239 q1114 q1240 (by decide) (by decide) dL_law_1401 ?_
      refine av_istore dL_law_1404 (by decide) ?_
      refine av_aload_n dL_law_1406 rfl ?_
      refine av_aload_n dL_law_1407 rfl ?_
      refine av_iload dL_law_1408 ?_
      refine av_iconst (v := 1) dL_law_1410 (by decide) ?_
      refine av_iadd dL_law_1411 ?_
      refine av_sld dL_law_1412 ?_
      refine av_aload_n dL_law_1413 rfl ?_
      refine av_iload dL_law_1414 ?_
      refine av_iconst (v := 2) dL_law_1416 (by decide) ?_
      refine av_iadd dL_law_1417 ?_
      refine av_sld dL_law_1418 ?_
      refine av_aload_n dL_law_1419 rfl ?_
      refine av_iload dL_law_1420 ?_
      refine av_iconst (v := 3) dL_law_1422 (by decide) ?_
      refine av_iadd dL_law_1423 ?_
      refine av_sld dL_law_1424 ?_
      refine av_callR (mX11_wouldArrive l hfl N) am_ci11 ⟨by decide +kernel, by decide +kernel, by decide +kernel⟩ q1241 q1242 q628 q1243 q1244 (by decide) (by decide) dL_law_1425 ?_
      refine av_istore dL_law_1428 (by decide) ?_
      refine av_aload_n dL_law_1430 rfl ?_
      refine av_callR (mX11_thrown l hfl N) am_ci11 ⟨by decide +kernel, by decide +kernel, by decide +kernel⟩ q1120 q1121 q628 q1122 q1123 (by decide) (by decide) dL_law_1431 ?_
      refine av_iload dL_law_1434 ?_
      refine av_iceq (tgt := 1441) dL_law_1436 (by decide) ?_ ?_
      · refine av_iload dL_law_1441 ?_
        refine av_ifne (tgt := 1458) dL_law_1443 (by decide) ?_ ?_
        · exact vL_law_1458 l hfl N L sc h23
        refine av_aload_n dL_law_1446 rfl ?_
        refine av_iconst (v := 0) dL_law_1447 (by decide) ?_
        refine av_laload dL_law_1448 ?_
        refine av_iload dL_law_1449 ?_
        refine av_i2l dL_law_1451 ?_
        refine av_lcmp dL_law_1452 ?_
        refine av_ifeq (tgt := 1458) dL_law_1453 (by decide) ?_ ?_
        · exact vL_law_1458 l hfl N L sc h23
        refine av_iconst (v := 0) dL_law_1456 (by decide) ?_
        exact av_zreturn am_hzL dL_law_1457
      refine av_iconst (v := 0) dL_law_1439 (by decide) ?_
      exact av_zreturn am_hzL dL_law_1440
    | 19, _ =>
      show am_V _ _ _ _ _ _ _ 1461 (
  c_rld 1 <|
  c_rld 0 <|
  c_ild 4 <|
  c_i (1) <|
  c_ii (fun x y => x + y) <|
  c_sld L sc <|
  c_rld 0 <|
  c_ild 4 <|
  c_i (2) <|
  c_ii (fun x y => x + y) <|
  c_sld L sc <|
  c_rld 0 <|
  c_ild 4 <|
  c_i (3) <|
  c_ii (fun x y => x + y) <|
  c_sld L sc <|
  c_rld 3 <|
  c_callSN 5 (fL_bestDelay N) <|
  c_ist 5 <|
  c_rld 2 <|
  c_rld 0 <|
  c_ild 4 <|
  c_i (1) <|
  c_ii (fun x y => x + y) <|
  c_sld L sc <|
  c_rld 0 <|
  c_ild 4 <|
  c_i (2) <|
  c_ii (fun x y => x + y) <|
  c_sld L sc <|
  c_rld 0 <|
  c_ild 4 <|
  c_i (3) <|
  c_ii (fun x y => x + y) <|
  c_sld L sc <|
  c_callR 11 3 (fX11_bestDelay N) <|
  c_ist 6 <|
  c_rld 2 <|
  c_callR 11 0 (fX11_thrown N) <|
  c_ild 5 <|
  c_iceq (
  c_ild 5 <|
  c_ifne (
  kL_law_1538 N L sc r23) <|
  c_rld 3 <|
  c_i (0) <|
  c_lal <|
  c_ild 6 <|
  c_il (fun x => x.toInt64) <|
  c_cmp (fun x y => lg_cmp x y) <|
  c_ifeq (
  kL_law_1538 N L sc r23) <|
  c_i (0) <|
  c_zret) <|
  c_i (0) <|
  c_zret)
      refine av_aload_n dL_law_1461 rfl ?_
      refine av_aload_n dL_law_1462 rfl ?_
      refine av_iload dL_law_1463 ?_
      refine av_iconst (v := 1) dL_law_1465 (by decide) ?_
      refine av_iadd dL_law_1466 ?_
      refine av_sld dL_law_1467 ?_
      refine av_aload_n dL_law_1468 rfl ?_
      refine av_iload dL_law_1469 ?_
      refine av_iconst (v := 2) dL_law_1471 (by decide) ?_
      refine av_iadd dL_law_1472 ?_
      refine av_sld dL_law_1473 ?_
      refine av_aload_n dL_law_1474 rfl ?_
      refine av_iload dL_law_1475 ?_
      refine av_iconst (v := 3) dL_law_1477 (by decide) ?_
      refine av_iadd dL_law_1478 ?_
      refine av_sld dL_law_1479 ?_
      refine av_aload_n dL_law_1480 rfl ?_
      refine av_callSH (mL_bestDelay l hfl N) ⟨by decide +kernel, by decide +kernel, by decide +kernel⟩ q1245 q1246 q1114 q1247 (by decide) (by decide) dL_law_1481 ?_
      refine av_istore dL_law_1484 (by decide) ?_
      refine av_aload_n dL_law_1486 rfl ?_
      refine av_aload_n dL_law_1487 rfl ?_
      refine av_iload dL_law_1488 ?_
      refine av_iconst (v := 1) dL_law_1490 (by decide) ?_
      refine av_iadd dL_law_1491 ?_
      refine av_sld dL_law_1492 ?_
      refine av_aload_n dL_law_1493 rfl ?_
      refine av_iload dL_law_1494 ?_
      refine av_iconst (v := 2) dL_law_1496 (by decide) ?_
      refine av_iadd dL_law_1497 ?_
      refine av_sld dL_law_1498 ?_
      refine av_aload_n dL_law_1499 rfl ?_
      refine av_iload dL_law_1500 ?_
      refine av_iconst (v := 3) dL_law_1502 (by decide) ?_
      refine av_iadd dL_law_1503 ?_
      refine av_sld dL_law_1504 ?_
      refine av_callR (mX11_bestDelay l hfl N) am_ci11 ⟨by decide +kernel, by decide +kernel, by decide +kernel⟩ q1248 q1249 q628 q1250 q1251 (by decide) (by decide) dL_law_1505 ?_
      refine av_istore dL_law_1508 (by decide) ?_
      refine av_aload_n dL_law_1510 rfl ?_
      refine av_callR (mX11_thrown l hfl N) am_ci11 ⟨by decide +kernel, by decide +kernel, by decide +kernel⟩ q1120 q1121 q628 q1122 q1123 (by decide) (by decide) dL_law_1511 ?_
      refine av_iload dL_law_1514 ?_
      refine av_iceq (tgt := 1521) dL_law_1516 (by decide) ?_ ?_
      · refine av_iload dL_law_1521 ?_
        refine av_ifne (tgt := 1538) dL_law_1523 (by decide) ?_ ?_
        · exact vL_law_1538 l hfl N L sc h23
        refine av_aload_n dL_law_1526 rfl ?_
        refine av_iconst (v := 0) dL_law_1527 (by decide) ?_
        refine av_laload dL_law_1528 ?_
        refine av_iload dL_law_1529 ?_
        refine av_i2l dL_law_1531 ?_
        refine av_lcmp dL_law_1532 ?_
        refine av_ifeq (tgt := 1538) dL_law_1533 (by decide) ?_ ?_
        · exact vL_law_1538 l hfl N L sc h23
        refine av_iconst (v := 0) dL_law_1536 (by decide) ?_
        exact av_zreturn am_hzL dL_law_1537
      refine av_iconst (v := 0) dL_law_1519 (by decide) ?_
      exact av_zreturn am_hzL dL_law_1520
    | 20, _ =>
      show am_V _ _ _ _ _ _ _ 1541 (
  c_rld 1 <|
  c_rld 0 <|
  c_ild 4 <|
  c_i (1) <|
  c_ii (fun x y => x + y) <|
  c_sld L sc <|
  c_rld 3 <|
  c_callSN 3 (fL_failing N) <|
  c_ist 5 <|
  c_rld 2 <|
  c_rld 0 <|
  c_ild 4 <|
  c_i (1) <|
  c_ii (fun x y => x + y) <|
  c_sld L sc <|
  c_callR 11 1 (fX11_failing N) <|
  c_ist 6 <|
  c_rld 2 <|
  c_callR 11 0 (fX11_thrown N) <|
  c_ild 5 <|
  c_iceq (
  c_ild 5 <|
  c_ifne (
  kL_law_1594 N L sc r23) <|
  c_rld 3 <|
  c_i (0) <|
  c_lal <|
  c_ild 6 <|
  c_il (fun x => x.toInt64) <|
  c_cmp (fun x y => lg_cmp x y) <|
  c_ifeq (
  kL_law_1594 N L sc r23) <|
  c_i (0) <|
  c_zret) <|
  c_i (0) <|
  c_zret)
      refine av_aload_n dL_law_1541 rfl ?_
      refine av_aload_n dL_law_1542 rfl ?_
      refine av_iload dL_law_1543 ?_
      refine av_iconst (v := 1) dL_law_1545 (by decide) ?_
      refine av_iadd dL_law_1546 ?_
      refine av_sld dL_law_1547 ?_
      refine av_aload_n dL_law_1548 rfl ?_
      refine av_callSH (mL_failing l hfl N) ⟨by decide +kernel, by decide +kernel, by decide +kernel⟩ q1252 q1253 q1114 q1254 (by decide) (by decide) dL_law_1549 ?_
      refine av_istore dL_law_1552 (by decide) ?_
      refine av_aload_n dL_law_1554 rfl ?_
      refine av_aload_n dL_law_1555 rfl ?_
      refine av_iload dL_law_1556 ?_
      refine av_iconst (v := 1) dL_law_1558 (by decide) ?_
      refine av_iadd dL_law_1559 ?_
      refine av_sld dL_law_1560 ?_
      refine av_callR (mX11_failing l hfl N) am_ci11 ⟨by decide +kernel, by decide +kernel, by decide +kernel⟩ q1255 q1256 q628 q1257 q1258 (by decide) (by decide) dL_law_1561 ?_
      refine av_istore dL_law_1564 (by decide) ?_
      refine av_aload_n dL_law_1566 rfl ?_
      refine av_callR (mX11_thrown l hfl N) am_ci11 ⟨by decide +kernel, by decide +kernel, by decide +kernel⟩ q1120 q1121 q628 q1122 q1123 (by decide) (by decide) dL_law_1567 ?_
      refine av_iload dL_law_1570 ?_
      refine av_iceq (tgt := 1577) dL_law_1572 (by decide) ?_ ?_
      · refine av_iload dL_law_1577 ?_
        refine av_ifne (tgt := 1594) dL_law_1579 (by decide) ?_ ?_
        · exact vL_law_1594 l hfl N L sc h23
        refine av_aload_n dL_law_1582 rfl ?_
        refine av_iconst (v := 0) dL_law_1583 (by decide) ?_
        refine av_laload dL_law_1584 ?_
        refine av_iload dL_law_1585 ?_
        refine av_i2l dL_law_1587 ?_
        refine av_lcmp dL_law_1588 ?_
        refine av_ifeq (tgt := 1594) dL_law_1589 (by decide) ?_ ?_
        · exact vL_law_1594 l hfl N L sc h23
        refine av_iconst (v := 0) dL_law_1592 (by decide) ?_
        exact av_zreturn am_hzL dL_law_1593
      refine av_iconst (v := 0) dL_law_1575 (by decide) ?_
      exact av_zreturn am_hzL dL_law_1576
    | 21, _ =>
      show am_V _ _ _ _ _ _ _ 1597 (
  c_rld 1 <|
  c_callR 10 0 (fX10_meanDelay N) <|
  c_dst 5 <|
  c_rld 2 <|
  c_callR 11 0 (fX11_meanDelay N) <|
  c_dst 7 <|
  c_dld 5 <|
  c_dld 7 <|
  c_dcmp .l <|
  c_ifeq (
  kL_law_1635 N L sc r23) <|
  c_dld 5 <|
  c_dld 5 <|
  c_dcmp .l <|
  c_ifeq (
  kL_law_1633 N L sc) <|
  c_dld 7 <|
  c_dld 7 <|
  c_dcmp .l <|
  c_ifne (
  kL_law_1635 N L sc r23) <|
  kL_law_1633 N L sc)
      refine av_aload_n dL_law_1597 rfl ?_
      refine av_callR (mX10_meanDelay l hfl N) am_ci10 ⟨by decide +kernel, by decide +kernel, by decide +kernel⟩ q1259 q1260 q111 q1261 q1262 (by decide) (by decide) dL_law_1598 ?_
      refine av_dstore dL_law_1601 (by decide) ?_
      refine av_aload_n dL_law_1603 rfl ?_
      refine av_callR (mX11_meanDelay l hfl N) am_ci11 ⟨by decide +kernel, by decide +kernel, by decide +kernel⟩ q1263 q1264 q628 q1265 q1266 (by decide) (by decide) dL_law_1604 ?_
      refine av_dstore dL_law_1607 (by decide) ?_
      refine av_dload dL_law_1609 ?_
      refine av_dload dL_law_1611 ?_
      refine av_dcmp dL_law_1613 ?_
      refine av_ifeq (tgt := 1635) dL_law_1614 (by decide) ?_ ?_
      · exact vL_law_1635 l hfl N L sc h23
      refine av_dload dL_law_1617 ?_
      refine av_dload dL_law_1619 ?_
      refine av_dcmp dL_law_1621 ?_
      refine av_ifeq (tgt := 1633) dL_law_1622 (by decide) ?_ ?_
      · exact vL_law_1633 l hfl N L sc
      refine av_dload dL_law_1625 ?_
      refine av_dload dL_law_1627 ?_
      refine av_dcmp dL_law_1629 ?_
      refine av_ifne (tgt := 1635) dL_law_1630 (by decide) ?_ ?_
      · exact vL_law_1635 l hfl N L sc h23
      exact vL_law_1633 l hfl N L sc
    | 22, _ =>
      show am_V _ _ _ _ _ _ _ 1638 (
  c_rld 1 <|
  c_callR 10 0 (fX10_success N) <|
  c_f2d <|
  c_dst 5 <|
  c_rld 2 <|
  c_callR 11 0 (fX11_success N) <|
  c_f2d <|
  c_dst 7 <|
  c_dld 5 <|
  c_dld 7 <|
  c_dcmp .l <|
  c_ifeq (
  kL_law_1678 N L sc r23) <|
  c_dld 5 <|
  c_dld 5 <|
  c_dcmp .l <|
  c_ifeq (
  kL_law_1676 N L sc) <|
  c_dld 7 <|
  c_dld 7 <|
  c_dcmp .l <|
  c_ifne (
  kL_law_1678 N L sc r23) <|
  kL_law_1676 N L sc)
      refine av_aload_n dL_law_1638 rfl ?_
      refine av_callR (mX10_success l hfl N) am_ci10 ⟨by decide +kernel, by decide +kernel, by decide +kernel⟩ q1267 q1268 q111 q1269 q1270 (by decide) (by decide) dL_law_1639 ?_
      refine av_f2d dL_law_1642 ?_
      refine av_dstore dL_law_1643 (by decide) ?_
      refine av_aload_n dL_law_1645 rfl ?_
      refine av_callR (mX11_success l hfl N) am_ci11 ⟨by decide +kernel, by decide +kernel, by decide +kernel⟩ q1271 q1272 q628 q1273 q1274 (by decide) (by decide) dL_law_1646 ?_
      refine av_f2d dL_law_1649 ?_
      refine av_dstore dL_law_1650 (by decide) ?_
      refine av_dload dL_law_1652 ?_
      refine av_dload dL_law_1654 ?_
      refine av_dcmp dL_law_1656 ?_
      refine av_ifeq (tgt := 1678) dL_law_1657 (by decide) ?_ ?_
      · exact vL_law_1678 l hfl N L sc h23
      refine av_dload dL_law_1660 ?_
      refine av_dload dL_law_1662 ?_
      refine av_dcmp dL_law_1664 ?_
      refine av_ifeq (tgt := 1676) dL_law_1665 (by decide) ?_ ?_
      · exact vL_law_1676 l hfl N L sc
      refine av_dload dL_law_1668 ?_
      refine av_dload dL_law_1670 ?_
      refine av_dcmp dL_law_1672 ?_
      refine av_ifne (tgt := 1678) dL_law_1673 (by decide) ?_ ?_
      · exact vL_law_1678 l hfl N L sc h23
      exact vL_law_1676 l hfl N L sc
    | 23, _ =>
      show am_V _ _ _ _ _ _ _ 1681 (
  c_rld 1 <|
  c_rld 0 <|
  c_ild 4 <|
  c_i (1) <|
  c_ii (fun x y => x + y) <|
  c_sld L sc <|
  c_rld 3 <|
  c_callSN 3 (fL_pass N) <|
  c_ist 5 <|
  c_rld 2 <|
  c_rld 0 <|
  c_ild 4 <|
  c_i (1) <|
  c_ii (fun x y => x + y) <|
  c_sld L sc <|
  c_callR 11 1 (fX11_pass N) <|
  c_ist 6 <|
  c_rld 2 <|
  c_callR 11 0 (fX11_thrown N) <|
  c_ild 5 <|
  c_iceq (
  c_ild 5 <|
  c_ifne (
  kL_law_1734 N L sc r23) <|
  c_rld 3 <|
  c_i (0) <|
  c_lal <|
  c_ild 6 <|
  c_il (fun x => x.toInt64) <|
  c_cmp (fun x y => lg_cmp x y) <|
  c_ifeq (
  kL_law_1734 N L sc r23) <|
  c_i (0) <|
  c_zret) <|
  c_i (0) <|
  c_zret)
      refine av_aload_n dL_law_1681 rfl ?_
      refine av_aload_n dL_law_1682 rfl ?_
      refine av_iload dL_law_1683 ?_
      refine av_iconst (v := 1) dL_law_1685 (by decide) ?_
      refine av_iadd dL_law_1686 ?_
      refine av_sld dL_law_1687 ?_
      refine av_aload_n dL_law_1688 rfl ?_
      refine av_callSH (mL_pass l hfl N) ⟨by decide +kernel, by decide +kernel, by decide +kernel⟩ q1275 q1276 q1114 q1277 (by decide) (by decide) dL_law_1689 ?_
      refine av_istore dL_law_1692 (by decide) ?_
      refine av_aload_n dL_law_1694 rfl ?_
      refine av_aload_n dL_law_1695 rfl ?_
      refine av_iload dL_law_1696 ?_
      refine av_iconst (v := 1) dL_law_1698 (by decide) ?_
      refine av_iadd dL_law_1699 ?_
      refine av_sld dL_law_1700 ?_
      refine av_callR (mX11_pass l hfl N) am_ci11 ⟨by decide +kernel, by decide +kernel, by decide +kernel⟩ q1278 q1279 q628 q1280 q1281 (by decide) (by decide) dL_law_1701 ?_
      refine av_istore dL_law_1704 (by decide) ?_
      refine av_aload_n dL_law_1706 rfl ?_
      refine av_callR (mX11_thrown l hfl N) am_ci11 ⟨by decide +kernel, by decide +kernel, by decide +kernel⟩ q1120 q1121 q628 q1122 q1123 (by decide) (by decide) dL_law_1707 ?_
      refine av_iload dL_law_1710 ?_
      refine av_iceq (tgt := 1717) dL_law_1712 (by decide) ?_ ?_
      · refine av_iload dL_law_1717 ?_
        refine av_ifne (tgt := 1734) dL_law_1719 (by decide) ?_ ?_
        · exact vL_law_1734 l hfl N L sc h23
        refine av_aload_n dL_law_1722 rfl ?_
        refine av_iconst (v := 0) dL_law_1723 (by decide) ?_
        refine av_laload dL_law_1724 ?_
        refine av_iload dL_law_1725 ?_
        refine av_i2l dL_law_1727 ?_
        refine av_lcmp dL_law_1728 ?_
        refine av_ifeq (tgt := 1734) dL_law_1729 (by decide) ?_ ?_
        · exact vL_law_1734 l hfl N L sc h23
        refine av_iconst (v := 0) dL_law_1732 (by decide) ?_
        exact av_zreturn am_hzL dL_law_1733
      refine av_iconst (v := 0) dL_law_1715 (by decide) ?_
      exact av_zreturn am_hzL dL_law_1716
    | 24, _ =>
      show am_V _ _ _ _ _ _ _ 1737 (
  c_rld 1 <|
  c_rld 0 <|
  c_ild 4 <|
  c_i (1) <|
  c_ii (fun x y => x + y) <|
  c_sld L sc <|
  c_rld 0 <|
  c_ild 4 <|
  c_i (2) <|
  c_ii (fun x y => x + y) <|
  c_sld L sc <|
  c_rld 0 <|
  c_ild 4 <|
  c_i (3) <|
  c_ii (fun x y => x + y) <|
  c_sld L sc <|
  c_rld 3 <|
  c_callSN 5 (fL_send N) <|
  c_ist 5 <|
  c_rld 2 <|
  c_rld 0 <|
  c_ild 4 <|
  c_i (1) <|
  c_ii (fun x y => x + y) <|
  c_sld L sc <|
  c_rld 0 <|
  c_ild 4 <|
  c_i (2) <|
  c_ii (fun x y => x + y) <|
  c_sld L sc <|
  c_rld 0 <|
  c_ild 4 <|
  c_i (3) <|
  c_ii (fun x y => x + y) <|
  c_sld L sc <|
  c_callR 11 3 (fX11_send N) <|
  c_ist 6 <|
  c_rld 2 <|
  c_callR 11 0 (fX11_thrown N) <|
  c_ild 5 <|
  c_iceq (
  c_ild 5 <|
  c_ifne (
  kL_law_1814 N L sc r23) <|
  c_rld 3 <|
  c_i (0) <|
  c_lal <|
  c_ild 6 <|
  c_il (fun x => x.toInt64) <|
  c_cmp (fun x y => lg_cmp x y) <|
  c_ifeq (
  kL_law_1814 N L sc r23) <|
  c_i (0) <|
  c_zret) <|
  c_i (0) <|
  c_zret)
      refine av_aload_n dL_law_1737 rfl ?_
      refine av_aload_n dL_law_1738 rfl ?_
      refine av_iload dL_law_1739 ?_
      refine av_iconst (v := 1) dL_law_1741 (by decide) ?_
      refine av_iadd dL_law_1742 ?_
      refine av_sld dL_law_1743 ?_
      refine av_aload_n dL_law_1744 rfl ?_
      refine av_iload dL_law_1745 ?_
      refine av_iconst (v := 2) dL_law_1747 (by decide) ?_
      refine av_iadd dL_law_1748 ?_
      refine av_sld dL_law_1749 ?_
      refine av_aload_n dL_law_1750 rfl ?_
      refine av_iload dL_law_1751 ?_
      refine av_iconst (v := 3) dL_law_1753 (by decide) ?_
      refine av_iadd dL_law_1754 ?_
      refine av_sld dL_law_1755 ?_
      refine av_aload_n dL_law_1756 rfl ?_
      refine av_callSH (mL_send l hfl N) ⟨by decide +kernel, by decide +kernel, by decide +kernel⟩ q1282 q1283 q1114 q1284 (by decide) (by decide) dL_law_1757 ?_
      refine av_istore dL_law_1760 (by decide) ?_
      refine av_aload_n dL_law_1762 rfl ?_
      refine av_aload_n dL_law_1763 rfl ?_
      refine av_iload dL_law_1764 ?_
      refine av_iconst (v := 1) dL_law_1766 (by decide) ?_
      refine av_iadd dL_law_1767 ?_
      refine av_sld dL_law_1768 ?_
      refine av_aload_n dL_law_1769 rfl ?_
      refine av_iload dL_law_1770 ?_
      refine av_iconst (v := 2) dL_law_1772 (by decide) ?_
      refine av_iadd dL_law_1773 ?_
      refine av_sld dL_law_1774 ?_
      refine av_aload_n dL_law_1775 rfl ?_
      refine av_iload dL_law_1776 ?_
      refine av_iconst (v := 3) dL_law_1778 (by decide) ?_
      refine av_iadd dL_law_1779 ?_
      refine av_sld dL_law_1780 ?_
      refine av_callR (mX11_send l hfl N) am_ci11 ⟨by decide +kernel, by decide +kernel, by decide +kernel⟩ q1285 q1286 q628 q1287 q1288 (by decide) (by decide) dL_law_1781 ?_
      refine av_istore dL_law_1784 (by decide) ?_
      refine av_aload_n dL_law_1786 rfl ?_
      refine av_callR (mX11_thrown l hfl N) am_ci11 ⟨by decide +kernel, by decide +kernel, by decide +kernel⟩ q1120 q1121 q628 q1122 q1123 (by decide) (by decide) dL_law_1787 ?_
      refine av_iload dL_law_1790 ?_
      refine av_iceq (tgt := 1797) dL_law_1792 (by decide) ?_ ?_
      · refine av_iload dL_law_1797 ?_
        refine av_ifne (tgt := 1814) dL_law_1799 (by decide) ?_ ?_
        · exact vL_law_1814 l hfl N L sc h23
        refine av_aload_n dL_law_1802 rfl ?_
        refine av_iconst (v := 0) dL_law_1803 (by decide) ?_
        refine av_laload dL_law_1804 ?_
        refine av_iload dL_law_1805 ?_
        refine av_i2l dL_law_1807 ?_
        refine av_lcmp dL_law_1808 ?_
        refine av_ifeq (tgt := 1814) dL_law_1809 (by decide) ?_ ?_
        · exact vL_law_1814 l hfl N L sc h23
        refine av_iconst (v := 0) dL_law_1812 (by decide) ?_
        exact av_zreturn am_hzL dL_law_1813
      refine av_iconst (v := 0) dL_law_1795 (by decide) ?_
      exact av_zreturn am_hzL dL_law_1796
    | 25, _ =>
      show am_V _ _ _ _ _ _ _ 1817 (
  c_rld 1 <|
  c_rld 0 <|
  c_ild 4 <|
  c_i (1) <|
  c_ii (fun x y => x + y) <|
  c_sld L sc <|
  c_rld 0 <|
  c_ild 4 <|
  c_i (2) <|
  c_ii (fun x y => x + y) <|
  c_sld L sc <|
  c_rld 3 <|
  c_callSN 4 (fL_wall N) <|
  c_ist 5 <|
  c_rld 2 <|
  c_rld 0 <|
  c_ild 4 <|
  c_i (1) <|
  c_ii (fun x y => x + y) <|
  c_sld L sc <|
  c_rld 0 <|
  c_ild 4 <|
  c_i (2) <|
  c_ii (fun x y => x + y) <|
  c_sld L sc <|
  c_callR 11 2 (fX11_wall N) <|
  c_ist 6 <|
  c_rld 2 <|
  c_callR 11 0 (fX11_thrown N) <|
  c_ild 5 <|
  c_iceq (
  c_ild 5 <|
  c_ifne (
  kL_law_1882 N L sc r23) <|
  c_rld 3 <|
  c_i (0) <|
  c_lal <|
  c_ild 6 <|
  c_il (fun x => x.toInt64) <|
  c_cmp (fun x y => lg_cmp x y) <|
  c_ifeq (
  kL_law_1882 N L sc r23) <|
  c_i (0) <|
  c_zret) <|
  c_i (0) <|
  c_zret)
      refine av_aload_n dL_law_1817 rfl ?_
      refine av_aload_n dL_law_1818 rfl ?_
      refine av_iload dL_law_1819 ?_
      refine av_iconst (v := 1) dL_law_1821 (by decide) ?_
      refine av_iadd dL_law_1822 ?_
      refine av_sld dL_law_1823 ?_
      refine av_aload_n dL_law_1824 rfl ?_
      refine av_iload dL_law_1825 ?_
      refine av_iconst (v := 2) dL_law_1827 (by decide) ?_
      refine av_iadd dL_law_1828 ?_
      refine av_sld dL_law_1829 ?_
      refine av_aload_n dL_law_1830 rfl ?_
      refine av_callSH (mL_wall l hfl N) ⟨by decide +kernel, by decide +kernel, by decide +kernel⟩ q1289 q1290 q1114 q1291 (by decide) (by decide) dL_law_1831 ?_
      refine av_istore dL_law_1834 (by decide) ?_
      refine av_aload_n dL_law_1836 rfl ?_
      refine av_aload_n dL_law_1837 rfl ?_
      refine av_iload dL_law_1838 ?_
      refine av_iconst (v := 1) dL_law_1840 (by decide) ?_
      refine av_iadd dL_law_1841 ?_
      refine av_sld dL_law_1842 ?_
      refine av_aload_n dL_law_1843 rfl ?_
      refine av_iload dL_law_1844 ?_
      refine av_iconst (v := 2) dL_law_1846 (by decide) ?_
      refine av_iadd dL_law_1847 ?_
      refine av_sld dL_law_1848 ?_
      refine av_callR (mX11_wall l hfl N) am_ci11 ⟨by decide +kernel, by decide +kernel, by decide +kernel⟩ q1292 q1293 q628 q1294 q1295 (by decide) (by decide) dL_law_1849 ?_
      refine av_istore dL_law_1852 (by decide) ?_
      refine av_aload_n dL_law_1854 rfl ?_
      refine av_callR (mX11_thrown l hfl N) am_ci11 ⟨by decide +kernel, by decide +kernel, by decide +kernel⟩ q1120 q1121 q628 q1122 q1123 (by decide) (by decide) dL_law_1855 ?_
      refine av_iload dL_law_1858 ?_
      refine av_iceq (tgt := 1865) dL_law_1860 (by decide) ?_ ?_
      · refine av_iload dL_law_1865 ?_
        refine av_ifne (tgt := 1882) dL_law_1867 (by decide) ?_ ?_
        · exact vL_law_1882 l hfl N L sc h23
        refine av_aload_n dL_law_1870 rfl ?_
        refine av_iconst (v := 0) dL_law_1871 (by decide) ?_
        refine av_laload dL_law_1872 ?_
        refine av_iload dL_law_1873 ?_
        refine av_i2l dL_law_1875 ?_
        refine av_lcmp dL_law_1876 ?_
        refine av_ifeq (tgt := 1882) dL_law_1877 (by decide) ?_ ?_
        · exact vL_law_1882 l hfl N L sc h23
        refine av_iconst (v := 0) dL_law_1880 (by decide) ?_
        exact av_zreturn am_hzL dL_law_1881
      refine av_iconst (v := 0) dL_law_1863 (by decide) ?_
      exact av_zreturn am_hzL dL_law_1864
    | 26, _ =>
      show am_V _ _ _ _ _ _ _ 1885 (
  c_rld 1 <|
  c_rld 0 <|
  c_ild 4 <|
  c_i (1) <|
  c_ii (fun x y => x + y) <|
  c_sld L sc <|
  c_rld 0 <|
  c_ild 4 <|
  c_i (2) <|
  c_ii (fun x y => x + y) <|
  c_sld L sc <|
  c_rld 0 <|
  c_ild 4 <|
  c_i (3) <|
  c_ii (fun x y => x + y) <|
  c_sld L sc <|
  c_rld 3 <|
  c_callSN 5 (fL_movePicket N) <|
  c_ist 5 <|
  c_rld 2 <|
  c_rld 0 <|
  c_ild 4 <|
  c_i (1) <|
  c_ii (fun x y => x + y) <|
  c_sld L sc <|
  c_rld 0 <|
  c_ild 4 <|
  c_i (2) <|
  c_ii (fun x y => x + y) <|
  c_sld L sc <|
  c_rld 0 <|
  c_ild 4 <|
  c_i (3) <|
  c_ii (fun x y => x + y) <|
  c_sld L sc <|
  c_callR 11 3 (fX11_movePicket N) <|
  c_ist 6 <|
  c_rld 2 <|
  c_callR 11 0 (fX11_thrown N) <|
  c_ild 5 <|
  c_iceq (
  c_ild 5 <|
  c_ifne (
  kL_law_1962 N L sc r23) <|
  c_rld 3 <|
  c_i (0) <|
  c_lal <|
  c_ild 6 <|
  c_il (fun x => x.toInt64) <|
  c_cmp (fun x y => lg_cmp x y) <|
  c_ifeq (
  kL_law_1962 N L sc r23) <|
  c_i (0) <|
  c_zret) <|
  c_i (0) <|
  c_zret)
      refine av_aload_n dL_law_1885 rfl ?_
      refine av_aload_n dL_law_1886 rfl ?_
      refine av_iload dL_law_1887 ?_
      refine av_iconst (v := 1) dL_law_1889 (by decide) ?_
      refine av_iadd dL_law_1890 ?_
      refine av_sld dL_law_1891 ?_
      refine av_aload_n dL_law_1892 rfl ?_
      refine av_iload dL_law_1893 ?_
      refine av_iconst (v := 2) dL_law_1895 (by decide) ?_
      refine av_iadd dL_law_1896 ?_
      refine av_sld dL_law_1897 ?_
      refine av_aload_n dL_law_1898 rfl ?_
      refine av_iload dL_law_1899 ?_
      refine av_iconst (v := 3) dL_law_1901 (by decide) ?_
      refine av_iadd dL_law_1902 ?_
      refine av_sld dL_law_1903 ?_
      refine av_aload_n dL_law_1904 rfl ?_
      refine av_callSH (mL_movePicket l hfl N) ⟨by decide +kernel, by decide +kernel, by decide +kernel⟩ q1296 q1297 q1114 q1298 (by decide) (by decide) dL_law_1905 ?_
      refine av_istore dL_law_1908 (by decide) ?_
      refine av_aload_n dL_law_1910 rfl ?_
      refine av_aload_n dL_law_1911 rfl ?_
      refine av_iload dL_law_1912 ?_
      refine av_iconst (v := 1) dL_law_1914 (by decide) ?_
      refine av_iadd dL_law_1915 ?_
      refine av_sld dL_law_1916 ?_
      refine av_aload_n dL_law_1917 rfl ?_
      refine av_iload dL_law_1918 ?_
      refine av_iconst (v := 2) dL_law_1920 (by decide) ?_
      refine av_iadd dL_law_1921 ?_
      refine av_sld dL_law_1922 ?_
      refine av_aload_n dL_law_1923 rfl ?_
      refine av_iload dL_law_1924 ?_
      refine av_iconst (v := 3) dL_law_1926 (by decide) ?_
      refine av_iadd dL_law_1927 ?_
      refine av_sld dL_law_1928 ?_
      refine av_callR (mX11_movePicket l hfl N) am_ci11 ⟨by decide +kernel, by decide +kernel, by decide +kernel⟩ q1299 q1300 q628 q1301 q1302 (by decide) (by decide) dL_law_1929 ?_
      refine av_istore dL_law_1932 (by decide) ?_
      refine av_aload_n dL_law_1934 rfl ?_
      refine av_callR (mX11_thrown l hfl N) am_ci11 ⟨by decide +kernel, by decide +kernel, by decide +kernel⟩ q1120 q1121 q628 q1122 q1123 (by decide) (by decide) dL_law_1935 ?_
      refine av_iload dL_law_1938 ?_
      refine av_iceq (tgt := 1945) dL_law_1940 (by decide) ?_ ?_
      · refine av_iload dL_law_1945 ?_
        refine av_ifne (tgt := 1962) dL_law_1947 (by decide) ?_ ?_
        · exact vL_law_1962 l hfl N L sc h23
        refine av_aload_n dL_law_1950 rfl ?_
        refine av_iconst (v := 0) dL_law_1951 (by decide) ?_
        refine av_laload dL_law_1952 ?_
        refine av_iload dL_law_1953 ?_
        refine av_i2l dL_law_1955 ?_
        refine av_lcmp dL_law_1956 ?_
        refine av_ifeq (tgt := 1962) dL_law_1957 (by decide) ?_ ?_
        · exact vL_law_1962 l hfl N L sc h23
        refine av_iconst (v := 0) dL_law_1960 (by decide) ?_
        exact av_zreturn am_hzL dL_law_1961
      refine av_iconst (v := 0) dL_law_1943 (by decide) ?_
      exact av_zreturn am_hzL dL_law_1944
    | 27, _ =>
      show am_V _ _ _ _ _ _ _ 1965 (
  c_rld 1 <|
  c_rld 0 <|
  c_ild 4 <|
  c_i (1) <|
  c_ii (fun x y => x + y) <|
  c_sld L sc <|
  c_rld 0 <|
  c_ild 4 <|
  c_i (2) <|
  c_ii (fun x y => x + y) <|
  c_sld L sc <|
  c_rld 3 <|
  c_callSN 4 (fL_movePlan N) <|
  c_ist 5 <|
  c_rld 2 <|
  c_rld 0 <|
  c_ild 4 <|
  c_i (1) <|
  c_ii (fun x y => x + y) <|
  c_sld L sc <|
  c_rld 0 <|
  c_ild 4 <|
  c_i (2) <|
  c_ii (fun x y => x + y) <|
  c_sld L sc <|
  c_callR 11 2 (fX11_movePlan N) <|
  c_ist 6 <|
  c_rld 2 <|
  c_callR 11 0 (fX11_thrown N) <|
  c_ild 5 <|
  c_iceq (
  c_ild 5 <|
  c_ifne (
  kL_law_2030 N L sc r23) <|
  c_rld 3 <|
  c_i (0) <|
  c_lal <|
  c_ild 6 <|
  c_il (fun x => x.toInt64) <|
  c_cmp (fun x y => lg_cmp x y) <|
  c_ifeq (
  kL_law_2030 N L sc r23) <|
  c_i (0) <|
  c_zret) <|
  c_i (0) <|
  c_zret)
      refine av_aload_n dL_law_1965 rfl ?_
      refine av_aload_n dL_law_1966 rfl ?_
      refine av_iload dL_law_1967 ?_
      refine av_iconst (v := 1) dL_law_1969 (by decide) ?_
      refine av_iadd dL_law_1970 ?_
      refine av_sld dL_law_1971 ?_
      refine av_aload_n dL_law_1972 rfl ?_
      refine av_iload dL_law_1973 ?_
      refine av_iconst (v := 2) dL_law_1975 (by decide) ?_
      refine av_iadd dL_law_1976 ?_
      refine av_sld dL_law_1977 ?_
      refine av_aload_n dL_law_1978 rfl ?_
      refine av_callSH (mL_movePlan l hfl N) ⟨by decide +kernel, by decide +kernel, by decide +kernel⟩ q1303 q1304 q1114 q1305 (by decide) (by decide) dL_law_1979 ?_
      refine av_istore dL_law_1982 (by decide) ?_
      refine av_aload_n dL_law_1984 rfl ?_
      refine av_aload_n dL_law_1985 rfl ?_
      refine av_iload dL_law_1986 ?_
      refine av_iconst (v := 1) dL_law_1988 (by decide) ?_
      refine av_iadd dL_law_1989 ?_
      refine av_sld dL_law_1990 ?_
      refine av_aload_n dL_law_1991 rfl ?_
      refine av_iload dL_law_1992 ?_
      refine av_iconst (v := 2) dL_law_1994 (by decide) ?_
      refine av_iadd dL_law_1995 ?_
      refine av_sld dL_law_1996 ?_
      refine av_callR (mX11_movePlan l hfl N) am_ci11 ⟨by decide +kernel, by decide +kernel, by decide +kernel⟩ q1306 q1307 q628 q1308 q1309 (by decide) (by decide) dL_law_1997 ?_
      refine av_istore dL_law_2000 (by decide) ?_
      refine av_aload_n dL_law_2002 rfl ?_
      refine av_callR (mX11_thrown l hfl N) am_ci11 ⟨by decide +kernel, by decide +kernel, by decide +kernel⟩ q1120 q1121 q628 q1122 q1123 (by decide) (by decide) dL_law_2003 ?_
      refine av_iload dL_law_2006 ?_
      refine av_iceq (tgt := 2013) dL_law_2008 (by decide) ?_ ?_
      · refine av_iload dL_law_2013 ?_
        refine av_ifne (tgt := 2030) dL_law_2015 (by decide) ?_ ?_
        · exact vL_law_2030 l hfl N L sc h23
        refine av_aload_n dL_law_2018 rfl ?_
        refine av_iconst (v := 0) dL_law_2019 (by decide) ?_
        refine av_laload dL_law_2020 ?_
        refine av_iload dL_law_2021 ?_
        refine av_i2l dL_law_2023 ?_
        refine av_lcmp dL_law_2024 ?_
        refine av_ifeq (tgt := 2030) dL_law_2025 (by decide) ?_ ?_
        · exact vL_law_2030 l hfl N L sc h23
        refine av_iconst (v := 0) dL_law_2028 (by decide) ?_
        exact av_zreturn am_hzL dL_law_2029
      refine av_iconst (v := 0) dL_law_2011 (by decide) ?_
      exact av_zreturn am_hzL dL_law_2012
    | 28, _ =>
      show am_V _ _ _ _ _ _ _ 2033 (
  c_rld 1 <|
  c_rld 0 <|
  c_ild 4 <|
  c_i (1) <|
  c_ii (fun x y => x + y) <|
  c_sld L sc <|
  c_rld 3 <|
  c_callSN 3 (fL_setPatience N) <|
  c_ist 5 <|
  c_rld 2 <|
  c_rld 0 <|
  c_ild 4 <|
  c_i (1) <|
  c_ii (fun x y => x + y) <|
  c_sld L sc <|
  c_callR 11 1 (fX11_setPatience N) <|
  c_ist 6 <|
  c_rld 2 <|
  c_callR 11 0 (fX11_thrown N) <|
  c_ild 5 <|
  c_iceq (
  c_ild 5 <|
  c_ifne (
  kL_law_2086 N L sc r23) <|
  c_rld 3 <|
  c_i (0) <|
  c_lal <|
  c_ild 6 <|
  c_il (fun x => x.toInt64) <|
  c_cmp (fun x y => lg_cmp x y) <|
  c_ifeq (
  kL_law_2086 N L sc r23) <|
  c_i (0) <|
  c_zret) <|
  c_i (0) <|
  c_zret)
      refine av_aload_n dL_law_2033 rfl ?_
      refine av_aload_n dL_law_2034 rfl ?_
      refine av_iload dL_law_2035 ?_
      refine av_iconst (v := 1) dL_law_2037 (by decide) ?_
      refine av_iadd dL_law_2038 ?_
      refine av_sld dL_law_2039 ?_
      refine av_aload_n dL_law_2040 rfl ?_
      refine av_callSH (mL_setPatience l hfl N) ⟨by decide +kernel, by decide +kernel, by decide +kernel⟩ q1310 q1311 q1114 q1312 (by decide) (by decide) dL_law_2041 ?_
      refine av_istore dL_law_2044 (by decide) ?_
      refine av_aload_n dL_law_2046 rfl ?_
      refine av_aload_n dL_law_2047 rfl ?_
      refine av_iload dL_law_2048 ?_
      refine av_iconst (v := 1) dL_law_2050 (by decide) ?_
      refine av_iadd dL_law_2051 ?_
      refine av_sld dL_law_2052 ?_
      refine av_callR (mX11_setPatience l hfl N) am_ci11 ⟨by decide +kernel, by decide +kernel, by decide +kernel⟩ q1313 q1314 q628 q1315 q1316 (by decide) (by decide) dL_law_2053 ?_
      refine av_istore dL_law_2056 (by decide) ?_
      refine av_aload_n dL_law_2058 rfl ?_
      refine av_callR (mX11_thrown l hfl N) am_ci11 ⟨by decide +kernel, by decide +kernel, by decide +kernel⟩ q1120 q1121 q628 q1122 q1123 (by decide) (by decide) dL_law_2059 ?_
      refine av_iload dL_law_2062 ?_
      refine av_iceq (tgt := 2069) dL_law_2064 (by decide) ?_ ?_
      · refine av_iload dL_law_2069 ?_
        refine av_ifne (tgt := 2086) dL_law_2071 (by decide) ?_ ?_
        · exact vL_law_2086 l hfl N L sc h23
        refine av_aload_n dL_law_2074 rfl ?_
        refine av_iconst (v := 0) dL_law_2075 (by decide) ?_
        refine av_laload dL_law_2076 ?_
        refine av_iload dL_law_2077 ?_
        refine av_i2l dL_law_2079 ?_
        refine av_lcmp dL_law_2080 ?_
        refine av_ifeq (tgt := 2086) dL_law_2081 (by decide) ?_ ?_
        · exact vL_law_2086 l hfl N L sc h23
        refine av_iconst (v := 0) dL_law_2084 (by decide) ?_
        exact av_zreturn am_hzL dL_law_2085
      refine av_iconst (v := 0) dL_law_2067 (by decide) ?_
      exact av_zreturn am_hzL dL_law_2068
    | 29, _ =>
      show am_V _ _ _ _ _ _ _ 2089 (
  c_rld 1 <|
  c_rld 0 <|
  c_ild 4 <|
  c_i (1) <|
  c_ii (fun x y => x + y) <|
  c_sld L sc <|
  c_rld 3 <|
  c_callSN 3 (fL_format N) <|
  c_ist 5 <|
  c_rld 2 <|
  c_rld 0 <|
  c_ild 4 <|
  c_i (1) <|
  c_ii (fun x y => x + y) <|
  c_sld L sc <|
  c_callR 11 1 (fX11_format N) <|
  c_ist 6 <|
  c_rld 2 <|
  c_callR 11 0 (fX11_thrown N) <|
  c_ild 5 <|
  c_iceq (
  c_ild 5 <|
  c_ifne (
  kL_law_2142 N L sc r23) <|
  c_rld 3 <|
  c_i (0) <|
  c_lal <|
  c_ild 6 <|
  c_il (fun x => x.toInt64) <|
  c_cmp (fun x y => lg_cmp x y) <|
  c_ifeq (
  kL_law_2142 N L sc r23) <|
  c_i (0) <|
  c_zret) <|
  c_i (0) <|
  c_zret)
      refine av_aload_n dL_law_2089 rfl ?_
      refine av_aload_n dL_law_2090 rfl ?_
      refine av_iload dL_law_2091 ?_
      refine av_iconst (v := 1) dL_law_2093 (by decide) ?_
      refine av_iadd dL_law_2094 ?_
      refine av_sld dL_law_2095 ?_
      refine av_aload_n dL_law_2096 rfl ?_
      refine av_callSH (mL_format l hfl N) ⟨by decide +kernel, by decide +kernel, by decide +kernel⟩ q1317 q1318 q1114 q1319 (by decide) (by decide) dL_law_2097 ?_
      refine av_istore dL_law_2100 (by decide) ?_
      refine av_aload_n dL_law_2102 rfl ?_
      refine av_aload_n dL_law_2103 rfl ?_
      refine av_iload dL_law_2104 ?_
      refine av_iconst (v := 1) dL_law_2106 (by decide) ?_
      refine av_iadd dL_law_2107 ?_
      refine av_sld dL_law_2108 ?_
      refine av_callR (mX11_format l hfl N) am_ci11 ⟨by decide +kernel, by decide +kernel, by decide +kernel⟩ q1320 q1321 q628 q1322 q1323 (by decide) (by decide) dL_law_2109 ?_
      refine av_istore dL_law_2112 (by decide) ?_
      refine av_aload_n dL_law_2114 rfl ?_
      refine av_callR (mX11_thrown l hfl N) am_ci11 ⟨by decide +kernel, by decide +kernel, by decide +kernel⟩ q1120 q1121 q628 q1122 q1123 (by decide) (by decide) dL_law_2115 ?_
      refine av_iload dL_law_2118 ?_
      refine av_iceq (tgt := 2125) dL_law_2120 (by decide) ?_ ?_
      · refine av_iload dL_law_2125 ?_
        refine av_ifne (tgt := 2142) dL_law_2127 (by decide) ?_ ?_
        · exact vL_law_2142 l hfl N L sc h23
        refine av_aload_n dL_law_2130 rfl ?_
        refine av_iconst (v := 0) dL_law_2131 (by decide) ?_
        refine av_laload dL_law_2132 ?_
        refine av_iload dL_law_2133 ?_
        refine av_i2l dL_law_2135 ?_
        refine av_lcmp dL_law_2136 ?_
        refine av_ifeq (tgt := 2142) dL_law_2137 (by decide) ?_ ?_
        · exact vL_law_2142 l hfl N L sc h23
        refine av_iconst (v := 0) dL_law_2140 (by decide) ?_
        exact av_zreturn am_hzL dL_law_2141
      refine av_iconst (v := 0) dL_law_2123 (by decide) ?_
      exact av_zreturn am_hzL dL_law_2124
    | 30, _ =>
      show am_V _ _ _ _ _ _ _ 2145 (
  c_rld 1 <|
  c_rld 0 <|
  c_ild 4 <|
  c_i (1) <|
  c_ii (fun x y => x + y) <|
  c_sld L sc <|
  c_callR 10 1 (fX10_formattedByte N) <|
  c_rld 2 <|
  c_rld 0 <|
  c_ild 4 <|
  c_i (1) <|
  c_ii (fun x y => x + y) <|
  c_sld L sc <|
  c_callR 11 1 (fX11_formattedByte N) <|
  c_iceq (
  kL_law_2276 N L sc r23) <|
  c_i (0) <|
  c_zret)
      refine av_aload_n dL_law_2145 rfl ?_
      refine av_aload_n dL_law_2146 rfl ?_
      refine av_iload dL_law_2147 ?_
      refine av_iconst (v := 1) dL_law_2149 (by decide) ?_
      refine av_iadd dL_law_2150 ?_
      refine av_sld dL_law_2151 ?_
      refine av_callR (mX10_formattedByte l hfl N) am_ci10 ⟨by decide +kernel, by decide +kernel, by decide +kernel⟩ q1324 q1325 q111 q1326 q1327 (by decide) (by decide) dL_law_2152 ?_
      refine av_aload_n dL_law_2155 rfl ?_
      refine av_aload_n dL_law_2156 rfl ?_
      refine av_iload dL_law_2157 ?_
      refine av_iconst (v := 1) dL_law_2159 (by decide) ?_
      refine av_iadd dL_law_2160 ?_
      refine av_sld dL_law_2161 ?_
      refine av_callR (mX11_formattedByte l hfl N) am_ci11 ⟨by decide +kernel, by decide +kernel, by decide +kernel⟩ q1328 q1329 q628 q1330 q1331 (by decide) (by decide) dL_law_2162 ?_
      refine av_iceq (tgt := 2276) dL_law_2165 (by decide) ?_ ?_
      · exact vL_law_2276 l hfl N L sc h23
      refine av_iconst (v := 0) dL_law_2168 (by decide) ?_
      exact av_zreturn am_hzL dL_law_2169
    | 31, _ =>
      show am_V _ _ _ _ _ _ _ 2170 (
  c_rld 1 <|
  c_callR 10 0 (fX10_undoCount N) <|
  c_rld 2 <|
  c_callR 11 0 (fX11_undoCount N) <|
  c_iceq (
  kL_law_2276 N L sc r23) <|
  c_i (0) <|
  c_zret)
      refine av_aload_n dL_law_2170 rfl ?_
      refine av_callR (mX10_undoCount l hfl N) am_ci10 ⟨by decide +kernel, by decide +kernel, by decide +kernel⟩ q1332 q1333 q111 q1334 q1335 (by decide) (by decide) dL_law_2171 ?_
      refine av_aload_n dL_law_2174 rfl ?_
      refine av_callR (mX11_undoCount l hfl N) am_ci11 ⟨by decide +kernel, by decide +kernel, by decide +kernel⟩ q1336 q1337 q628 q1338 q1339 (by decide) (by decide) dL_law_2175 ?_
      refine av_iceq (tgt := 2276) dL_law_2178 (by decide) ?_ ?_
      · exact vL_law_2276 l hfl N L sc h23
      refine av_iconst (v := 0) dL_law_2181 (by decide) ?_
      exact av_zreturn am_hzL dL_law_2182
    | 32, _ =>
      show am_V _ _ _ _ _ _ _ 2183 (
  c_rld 1 <|
  c_callR 10 0 (fX10_undo N) <|
  c_rld 2 <|
  c_callR 11 0 (fX11_undo N) <|
  c_iceq (
  kL_law_2276 N L sc r23) <|
  c_i (0) <|
  c_zret)
      refine av_aload_n dL_law_2183 rfl ?_
      refine av_callR (mX10_undo l hfl N) am_ci10 ⟨by decide +kernel, by decide +kernel, by decide +kernel⟩ q1340 q1341 q111 q1342 q1343 (by decide) (by decide) dL_law_2184 ?_
      refine av_aload_n dL_law_2187 rfl ?_
      refine av_callR (mX11_undo l hfl N) am_ci11 ⟨by decide +kernel, by decide +kernel, by decide +kernel⟩ q1344 q1345 q628 q1346 q1347 (by decide) (by decide) dL_law_2188 ?_
      refine av_iceq (tgt := 2276) dL_law_2191 (by decide) ?_ ?_
      · exact vL_law_2276 l hfl N L sc h23
      refine av_iconst (v := 0) dL_law_2194 (by decide) ?_
      exact av_zreturn am_hzL dL_law_2195
    | 33, _ =>
      show am_V _ _ _ _ _ _ _ 2196 (
  c_rld 1 <|
  c_callR 10 0 (fX10_saveSnapshot N) <|
  c_rld 2 <|
  c_callR 11 0 (fX11_saveSnapshot N) <|
  kL_law_2276 N L sc r23)
      refine av_aload_n dL_law_2196 rfl ?_
      refine av_callR (mX10_saveSnapshot l hfl N) am_ci10 ⟨by decide +kernel, by decide +kernel, by decide +kernel⟩ q1348 q1349 q111 q1350 q1351 (by decide) (by decide) dL_law_2197 ?_
      refine av_aload_n dL_law_2200 rfl ?_
      refine av_callR (mX11_saveSnapshot l hfl N) am_ci11 ⟨by decide +kernel, by decide +kernel, by decide +kernel⟩ q1352 q1353 q628 q1354 q1355 (by decide) (by decide) dL_law_2201 ?_
      refine av_goto (tgt := 2276) dL_law_2204 (by decide) ?_
      exact vL_law_2276 l hfl N L sc h23
    | 34, _ =>
      show am_V _ _ _ _ _ _ _ 2207 (
  c_rld 1 <|
  c_callR 10 0 (fX10_restoreSnapshot N) <|
  c_rld 2 <|
  c_callR 11 0 (fX11_restoreSnapshot N) <|
  c_iceq (
  kL_law_2276 N L sc r23) <|
  c_i (0) <|
  c_zret)
      refine av_aload_n dL_law_2207 rfl ?_
      refine av_callR (mX10_restoreSnapshot l hfl N) am_ci10 ⟨by decide +kernel, by decide +kernel, by decide +kernel⟩ q1356 q1357 q111 q1358 q1359 (by decide) (by decide) dL_law_2208 ?_
      refine av_aload_n dL_law_2211 rfl ?_
      refine av_callR (mX11_restoreSnapshot l hfl N) am_ci11 ⟨by decide +kernel, by decide +kernel, by decide +kernel⟩ q1360 q1361 q628 q1362 q1363 (by decide) (by decide) dL_law_2212 ?_
      refine av_iceq (tgt := 2276) dL_law_2215 (by decide) ?_ ?_
      · exact vL_law_2276 l hfl N L sc h23
      refine av_iconst (v := 0) dL_law_2218 (by decide) ?_
      exact av_zreturn am_hzL dL_law_2219
    | 35, _ =>
      show am_V _ _ _ _ _ _ _ 2220 (
  c_rld 1 <|
  c_rld 0 <|
  c_ild 4 <|
  c_i (1) <|
  c_ii (fun x y => x + y) <|
  c_sld L sc <|
  c_rld 3 <|
  c_callSN 3 (fL_query N) <|
  c_ist 5 <|
  c_rld 2 <|
  c_rld 0 <|
  c_ild 4 <|
  c_i (1) <|
  c_ii (fun x y => x + y) <|
  c_sld L sc <|
  c_callR 11 1 (fX11_query N) <|
  c_ist 6 <|
  c_rld 2 <|
  c_callR 11 0 (fX11_thrown N) <|
  c_ild 5 <|
  c_iceq (
  c_ild 5 <|
  c_ifne (
  kL_law_2273 N L sc r23) <|
  c_rld 3 <|
  c_i (0) <|
  c_lal <|
  c_ild 6 <|
  c_il (fun x => x.toInt64) <|
  c_cmp (fun x y => lg_cmp x y) <|
  c_ifeq (
  kL_law_2273 N L sc r23) <|
  c_i (0) <|
  c_zret) <|
  c_i (0) <|
  c_zret)
      refine av_aload_n dL_law_2220 rfl ?_
      refine av_aload_n dL_law_2221 rfl ?_
      refine av_iload dL_law_2222 ?_
      refine av_iconst (v := 1) dL_law_2224 (by decide) ?_
      refine av_iadd dL_law_2225 ?_
      refine av_sld dL_law_2226 ?_
      refine av_aload_n dL_law_2227 rfl ?_
      refine av_callSH (mL_query l hfl N) ⟨by decide +kernel, by decide +kernel, by decide +kernel⟩ q1364 q1365 q1114 q1366 (by decide) (by decide) dL_law_2228 ?_
      refine av_istore dL_law_2231 (by decide) ?_
      refine av_aload_n dL_law_2233 rfl ?_
      refine av_aload_n dL_law_2234 rfl ?_
      refine av_iload dL_law_2235 ?_
      refine av_iconst (v := 1) dL_law_2237 (by decide) ?_
      refine av_iadd dL_law_2238 ?_
      refine av_sld dL_law_2239 ?_
      refine av_callR (mX11_query l hfl N) am_ci11 ⟨by decide +kernel, by decide +kernel, by decide +kernel⟩ q1367 q1368 q628 q1369 q1370 (by decide) (by decide) dL_law_2240 ?_
      refine av_istore dL_law_2243 (by decide) ?_
      refine av_aload_n dL_law_2245 rfl ?_
      refine av_callR (mX11_thrown l hfl N) am_ci11 ⟨by decide +kernel, by decide +kernel, by decide +kernel⟩ q1120 q1121 q628 q1122 q1123 (by decide) (by decide) dL_law_2246 ?_
      refine av_iload dL_law_2249 ?_
      refine av_iceq (tgt := 2256) dL_law_2251 (by decide) ?_ ?_
      · refine av_iload dL_law_2256 ?_
        refine av_ifne (tgt := 2273) dL_law_2258 (by decide) ?_ ?_
        · exact vL_law_2273 l hfl N L sc h23
        refine av_aload_n dL_law_2261 rfl ?_
        refine av_iconst (v := 0) dL_law_2262 (by decide) ?_
        refine av_laload dL_law_2263 ?_
        refine av_iload dL_law_2264 ?_
        refine av_i2l dL_law_2266 ?_
        refine av_lcmp dL_law_2267 ?_
        refine av_ifeq (tgt := 2273) dL_law_2268 (by decide) ?_ ?_
        · exact vL_law_2273 l hfl N L sc h23
        refine av_iconst (v := 0) dL_law_2271 (by decide) ?_
        exact av_zreturn am_hzL dL_law_2272
      refine av_iconst (v := 0) dL_law_2254 (by decide) ?_
      exact av_zreturn am_hzL dL_law_2255
    | i + 36, hi => exact absurd hi (by omega)
set_option maxRecDepth 20000 in
theorem vL_law_0 (l : Launch) (hfl : l.stackTraces = false) (N : Nat) (L : Nat) (sc : Nat → Int32)  : am_V l cL_law 9 RL (am_EL L sc) 59 2893 0 (kL_law_0 N L sc) := by
  refine av_live ?_
  refine av_newobj am_ci10 q1094 q1095 q111 dL_law_0 ?_
  refine av_dup dL_law_3 ?_
  refine av_callI (mX10_init l hfl N) rfl ⟨by decide +kernel, by decide +kernel, by decide +kernel⟩ q1096 q1097 q111 q1098 (by decide) (by decide) dL_law_4 ?_
  refine av_astore_n dL_law_7 rfl (by decide) ?_
  refine av_newobj am_ci11 q1099 q1100 q628 dL_law_8 ?_
  refine av_dup dL_law_11 ?_
  refine av_callI (mX11_init l hfl N) rfl ⟨by decide +kernel, by decide +kernel, by decide +kernel⟩ q1101 q1102 q628 q1103 (by decide) (by decide) dL_law_12 ?_
  refine av_astore_n dL_law_15 rfl (by decide) ?_
  refine av_iconst (v := 1) dL_law_16 (by decide) ?_
  refine av_newarr_long q624 dL_law_17 ?_
  refine av_astore_n dL_law_19 rfl (by decide) ?_
  refine av_iconst (v := 0) dL_law_20 (by decide) ?_
  refine av_istore dL_law_21 (by decide) ?_
  exact vL_law_23 l hfl N L sc
