/-! the words that the methods use, by their places in the tables -/
theorem q0 : (Jvm.Cond.methodLink "MessengerBoard$Table" (3 : Nat) ({ cls := "java/lang/Object", name := "<init>", desc := "()V" } : Jvm.MethodName)) ∈ am_tb := am_mem 153 (by decide +kernel) rfl
theorem q1 : (Jvm.Cond.instanceMethod ({ cls := "java/lang/Object", name := "<init>", desc := "()V" } : Jvm.MethodName)) ∈ am_tb := am_mem 140 (by decide +kernel) rfl
theorem q2 : (Jvm.Cond.code ({ cls := "java/lang/Object", name := "<init>", desc := "()V" } : Jvm.MethodName) object_method_1_code (1 : Nat) (Option.none : Option Jvm.ClassFile.FieldType)) ∈ am_tb := am_mem 141 (by decide +kernel) rfl
theorem q3 : (Jvm.Cond.fieldLink "MessengerBoard$Table" (9 : Nat) "MessengerBoard$Table" "capacity" "I") ∈ am_tb := am_mem 154 (by decide +kernel) rfl
theorem q4 : (Jvm.Cond.fieldLink "MessengerBoard$Table" (15 : Nat) "MessengerBoard$Table" "columns" "I") ∈ am_tb := am_mem 155 (by decide +kernel) rfl
theorem q5 : (Jvm.Cond.arrayClass Jvm.ClassFile.FieldType.int) ∈ am_tb := am_mem 167 (by decide +kernel) rfl
theorem q6 : (Jvm.Cond.fieldLink "MessengerBoard$Table" (18 : Nat) "MessengerBoard$Table" "places" "[I") ∈ am_tb := am_mem 156 (by decide +kernel) rfl
theorem q7 : (Jvm.Cond.fieldLink "MessengerBoard$Table" (22 : Nat) "MessengerBoard$Table" "count" "I") ∈ am_tb := am_mem 157 (by decide +kernel) rfl
theorem q8 : (Jvm.Cond.methodLink "MessengerBoard$Table" (25 : Nat) ({ cls := "java/lang/System", name := "arraycopy", desc := "(Ljava/lang/Object;ILjava/lang/Object;II)V" } : Jvm.MethodName)) ∈ am_tb := am_mem 475 (by decide +kernel) rfl
theorem q9 : (Jvm.Cond.native ({ cls := "java/lang/System", name := "arraycopy", desc := "(Ljava/lang/Object;ILjava/lang/Object;II)V" } : Jvm.MethodName)) ∈ am_tb := am_mem 470 (by decide +kernel) rfl
theorem q10 : (Jvm.Cond.static ({ cls := "java/lang/System", name := "arraycopy", desc := "(Ljava/lang/Object;ILjava/lang/Object;II)V" } : Jvm.MethodName)) ∈ am_tb := am_mem 469 (by decide +kernel) rfl
theorem q11 : (Jvm.Cond.initialized "java/lang/System") ∈ am_tb := am_mem 130 (by decide +kernel) rfl
theorem q12 : (Jvm.Cond.methodLink "MessengerBoard$Distances" (3 : Nat) ({ cls := "java/lang/Object", name := "<init>", desc := "()V" } : Jvm.MethodName)) ∈ am_tb := am_mem 917 (by decide +kernel) rfl
theorem q13 : (Jvm.Cond.fieldLink "MessengerBoard$Distances" (9 : Nat) "MessengerBoard$Distances" "steps" "[I") ∈ am_tb := am_mem 918 (by decide +kernel) rfl
theorem q14 : (Jvm.Cond.laysFinal "MessengerBoard$BoardReader" "MessengerBoard$BoardReader" "tokens" "LMessengerBoard$Tokens;") ∈ am_tb := am_mem 332 (by decide +kernel) rfl
theorem q15 : (Jvm.Cond.laysFinal "MessengerBoard$BoardReader" "MessengerBoard$BoardReader" "draft" "LMessengerBoard$Situation;") ∈ am_tb := am_mem 334 (by decide +kernel) rfl
theorem q16 : (Jvm.Cond.laysFinal "MessengerBoard$Clock" "MessengerBoard$Clock" "paths" "LMessengerBoard$Paths;") ∈ am_tb := am_mem 290 (by decide +kernel) rfl
theorem q17 : (Jvm.Cond.laysFinal "MessengerBoard$Distances" "MessengerBoard$Distances" "steps" "[I") ∈ am_tb := am_mem 921 (by decide +kernel) rfl
theorem q18 : (Jvm.Cond.lays "MessengerBoard$Distances" "MessengerBoard$Distances" "known" "Z") ∈ am_tb := am_mem 923 (by decide +kernel) rfl
theorem q19 : (Jvm.Cond.laysFinal "MessengerBoard$History" "MessengerBoard$History" "ring" "[LMessengerBoard$Situation;") ∈ am_tb := am_mem 258 (by decide +kernel) rfl
theorem q20 : (Jvm.Cond.lays "MessengerBoard$History" "MessengerBoard$History" "oldest" "I") ∈ am_tb := am_mem 260 (by decide +kernel) rfl
theorem q21 : (Jvm.Cond.lays "MessengerBoard$History" "MessengerBoard$History" "count" "I") ∈ am_tb := am_mem 262 (by decide +kernel) rfl
theorem q22 : (Jvm.Cond.laysFinal "MessengerBoard$Paths" "MessengerBoard$Paths" "situation" "LMessengerBoard$Situation;") ∈ am_tb := am_mem 276 (by decide +kernel) rfl
theorem q23 : (Jvm.Cond.laysFinal "MessengerBoard$Paths" "MessengerBoard$Paths" "byTarget" "[LMessengerBoard$Distances;") ∈ am_tb := am_mem 278 (by decide +kernel) rfl
theorem q24 : (Jvm.Cond.laysFinal "MessengerBoard$Paths" "MessengerBoard$Paths" "queue" "[I") ∈ am_tb := am_mem 280 (by decide +kernel) rfl
theorem q25 : (Jvm.Cond.laysFinal "MessengerBoard$QueryReader" "MessengerBoard$QueryReader" "tokens" "LMessengerBoard$Tokens;") ∈ am_tb := am_mem 345 (by decide +kernel) rfl
theorem q26 : (Jvm.Cond.laysFinal "MessengerBoard$QueryReader" "MessengerBoard$QueryReader" "situation" "LMessengerBoard$Situation;") ∈ am_tb := am_mem 347 (by decide +kernel) rfl
theorem q27 : (Jvm.Cond.lays "MessengerBoard$Situation" "MessengerBoard$Situation" "width" "I") ∈ am_tb := am_mem 210 (by decide +kernel) rfl
theorem q28 : (Jvm.Cond.lays "MessengerBoard$Situation" "MessengerBoard$Situation" "height" "I") ∈ am_tb := am_mem 212 (by decide +kernel) rfl
theorem q29 : (Jvm.Cond.lays "MessengerBoard$Situation" "MessengerBoard$Situation" "headquartersX" "I") ∈ am_tb := am_mem 214 (by decide +kernel) rfl
theorem q30 : (Jvm.Cond.lays "MessengerBoard$Situation" "MessengerBoard$Situation" "headquartersY" "I") ∈ am_tb := am_mem 216 (by decide +kernel) rfl
theorem q31 : (Jvm.Cond.lays "MessengerBoard$Situation" "MessengerBoard$Situation" "turn" "I") ∈ am_tb := am_mem 218 (by decide +kernel) rfl
theorem q32 : (Jvm.Cond.lays "MessengerBoard$Situation" "MessengerBoard$Situation" "patience" "I") ∈ am_tb := am_mem 220 (by decide +kernel) rfl
theorem q33 : (Jvm.Cond.lays "MessengerBoard$Situation" "MessengerBoard$Situation" "wallCount" "I") ∈ am_tb := am_mem 222 (by decide +kernel) rfl
theorem q34 : (Jvm.Cond.laysFinal "MessengerBoard$Situation" "MessengerBoard$Situation" "walls" "[I") ∈ am_tb := am_mem 224 (by decide +kernel) rfl
theorem q35 : (Jvm.Cond.laysFinal "MessengerBoard$Situation" "MessengerBoard$Situation" "units" "LMessengerBoard$Table;") ∈ am_tb := am_mem 226 (by decide +kernel) rfl
theorem q36 : (Jvm.Cond.laysFinal "MessengerBoard$Situation" "MessengerBoard$Situation" "pickets" "LMessengerBoard$Table;") ∈ am_tb := am_mem 228 (by decide +kernel) rfl
theorem q37 : (Jvm.Cond.laysFinal "MessengerBoard$Situation" "MessengerBoard$Situation" "plans" "LMessengerBoard$Table;") ∈ am_tb := am_mem 230 (by decide +kernel) rfl
theorem q38 : (Jvm.Cond.laysFinal "MessengerBoard$Situation" "MessengerBoard$Situation" "orders" "LMessengerBoard$Table;") ∈ am_tb := am_mem 232 (by decide +kernel) rfl
theorem q39 : (Jvm.Cond.laysFinal "MessengerBoard$Situation" "MessengerBoard$Situation" "events" "LMessengerBoard$Table;") ∈ am_tb := am_mem 234 (by decide +kernel) rfl
theorem q40 : (Jvm.Cond.laysFinal "MessengerBoard$Table" "MessengerBoard$Table" "capacity" "I") ∈ am_tb := am_mem 158 (by decide +kernel) rfl
theorem q41 : (Jvm.Cond.laysFinal "MessengerBoard$Table" "MessengerBoard$Table" "columns" "I") ∈ am_tb := am_mem 160 (by decide +kernel) rfl
theorem q42 : (Jvm.Cond.laysFinal "MessengerBoard$Table" "MessengerBoard$Table" "places" "[I") ∈ am_tb := am_mem 162 (by decide +kernel) rfl
theorem q43 : (Jvm.Cond.lays "MessengerBoard$Table" "MessengerBoard$Table" "count" "I") ∈ am_tb := am_mem 164 (by decide +kernel) rfl
theorem q44 : (Jvm.Cond.laysFinal "MessengerBoard$Tokens" "MessengerBoard$Tokens" "bytes" "[I") ∈ am_tb := am_mem 307 (by decide +kernel) rfl
theorem q45 : (Jvm.Cond.lays "MessengerBoard$Tokens" "MessengerBoard$Tokens" "length" "I") ∈ am_tb := am_mem 309 (by decide +kernel) rfl
theorem q46 : (Jvm.Cond.lays "MessengerBoard$Tokens" "MessengerBoard$Tokens" "start" "I") ∈ am_tb := am_mem 311 (by decide +kernel) rfl
theorem q47 : (Jvm.Cond.lays "MessengerBoard$Tokens" "MessengerBoard$Tokens" "end" "I") ∈ am_tb := am_mem 313 (by decide +kernel) rfl
theorem q48 : (Jvm.Cond.lays "MessengerBoard$Tokens" "MessengerBoard$Tokens" "kind" "I") ∈ am_tb := am_mem 315 (by decide +kernel) rfl
theorem q49 : (Jvm.Cond.lays "MessengerBoard$Tokens" "MessengerBoard$Tokens" "number" "I") ∈ am_tb := am_mem 317 (by decide +kernel) rfl
theorem q50 : (Jvm.Cond.lays "MessengerBoard$Tokens" "MessengerBoard$Tokens" "code" "I") ∈ am_tb := am_mem 319 (by decide +kernel) rfl
theorem q51 : (Jvm.Cond.lays "MessengerBoard$Tokens" "MessengerBoard$Tokens" "errorStart" "I") ∈ am_tb := am_mem 321 (by decide +kernel) rfl
theorem q52 : (Jvm.Cond.laysFinal "MessengerBoard$Trail" "MessengerBoard$Trail" "places" "[I") ∈ am_tb := am_mem 244 (by decide +kernel) rfl
theorem q53 : (Jvm.Cond.laysFinal "MessengerBoard" "MessengerBoard" "now" "LMessengerBoard$Situation;") ∈ am_tb := am_mem 367 (by decide +kernel) rfl
theorem q54 : (Jvm.Cond.laysFinal "MessengerBoard" "MessengerBoard" "trial" "LMessengerBoard$Situation;") ∈ am_tb := am_mem 369 (by decide +kernel) rfl
theorem q55 : (Jvm.Cond.laysFinal "MessengerBoard" "MessengerBoard" "trail" "LMessengerBoard$Trail;") ∈ am_tb := am_mem 371 (by decide +kernel) rfl
theorem q56 : (Jvm.Cond.laysFinal "MessengerBoard" "MessengerBoard" "history" "LMessengerBoard$History;") ∈ am_tb := am_mem 373 (by decide +kernel) rfl
theorem q57 : (Jvm.Cond.laysFinal "MessengerBoard" "MessengerBoard" "paths" "LMessengerBoard$Paths;") ∈ am_tb := am_mem 375 (by decide +kernel) rfl
theorem q58 : (Jvm.Cond.laysFinal "MessengerBoard" "MessengerBoard" "clock" "LMessengerBoard$Clock;") ∈ am_tb := am_mem 377 (by decide +kernel) rfl
theorem q59 : (Jvm.Cond.laysFinal "MessengerBoard" "MessengerBoard" "buffer" "[I") ∈ am_tb := am_mem 379 (by decide +kernel) rfl
theorem q60 : (Jvm.Cond.laysFinal "MessengerBoard" "MessengerBoard" "tokens" "LMessengerBoard$Tokens;") ∈ am_tb := am_mem 381 (by decide +kernel) rfl
theorem q61 : (Jvm.Cond.laysFinal "MessengerBoard" "MessengerBoard" "boardReader" "LMessengerBoard$BoardReader;") ∈ am_tb := am_mem 383 (by decide +kernel) rfl
theorem q62 : (Jvm.Cond.laysFinal "MessengerBoard" "MessengerBoard" "queryReader" "LMessengerBoard$QueryReader;") ∈ am_tb := am_mem 385 (by decide +kernel) rfl
theorem q63 : (Jvm.Cond.laysFinal "MessengerBoard" "MessengerBoard" "text" "[I") ∈ am_tb := am_mem 387 (by decide +kernel) rfl
theorem q64 : (Jvm.Cond.lays "MessengerBoard" "MessengerBoard" "saved" "LMessengerBoard$Situation;") ∈ am_tb := am_mem 389 (by decide +kernel) rfl
theorem q65 : (Jvm.Cond.lays "MessengerBoard" "MessengerBoard" "savedTrail" "LMessengerBoard$Trail;") ∈ am_tb := am_mem 391 (by decide +kernel) rfl
theorem q66 : (Jvm.Cond.lays "MessengerBoard" "MessengerBoard" "hasSnapshot" "Z") ∈ am_tb := am_mem 393 (by decide +kernel) rfl
theorem q67 : (Jvm.Cond.lays "MessengerBoard" "MessengerBoard" "buffered" "I") ∈ am_tb := am_mem 395 (by decide +kernel) rfl
theorem q68 : (Jvm.Cond.lays "MessengerBoard" "MessengerBoard" "errorAt" "I") ∈ am_tb := am_mem 397 (by decide +kernel) rfl
theorem q69 : (Jvm.Cond.lays "MessengerBoard" "MessengerBoard" "textLength" "I") ∈ am_tb := am_mem 399 (by decide +kernel) rfl
theorem q70 : (Jvm.Cond.laysFinal "MessengerBoardModel" "MessengerBoardModel" "now" "[I") ∈ am_tb := am_mem 1267 (by decide +kernel) rfl
theorem q71 : (Jvm.Cond.laysFinal "MessengerBoardModel" "MessengerBoardModel" "draft" "[I") ∈ am_tb := am_mem 1269 (by decide +kernel) rfl
theorem q72 : (Jvm.Cond.laysFinal "MessengerBoardModel" "MessengerBoardModel" "aside" "[I") ∈ am_tb := am_mem 1271 (by decide +kernel) rfl
theorem q73 : (Jvm.Cond.laysFinal "MessengerBoardModel" "MessengerBoardModel" "snapshot" "[I") ∈ am_tb := am_mem 1273 (by decide +kernel) rfl
theorem q74 : (Jvm.Cond.laysFinal "MessengerBoardModel" "MessengerBoardModel" "history" "[I") ∈ am_tb := am_mem 1275 (by decide +kernel) rfl
theorem q75 : (Jvm.Cond.lays "MessengerBoardModel" "MessengerBoardModel" "undoCount" "I") ∈ am_tb := am_mem 1277 (by decide +kernel) rfl
theorem q76 : (Jvm.Cond.lays "MessengerBoardModel" "MessengerBoardModel" "thrown" "I") ∈ am_tb := am_mem 1279 (by decide +kernel) rfl
theorem q77 : (Jvm.Cond.lays "MessengerBoardModel" "MessengerBoardModel" "hasSnapshot" "Z") ∈ am_tb := am_mem 1281 (by decide +kernel) rfl
theorem q78 : (Jvm.Cond.laysFinal "MessengerBoardModel" "MessengerBoardModel" "far" "[I") ∈ am_tb := am_mem 1283 (by decide +kernel) rfl
theorem q79 : (Jvm.Cond.laysFinal "MessengerBoardModel" "MessengerBoardModel" "queue" "[I") ∈ am_tb := am_mem 1285 (by decide +kernel) rfl
theorem q80 : (Jvm.Cond.laysFinal "MessengerBoardModel" "MessengerBoardModel" "formatted" "[I") ∈ am_tb := am_mem 1287 (by decide +kernel) rfl
theorem q81 : (Jvm.Cond.lays "MessengerBoardModel" "MessengerBoardModel" "formattedLength" "I") ∈ am_tb := am_mem 1289 (by decide +kernel) rfl
theorem q82 : (Jvm.Cond.laysFinal "MessengerBoardModel" "MessengerBoardModel" "buffer" "[I") ∈ am_tb := am_mem 1291 (by decide +kernel) rfl
theorem q83 : (Jvm.Cond.lays "MessengerBoardModel" "MessengerBoardModel" "bufferLength" "I") ∈ am_tb := am_mem 1293 (by decide +kernel) rfl
theorem q84 : (Jvm.Cond.lays "MessengerBoardModel" "MessengerBoardModel" "limit" "I") ∈ am_tb := am_mem 1295 (by decide +kernel) rfl
theorem q85 : (Jvm.Cond.lays "MessengerBoardModel" "MessengerBoardModel" "next" "I") ∈ am_tb := am_mem 1297 (by decide +kernel) rfl
theorem q86 : (Jvm.Cond.lays "MessengerBoardModel" "MessengerBoardModel" "beginsAt" "I") ∈ am_tb := am_mem 1299 (by decide +kernel) rfl
theorem q87 : (Jvm.Cond.lays "MessengerBoardModel" "MessengerBoardModel" "token" "I") ∈ am_tb := am_mem 1301 (by decide +kernel) rfl
theorem q88 : (Jvm.Cond.lays "MessengerBoardModel" "MessengerBoardModel" "error" "I") ∈ am_tb := am_mem 1303 (by decide +kernel) rfl
theorem q89 : (Jvm.Cond.lays "MessengerBoardModel" "MessengerBoardModel" "errorAt" "I") ∈ am_tb := am_mem 1305 (by decide +kernel) rfl
theorem q90 : (Jvm.Cond.lays "MessengerBoardModel" "MessengerBoardModel" "errorPosition" "I") ∈ am_tb := am_mem 1307 (by decide +kernel) rfl
theorem q91 : (Jvm.Cond.lays "MessengerBoardModel" "MessengerBoardModel" "nested" "I") ∈ am_tb := am_mem 1309 (by decide +kernel) rfl
theorem q92 : (Jvm.Cond.lays "MessengerBoardModel" "MessengerBoardModel" "readX" "I") ∈ am_tb := am_mem 1311 (by decide +kernel) rfl
theorem q93 : (Jvm.Cond.lays "MessengerBoardModel" "MessengerBoardModel" "readY" "I") ∈ am_tb := am_mem 1313 (by decide +kernel) rfl
theorem q94 : (Jvm.Cond.laysFinal "MessengerBoardModel" "MessengerBoardModel" "names" "[Ljava/lang/String;") ∈ am_tb := am_mem 1315 (by decide +kernel) rfl
theorem q95 : (Jvm.Cond.laysFinal "MessengerBoardModel" "MessengerBoardModel" "codes" "[I") ∈ am_tb := am_mem 1317 (by decide +kernel) rfl
theorem q96 : (Jvm.Cond.laysFinal "MessengerBoardModel" "MessengerBoardModel" "stack" "[J") ∈ am_tb := am_mem 1319 (by decide +kernel) rfl
theorem q97 : (Jvm.Cond.lays "MessengerBoardModel" "MessengerBoardModel" "codeCount" "I") ∈ am_tb := am_mem 1321 (by decide +kernel) rfl
theorem am_f0_0 : am_ft 0 0 = 2 := by decide +kernel
theorem am_f0_1 : am_ft 0 1 = 2 := by decide +kernel
theorem am_f1_0 : am_ft 1 0 = 2 := by decide +kernel
theorem am_f2_0 : am_ft 2 0 = 2 := by decide +kernel
theorem am_f2_1 : am_ft 2 1 ≠ 2 := by decide +kernel
theorem am_f3_0 : am_ft 3 0 = 2 := by decide +kernel
theorem am_f3_1 : am_ft 3 1 ≠ 2 := by decide +kernel
theorem am_f3_2 : am_ft 3 2 ≠ 2 := by decide +kernel
theorem am_f4_0 : am_ft 4 0 = 2 := by decide +kernel
theorem am_f4_1 : am_ft 4 1 = 2 := by decide +kernel
theorem am_f4_2 : am_ft 4 2 = 2 := by decide +kernel
theorem am_f5_0 : am_ft 5 0 = 2 := by decide +kernel
theorem am_f5_1 : am_ft 5 1 = 2 := by decide +kernel
theorem am_f6_0 : am_ft 6 0 ≠ 2 := by decide +kernel
theorem am_f6_1 : am_ft 6 1 ≠ 2 := by decide +kernel
theorem am_f6_2 : am_ft 6 2 ≠ 2 := by decide +kernel
theorem am_f6_3 : am_ft 6 3 ≠ 2 := by decide +kernel
theorem am_f6_4 : am_ft 6 4 ≠ 2 := by decide +kernel
theorem am_f6_5 : am_ft 6 5 ≠ 2 := by decide +kernel
theorem am_f6_6 : am_ft 6 6 ≠ 2 := by decide +kernel
theorem am_f6_7 : am_ft 6 7 = 2 := by decide +kernel
theorem am_f6_8 : am_ft 6 8 = 2 := by decide +kernel
theorem am_f6_9 : am_ft 6 9 = 2 := by decide +kernel
theorem am_f6_10 : am_ft 6 10 = 2 := by decide +kernel
theorem am_f6_11 : am_ft 6 11 = 2 := by decide +kernel
theorem am_f6_12 : am_ft 6 12 = 2 := by decide +kernel
theorem am_f7_0 : am_ft 7 0 ≠ 2 := by decide +kernel
theorem am_f7_1 : am_ft 7 1 ≠ 2 := by decide +kernel
theorem am_f7_2 : am_ft 7 2 = 2 := by decide +kernel
theorem am_f7_3 : am_ft 7 3 ≠ 2 := by decide +kernel
theorem am_f8_0 : am_ft 8 0 = 2 := by decide +kernel
theorem am_f8_1 : am_ft 8 1 ≠ 2 := by decide +kernel
theorem am_f8_2 : am_ft 8 2 ≠ 2 := by decide +kernel
theorem am_f8_3 : am_ft 8 3 ≠ 2 := by decide +kernel
theorem am_f8_4 : am_ft 8 4 ≠ 2 := by decide +kernel
theorem am_f8_5 : am_ft 8 5 ≠ 2 := by decide +kernel
theorem am_f8_6 : am_ft 8 6 ≠ 2 := by decide +kernel
theorem am_f8_7 : am_ft 8 7 ≠ 2 := by decide +kernel
theorem am_f9_0 : am_ft 9 0 = 2 := by decide +kernel
theorem am_f10_0 : am_ft 10 0 = 2 := by decide +kernel
theorem am_f10_1 : am_ft 10 1 = 2 := by decide +kernel
theorem am_f10_2 : am_ft 10 2 = 2 := by decide +kernel
theorem am_f10_3 : am_ft 10 3 = 2 := by decide +kernel
theorem am_f10_4 : am_ft 10 4 = 2 := by decide +kernel
theorem am_f10_5 : am_ft 10 5 = 2 := by decide +kernel
theorem am_f10_6 : am_ft 10 6 = 2 := by decide +kernel
theorem am_f10_7 : am_ft 10 7 = 2 := by decide +kernel
theorem am_f10_8 : am_ft 10 8 = 2 := by decide +kernel
theorem am_f10_9 : am_ft 10 9 = 2 := by decide +kernel
theorem am_f10_10 : am_ft 10 10 = 2 := by decide +kernel
theorem am_f10_11 : am_ft 10 11 = 2 := by decide +kernel
theorem am_f10_12 : am_ft 10 12 = 2 := by decide +kernel
theorem am_f10_13 : am_ft 10 13 ≠ 2 := by decide +kernel
theorem am_f10_14 : am_ft 10 14 ≠ 2 := by decide +kernel
theorem am_f10_15 : am_ft 10 15 ≠ 2 := by decide +kernel
theorem am_f10_16 : am_ft 10 16 ≠ 2 := by decide +kernel
theorem am_f11_0 : am_ft 11 0 = 2 := by decide +kernel
theorem am_f11_1 : am_ft 11 1 = 2 := by decide +kernel
theorem am_f11_2 : am_ft 11 2 = 2 := by decide +kernel
theorem am_f11_3 : am_ft 11 3 = 2 := by decide +kernel
theorem am_f11_4 : am_ft 11 4 = 2 := by decide +kernel
theorem am_f11_5 : am_ft 11 5 ≠ 2 := by decide +kernel
theorem am_f11_6 : am_ft 11 6 ≠ 2 := by decide +kernel
theorem am_f11_7 : am_ft 11 7 ≠ 2 := by decide +kernel
theorem am_f11_8 : am_ft 11 8 = 2 := by decide +kernel
theorem am_f11_9 : am_ft 11 9 = 2 := by decide +kernel
theorem am_f11_10 : am_ft 11 10 = 2 := by decide +kernel
theorem am_f11_11 : am_ft 11 11 ≠ 2 := by decide +kernel
theorem am_f11_12 : am_ft 11 12 = 2 := by decide +kernel
theorem am_f11_13 : am_ft 11 13 ≠ 2 := by decide +kernel
theorem am_f11_14 : am_ft 11 14 ≠ 2 := by decide +kernel
theorem am_f11_15 : am_ft 11 15 ≠ 2 := by decide +kernel
theorem am_f11_16 : am_ft 11 16 ≠ 2 := by decide +kernel
theorem am_f11_17 : am_ft 11 17 ≠ 2 := by decide +kernel
theorem am_f11_18 : am_ft 11 18 ≠ 2 := by decide +kernel
theorem am_f11_19 : am_ft 11 19 ≠ 2 := by decide +kernel
theorem am_f11_20 : am_ft 11 20 ≠ 2 := by decide +kernel
theorem am_f11_21 : am_ft 11 21 ≠ 2 := by decide +kernel
theorem am_f11_22 : am_ft 11 22 ≠ 2 := by decide +kernel
theorem am_f11_23 : am_ft 11 23 ≠ 2 := by decide +kernel
theorem am_f11_24 : am_ft 11 24 = 2 := by decide +kernel
theorem am_f11_25 : am_ft 11 25 = 2 := by decide +kernel
theorem am_f11_26 : am_ft 11 26 = 2 := by decide +kernel
theorem am_f11_27 : am_ft 11 27 ≠ 2 := by decide +kernel
theorem am_ci0 : am_CI 0 (RX0, TX0, 2) := by
  refine ⟨rfl, by decide, fun w hw => ?_, ⟨tyX0, fun k hk => ⟨tyX0_ok k hk, ?_⟩⟩, nmX0⟩
  · obtain ⟨k, hk, rfl⟩ := List.mem_map.mp hw
    have hk := List.mem_range.mp hk
    match k, hk with
    | 0, _ => exact q14
    | 1, _ => exact q15
    | k + 2, hk => exact absurd hk (by show ¬ k + 2 < 2; omega)
  · match k, hk with
    | 0, _ => rw [if_pos am_f0_0]; rfl
    | 1, _ => rw [if_pos am_f0_1]; rfl
    | k + 2, hk => exact absurd hk (by show ¬ k + 2 < 2; omega)
theorem am_ci1 : am_CI 1 (RX1, TX1, 1) := by
  refine ⟨rfl, by decide, fun w hw => ?_, ⟨tyX1, fun k hk => ⟨tyX1_ok k hk, ?_⟩⟩, nmX1⟩
  · obtain ⟨k, hk, rfl⟩ := List.mem_map.mp hw
    have hk := List.mem_range.mp hk
    match k, hk with
    | 0, _ => exact q16
    | k + 1, hk => exact absurd hk (by show ¬ k + 1 < 1; omega)
  · match k, hk with
    | 0, _ => rw [if_pos am_f1_0]; rfl
    | k + 1, hk => exact absurd hk (by show ¬ k + 1 < 1; omega)
theorem am_ci2 : am_CI 2 (RX2, TX2, 2) := by
  refine ⟨rfl, by decide, fun w hw => ?_, ⟨tyX2, fun k hk => ⟨tyX2_ok k hk, ?_⟩⟩, nmX2⟩
  · obtain ⟨k, hk, rfl⟩ := List.mem_map.mp hw
    have hk := List.mem_range.mp hk
    match k, hk with
    | 0, _ => exact q17
    | 1, _ => exact q18
    | k + 2, hk => exact absurd hk (by show ¬ k + 2 < 2; omega)
  · match k, hk with
    | 0, _ => rw [if_pos am_f2_0]; rfl
    | 1, _ => rw [if_neg am_f2_1]; rfl
    | k + 2, hk => exact absurd hk (by show ¬ k + 2 < 2; omega)
theorem am_ci3 : am_CI 3 (RX3, TX3, 3) := by
  refine ⟨rfl, by decide, fun w hw => ?_, ⟨tyX3, fun k hk => ⟨tyX3_ok k hk, ?_⟩⟩, nmX3⟩
  · obtain ⟨k, hk, rfl⟩ := List.mem_map.mp hw
    have hk := List.mem_range.mp hk
    match k, hk with
    | 0, _ => exact q19
    | 1, _ => exact q20
    | 2, _ => exact q21
    | k + 3, hk => exact absurd hk (by show ¬ k + 3 < 3; omega)
  · match k, hk with
    | 0, _ => rw [if_pos am_f3_0]; rfl
    | 1, _ => rw [if_neg am_f3_1]; rfl
    | 2, _ => rw [if_neg am_f3_2]; rfl
    | k + 3, hk => exact absurd hk (by show ¬ k + 3 < 3; omega)
theorem am_ci4 : am_CI 4 (RX4, TX4, 3) := by
  refine ⟨rfl, by decide, fun w hw => ?_, ⟨tyX4, fun k hk => ⟨tyX4_ok k hk, ?_⟩⟩, nmX4⟩
  · obtain ⟨k, hk, rfl⟩ := List.mem_map.mp hw
    have hk := List.mem_range.mp hk
    match k, hk with
    | 0, _ => exact q22
    | 1, _ => exact q23
    | 2, _ => exact q24
    | k + 3, hk => exact absurd hk (by show ¬ k + 3 < 3; omega)
  · match k, hk with
    | 0, _ => rw [if_pos am_f4_0]; rfl
    | 1, _ => rw [if_pos am_f4_1]; rfl
    | 2, _ => rw [if_pos am_f4_2]; rfl
    | k + 3, hk => exact absurd hk (by show ¬ k + 3 < 3; omega)
theorem am_ci5 : am_CI 5 (RX5, TX5, 2) := by
  refine ⟨rfl, by decide, fun w hw => ?_, ⟨tyX5, fun k hk => ⟨tyX5_ok k hk, ?_⟩⟩, nmX5⟩
  · obtain ⟨k, hk, rfl⟩ := List.mem_map.mp hw
    have hk := List.mem_range.mp hk
    match k, hk with
    | 0, _ => exact q25
    | 1, _ => exact q26
    | k + 2, hk => exact absurd hk (by show ¬ k + 2 < 2; omega)
  · match k, hk with
    | 0, _ => rw [if_pos am_f5_0]; rfl
    | 1, _ => rw [if_pos am_f5_1]; rfl
    | k + 2, hk => exact absurd hk (by show ¬ k + 2 < 2; omega)
theorem am_ci6 : am_CI 6 (RX6, TX6, 13) := by
  refine ⟨rfl, by decide, fun w hw => ?_, ⟨tyX6, fun k hk => ⟨tyX6_ok k hk, ?_⟩⟩, nmX6⟩
  · obtain ⟨k, hk, rfl⟩ := List.mem_map.mp hw
    have hk := List.mem_range.mp hk
    match k, hk with
    | 0, _ => exact q27
    | 1, _ => exact q28
    | 2, _ => exact q29
    | 3, _ => exact q30
    | 4, _ => exact q31
    | 5, _ => exact q32
    | 6, _ => exact q33
    | 7, _ => exact q34
    | 8, _ => exact q35
    | 9, _ => exact q36
    | 10, _ => exact q37
    | 11, _ => exact q38
    | 12, _ => exact q39
    | k + 13, hk => exact absurd hk (by show ¬ k + 13 < 13; omega)
  · match k, hk with
    | 0, _ => rw [if_neg am_f6_0]; rfl
    | 1, _ => rw [if_neg am_f6_1]; rfl
    | 2, _ => rw [if_neg am_f6_2]; rfl
    | 3, _ => rw [if_neg am_f6_3]; rfl
    | 4, _ => rw [if_neg am_f6_4]; rfl
    | 5, _ => rw [if_neg am_f6_5]; rfl
    | 6, _ => rw [if_neg am_f6_6]; rfl
    | 7, _ => rw [if_pos am_f6_7]; rfl
    | 8, _ => rw [if_pos am_f6_8]; rfl
    | 9, _ => rw [if_pos am_f6_9]; rfl
    | 10, _ => rw [if_pos am_f6_10]; rfl
    | 11, _ => rw [if_pos am_f6_11]; rfl
    | 12, _ => rw [if_pos am_f6_12]; rfl
    | k + 13, hk => exact absurd hk (by show ¬ k + 13 < 13; omega)
theorem am_ci7 : am_CI 7 (RX7, TX7, 4) := by
  refine ⟨rfl, by decide, fun w hw => ?_, ⟨tyX7, fun k hk => ⟨tyX7_ok k hk, ?_⟩⟩, nmX7⟩
  · obtain ⟨k, hk, rfl⟩ := List.mem_map.mp hw
    have hk := List.mem_range.mp hk
    match k, hk with
    | 0, _ => exact q40
    | 1, _ => exact q41
    | 2, _ => exact q42
    | 3, _ => exact q43
    | k + 4, hk => exact absurd hk (by show ¬ k + 4 < 4; omega)
  · match k, hk with
    | 0, _ => rw [if_neg am_f7_0]; rfl
    | 1, _ => rw [if_neg am_f7_1]; rfl
    | 2, _ => rw [if_pos am_f7_2]; rfl
    | 3, _ => rw [if_neg am_f7_3]; rfl
    | k + 4, hk => exact absurd hk (by show ¬ k + 4 < 4; omega)
theorem am_ci8 : am_CI 8 (RX8, TX8, 8) := by
  refine ⟨rfl, by decide, fun w hw => ?_, ⟨tyX8, fun k hk => ⟨tyX8_ok k hk, ?_⟩⟩, nmX8⟩
  · obtain ⟨k, hk, rfl⟩ := List.mem_map.mp hw
    have hk := List.mem_range.mp hk
    match k, hk with
    | 0, _ => exact q44
    | 1, _ => exact q45
    | 2, _ => exact q46
    | 3, _ => exact q47
    | 4, _ => exact q48
    | 5, _ => exact q49
    | 6, _ => exact q50
    | 7, _ => exact q51
    | k + 8, hk => exact absurd hk (by show ¬ k + 8 < 8; omega)
  · match k, hk with
    | 0, _ => rw [if_pos am_f8_0]; rfl
    | 1, _ => rw [if_neg am_f8_1]; rfl
    | 2, _ => rw [if_neg am_f8_2]; rfl
    | 3, _ => rw [if_neg am_f8_3]; rfl
    | 4, _ => rw [if_neg am_f8_4]; rfl
    | 5, _ => rw [if_neg am_f8_5]; rfl
    | 6, _ => rw [if_neg am_f8_6]; rfl
    | 7, _ => rw [if_neg am_f8_7]; rfl
    | k + 8, hk => exact absurd hk (by show ¬ k + 8 < 8; omega)
theorem am_ci9 : am_CI 9 (RX9, TX9, 1) := by
  refine ⟨rfl, by decide, fun w hw => ?_, ⟨tyX9, fun k hk => ⟨tyX9_ok k hk, ?_⟩⟩, nmX9⟩
  · obtain ⟨k, hk, rfl⟩ := List.mem_map.mp hw
    have hk := List.mem_range.mp hk
    match k, hk with
    | 0, _ => exact q52
    | k + 1, hk => exact absurd hk (by show ¬ k + 1 < 1; omega)
  · match k, hk with
    | 0, _ => rw [if_pos am_f9_0]; rfl
    | k + 1, hk => exact absurd hk (by show ¬ k + 1 < 1; omega)
theorem am_ci10 : am_CI 10 (RX10, TX10, 17) := by
  refine ⟨rfl, by decide, fun w hw => ?_, ⟨tyX10, fun k hk => ⟨tyX10_ok k hk, ?_⟩⟩, nmX10⟩
  · obtain ⟨k, hk, rfl⟩ := List.mem_map.mp hw
    have hk := List.mem_range.mp hk
    match k, hk with
    | 0, _ => exact q53
    | 1, _ => exact q54
    | 2, _ => exact q55
    | 3, _ => exact q56
    | 4, _ => exact q57
    | 5, _ => exact q58
    | 6, _ => exact q59
    | 7, _ => exact q60
    | 8, _ => exact q61
    | 9, _ => exact q62
    | 10, _ => exact q63
    | 11, _ => exact q64
    | 12, _ => exact q65
    | 13, _ => exact q66
    | 14, _ => exact q67
    | 15, _ => exact q68
    | 16, _ => exact q69
    | k + 17, hk => exact absurd hk (by show ¬ k + 17 < 17; omega)
  · match k, hk with
    | 0, _ => rw [if_pos am_f10_0]; rfl
    | 1, _ => rw [if_pos am_f10_1]; rfl
    | 2, _ => rw [if_pos am_f10_2]; rfl
    | 3, _ => rw [if_pos am_f10_3]; rfl
    | 4, _ => rw [if_pos am_f10_4]; rfl
    | 5, _ => rw [if_pos am_f10_5]; rfl
    | 6, _ => rw [if_pos am_f10_6]; rfl
    | 7, _ => rw [if_pos am_f10_7]; rfl
    | 8, _ => rw [if_pos am_f10_8]; rfl
    | 9, _ => rw [if_pos am_f10_9]; rfl
    | 10, _ => rw [if_pos am_f10_10]; rfl
    | 11, _ => rw [if_pos am_f10_11]; rfl
    | 12, _ => rw [if_pos am_f10_12]; rfl
    | 13, _ => rw [if_neg am_f10_13]; rfl
    | 14, _ => rw [if_neg am_f10_14]; rfl
    | 15, _ => rw [if_neg am_f10_15]; rfl
    | 16, _ => rw [if_neg am_f10_16]; rfl
    | k + 17, hk => exact absurd hk (by show ¬ k + 17 < 17; omega)
theorem am_ci11 : am_CI 11 (RX11, TX11, 28) := by
  refine ⟨rfl, by decide, fun w hw => ?_, ⟨tyX11, fun k hk => ⟨tyX11_ok k hk, ?_⟩⟩, nmX11⟩
  · obtain ⟨k, hk, rfl⟩ := List.mem_map.mp hw
    have hk := List.mem_range.mp hk
    match k, hk with
    | 0, _ => exact q70
    | 1, _ => exact q71
    | 2, _ => exact q72
    | 3, _ => exact q73
    | 4, _ => exact q74
    | 5, _ => exact q75
    | 6, _ => exact q76
    | 7, _ => exact q77
    | 8, _ => exact q78
    | 9, _ => exact q79
    | 10, _ => exact q80
    | 11, _ => exact q81
    | 12, _ => exact q82
    | 13, _ => exact q83
    | 14, _ => exact q84
    | 15, _ => exact q85
    | 16, _ => exact q86
    | 17, _ => exact q87
    | 18, _ => exact q88
    | 19, _ => exact q89
    | 20, _ => exact q90
    | 21, _ => exact q91
    | 22, _ => exact q92
    | 23, _ => exact q93
    | 24, _ => exact q94
    | 25, _ => exact q95
    | 26, _ => exact q96
    | 27, _ => exact q97
    | k + 28, hk => exact absurd hk (by show ¬ k + 28 < 28; omega)
  · match k, hk with
    | 0, _ => rw [if_pos am_f11_0]; rfl
    | 1, _ => rw [if_pos am_f11_1]; rfl
    | 2, _ => rw [if_pos am_f11_2]; rfl
    | 3, _ => rw [if_pos am_f11_3]; rfl
    | 4, _ => rw [if_pos am_f11_4]; rfl
    | 5, _ => rw [if_neg am_f11_5]; rfl
    | 6, _ => rw [if_neg am_f11_6]; rfl
    | 7, _ => rw [if_neg am_f11_7]; rfl
    | 8, _ => rw [if_pos am_f11_8]; rfl
    | 9, _ => rw [if_pos am_f11_9]; rfl
    | 10, _ => rw [if_pos am_f11_10]; rfl
    | 11, _ => rw [if_neg am_f11_11]; rfl
    | 12, _ => rw [if_pos am_f11_12]; rfl
    | 13, _ => rw [if_neg am_f11_13]; rfl
    | 14, _ => rw [if_neg am_f11_14]; rfl
    | 15, _ => rw [if_neg am_f11_15]; rfl
    | 16, _ => rw [if_neg am_f11_16]; rfl
    | 17, _ => rw [if_neg am_f11_17]; rfl
    | 18, _ => rw [if_neg am_f11_18]; rfl
    | 19, _ => rw [if_neg am_f11_19]; rfl
    | 20, _ => rw [if_neg am_f11_20]; rfl
    | 21, _ => rw [if_neg am_f11_21]; rfl
    | 22, _ => rw [if_neg am_f11_22]; rfl
    | 23, _ => rw [if_neg am_f11_23]; rfl
    | 24, _ => rw [if_pos am_f11_24]; rfl
    | 25, _ => rw [if_pos am_f11_25]; rfl
    | 26, _ => rw [if_pos am_f11_26]; rfl
    | 27, _ => rw [if_neg am_f11_27]; rfl
    | k + 28, hk => exact absurd hk (by show ¬ k + 28 < 28; omega)
theorem t0 : ("MessengerBoard", 96, "no such length", 1) ∈ am_strs := List.mem_of_getElem? (i := 0) rfl
theorem t1 : ("MessengerBoard$BoardReader", 33, "board", 2) ∈ am_strs := List.mem_of_getElem? (i := 1) rfl
theorem t2 : ("MessengerBoard$BoardReader", 70, "wall", 3) ∈ am_strs := List.mem_of_getElem? (i := 2) rfl
theorem t3 : ("MessengerBoard$BoardReader", 75, "headquarters", 4) ∈ am_strs := List.mem_of_getElem? (i := 3) rfl
theorem t4 : ("MessengerBoard$BoardReader", 80, "unit", 5) ∈ am_strs := List.mem_of_getElem? (i := 4) rfl
theorem t5 : ("MessengerBoard$BoardReader", 85, "picket", 6) ∈ am_strs := List.mem_of_getElem? (i := 5) rfl
theorem t6 : ("MessengerBoard$BoardReader", 90, "patience", 7) ∈ am_strs := List.mem_of_getElem? (i := 6) rfl
theorem t7 : ("MessengerBoard$BoardReader", 94, "plan", 8) ∈ am_strs := List.mem_of_getElem? (i := 7) rfl
theorem t8 : ("MessengerBoard", 166, "no such number of the board", 9) ∈ am_strs := List.mem_of_getElem? (i := 8) rfl
theorem t9 : ("MessengerBoard", 310, "no such unit, picket, order, plan or event", 10) ∈ am_strs := List.mem_of_getElem? (i := 9) rfl
theorem t10 : ("MessengerBoard", 312, "no such property", 11) ∈ am_strs := List.mem_of_getElem? (i := 10) rfl
theorem t11 : ("MessengerBoard", 191, "no such state", 12) ∈ am_strs := List.mem_of_getElem? (i := 11) rfl
theorem t12 : ("MessengerBoard", 317, "no such cell", 13) ∈ am_strs := List.mem_of_getElem? (i := 12) rfl
theorem t13 : ("MessengerBoard", 202, "no such turn", 14) ∈ am_strs := List.mem_of_getElem? (i := 13) rfl
theorem t14 : ("MessengerBoard", 319, "the goal is a wall", 15) ∈ am_strs := List.mem_of_getElem? (i := 14) rfl
theorem t15 : ("MessengerBoard", 321, "no such number of turns", 16) ∈ am_strs := List.mem_of_getElem? (i := 15) rfl
theorem t16 : ("MessengerBoard", 276, "no such turn for a plan", 17) ∈ am_strs := List.mem_of_getElem? (i := 16) rfl
theorem t17 : ("MessengerBoard", 278, "no such patience", 18) ∈ am_strs := List.mem_of_getElem? (i := 17) rfl
theorem t18 : ("MessengerBoard", 280, "no such row", 19) ∈ am_strs := List.mem_of_getElem? (i := 18) rfl
theorem t19 : ("MessengerBoard$QueryReader", 28, "many", 20) ∈ am_strs := List.mem_of_getElem? (i := 19) rfl
theorem t20 : ("MessengerBoard$QueryReader", 34, "first", 21) ∈ am_strs := List.mem_of_getElem? (i := 20) rfl
theorem t21 : ("MessengerBoard$QueryReader", 83, "not", 22) ∈ am_strs := List.mem_of_getElem? (i := 21) rfl
theorem t22 : ("MessengerBoard$QueryReader", 112, "order", 23) ∈ am_strs := List.mem_of_getElem? (i := 22) rfl
theorem t23 : ("MessengerBoard$QueryReader", 114, "unit", 5) ∈ am_strs := List.mem_of_getElem? (i := 23) rfl
theorem t24 : ("MessengerBoard$QueryReader", 116, "state", 24) ∈ am_strs := List.mem_of_getElem? (i := 24) rfl
theorem t25 : ("MessengerBoard$QueryReader", 118, "sent", 25) ∈ am_strs := List.mem_of_getElem? (i := 25) rfl
theorem t26 : ("MessengerBoard$QueryReader", 120, "arrived", 26) ∈ am_strs := List.mem_of_getElem? (i := 26) rfl
theorem t27 : ("MessengerBoard$QueryReader", 122, "ended", 27) ∈ am_strs := List.mem_of_getElem? (i := 27) rfl
theorem t28 : ("MessengerBoard$QueryReader", 124, "steps", 28) ∈ am_strs := List.mem_of_getElem? (i := 28) rfl
theorem t29 : ("MessengerBoard$QueryReader", 126, "x", 29) ∈ am_strs := List.mem_of_getElem? (i := 29) rfl
theorem t30 : ("MessengerBoard$QueryReader", 128, "y", 30) ∈ am_strs := List.mem_of_getElem? (i := 30) rfl
theorem t31 : ("MessengerBoard$QueryReader", 81, "and", 31) ∈ am_strs := List.mem_of_getElem? (i := 31) rfl
theorem t32 : ("MessengerBoard$QueryReader", 76, "or", 32) ∈ am_strs := List.mem_of_getElem? (i := 32) rfl
theorem t33 : ("MessengerBoardModel", 44, "order", 23) ∈ am_strs := List.mem_of_getElem? (i := 33) rfl
theorem t34 : ("MessengerBoardModel", 46, "unit", 5) ∈ am_strs := List.mem_of_getElem? (i := 34) rfl
theorem t35 : ("MessengerBoardModel", 48, "state", 24) ∈ am_strs := List.mem_of_getElem? (i := 35) rfl
theorem t36 : ("MessengerBoardModel", 50, "sent", 25) ∈ am_strs := List.mem_of_getElem? (i := 36) rfl
theorem t37 : ("MessengerBoardModel", 52, "arrived", 26) ∈ am_strs := List.mem_of_getElem? (i := 37) rfl
theorem t38 : ("MessengerBoardModel", 54, "ended", 27) ∈ am_strs := List.mem_of_getElem? (i := 38) rfl
theorem t39 : ("MessengerBoardModel", 56, "steps", 28) ∈ am_strs := List.mem_of_getElem? (i := 39) rfl
theorem t40 : ("MessengerBoardModel", 58, "x", 29) ∈ am_strs := List.mem_of_getElem? (i := 40) rfl
theorem t41 : ("MessengerBoardModel", 60, "y", 30) ∈ am_strs := List.mem_of_getElem? (i := 41) rfl
theorem t42 : ("MessengerBoardModel", 380, "board", 2) ∈ am_strs := List.mem_of_getElem? (i := 42) rfl
theorem t43 : ("MessengerBoardModel", 349, "wall", 3) ∈ am_strs := List.mem_of_getElem? (i := 43) rfl
theorem t44 : ("MessengerBoardModel", 357, "headquarters", 4) ∈ am_strs := List.mem_of_getElem? (i := 44) rfl
theorem t45 : ("MessengerBoardModel", 365, "picket", 6) ∈ am_strs := List.mem_of_getElem? (i := 45) rfl
theorem t46 : ("MessengerBoardModel", 370, "patience", 7) ∈ am_strs := List.mem_of_getElem? (i := 46) rfl
theorem t47 : ("MessengerBoardModel", 372, "plan", 8) ∈ am_strs := List.mem_of_getElem? (i := 47) rfl
theorem t48 : ("MessengerBoardModel", 434, "first", 21) ∈ am_strs := List.mem_of_getElem? (i := 48) rfl
theorem t49 : ("MessengerBoardModel", 436, "many", 20) ∈ am_strs := List.mem_of_getElem? (i := 49) rfl
theorem t50 : ("MessengerBoardModel", 404, "not", 22) ∈ am_strs := List.mem_of_getElem? (i := 50) rfl
theorem t51 : ("MessengerBoardModel", 418, "and", 31) ∈ am_strs := List.mem_of_getElem? (i := 51) rfl
theorem t52 : ("MessengerBoardModel", 423, "or", 32) ∈ am_strs := List.mem_of_getElem? (i := 52) rfl
theorem am_gl_98 : ∀ w ∈ vx_atS RX10 98 "java/lang/IllegalArgumentException" ["java/lang/RuntimeException", "java/lang/Exception"], (w ∈ lw_tbl ∧ goodWord w = true) ∨ am_dv w = true := by decide +kernel
theorem am_at_98 : ∀ w ∈ vx_atS RX10 98 "java/lang/IllegalArgumentException" ["java/lang/RuntimeException", "java/lang/Exception"], w ∈ am_tb ∨ am_dv w = true := fun w hw => (am_gl_98 w hw).imp (fun h => List.mem_filter.mpr h) id
theorem am_go_98 : ∀ w ∈ Cond.classLink RX10 94 "java/lang/IllegalArgumentException" :: Cond.initialized "java/lang/IllegalArgumentException" :: vx_atS RX10 98 "java/lang/IllegalArgumentException" ["java/lang/RuntimeException", "java/lang/Exception"], vx_ot w = true := by decide +kernel
theorem am_gl_168 : ∀ w ∈ vx_atS RX10 168 "java/util/NoSuchElementException" ["java/lang/RuntimeException", "java/lang/Exception"], (w ∈ lw_tbl ∧ goodWord w = true) ∨ am_dv w = true := by decide +kernel
theorem am_at_168 : ∀ w ∈ vx_atS RX10 168 "java/util/NoSuchElementException" ["java/lang/RuntimeException", "java/lang/Exception"], w ∈ am_tb ∨ am_dv w = true := fun w hw => (am_gl_168 w hw).imp (fun h => List.mem_filter.mpr h) id
theorem am_go_168 : ∀ w ∈ Cond.classLink RX10 164 "java/util/NoSuchElementException" :: Cond.initialized "java/util/NoSuchElementException" :: vx_atS RX10 168 "java/util/NoSuchElementException" ["java/lang/RuntimeException", "java/lang/Exception"], vx_ot w = true := by decide +kernel
