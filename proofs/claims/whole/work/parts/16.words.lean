/-! the words that the methods use, by their places in the tables -/
theorem q0 : (Jvm.Cond.fieldLink "java/lang/String" (38 : Nat) "java/lang/String" "COMPACT_STRINGS" "Z") ∈ am_tb := am_mem 621 (by decide +kernel) rfl
theorem q1 : (Jvm.Cond.fieldLink "java/lang/String" (15 : Nat) "java/lang/String" "coder" "B") ∈ am_tb := am_mem 1843 (by decide +kernel) rfl
theorem q2 : (Jvm.Cond.fieldLink "java/lang/String" (9 : Nat) "java/lang/String" "value" "[B") ∈ am_tb := am_mem 1842 (by decide +kernel) rfl
theorem q3 : (Jvm.Cond.methodLink "java/lang/String" (335 : Nat) ({ cls := "java/lang/String", name := "coder", desc := "()B" } : Jvm.MethodName)) ∈ am_tb := am_mem 617 (by decide +kernel) rfl
theorem q4 : (Jvm.Cond.instanceMethod ({ cls := "java/lang/String", name := "coder", desc := "()B" } : Jvm.MethodName)) ∈ am_tb := am_mem 618 (by decide +kernel) rfl
theorem q5 : (Jvm.Cond.initialized "java/lang/String") ∈ am_tb := am_mem 126 (by decide +kernel) rfl
theorem q6 : (Jvm.Cond.code ({ cls := "java/lang/String", name := "coder", desc := "()B" } : Jvm.MethodName) prog_22_method_152_code (1 : Nat) (Option.some Jvm.ClassFile.FieldType.byte)) ∈ am_tb := am_mem 620 (by decide +kernel) rfl
theorem q7 : (Jvm.Cond.selects "java/lang/String" ({ cls := "java/lang/String", name := "coder", desc := "()B" } : Jvm.MethodName) ({ cls := "java/lang/String", name := "coder", desc := "()B" } : Jvm.MethodName)) ∈ am_tb := am_mem 619 (by decide +kernel) rfl
theorem q8 : (Jvm.Cond.fieldLink "java/lang/String" (1053 : Nat) "jdk/internal/util/Preconditions" "SIOOBE_FORMATTER" "Ljava/util/function/BiFunction;") ∈ am_tb := am_mem 637 (by decide +kernel) rfl
theorem q9 : (Jvm.Cond.methodLink "java/lang/String" (1059 : Nat) ({ cls := "jdk/internal/util/Preconditions", name := "checkIndex", desc := "(IILjava/util/function/BiFunction;)I" } : Jvm.MethodName)) ∈ am_tb := am_mem 639 (by decide +kernel) rfl
theorem q10 : (Jvm.Cond.static ({ cls := "jdk/internal/util/Preconditions", name := "checkIndex", desc := "(IILjava/util/function/BiFunction;)I" } : Jvm.MethodName)) ∈ am_tb := am_mem 640 (by decide +kernel) rfl
theorem q11 : (Jvm.Cond.initialized "jdk/internal/util/Preconditions") ∈ am_tb := am_mem 128 (by decide +kernel) rfl
theorem q12 : (Jvm.Cond.code ({ cls := "jdk/internal/util/Preconditions", name := "checkIndex", desc := "(IILjava/util/function/BiFunction;)I" } : Jvm.MethodName) prog_31_method_11_code (3 : Nat) (Option.some Jvm.ClassFile.FieldType.int)) ∈ am_tb := am_mem 641 (by decide +kernel) rfl
theorem q13 : (Jvm.Cond.methodLink "java/lang/StringLatin1" (9 : Nat) ({ cls := "java/lang/String", name := "checkIndex", desc := "(II)V" } : Jvm.MethodName)) ∈ am_tb := am_mem 634 (by decide +kernel) rfl
theorem q14 : (Jvm.Cond.static ({ cls := "java/lang/String", name := "checkIndex", desc := "(II)V" } : Jvm.MethodName)) ∈ am_tb := am_mem 635 (by decide +kernel) rfl
theorem q15 : (Jvm.Cond.code ({ cls := "java/lang/String", name := "checkIndex", desc := "(II)V" } : Jvm.MethodName) prog_22_method_155_code (2 : Nat) (Option.none : Option Jvm.ClassFile.FieldType)) ∈ am_tb := am_mem 636 (by decide +kernel) rfl
theorem q16 : (Jvm.Cond.methodLink "java/lang/String" (492 : Nat) ({ cls := "java/lang/String", name := "isLatin1", desc := "()Z" } : Jvm.MethodName)) ∈ am_tb := am_mem 627 (by decide +kernel) rfl
theorem q17 : (Jvm.Cond.instanceMethod ({ cls := "java/lang/String", name := "isLatin1", desc := "()Z" } : Jvm.MethodName)) ∈ am_tb := am_mem 628 (by decide +kernel) rfl
theorem q18 : (Jvm.Cond.code ({ cls := "java/lang/String", name := "isLatin1", desc := "()Z" } : Jvm.MethodName) prog_22_method_154_code (1 : Nat) (Option.some Jvm.ClassFile.FieldType.boolean)) ∈ am_tb := am_mem 630 (by decide +kernel) rfl
theorem q19 : (Jvm.Cond.selects "java/lang/String" ({ cls := "java/lang/String", name := "isLatin1", desc := "()Z" } : Jvm.MethodName) ({ cls := "java/lang/String", name := "isLatin1", desc := "()Z" } : Jvm.MethodName)) ∈ am_tb := am_mem 629 (by decide +kernel) rfl
theorem q20 : (Jvm.Cond.methodLink "java/lang/String" (495 : Nat) ({ cls := "java/lang/StringLatin1", name := "charAt", desc := "([BI)C" } : Jvm.MethodName)) ∈ am_tb := am_mem 631 (by decide +kernel) rfl
theorem q21 : (Jvm.Cond.static ({ cls := "java/lang/StringLatin1", name := "charAt", desc := "([BI)C" } : Jvm.MethodName)) ∈ am_tb := am_mem 632 (by decide +kernel) rfl
theorem q22 : (Jvm.Cond.initialized "java/lang/StringLatin1") ∈ am_tb := am_mem 127 (by decide +kernel) rfl
theorem q23 : (Jvm.Cond.code ({ cls := "java/lang/StringLatin1", name := "charAt", desc := "([BI)C" } : Jvm.MethodName) prog_23_method_2_code (2 : Nat) (Option.some Jvm.ClassFile.FieldType.char)) ∈ am_tb := am_mem 633 (by decide +kernel) rfl
theorem q24 : (Jvm.Cond.methodLink "MessengerBoard$Table" (3 : Nat) ({ cls := "java/lang/Object", name := "<init>", desc := "()V" } : Jvm.MethodName)) ∈ am_tb := am_mem 153 (by decide +kernel) rfl
theorem q25 : (Jvm.Cond.instanceMethod ({ cls := "java/lang/Object", name := "<init>", desc := "()V" } : Jvm.MethodName)) ∈ am_tb := am_mem 140 (by decide +kernel) rfl
theorem q26 : (Jvm.Cond.code ({ cls := "java/lang/Object", name := "<init>", desc := "()V" } : Jvm.MethodName) object_method_1_code (1 : Nat) (Option.none : Option Jvm.ClassFile.FieldType)) ∈ am_tb := am_mem 141 (by decide +kernel) rfl
theorem q27 : (Jvm.Cond.fieldLink "MessengerBoard$Table" (9 : Nat) "MessengerBoard$Table" "capacity" "I") ∈ am_tb := am_mem 154 (by decide +kernel) rfl
theorem q28 : (Jvm.Cond.fieldLink "MessengerBoard$Table" (15 : Nat) "MessengerBoard$Table" "columns" "I") ∈ am_tb := am_mem 155 (by decide +kernel) rfl
theorem q29 : (Jvm.Cond.arrayClass Jvm.ClassFile.FieldType.int) ∈ am_tb := am_mem 167 (by decide +kernel) rfl
theorem q30 : (Jvm.Cond.fieldLink "MessengerBoard$Table" (18 : Nat) "MessengerBoard$Table" "places" "[I") ∈ am_tb := am_mem 156 (by decide +kernel) rfl
theorem q31 : (Jvm.Cond.fieldLink "MessengerBoard$Table" (22 : Nat) "MessengerBoard$Table" "count" "I") ∈ am_tb := am_mem 157 (by decide +kernel) rfl
theorem q32 : (Jvm.Cond.methodLink "MessengerBoard$Table" (25 : Nat) ({ cls := "java/lang/System", name := "arraycopy", desc := "(Ljava/lang/Object;ILjava/lang/Object;II)V" } : Jvm.MethodName)) ∈ am_tb := am_mem 475 (by decide +kernel) rfl
theorem q33 : (Jvm.Cond.native ({ cls := "java/lang/System", name := "arraycopy", desc := "(Ljava/lang/Object;ILjava/lang/Object;II)V" } : Jvm.MethodName)) ∈ am_tb := am_mem 470 (by decide +kernel) rfl
theorem q34 : (Jvm.Cond.static ({ cls := "java/lang/System", name := "arraycopy", desc := "(Ljava/lang/Object;ILjava/lang/Object;II)V" } : Jvm.MethodName)) ∈ am_tb := am_mem 469 (by decide +kernel) rfl
theorem q35 : (Jvm.Cond.initialized "java/lang/System") ∈ am_tb := am_mem 130 (by decide +kernel) rfl
theorem q36 : (Jvm.Cond.methodLink "MessengerBoard$Distances" (3 : Nat) ({ cls := "java/lang/Object", name := "<init>", desc := "()V" } : Jvm.MethodName)) ∈ am_tb := am_mem 917 (by decide +kernel) rfl
theorem q37 : (Jvm.Cond.fieldLink "MessengerBoard$Distances" (9 : Nat) "MessengerBoard$Distances" "steps" "[I") ∈ am_tb := am_mem 918 (by decide +kernel) rfl
theorem q38 : (Jvm.Cond.methodLink "MessengerBoard$Tokens" (3 : Nat) ({ cls := "java/lang/Object", name := "<init>", desc := "()V" } : Jvm.MethodName)) ∈ am_tb := am_mem 298 (by decide +kernel) rfl
theorem q39 : (Jvm.Cond.fieldLink "MessengerBoard$Tokens" (9 : Nat) "MessengerBoard$Tokens" "bytes" "[I") ∈ am_tb := am_mem 299 (by decide +kernel) rfl
theorem q40 : (Jvm.Cond.methodLink "MessengerBoard$Tokens" (15 : Nat) ({ cls := "java/lang/Math", name := "min", desc := "(II)I" } : Jvm.MethodName)) ∈ am_tb := am_mem 581 (by decide +kernel) rfl
theorem q41 : (Jvm.Cond.static ({ cls := "java/lang/Math", name := "min", desc := "(II)I" } : Jvm.MethodName)) ∈ am_tb := am_mem 582 (by decide +kernel) rfl
theorem q42 : (Jvm.Cond.initialized "java/lang/Math") ∈ am_tb := am_mem 124 (by decide +kernel) rfl
theorem q43 : (Jvm.Cond.code ({ cls := "java/lang/Math", name := "min", desc := "(II)I" } : Jvm.MethodName) prog_20_method_69_code (2 : Nat) (Option.some Jvm.ClassFile.FieldType.int)) ∈ am_tb := am_mem 583 (by decide +kernel) rfl
theorem q44 : (Jvm.Cond.fieldLink "MessengerBoard$Tokens" (21 : Nat) "MessengerBoard$Tokens" "length" "I") ∈ am_tb := am_mem 300 (by decide +kernel) rfl
theorem q45 : (Jvm.Cond.fieldLink "MessengerBoard$Tokens" (25 : Nat) "MessengerBoard$Tokens" "start" "I") ∈ am_tb := am_mem 301 (by decide +kernel) rfl
theorem q46 : (Jvm.Cond.fieldLink "MessengerBoard$Tokens" (28 : Nat) "MessengerBoard$Tokens" "end" "I") ∈ am_tb := am_mem 302 (by decide +kernel) rfl
theorem q47 : (Jvm.Cond.fieldLink "MessengerBoard$Tokens" (31 : Nat) "MessengerBoard$Tokens" "kind" "I") ∈ am_tb := am_mem 303 (by decide +kernel) rfl
theorem q48 : (Jvm.Cond.fieldLink "MessengerBoard$Tokens" (34 : Nat) "MessengerBoard$Tokens" "number" "I") ∈ am_tb := am_mem 304 (by decide +kernel) rfl
theorem q49 : (Jvm.Cond.fieldLink "MessengerBoard$Tokens" (37 : Nat) "MessengerBoard$Tokens" "code" "I") ∈ am_tb := am_mem 305 (by decide +kernel) rfl
theorem q50 : (Jvm.Cond.fieldLink "MessengerBoard$Tokens" (40 : Nat) "MessengerBoard$Tokens" "errorStart" "I") ∈ am_tb := am_mem 306 (by decide +kernel) rfl
theorem q51 : (Jvm.Cond.methodLink "MessengerBoard$Tokens" (43 : Nat) ({ cls := "MessengerBoard$Tokens", name := "kindAt", desc := "(I)I" } : Jvm.MethodName)) ∈ am_tb := am_mem 599 (by decide +kernel) rfl
theorem q52 : (Jvm.Cond.instanceMethod ({ cls := "MessengerBoard$Tokens", name := "kindAt", desc := "(I)I" } : Jvm.MethodName)) ∈ am_tb := am_mem 601 (by decide +kernel) rfl
theorem q53 : (Jvm.Cond.initialized "MessengerBoard$Tokens") ∈ am_tb := am_mem 116 (by decide +kernel) rfl
theorem q54 : (Jvm.Cond.code ({ cls := "MessengerBoard$Tokens", name := "kindAt", desc := "(I)I" } : Jvm.MethodName) prog_10_method_8_code (3 : Nat) (Option.some Jvm.ClassFile.FieldType.int)) ∈ am_tb := am_mem 602 (by decide +kernel) rfl
theorem q55 : Jvm.Cond.selects "MessengerBoard$Tokens" ⟨"MessengerBoard$Tokens", "kindAt", "(I)I"⟩ ⟨"MessengerBoard$Tokens", "kindAt", "(I)I"⟩ ∈ am_tb := am_mem 2 (by decide +kernel) rfl
theorem q56 : (Jvm.Cond.methodLink "MessengerBoard$Tokens" (47 : Nat) ({ cls := "MessengerBoard$Tokens", name := "digitAt", desc := "(I)I" } : Jvm.MethodName)) ∈ am_tb := am_mem 603 (by decide +kernel) rfl
theorem q57 : (Jvm.Cond.instanceMethod ({ cls := "MessengerBoard$Tokens", name := "digitAt", desc := "(I)I" } : Jvm.MethodName)) ∈ am_tb := am_mem 605 (by decide +kernel) rfl
theorem q58 : (Jvm.Cond.code ({ cls := "MessengerBoard$Tokens", name := "digitAt", desc := "(I)I" } : Jvm.MethodName) prog_10_method_9_code (2 : Nat) (Option.some Jvm.ClassFile.FieldType.int)) ∈ am_tb := am_mem 606 (by decide +kernel) rfl
theorem q59 : Jvm.Cond.selects "MessengerBoard$Tokens" ⟨"MessengerBoard$Tokens", "digitAt", "(I)I"⟩ ⟨"MessengerBoard$Tokens", "digitAt", "(I)I"⟩ ∈ am_tb := am_mem 3 (by decide +kernel) rfl
theorem q60 : (Jvm.Cond.constant "MessengerBoard$Tokens" (50 : Nat) (100000 : Int32)) ∈ am_tb := am_mem 607 (by decide +kernel) rfl
theorem q61 : (Jvm.Cond.methodLink "MessengerBoard$Tokens" (51 : Nat) ({ cls := "java/lang/String", name := "length", desc := "()I" } : Jvm.MethodName)) ∈ am_tb := am_mem 613 (by decide +kernel) rfl
theorem q62 : (Jvm.Cond.instanceMethod ({ cls := "java/lang/String", name := "length", desc := "()I" } : Jvm.MethodName)) ∈ am_tb := am_mem 614 (by decide +kernel) rfl
theorem q63 : (Jvm.Cond.code ({ cls := "java/lang/String", name := "length", desc := "()I" } : Jvm.MethodName) prog_22_method_54_code (1 : Nat) (Option.some Jvm.ClassFile.FieldType.int)) ∈ am_tb := am_mem 616 (by decide +kernel) rfl
theorem q64 : (Jvm.Cond.selects "java/lang/String" ({ cls := "java/lang/String", name := "length", desc := "()I" } : Jvm.MethodName) ({ cls := "java/lang/String", name := "length", desc := "()I" } : Jvm.MethodName)) ∈ am_tb := am_mem 615 (by decide +kernel) rfl
theorem q65 : (Jvm.Cond.methodLink "MessengerBoard$Tokens" (56 : Nat) ({ cls := "java/lang/String", name := "charAt", desc := "(I)C" } : Jvm.MethodName)) ∈ am_tb := am_mem 623 (by decide +kernel) rfl
theorem q66 : (Jvm.Cond.instanceMethod ({ cls := "java/lang/String", name := "charAt", desc := "(I)C" } : Jvm.MethodName)) ∈ am_tb := am_mem 624 (by decide +kernel) rfl
theorem q67 : (Jvm.Cond.code ({ cls := "java/lang/String", name := "charAt", desc := "(I)C" } : Jvm.MethodName) prog_22_method_56_code (2 : Nat) (Option.some Jvm.ClassFile.FieldType.char)) ∈ am_tb := am_mem 626 (by decide +kernel) rfl
theorem q68 : (Jvm.Cond.selects "java/lang/String" ({ cls := "java/lang/String", name := "charAt", desc := "(I)C" } : Jvm.MethodName) ({ cls := "java/lang/String", name := "charAt", desc := "(I)C" } : Jvm.MethodName)) ∈ am_tb := am_mem 625 (by decide +kernel) rfl
theorem q69 : (Jvm.Cond.methodLink "MessengerBoard$Situation" (3 : Nat) ({ cls := "java/lang/Object", name := "<init>", desc := "()V" } : Jvm.MethodName)) ∈ am_tb := am_mem 147 (by decide +kernel) rfl
theorem q70 : (Jvm.Cond.fieldLink "MessengerBoard$Situation" (9 : Nat) "MessengerBoard$Situation" "walls" "[I") ∈ am_tb := am_mem 190 (by decide +kernel) rfl
theorem q71 : (Jvm.Cond.classLink "MessengerBoard$Situation" (15 : Nat) "MessengerBoard$Table") ∈ am_tb := am_mem 148 (by decide +kernel) rfl
theorem q72 : (Jvm.Cond.instantiable "MessengerBoard$Table" (4 : Nat)) ∈ am_tb := am_mem 149 (by decide +kernel) rfl
theorem q73 : (Jvm.Cond.initialized "MessengerBoard$Table") ∈ am_tb := am_mem 111 (by decide +kernel) rfl
theorem q74 : (Jvm.Cond.methodLink "MessengerBoard$Situation" (17 : Nat) ({ cls := "MessengerBoard$Table", name := "<init>", desc := "(II)V" } : Jvm.MethodName)) ∈ am_tb := am_mem 150 (by decide +kernel) rfl
theorem q75 : (Jvm.Cond.instanceMethod ({ cls := "MessengerBoard$Table", name := "<init>", desc := "(II)V" } : Jvm.MethodName)) ∈ am_tb := am_mem 151 (by decide +kernel) rfl
theorem q76 : (Jvm.Cond.code ({ cls := "MessengerBoard$Table", name := "<init>", desc := "(II)V" } : Jvm.MethodName) prog_9_method_1_code (4 : Nat) (Option.none : Option Jvm.ClassFile.FieldType)) ∈ am_tb := am_mem 152 (by decide +kernel) rfl
theorem q77 : (Jvm.Cond.fieldLink "MessengerBoard$Situation" (20 : Nat) "MessengerBoard$Situation" "units" "LMessengerBoard$Table;") ∈ am_tb := am_mem 191 (by decide +kernel) rfl
theorem q78 : (Jvm.Cond.fieldLink "MessengerBoard$Situation" (24 : Nat) "MessengerBoard$Situation" "pickets" "LMessengerBoard$Table;") ∈ am_tb := am_mem 196 (by decide +kernel) rfl
theorem q79 : (Jvm.Cond.fieldLink "MessengerBoard$Situation" (27 : Nat) "MessengerBoard$Situation" "plans" "LMessengerBoard$Table;") ∈ am_tb := am_mem 200 (by decide +kernel) rfl
theorem q80 : (Jvm.Cond.fieldLink "MessengerBoard$Situation" (30 : Nat) "MessengerBoard$Situation" "orders" "LMessengerBoard$Table;") ∈ am_tb := am_mem 204 (by decide +kernel) rfl
theorem q81 : (Jvm.Cond.fieldLink "MessengerBoard$Situation" (33 : Nat) "MessengerBoard$Situation" "events" "LMessengerBoard$Table;") ∈ am_tb := am_mem 208 (by decide +kernel) rfl
theorem q82 : (Jvm.Cond.fieldLink "MessengerBoard$Situation" (36 : Nat) "MessengerBoard$Situation" "width" "I") ∈ am_tb := am_mem 168 (by decide +kernel) rfl
theorem q83 : (Jvm.Cond.fieldLink "MessengerBoard$Situation" (40 : Nat) "MessengerBoard$Situation" "height" "I") ∈ am_tb := am_mem 171 (by decide +kernel) rfl
theorem q84 : (Jvm.Cond.fieldLink "MessengerBoard$Situation" (43 : Nat) "MessengerBoard$Situation" "patience" "I") ∈ am_tb := am_mem 184 (by decide +kernel) rfl
theorem q85 : (Jvm.Cond.methodLink "MessengerBoard$Situation" (85 : Nat) ({ cls := "MessengerBoard$Table", name := "get", desc := "(II)I" } : Jvm.MethodName)) ∈ am_tb := am_mem 426 (by decide +kernel) rfl
theorem q86 : (Jvm.Cond.instanceMethod ({ cls := "MessengerBoard$Table", name := "get", desc := "(II)I" } : Jvm.MethodName)) ∈ am_tb := am_mem 427 (by decide +kernel) rfl
theorem q87 : (Jvm.Cond.code ({ cls := "MessengerBoard$Table", name := "get", desc := "(II)I" } : Jvm.MethodName) prog_9_method_3_code (5 : Nat) (Option.some Jvm.ClassFile.FieldType.int)) ∈ am_tb := am_mem 429 (by decide +kernel) rfl
theorem q88 : (Jvm.Cond.selects "MessengerBoard$Table" ({ cls := "MessengerBoard$Table", name := "get", desc := "(II)I" } : Jvm.MethodName) ({ cls := "MessengerBoard$Table", name := "get", desc := "(II)I" } : Jvm.MethodName)) ∈ am_tb := am_mem 428 (by decide +kernel) rfl
theorem q89 : (Jvm.Cond.methodLink "MessengerBoard$Situation" (81 : Nat) ({ cls := "MessengerBoard$Table", name := "count", desc := "()I" } : Jvm.MethodName)) ∈ am_tb := am_mem 443 (by decide +kernel) rfl
theorem q90 : (Jvm.Cond.instanceMethod ({ cls := "MessengerBoard$Table", name := "count", desc := "()I" } : Jvm.MethodName)) ∈ am_tb := am_mem 419 (by decide +kernel) rfl
theorem q91 : (Jvm.Cond.code ({ cls := "MessengerBoard$Table", name := "count", desc := "()I" } : Jvm.MethodName) prog_9_method_2_code (1 : Nat) (Option.some Jvm.ClassFile.FieldType.int)) ∈ am_tb := am_mem 421 (by decide +kernel) rfl
theorem q92 : (Jvm.Cond.selects "MessengerBoard$Table" ({ cls := "MessengerBoard$Table", name := "count", desc := "()I" } : Jvm.MethodName) ({ cls := "MessengerBoard$Table", name := "count", desc := "()I" } : Jvm.MethodName)) ∈ am_tb := am_mem 420 (by decide +kernel) rfl
theorem q93 : (Jvm.Cond.fieldLink "MessengerBoard$Situation" (46 : Nat) "MessengerBoard$Situation" "headquartersX" "I") ∈ am_tb := am_mem 174 (by decide +kernel) rfl
theorem q94 : (Jvm.Cond.fieldLink "MessengerBoard$Situation" (49 : Nat) "MessengerBoard$Situation" "headquartersY" "I") ∈ am_tb := am_mem 177 (by decide +kernel) rfl
theorem q95 : (Jvm.Cond.fieldLink "MessengerBoard$Situation" (52 : Nat) "MessengerBoard$Situation" "turn" "I") ∈ am_tb := am_mem 181 (by decide +kernel) rfl
theorem q96 : (Jvm.Cond.fieldLink "MessengerBoard$Situation" (55 : Nat) "MessengerBoard$Situation" "wallCount" "I") ∈ am_tb := am_mem 188 (by decide +kernel) rfl
theorem q97 : (Jvm.Cond.methodLink "MessengerBoard$Situation" (67 : Nat) ({ cls := "java/lang/System", name := "arraycopy", desc := "(Ljava/lang/Object;ILjava/lang/Object;II)V" } : Jvm.MethodName)) ∈ am_tb := am_mem 468 (by decide +kernel) rfl
theorem q98 : (Jvm.Cond.methodLink "MessengerBoard$Situation" (73 : Nat) ({ cls := "MessengerBoard$Table", name := "copyFrom", desc := "(LMessengerBoard$Table;)V" } : Jvm.MethodName)) ∈ am_tb := am_mem 471 (by decide +kernel) rfl
theorem q99 : (Jvm.Cond.instanceMethod ({ cls := "MessengerBoard$Table", name := "copyFrom", desc := "(LMessengerBoard$Table;)V" } : Jvm.MethodName)) ∈ am_tb := am_mem 472 (by decide +kernel) rfl
theorem q100 : (Jvm.Cond.code ({ cls := "MessengerBoard$Table", name := "copyFrom", desc := "(LMessengerBoard$Table;)V" } : Jvm.MethodName) prog_9_method_7_code (3 : Nat) (Option.none : Option Jvm.ClassFile.FieldType)) ∈ am_tb := am_mem 474 (by decide +kernel) rfl
theorem q101 : (Jvm.Cond.selects "MessengerBoard$Table" ({ cls := "MessengerBoard$Table", name := "copyFrom", desc := "(LMessengerBoard$Table;)V" } : Jvm.MethodName) ({ cls := "MessengerBoard$Table", name := "copyFrom", desc := "(LMessengerBoard$Table;)V" } : Jvm.MethodName)) ∈ am_tb := am_mem 473 (by decide +kernel) rfl
theorem q102 : (Jvm.Cond.methodLink "MessengerBoard$Situation" (58 : Nat) ({ cls := "java/util/Arrays", name := "fill", desc := "([II)V" } : Jvm.MethodName)) ∈ am_tb := am_mem 588 (by decide +kernel) rfl
theorem q103 : (Jvm.Cond.static ({ cls := "java/util/Arrays", name := "fill", desc := "([II)V" } : Jvm.MethodName)) ∈ am_tb := am_mem 589 (by decide +kernel) rfl
theorem q104 : (Jvm.Cond.initialized "java/util/Arrays") ∈ am_tb := am_mem 125 (by decide +kernel) rfl
theorem q105 : (Jvm.Cond.code ({ cls := "java/util/Arrays", name := "fill", desc := "([II)V" } : Jvm.MethodName) prog_29_method_103_code (4 : Nat) (Option.none : Option Jvm.ClassFile.FieldType)) ∈ am_tb := am_mem 590 (by decide +kernel) rfl
theorem q106 : (Jvm.Cond.methodLink "MessengerBoard$Situation" (64 : Nat) ({ cls := "MessengerBoard$Table", name := "clear", desc := "()V" } : Jvm.MethodName)) ∈ am_tb := am_mem 591 (by decide +kernel) rfl
theorem q107 : (Jvm.Cond.instanceMethod ({ cls := "MessengerBoard$Table", name := "clear", desc := "()V" } : Jvm.MethodName)) ∈ am_tb := am_mem 592 (by decide +kernel) rfl
theorem q108 : (Jvm.Cond.code ({ cls := "MessengerBoard$Table", name := "clear", desc := "()V" } : Jvm.MethodName) prog_9_method_6_code (1 : Nat) (Option.none : Option Jvm.ClassFile.FieldType)) ∈ am_tb := am_mem 594 (by decide +kernel) rfl
theorem q109 : (Jvm.Cond.selects "MessengerBoard$Table" ({ cls := "MessengerBoard$Table", name := "clear", desc := "()V" } : Jvm.MethodName) ({ cls := "MessengerBoard$Table", name := "clear", desc := "()V" } : Jvm.MethodName)) ∈ am_tb := am_mem 593 (by decide +kernel) rfl
theorem q110 : (Jvm.Cond.static ({ cls := "MessengerBoard", name := "cellAt", desc := "(II)I" } : Jvm.MethodName)) ∈ am_tb := am_mem 727 (by decide +kernel) rfl
theorem q111 : (Jvm.Cond.initialized "MessengerBoard") ∈ am_tb := am_mem 109 (by decide +kernel) rfl
theorem q112 : (Jvm.Cond.code ({ cls := "MessengerBoard", name := "cellAt", desc := "(II)I" } : Jvm.MethodName) prog_1_method_47_code (2 : Nat) (Option.some Jvm.ClassFile.FieldType.int)) ∈ am_tb := am_mem 728 (by decide +kernel) rfl
theorem q113 : (Jvm.Cond.methodLink "MessengerBoard$Situation" (98 : Nat) ({ cls := "MessengerBoard$Table", name := "add", desc := "()I" } : Jvm.MethodName)) ∈ am_tb := am_mem 748 (by decide +kernel) rfl
theorem q114 : (Jvm.Cond.instanceMethod ({ cls := "MessengerBoard$Table", name := "add", desc := "()I" } : Jvm.MethodName)) ∈ am_tb := am_mem 749 (by decide +kernel) rfl
theorem q115 : (Jvm.Cond.code ({ cls := "MessengerBoard$Table", name := "add", desc := "()I" } : Jvm.MethodName) prog_9_method_5_code (1 : Nat) (Option.some Jvm.ClassFile.FieldType.int)) ∈ am_tb := am_mem 751 (by decide +kernel) rfl
theorem q116 : (Jvm.Cond.selects "MessengerBoard$Table" ({ cls := "MessengerBoard$Table", name := "add", desc := "()I" } : Jvm.MethodName) ({ cls := "MessengerBoard$Table", name := "add", desc := "()I" } : Jvm.MethodName)) ∈ am_tb := am_mem 750 (by decide +kernel) rfl
theorem q117 : (Jvm.Cond.methodLink "MessengerBoard$Situation" (101 : Nat) ({ cls := "MessengerBoard$Table", name := "put", desc := "(III)V" } : Jvm.MethodName)) ∈ am_tb := am_mem 752 (by decide +kernel) rfl
theorem q118 : (Jvm.Cond.instanceMethod ({ cls := "MessengerBoard$Table", name := "put", desc := "(III)V" } : Jvm.MethodName)) ∈ am_tb := am_mem 753 (by decide +kernel) rfl
theorem q119 : (Jvm.Cond.code ({ cls := "MessengerBoard$Table", name := "put", desc := "(III)V" } : Jvm.MethodName) prog_9_method_4_code (6 : Nat) (Option.none : Option Jvm.ClassFile.FieldType)) ∈ am_tb := am_mem 755 (by decide +kernel) rfl
theorem q120 : (Jvm.Cond.selects "MessengerBoard$Table" ({ cls := "MessengerBoard$Table", name := "put", desc := "(III)V" } : Jvm.MethodName) ({ cls := "MessengerBoard$Table", name := "put", desc := "(III)V" } : Jvm.MethodName)) ∈ am_tb := am_mem 754 (by decide +kernel) rfl
theorem q121 : (Jvm.Cond.methodLink "MessengerBoard$Situation" (88 : Nat) ({ cls := "java/lang/Math", name := "abs", desc := "(I)I" } : Jvm.MethodName)) ∈ am_tb := am_mem 893 (by decide +kernel) rfl
theorem q122 : (Jvm.Cond.static ({ cls := "java/lang/Math", name := "abs", desc := "(I)I" } : Jvm.MethodName)) ∈ am_tb := am_mem 894 (by decide +kernel) rfl
theorem q123 : (Jvm.Cond.code ({ cls := "java/lang/Math", name := "abs", desc := "(I)I" } : Jvm.MethodName) prog_20_method_59_code (1 : Nat) (Option.some Jvm.ClassFile.FieldType.int)) ∈ am_tb := am_mem 895 (by decide +kernel) rfl
theorem q124 : (Jvm.Cond.methodLink "MessengerBoard$Situation" (94 : Nat) ({ cls := "MessengerBoard$Situation", name := "watches", desc := "(II)Z" } : Jvm.MethodName)) ∈ am_tb := am_mem 896 (by decide +kernel) rfl
theorem q125 : (Jvm.Cond.instanceMethod ({ cls := "MessengerBoard$Situation", name := "watches", desc := "(II)Z" } : Jvm.MethodName)) ∈ am_tb := am_mem 832 (by decide +kernel) rfl
theorem q126 : (Jvm.Cond.initialized "MessengerBoard$Situation") ∈ am_tb := am_mem 110 (by decide +kernel) rfl
theorem q127 : (Jvm.Cond.code ({ cls := "MessengerBoard$Situation", name := "watches", desc := "(II)Z" } : Jvm.MethodName) prog_8_method_12_code (5 : Nat) (Option.some Jvm.ClassFile.FieldType.boolean)) ∈ am_tb := am_mem 834 (by decide +kernel) rfl
theorem q128 : (Jvm.Cond.selects "MessengerBoard$Situation" ({ cls := "MessengerBoard$Situation", name := "watches", desc := "(II)Z" } : Jvm.MethodName) ({ cls := "MessengerBoard$Situation", name := "watches", desc := "(II)Z" } : Jvm.MethodName)) ∈ am_tb := am_mem 833 (by decide +kernel) rfl
theorem q129 : (Jvm.Cond.methodLink "MessengerBoard$Trail" (3 : Nat) ({ cls := "java/lang/Object", name := "<init>", desc := "()V" } : Jvm.MethodName)) ∈ am_tb := am_mem 242 (by decide +kernel) rfl
theorem q130 : (Jvm.Cond.fieldLink "MessengerBoard$Trail" (9 : Nat) "MessengerBoard$Trail" "places" "[I") ∈ am_tb := am_mem 243 (by decide +kernel) rfl
theorem q131 : (Jvm.Cond.methodLink "MessengerBoard$Trail" (38 : Nat) ({ cls := "java/lang/System", name := "arraycopy", desc := "(Ljava/lang/Object;ILjava/lang/Object;II)V" } : Jvm.MethodName)) ∈ am_tb := am_mem 489 (by decide +kernel) rfl
theorem q132 : (Jvm.Cond.fieldLink "MessengerBoard$Trail" (15 : Nat) "MessengerBoard$Situation" "units" "LMessengerBoard$Table;") ∈ am_tb := am_mem 192 (by decide +kernel) rfl
theorem q133 : (Jvm.Cond.methodLink "MessengerBoard$Trail" (21 : Nat) ({ cls := "MessengerBoard$Table", name := "count", desc := "()I" } : Jvm.MethodName)) ∈ am_tb := am_mem 1079 (by decide +kernel) rfl
theorem q134 : (Jvm.Cond.fieldLink "MessengerBoard$Trail" (27 : Nat) "MessengerBoard$Situation" "turn" "I") ∈ am_tb := am_mem 180 (by decide +kernel) rfl
theorem q135 : (Jvm.Cond.methodLink "MessengerBoard$Trail" (31 : Nat) ({ cls := "MessengerBoard$Table", name := "get", desc := "(II)I" } : Jvm.MethodName)) ∈ am_tb := am_mem 1080 (by decide +kernel) rfl
theorem q136 : (Jvm.Cond.static ({ cls := "MessengerBoard", name := "nameOf", desc := "(II)I" } : Jvm.MethodName)) ∈ am_tb := am_mem 960 (by decide +kernel) rfl
theorem q137 : (Jvm.Cond.code ({ cls := "MessengerBoard", name := "nameOf", desc := "(II)I" } : Jvm.MethodName) prog_1_method_50_code (2 : Nat) (Option.some Jvm.ClassFile.FieldType.int)) ∈ am_tb := am_mem 961 (by decide +kernel) rfl
theorem q138 : (Jvm.Cond.methodLink "MessengerBoard$History" (3 : Nat) ({ cls := "java/lang/Object", name := "<init>", desc := "()V" } : Jvm.MethodName)) ∈ am_tb := am_mem 252 (by decide +kernel) rfl
theorem q139 : (Jvm.Cond.classLink "MessengerBoard$History" (9 : Nat) "MessengerBoard$Situation") ∈ am_tb := am_mem 253 (by decide +kernel) rfl
theorem q140 : (Jvm.Cond.fieldLink "MessengerBoard$History" (11 : Nat) "MessengerBoard$History" "ring" "[LMessengerBoard$Situation;") ∈ am_tb := am_mem 255 (by decide +kernel) rfl
theorem q141 : (Jvm.Cond.fieldLink "MessengerBoard$History" (17 : Nat) "MessengerBoard$History" "count" "I") ∈ am_tb := am_mem 257 (by decide +kernel) rfl
theorem q142 : (Jvm.Cond.fieldLink "MessengerBoard$History" (21 : Nat) "MessengerBoard$History" "oldest" "I") ∈ am_tb := am_mem 256 (by decide +kernel) rfl
theorem q143 : (Jvm.Cond.methodLink "MessengerBoard$History" (25 : Nat) ({ cls := "MessengerBoard$Situation", name := "copyFrom", desc := "(LMessengerBoard$Situation;)V" } : Jvm.MethodName)) ∈ am_tb := am_mem 464 (by decide +kernel) rfl
theorem q144 : (Jvm.Cond.instanceMethod ({ cls := "MessengerBoard$Situation", name := "copyFrom", desc := "(LMessengerBoard$Situation;)V" } : Jvm.MethodName)) ∈ am_tb := am_mem 465 (by decide +kernel) rfl
theorem q145 : (Jvm.Cond.code ({ cls := "MessengerBoard$Situation", name := "copyFrom", desc := "(LMessengerBoard$Situation;)V" } : Jvm.MethodName) prog_8_method_3_code (2 : Nat) (Option.none : Option Jvm.ClassFile.FieldType)) ∈ am_tb := am_mem 467 (by decide +kernel) rfl
theorem q146 : (Jvm.Cond.selects "MessengerBoard$Situation" ({ cls := "MessengerBoard$Situation", name := "copyFrom", desc := "(LMessengerBoard$Situation;)V" } : Jvm.MethodName) ({ cls := "MessengerBoard$Situation", name := "copyFrom", desc := "(LMessengerBoard$Situation;)V" } : Jvm.MethodName)) ∈ am_tb := am_mem 466 (by decide +kernel) rfl
theorem q147 : (Jvm.Cond.instantiable "MessengerBoard$Situation" (13 : Nat)) ∈ am_tb := am_mem 143 (by decide +kernel) rfl
theorem q148 : (Jvm.Cond.methodLink "MessengerBoard$History" (24 : Nat) ({ cls := "MessengerBoard$Situation", name := "<init>", desc := "()V" } : Jvm.MethodName)) ∈ am_tb := am_mem 1074 (by decide +kernel) rfl
theorem q149 : (Jvm.Cond.instanceMethod ({ cls := "MessengerBoard$Situation", name := "<init>", desc := "()V" } : Jvm.MethodName)) ∈ am_tb := am_mem 145 (by decide +kernel) rfl
theorem q150 : (Jvm.Cond.code ({ cls := "MessengerBoard$Situation", name := "<init>", desc := "()V" } : Jvm.MethodName) prog_8_method_1_code (1 : Nat) (Option.none : Option Jvm.ClassFile.FieldType)) ∈ am_tb := am_mem 146 (by decide +kernel) rfl
theorem q151 : (Jvm.Cond.methodLink "MessengerBoard$Paths" (3 : Nat) ({ cls := "java/lang/Object", name := "<init>", desc := "()V" } : Jvm.MethodName)) ∈ am_tb := am_mem 270 (by decide +kernel) rfl
theorem q152 : (Jvm.Cond.classLink "MessengerBoard$Paths" (9 : Nat) "MessengerBoard$Distances") ∈ am_tb := am_mem 271 (by decide +kernel) rfl
theorem q153 : (Jvm.Cond.fieldLink "MessengerBoard$Paths" (11 : Nat) "MessengerBoard$Paths" "byTarget" "[LMessengerBoard$Distances;") ∈ am_tb := am_mem 274 (by decide +kernel) rfl
theorem q154 : (Jvm.Cond.fieldLink "MessengerBoard$Paths" (17 : Nat) "MessengerBoard$Paths" "queue" "[I") ∈ am_tb := am_mem 275 (by decide +kernel) rfl
theorem q155 : (Jvm.Cond.fieldLink "MessengerBoard$Paths" (21 : Nat) "MessengerBoard$Paths" "situation" "LMessengerBoard$Situation;") ∈ am_tb := am_mem 273 (by decide +kernel) rfl
theorem q156 : (Jvm.Cond.fieldLink "MessengerBoard$Paths" (25 : Nat) "MessengerBoard$Distances" "known" "Z") ∈ am_tb := am_mem 920 (by decide +kernel) rfl
theorem q157 : (Jvm.Cond.fieldLink "MessengerBoard$Paths" (44 : Nat) "MessengerBoard$Distances" "steps" "[I") ∈ am_tb := am_mem 919 (by decide +kernel) rfl
theorem q158 : (Jvm.Cond.methodLink "MessengerBoard$Paths" (47 : Nat) ({ cls := "java/util/Arrays", name := "fill", desc := "([II)V" } : Jvm.MethodName)) ∈ am_tb := am_mem 926 (by decide +kernel) rfl
theorem q159 : (Jvm.Cond.static ({ cls := "MessengerBoard", name := "xOf", desc := "(I)I" } : Jvm.MethodName)) ∈ am_tb := am_mem 928 (by decide +kernel) rfl
theorem q160 : (Jvm.Cond.code ({ cls := "MessengerBoard", name := "xOf", desc := "(I)I" } : Jvm.MethodName) prog_1_method_48_code (1 : Nat) (Option.some Jvm.ClassFile.FieldType.int)) ∈ am_tb := am_mem 929 (by decide +kernel) rfl
theorem q161 : (Jvm.Cond.static ({ cls := "MessengerBoard", name := "yOf", desc := "(I)I" } : Jvm.MethodName)) ∈ am_tb := am_mem 931 (by decide +kernel) rfl
theorem q162 : (Jvm.Cond.code ({ cls := "MessengerBoard", name := "yOf", desc := "(I)I" } : Jvm.MethodName) prog_1_method_49_code (1 : Nat) (Option.some Jvm.ClassFile.FieldType.int)) ∈ am_tb := am_mem 932 (by decide +kernel) rfl
theorem q163 : (Jvm.Cond.methodLink "MessengerBoard$Paths" (59 : Nat) ({ cls := "MessengerBoard$Situation", name := "walled", desc := "(II)Z" } : Jvm.MethodName)) ∈ am_tb := am_mem 933 (by decide +kernel) rfl
theorem q164 : (Jvm.Cond.instanceMethod ({ cls := "MessengerBoard$Situation", name := "walled", desc := "(II)Z" } : Jvm.MethodName)) ∈ am_tb := am_mem 711 (by decide +kernel) rfl
theorem q165 : (Jvm.Cond.code ({ cls := "MessengerBoard$Situation", name := "walled", desc := "(II)Z" } : Jvm.MethodName) prog_8_method_5_code (4 : Nat) (Option.some Jvm.ClassFile.FieldType.boolean)) ∈ am_tb := am_mem 713 (by decide +kernel) rfl
theorem q166 : (Jvm.Cond.selects "MessengerBoard$Situation" ({ cls := "MessengerBoard$Situation", name := "walled", desc := "(II)Z" } : Jvm.MethodName) ({ cls := "MessengerBoard$Situation", name := "walled", desc := "(II)Z" } : Jvm.MethodName)) ∈ am_tb := am_mem 712 (by decide +kernel) rfl
theorem q167 : (Jvm.Cond.methodLink "MessengerBoard$Paths" (37 : Nat) ({ cls := "MessengerBoard$Situation", name := "freeBeside", desc := "(II)I" } : Jvm.MethodName)) ∈ am_tb := am_mem 938 (by decide +kernel) rfl
theorem q168 : (Jvm.Cond.instanceMethod ({ cls := "MessengerBoard$Situation", name := "freeBeside", desc := "(II)I" } : Jvm.MethodName)) ∈ am_tb := am_mem 939 (by decide +kernel) rfl
theorem q169 : (Jvm.Cond.code ({ cls := "MessengerBoard$Situation", name := "freeBeside", desc := "(II)I" } : Jvm.MethodName) prog_8_method_7_code (6 : Nat) (Option.some Jvm.ClassFile.FieldType.int)) ∈ am_tb := am_mem 941 (by decide +kernel) rfl
theorem q170 : (Jvm.Cond.selects "MessengerBoard$Situation" ({ cls := "MessengerBoard$Situation", name := "freeBeside", desc := "(II)I" } : Jvm.MethodName) ({ cls := "MessengerBoard$Situation", name := "freeBeside", desc := "(II)I" } : Jvm.MethodName)) ∈ am_tb := am_mem 940 (by decide +kernel) rfl
theorem q171 : (Jvm.Cond.methodLink "MessengerBoard$Paths" (33 : Nat) ({ cls := "MessengerBoard$Distances", name := "from", desc := "(I)I" } : Jvm.MethodName)) ∈ am_tb := am_mem 942 (by decide +kernel) rfl
theorem q172 : (Jvm.Cond.instanceMethod ({ cls := "MessengerBoard$Distances", name := "from", desc := "(I)I" } : Jvm.MethodName)) ∈ am_tb := am_mem 943 (by decide +kernel) rfl
theorem q173 : (Jvm.Cond.initialized "MessengerBoard$Distances") ∈ am_tb := am_mem 132 (by decide +kernel) rfl
theorem q174 : (Jvm.Cond.code ({ cls := "MessengerBoard$Distances", name := "from", desc := "(I)I" } : Jvm.MethodName) prog_4_method_2_code (2 : Nat) (Option.some Jvm.ClassFile.FieldType.int)) ∈ am_tb := am_mem 945 (by decide +kernel) rfl
theorem q175 : (Jvm.Cond.selects "MessengerBoard$Distances" ({ cls := "MessengerBoard$Distances", name := "from", desc := "(I)I" } : Jvm.MethodName) ({ cls := "MessengerBoard$Distances", name := "from", desc := "(I)I" } : Jvm.MethodName)) ∈ am_tb := am_mem 944 (by decide +kernel) rfl
theorem q176 : (Jvm.Cond.methodLink "MessengerBoard$Paths" (63 : Nat) ({ cls := "MessengerBoard$Distances", name := "set", desc := "(II)V" } : Jvm.MethodName)) ∈ am_tb := am_mem 934 (by decide +kernel) rfl
theorem q177 : (Jvm.Cond.instanceMethod ({ cls := "MessengerBoard$Distances", name := "set", desc := "(II)V" } : Jvm.MethodName)) ∈ am_tb := am_mem 935 (by decide +kernel) rfl
theorem q178 : (Jvm.Cond.code ({ cls := "MessengerBoard$Distances", name := "set", desc := "(II)V" } : Jvm.MethodName) prog_4_method_3_code (3 : Nat) (Option.none : Option Jvm.ClassFile.FieldType)) ∈ am_tb := am_mem 937 (by decide +kernel) rfl
theorem q179 : (Jvm.Cond.selects "MessengerBoard$Distances" ({ cls := "MessengerBoard$Distances", name := "set", desc := "(II)V" } : Jvm.MethodName) ({ cls := "MessengerBoard$Distances", name := "set", desc := "(II)V" } : Jvm.MethodName)) ∈ am_tb := am_mem 936 (by decide +kernel) rfl
theorem q180 : (Jvm.Cond.instantiable "MessengerBoard$Distances" (2 : Nat)) ∈ am_tb := am_mem 913 (by decide +kernel) rfl
theorem q181 : (Jvm.Cond.instanceMethod ({ cls := "MessengerBoard$Distances", name := "<init>", desc := "()V" } : Jvm.MethodName)) ∈ am_tb := am_mem 915 (by decide +kernel) rfl
theorem q182 : (Jvm.Cond.code ({ cls := "MessengerBoard$Distances", name := "<init>", desc := "()V" } : Jvm.MethodName) prog_4_method_1_code (1 : Nat) (Option.none : Option Jvm.ClassFile.FieldType)) ∈ am_tb := am_mem 916 (by decide +kernel) rfl
theorem q183 : (Jvm.Cond.methodLink "MessengerBoard$Paths" (29 : Nat) ({ cls := "MessengerBoard$Paths", name := "toward", desc := "(I)LMessengerBoard$Distances;" } : Jvm.MethodName)) ∈ am_tb := am_mem 909 (by decide +kernel) rfl
theorem q184 : (Jvm.Cond.instanceMethod ({ cls := "MessengerBoard$Paths", name := "toward", desc := "(I)LMessengerBoard$Distances;" } : Jvm.MethodName)) ∈ am_tb := am_mem 911 (by decide +kernel) rfl
theorem q185 : (Jvm.Cond.initialized "MessengerBoard$Paths") ∈ am_tb := am_mem 114 (by decide +kernel) rfl
theorem q186 : (Jvm.Cond.code ({ cls := "MessengerBoard$Paths", name := "toward", desc := "(I)LMessengerBoard$Distances;" } : Jvm.MethodName) prog_6_method_5_code (8 : Nat) (Option.some (Jvm.ClassFile.FieldType.object "MessengerBoard$Distances"))) ∈ am_tb := am_mem 912 (by decide +kernel) rfl
theorem q187 : Jvm.Cond.selects "MessengerBoard$Paths" ⟨"MessengerBoard$Paths", "toward", "(I)LMessengerBoard$Distances;"⟩ ⟨"MessengerBoard$Paths", "toward", "(I)LMessengerBoard$Distances;"⟩ ∈ am_tb := am_mem 16 (by decide +kernel) rfl
theorem q188 : (Jvm.Cond.methodLink "MessengerBoard$Clock" (3 : Nat) ({ cls := "java/lang/Object", name := "<init>", desc := "()V" } : Jvm.MethodName)) ∈ am_tb := am_mem 288 (by decide +kernel) rfl
theorem q189 : (Jvm.Cond.fieldLink "MessengerBoard$Clock" (9 : Nat) "MessengerBoard$Clock" "paths" "LMessengerBoard$Paths;") ∈ am_tb := am_mem 289 (by decide +kernel) rfl
theorem q190 : (Jvm.Cond.fieldLink "MessengerBoard$Clock" (56 : Nat) "MessengerBoard$Situation" "plans" "LMessengerBoard$Table;") ∈ am_tb := am_mem 201 (by decide +kernel) rfl
theorem q191 : (Jvm.Cond.methodLink "MessengerBoard$Clock" (25 : Nat) ({ cls := "MessengerBoard$Table", name := "count", desc := "()I" } : Jvm.MethodName)) ∈ am_tb := am_mem 1012 (by decide +kernel) rfl
theorem q192 : (Jvm.Cond.methodLink "MessengerBoard$Clock" (31 : Nat) ({ cls := "MessengerBoard$Table", name := "get", desc := "(II)I" } : Jvm.MethodName)) ∈ am_tb := am_mem 1013 (by decide +kernel) rfl
theorem q193 : (Jvm.Cond.fieldLink "MessengerBoard$Clock" (39 : Nat) "MessengerBoard$Situation" "turn" "I") ∈ am_tb := am_mem 182 (by decide +kernel) rfl
theorem q194 : (Jvm.Cond.methodLink "MessengerBoard$Clock" (59 : Nat) ({ cls := "MessengerBoard$Situation", name := "addOrder", desc := "(III)I" } : Jvm.MethodName)) ∈ am_tb := am_mem 1014 (by decide +kernel) rfl
theorem q195 : (Jvm.Cond.instanceMethod ({ cls := "MessengerBoard$Situation", name := "addOrder", desc := "(III)I" } : Jvm.MethodName)) ∈ am_tb := am_mem 1001 (by decide +kernel) rfl
theorem q196 : (Jvm.Cond.code ({ cls := "MessengerBoard$Situation", name := "addOrder", desc := "(III)I" } : Jvm.MethodName) prog_8_method_19_code (5 : Nat) (Option.some Jvm.ClassFile.FieldType.int)) ∈ am_tb := am_mem 1003 (by decide +kernel) rfl
theorem q197 : (Jvm.Cond.selects "MessengerBoard$Situation" ({ cls := "MessengerBoard$Situation", name := "addOrder", desc := "(III)I" } : Jvm.MethodName) ({ cls := "MessengerBoard$Situation", name := "addOrder", desc := "(III)I" } : Jvm.MethodName)) ∈ am_tb := am_mem 1002 (by decide +kernel) rfl
theorem q198 : (Jvm.Cond.fieldLink "MessengerBoard$Clock" (19 : Nat) "MessengerBoard$Situation" "orders" "LMessengerBoard$Table;") ∈ am_tb := am_mem 205 (by decide +kernel) rfl
theorem q199 : (Jvm.Cond.methodLink "MessengerBoard$Clock" (75 : Nat) ({ cls := "MessengerBoard$Table", name := "put", desc := "(III)V" } : Jvm.MethodName)) ∈ am_tb := am_mem 1022 (by decide +kernel) rfl
theorem q200 : (Jvm.Cond.fieldLink "MessengerBoard$Clock" (50 : Nat) "MessengerBoard$Situation" "units" "LMessengerBoard$Table;") ∈ am_tb := am_mem 193 (by decide +kernel) rfl
theorem q201 : (Jvm.Cond.methodLink "MessengerBoard$Clock" (92 : Nat) ({ cls := "MessengerBoard$Situation", name := "obeyedBy", desc := "(I)I" } : Jvm.MethodName)) ∈ am_tb := am_mem 1033 (by decide +kernel) rfl
theorem q202 : (Jvm.Cond.instanceMethod ({ cls := "MessengerBoard$Situation", name := "obeyedBy", desc := "(I)I" } : Jvm.MethodName)) ∈ am_tb := am_mem 817 (by decide +kernel) rfl
theorem q203 : (Jvm.Cond.code ({ cls := "MessengerBoard$Situation", name := "obeyedBy", desc := "(I)I" } : Jvm.MethodName) prog_8_method_14_code (3 : Nat) (Option.some Jvm.ClassFile.FieldType.int)) ∈ am_tb := am_mem 819 (by decide +kernel) rfl
theorem q204 : (Jvm.Cond.selects "MessengerBoard$Situation" ({ cls := "MessengerBoard$Situation", name := "obeyedBy", desc := "(I)I" } : Jvm.MethodName) ({ cls := "MessengerBoard$Situation", name := "obeyedBy", desc := "(I)I" } : Jvm.MethodName)) ∈ am_tb := am_mem 818 (by decide +kernel) rfl
theorem q205 : (Jvm.Cond.methodLink "MessengerBoard$Clock" (46 : Nat) ({ cls := "MessengerBoard$Situation", name := "changeOrder", desc := "(II)V" } : Jvm.MethodName)) ∈ am_tb := am_mem 1025 (by decide +kernel) rfl
theorem q206 : (Jvm.Cond.instanceMethod ({ cls := "MessengerBoard$Situation", name := "changeOrder", desc := "(II)V" } : Jvm.MethodName)) ∈ am_tb := am_mem 1026 (by decide +kernel) rfl
theorem q207 : (Jvm.Cond.code ({ cls := "MessengerBoard$Situation", name := "changeOrder", desc := "(II)V" } : Jvm.MethodName) prog_8_method_20_code (4 : Nat) (Option.none : Option Jvm.ClassFile.FieldType)) ∈ am_tb := am_mem 1028 (by decide +kernel) rfl
theorem q208 : (Jvm.Cond.selects "MessengerBoard$Situation" ({ cls := "MessengerBoard$Situation", name := "changeOrder", desc := "(II)V" } : Jvm.MethodName) ({ cls := "MessengerBoard$Situation", name := "changeOrder", desc := "(II)V" } : Jvm.MethodName)) ∈ am_tb := am_mem 1027 (by decide +kernel) rfl
theorem q209 : (Jvm.Cond.methodLink "MessengerBoard$Clock" (88 : Nat) ({ cls := "MessengerBoard$Clock", name := "arrive", desc := "(LMessengerBoard$Situation;II)V" } : Jvm.MethodName)) ∈ am_tb := am_mem 1029 (by decide +kernel) rfl
theorem q210 : (Jvm.Cond.instanceMethod ({ cls := "MessengerBoard$Clock", name := "arrive", desc := "(LMessengerBoard$Situation;II)V" } : Jvm.MethodName)) ∈ am_tb := am_mem 1031 (by decide +kernel) rfl
theorem q211 : (Jvm.Cond.initialized "MessengerBoard$Clock") ∈ am_tb := am_mem 115 (by decide +kernel) rfl
theorem q212 : (Jvm.Cond.code ({ cls := "MessengerBoard$Clock", name := "arrive", desc := "(LMessengerBoard$Situation;II)V" } : Jvm.MethodName) prog_3_method_5_code (5 : Nat) (Option.none : Option Jvm.ClassFile.FieldType)) ∈ am_tb := am_mem 1032 (by decide +kernel) rfl
theorem q213 : Jvm.Cond.selects "MessengerBoard$Clock" ⟨"MessengerBoard$Clock", "arrive", "(LMessengerBoard$Situation;II)V"⟩ ⟨"MessengerBoard$Clock", "arrive", "(LMessengerBoard$Situation;II)V"⟩ ∈ am_tb := am_mem 21 (by decide +kernel) rfl
theorem q214 : (Jvm.Cond.methodLink "MessengerBoard$Clock" (66 : Nat) ({ cls := "MessengerBoard$Paths", name := "nextCell", desc := "(II)I" } : Jvm.MethodName)) ∈ am_tb := am_mem 1020 (by decide +kernel) rfl
theorem q215 : (Jvm.Cond.instanceMethod ({ cls := "MessengerBoard$Paths", name := "nextCell", desc := "(II)I" } : Jvm.MethodName)) ∈ am_tb := am_mem 954 (by decide +kernel) rfl
theorem q216 : (Jvm.Cond.code ({ cls := "MessengerBoard$Paths", name := "nextCell", desc := "(II)I" } : Jvm.MethodName) prog_6_method_4_code (8 : Nat) (Option.some Jvm.ClassFile.FieldType.int)) ∈ am_tb := am_mem 956 (by decide +kernel) rfl
theorem q217 : (Jvm.Cond.selects "MessengerBoard$Paths" ({ cls := "MessengerBoard$Paths", name := "nextCell", desc := "(II)I" } : Jvm.MethodName) ({ cls := "MessengerBoard$Paths", name := "nextCell", desc := "(II)I" } : Jvm.MethodName)) ∈ am_tb := am_mem 955 (by decide +kernel) rfl
theorem q218 : (Jvm.Cond.methodLink "MessengerBoard$Clock" (82 : Nat) ({ cls := "MessengerBoard$Situation", name := "watcher", desc := "(III)I" } : Jvm.MethodName)) ∈ am_tb := am_mem 1024 (by decide +kernel) rfl
theorem q219 : (Jvm.Cond.instanceMethod ({ cls := "MessengerBoard$Situation", name := "watcher", desc := "(III)I" } : Jvm.MethodName)) ∈ am_tb := am_mem 890 (by decide +kernel) rfl
theorem q220 : (Jvm.Cond.code ({ cls := "MessengerBoard$Situation", name := "watcher", desc := "(III)I" } : Jvm.MethodName) prog_8_method_13_code (8 : Nat) (Option.some Jvm.ClassFile.FieldType.int)) ∈ am_tb := am_mem 892 (by decide +kernel) rfl
theorem q221 : (Jvm.Cond.selects "MessengerBoard$Situation" ({ cls := "MessengerBoard$Situation", name := "watcher", desc := "(III)I" } : Jvm.MethodName) ({ cls := "MessengerBoard$Situation", name := "watcher", desc := "(III)I" } : Jvm.MethodName)) ∈ am_tb := am_mem 891 (by decide +kernel) rfl
theorem q222 : (Jvm.Cond.fieldLink "MessengerBoard$Clock" (85 : Nat) "MessengerBoard$Situation" "pickets" "LMessengerBoard$Table;") ∈ am_tb := am_mem 197 (by decide +kernel) rfl
theorem q223 : (Jvm.Cond.methodLink "MessengerBoard$Clock" (15 : Nat) ({ cls := "MessengerBoard$Clock", name := "sendPlanned", desc := "(LMessengerBoard$Situation;)V" } : Jvm.MethodName)) ∈ am_tb := am_mem 1008 (by decide +kernel) rfl
theorem q224 : (Jvm.Cond.instanceMethod ({ cls := "MessengerBoard$Clock", name := "sendPlanned", desc := "(LMessengerBoard$Situation;)V" } : Jvm.MethodName)) ∈ am_tb := am_mem 1010 (by decide +kernel) rfl
theorem q225 : (Jvm.Cond.code ({ cls := "MessengerBoard$Clock", name := "sendPlanned", desc := "(LMessengerBoard$Situation;)V" } : Jvm.MethodName) prog_3_method_3_code (5 : Nat) (Option.none : Option Jvm.ClassFile.FieldType)) ∈ am_tb := am_mem 1011 (by decide +kernel) rfl
theorem q226 : Jvm.Cond.selects "MessengerBoard$Clock" ⟨"MessengerBoard$Clock", "sendPlanned", "(LMessengerBoard$Situation;)V"⟩ ⟨"MessengerBoard$Clock", "sendPlanned", "(LMessengerBoard$Situation;)V"⟩ ∈ am_tb := am_mem 19 (by decide +kernel) rfl
theorem q227 : (Jvm.Cond.methodLink "MessengerBoard$Clock" (53 : Nat) ({ cls := "MessengerBoard$Clock", name := "march", desc := "(LMessengerBoard$Situation;I)V" } : Jvm.MethodName)) ∈ am_tb := am_mem 1034 (by decide +kernel) rfl
theorem q228 : (Jvm.Cond.instanceMethod ({ cls := "MessengerBoard$Clock", name := "march", desc := "(LMessengerBoard$Situation;I)V" } : Jvm.MethodName)) ∈ am_tb := am_mem 1036 (by decide +kernel) rfl
theorem q229 : (Jvm.Cond.code ({ cls := "MessengerBoard$Clock", name := "march", desc := "(LMessengerBoard$Situation;I)V" } : Jvm.MethodName) prog_3_method_6_code (9 : Nat) (Option.none : Option Jvm.ClassFile.FieldType)) ∈ am_tb := am_mem 1037 (by decide +kernel) rfl
theorem q230 : Jvm.Cond.selects "MessengerBoard$Clock" ⟨"MessengerBoard$Clock", "march", "(LMessengerBoard$Situation;I)V"⟩ ⟨"MessengerBoard$Clock", "march", "(LMessengerBoard$Situation;I)V"⟩ ∈ am_tb := am_mem 22 (by decide +kernel) rfl
theorem q231 : (Jvm.Cond.fieldLink "MessengerBoard$Clock" (43 : Nat) "MessengerBoard$Situation" "patience" "I") ∈ am_tb := am_mem 185 (by decide +kernel) rfl
theorem q232 : (Jvm.Cond.methodLink "MessengerBoard$Clock" (35 : Nat) ({ cls := "MessengerBoard$Clock", name := "carry", desc := "(LMessengerBoard$Situation;I)V" } : Jvm.MethodName)) ∈ am_tb := am_mem 1015 (by decide +kernel) rfl
theorem q233 : (Jvm.Cond.instanceMethod ({ cls := "MessengerBoard$Clock", name := "carry", desc := "(LMessengerBoard$Situation;I)V" } : Jvm.MethodName)) ∈ am_tb := am_mem 1017 (by decide +kernel) rfl
theorem q234 : (Jvm.Cond.code ({ cls := "MessengerBoard$Clock", name := "carry", desc := "(LMessengerBoard$Situation;I)V" } : Jvm.MethodName) prog_3_method_4_code (10 : Nat) (Option.none : Option Jvm.ClassFile.FieldType)) ∈ am_tb := am_mem 1018 (by decide +kernel) rfl
theorem q235 : Jvm.Cond.selects "MessengerBoard$Clock" ⟨"MessengerBoard$Clock", "carry", "(LMessengerBoard$Situation;I)V"⟩ ⟨"MessengerBoard$Clock", "carry", "(LMessengerBoard$Situation;I)V"⟩ ∈ am_tb := am_mem 20 (by decide +kernel) rfl
theorem q236 : (Jvm.Cond.methodLink "MessengerBoard$BoardReader" (3 : Nat) ({ cls := "java/lang/Object", name := "<init>", desc := "()V" } : Jvm.MethodName)) ∈ am_tb := am_mem 329 (by decide +kernel) rfl
theorem q237 : (Jvm.Cond.fieldLink "MessengerBoard$BoardReader" (9 : Nat) "MessengerBoard$BoardReader" "tokens" "LMessengerBoard$Tokens;") ∈ am_tb := am_mem 330 (by decide +kernel) rfl
theorem q238 : (Jvm.Cond.fieldLink "MessengerBoard$BoardReader" (15 : Nat) "MessengerBoard$BoardReader" "draft" "LMessengerBoard$Situation;") ∈ am_tb := am_mem 331 (by decide +kernel) rfl
theorem q239 : (Jvm.Cond.methodLink "MessengerBoard$BoardReader" (56 : Nat) ({ cls := "MessengerBoard$Tokens", name := "sound", desc := "()Z" } : Jvm.MethodName)) ∈ am_tb := am_mem 669 (by decide +kernel) rfl
theorem q240 : (Jvm.Cond.instanceMethod ({ cls := "MessengerBoard$Tokens", name := "sound", desc := "()Z" } : Jvm.MethodName)) ∈ am_tb := am_mem 670 (by decide +kernel) rfl
theorem q241 : (Jvm.Cond.code ({ cls := "MessengerBoard$Tokens", name := "sound", desc := "()Z" } : Jvm.MethodName) prog_10_method_4_code (1 : Nat) (Option.some Jvm.ClassFile.FieldType.boolean)) ∈ am_tb := am_mem 672 (by decide +kernel) rfl
theorem q242 : (Jvm.Cond.selects "MessengerBoard$Tokens" ({ cls := "MessengerBoard$Tokens", name := "sound", desc := "()Z" } : Jvm.MethodName) ({ cls := "MessengerBoard$Tokens", name := "sound", desc := "()Z" } : Jvm.MethodName)) ∈ am_tb := am_mem 671 (by decide +kernel) rfl
theorem q243 : (Jvm.Cond.methodLink "MessengerBoard$BoardReader" (30 : Nat) ({ cls := "MessengerBoard$Tokens", name := "next", desc := "()V" } : Jvm.MethodName)) ∈ am_tb := am_mem 595 (by decide +kernel) rfl
theorem q244 : (Jvm.Cond.instanceMethod ({ cls := "MessengerBoard$Tokens", name := "next", desc := "()V" } : Jvm.MethodName)) ∈ am_tb := am_mem 596 (by decide +kernel) rfl
theorem q245 : (Jvm.Cond.code ({ cls := "MessengerBoard$Tokens", name := "next", desc := "()V" } : Jvm.MethodName) prog_10_method_7_code (1 : Nat) (Option.none : Option Jvm.ClassFile.FieldType)) ∈ am_tb := am_mem 598 (by decide +kernel) rfl
theorem q246 : (Jvm.Cond.selects "MessengerBoard$Tokens" ({ cls := "MessengerBoard$Tokens", name := "next", desc := "()V" } : Jvm.MethodName) ({ cls := "MessengerBoard$Tokens", name := "next", desc := "()V" } : Jvm.MethodName)) ∈ am_tb := am_mem 597 (by decide +kernel) rfl
theorem q247 : (Jvm.Cond.methodLink "MessengerBoard$BoardReader" (155 : Nat) ({ cls := "MessengerBoard$Tokens", name := "isNumber", desc := "()Z" } : Jvm.MethodName)) ∈ am_tb := am_mem 673 (by decide +kernel) rfl
theorem q248 : (Jvm.Cond.instanceMethod ({ cls := "MessengerBoard$Tokens", name := "isNumber", desc := "()Z" } : Jvm.MethodName)) ∈ am_tb := am_mem 674 (by decide +kernel) rfl
theorem q249 : (Jvm.Cond.code ({ cls := "MessengerBoard$Tokens", name := "isNumber", desc := "()Z" } : Jvm.MethodName) prog_10_method_11_code (1 : Nat) (Option.some Jvm.ClassFile.FieldType.boolean)) ∈ am_tb := am_mem 676 (by decide +kernel) rfl
theorem q250 : (Jvm.Cond.selects "MessengerBoard$Tokens" ({ cls := "MessengerBoard$Tokens", name := "isNumber", desc := "()Z" } : Jvm.MethodName) ({ cls := "MessengerBoard$Tokens", name := "isNumber", desc := "()Z" } : Jvm.MethodName)) ∈ am_tb := am_mem 675 (by decide +kernel) rfl
theorem q251 : (Jvm.Cond.methodLink "MessengerBoard$BoardReader" (158 : Nat) ({ cls := "MessengerBoard$Tokens", name := "value", desc := "()I" } : Jvm.MethodName)) ∈ am_tb := am_mem 677 (by decide +kernel) rfl
theorem q252 : (Jvm.Cond.instanceMethod ({ cls := "MessengerBoard$Tokens", name := "value", desc := "()I" } : Jvm.MethodName)) ∈ am_tb := am_mem 678 (by decide +kernel) rfl
theorem q253 : (Jvm.Cond.code ({ cls := "MessengerBoard$Tokens", name := "value", desc := "()I" } : Jvm.MethodName) prog_10_method_12_code (1 : Nat) (Option.some Jvm.ClassFile.FieldType.int)) ∈ am_tb := am_mem 680 (by decide +kernel) rfl
theorem q254 : (Jvm.Cond.selects "MessengerBoard$Tokens" ({ cls := "MessengerBoard$Tokens", name := "value", desc := "()I" } : Jvm.MethodName) ({ cls := "MessengerBoard$Tokens", name := "value", desc := "()I" } : Jvm.MethodName)) ∈ am_tb := am_mem 679 (by decide +kernel) rfl
theorem q255 : (Jvm.Cond.methodLink "MessengerBoard$BoardReader" (39 : Nat) ({ cls := "MessengerBoard$Tokens", name := "fail", desc := "(I)V" } : Jvm.MethodName)) ∈ am_tb := am_mem 661 (by decide +kernel) rfl
theorem q256 : (Jvm.Cond.instanceMethod ({ cls := "MessengerBoard$Tokens", name := "fail", desc := "(I)V" } : Jvm.MethodName)) ∈ am_tb := am_mem 662 (by decide +kernel) rfl
theorem q257 : (Jvm.Cond.code ({ cls := "MessengerBoard$Tokens", name := "fail", desc := "(I)V" } : Jvm.MethodName) prog_10_method_3_code (2 : Nat) (Option.none : Option Jvm.ClassFile.FieldType)) ∈ am_tb := am_mem 664 (by decide +kernel) rfl
theorem q258 : (Jvm.Cond.selects "MessengerBoard$Tokens" ({ cls := "MessengerBoard$Tokens", name := "fail", desc := "(I)V" } : Jvm.MethodName) ({ cls := "MessengerBoard$Tokens", name := "fail", desc := "(I)V" } : Jvm.MethodName)) ∈ am_tb := am_mem 663 (by decide +kernel) rfl
theorem q259 : (Jvm.Cond.methodLink "MessengerBoard$BoardReader" (161 : Nat) ({ cls := "MessengerBoard$Tokens", name := "isSign", desc := "(C)Z" } : Jvm.MethodName)) ∈ am_tb := am_mem 685 (by decide +kernel) rfl
theorem q260 : (Jvm.Cond.instanceMethod ({ cls := "MessengerBoard$Tokens", name := "isSign", desc := "(C)Z" } : Jvm.MethodName)) ∈ am_tb := am_mem 686 (by decide +kernel) rfl
theorem q261 : (Jvm.Cond.code ({ cls := "MessengerBoard$Tokens", name := "isSign", desc := "(C)Z" } : Jvm.MethodName) prog_10_method_13_code (2 : Nat) (Option.some Jvm.ClassFile.FieldType.boolean)) ∈ am_tb := am_mem 688 (by decide +kernel) rfl
theorem q262 : (Jvm.Cond.selects "MessengerBoard$Tokens" ({ cls := "MessengerBoard$Tokens", name := "isSign", desc := "(C)Z" } : Jvm.MethodName) ({ cls := "MessengerBoard$Tokens", name := "isSign", desc := "(C)Z" } : Jvm.MethodName)) ∈ am_tb := am_mem 687 (by decide +kernel) rfl
theorem q263 : (Jvm.Cond.fieldLink "MessengerBoard$BoardReader" (49 : Nat) "MessengerBoard$Situation" "width" "I") ∈ am_tb := am_mem 169 (by decide +kernel) rfl
theorem q264 : (Jvm.Cond.methodLink "MessengerBoard$BoardReader" (42 : Nat) ({ cls := "MessengerBoard$BoardReader", name := "readNumber", desc := "(II)I" } : Jvm.MethodName)) ∈ am_tb := am_mem 665 (by decide +kernel) rfl
theorem q265 : (Jvm.Cond.instanceMethod ({ cls := "MessengerBoard$BoardReader", name := "readNumber", desc := "(II)I" } : Jvm.MethodName)) ∈ am_tb := am_mem 667 (by decide +kernel) rfl
theorem q266 : (Jvm.Cond.initialized "MessengerBoard$BoardReader") ∈ am_tb := am_mem 117 (by decide +kernel) rfl
theorem q267 : (Jvm.Cond.code ({ cls := "MessengerBoard$BoardReader", name := "readNumber", desc := "(II)I" } : Jvm.MethodName) prog_2_method_12_code (4 : Nat) (Option.some Jvm.ClassFile.FieldType.int)) ∈ am_tb := am_mem 668 (by decide +kernel) rfl
theorem q268 : Jvm.Cond.selects "MessengerBoard$BoardReader" ⟨"MessengerBoard$BoardReader", "readNumber", "(II)I"⟩ ⟨"MessengerBoard$BoardReader", "readNumber", "(II)I"⟩ ∈ am_tb := am_mem 4 (by decide +kernel) rfl
theorem q269 : (Jvm.Cond.fieldLink "MessengerBoard$BoardReader" (53 : Nat) "MessengerBoard$Situation" "height" "I") ∈ am_tb := am_mem 172 (by decide +kernel) rfl
theorem q270 : (Jvm.Cond.methodLink "MessengerBoard$BoardReader" (99 : Nat) ({ cls := "MessengerBoard$BoardReader", name := "readColumn", desc := "()I" } : Jvm.MethodName)) ∈ am_tb := am_mem 702 (by decide +kernel) rfl
theorem q271 : (Jvm.Cond.instanceMethod ({ cls := "MessengerBoard$BoardReader", name := "readColumn", desc := "()I" } : Jvm.MethodName)) ∈ am_tb := am_mem 704 (by decide +kernel) rfl
theorem q272 : (Jvm.Cond.code ({ cls := "MessengerBoard$BoardReader", name := "readColumn", desc := "()I" } : Jvm.MethodName) prog_2_method_9_code (1 : Nat) (Option.some Jvm.ClassFile.FieldType.int)) ∈ am_tb := am_mem 705 (by decide +kernel) rfl
theorem q273 : Jvm.Cond.selects "MessengerBoard$BoardReader" ⟨"MessengerBoard$BoardReader", "readColumn", "()I"⟩ ⟨"MessengerBoard$BoardReader", "readColumn", "()I"⟩ ∈ am_tb := am_mem 8 (by decide +kernel) rfl
theorem q274 : (Jvm.Cond.methodLink "MessengerBoard$BoardReader" (102 : Nat) ({ cls := "MessengerBoard$BoardReader", name := "readRow", desc := "()I" } : Jvm.MethodName)) ∈ am_tb := am_mem 706 (by decide +kernel) rfl
theorem q275 : (Jvm.Cond.instanceMethod ({ cls := "MessengerBoard$BoardReader", name := "readRow", desc := "()I" } : Jvm.MethodName)) ∈ am_tb := am_mem 708 (by decide +kernel) rfl
theorem q276 : (Jvm.Cond.code ({ cls := "MessengerBoard$BoardReader", name := "readRow", desc := "()I" } : Jvm.MethodName) prog_2_method_10_code (1 : Nat) (Option.some Jvm.ClassFile.FieldType.int)) ∈ am_tb := am_mem 709 (by decide +kernel) rfl
theorem q277 : Jvm.Cond.selects "MessengerBoard$BoardReader" ⟨"MessengerBoard$BoardReader", "readRow", "()I"⟩ ⟨"MessengerBoard$BoardReader", "readRow", "()I"⟩ ∈ am_tb := am_mem 9 (by decide +kernel) rfl
theorem q278 : (Jvm.Cond.methodLink "MessengerBoard$BoardReader" (105 : Nat) ({ cls := "MessengerBoard$Situation", name := "walled", desc := "(II)Z" } : Jvm.MethodName)) ∈ am_tb := am_mem 710 (by decide +kernel) rfl
theorem q279 : (Jvm.Cond.methodLink "MessengerBoard$BoardReader" (115 : Nat) ({ cls := "MessengerBoard$Situation", name := "turnWall", desc := "(II)V" } : Jvm.MethodName)) ∈ am_tb := am_mem 722 (by decide +kernel) rfl
theorem q280 : (Jvm.Cond.instanceMethod ({ cls := "MessengerBoard$Situation", name := "turnWall", desc := "(II)V" } : Jvm.MethodName)) ∈ am_tb := am_mem 723 (by decide +kernel) rfl
theorem q281 : (Jvm.Cond.code ({ cls := "MessengerBoard$Situation", name := "turnWall", desc := "(II)V" } : Jvm.MethodName) prog_8_method_6_code (4 : Nat) (Option.none : Option Jvm.ClassFile.FieldType)) ∈ am_tb := am_mem 725 (by decide +kernel) rfl
theorem q282 : (Jvm.Cond.selects "MessengerBoard$Situation" ({ cls := "MessengerBoard$Situation", name := "turnWall", desc := "(II)V" } : Jvm.MethodName) ({ cls := "MessengerBoard$Situation", name := "turnWall", desc := "(II)V" } : Jvm.MethodName)) ∈ am_tb := am_mem 724 (by decide +kernel) rfl
theorem q283 : (Jvm.Cond.methodLink "MessengerBoard$BoardReader" (109 : Nat) ({ cls := "MessengerBoard$Situation", name := "isHeadquarters", desc := "(II)Z" } : Jvm.MethodName)) ∈ am_tb := am_mem 714 (by decide +kernel) rfl
theorem q284 : (Jvm.Cond.instanceMethod ({ cls := "MessengerBoard$Situation", name := "isHeadquarters", desc := "(II)Z" } : Jvm.MethodName)) ∈ am_tb := am_mem 715 (by decide +kernel) rfl
theorem q285 : (Jvm.Cond.code ({ cls := "MessengerBoard$Situation", name := "isHeadquarters", desc := "(II)Z" } : Jvm.MethodName) prog_8_method_8_code (3 : Nat) (Option.some Jvm.ClassFile.FieldType.boolean)) ∈ am_tb := am_mem 717 (by decide +kernel) rfl
theorem q286 : (Jvm.Cond.selects "MessengerBoard$Situation" ({ cls := "MessengerBoard$Situation", name := "isHeadquarters", desc := "(II)Z" } : Jvm.MethodName) ({ cls := "MessengerBoard$Situation", name := "isHeadquarters", desc := "(II)Z" } : Jvm.MethodName)) ∈ am_tb := am_mem 716 (by decide +kernel) rfl
theorem q287 : (Jvm.Cond.methodLink "MessengerBoard$BoardReader" (112 : Nat) ({ cls := "MessengerBoard$Situation", name := "lowestUnitAt", desc := "(II)I" } : Jvm.MethodName)) ∈ am_tb := am_mem 718 (by decide +kernel) rfl
theorem q288 : (Jvm.Cond.instanceMethod ({ cls := "MessengerBoard$Situation", name := "lowestUnitAt", desc := "(II)I" } : Jvm.MethodName)) ∈ am_tb := am_mem 719 (by decide +kernel) rfl
theorem q289 : (Jvm.Cond.code ({ cls := "MessengerBoard$Situation", name := "lowestUnitAt", desc := "(II)I" } : Jvm.MethodName) prog_8_method_9_code (5 : Nat) (Option.some Jvm.ClassFile.FieldType.int)) ∈ am_tb := am_mem 721 (by decide +kernel) rfl
theorem q290 : (Jvm.Cond.selects "MessengerBoard$Situation" ({ cls := "MessengerBoard$Situation", name := "lowestUnitAt", desc := "(II)I" } : Jvm.MethodName) ({ cls := "MessengerBoard$Situation", name := "lowestUnitAt", desc := "(II)I" } : Jvm.MethodName)) ∈ am_tb := am_mem 720 (by decide +kernel) rfl
theorem q291 : (Jvm.Cond.methodLink "MessengerBoard$BoardReader" (119 : Nat) ({ cls := "MessengerBoard$BoardReader", name := "readFreeRow", desc := "(I)I" } : Jvm.MethodName)) ∈ am_tb := am_mem 734 (by decide +kernel) rfl
theorem q292 : (Jvm.Cond.instanceMethod ({ cls := "MessengerBoard$BoardReader", name := "readFreeRow", desc := "(I)I" } : Jvm.MethodName)) ∈ am_tb := am_mem 736 (by decide +kernel) rfl
theorem q293 : (Jvm.Cond.code ({ cls := "MessengerBoard$BoardReader", name := "readFreeRow", desc := "(I)I" } : Jvm.MethodName) prog_2_method_11_code (3 : Nat) (Option.some Jvm.ClassFile.FieldType.int)) ∈ am_tb := am_mem 737 (by decide +kernel) rfl
theorem q294 : Jvm.Cond.selects "MessengerBoard$BoardReader" ⟨"MessengerBoard$BoardReader", "readFreeRow", "(I)I"⟩ ⟨"MessengerBoard$BoardReader", "readFreeRow", "(I)I"⟩ ∈ am_tb := am_mem 11 (by decide +kernel) rfl
theorem q295 : (Jvm.Cond.fieldLink "MessengerBoard$BoardReader" (123 : Nat) "MessengerBoard$Situation" "headquartersX" "I") ∈ am_tb := am_mem 175 (by decide +kernel) rfl
theorem q296 : (Jvm.Cond.fieldLink "MessengerBoard$BoardReader" (126 : Nat) "MessengerBoard$Situation" "headquartersY" "I") ∈ am_tb := am_mem 178 (by decide +kernel) rfl
theorem q297 : (Jvm.Cond.fieldLink "MessengerBoard$BoardReader" (129 : Nat) "MessengerBoard$Situation" "units" "LMessengerBoard$Table;") ∈ am_tb := am_mem 195 (by decide +kernel) rfl
theorem q298 : (Jvm.Cond.methodLink "MessengerBoard$BoardReader" (133 : Nat) ({ cls := "MessengerBoard$Table", name := "count", desc := "()I" } : Jvm.MethodName)) ∈ am_tb := am_mem 743 (by decide +kernel) rfl
theorem q299 : (Jvm.Cond.methodLink "MessengerBoard$BoardReader" (138 : Nat) ({ cls := "MessengerBoard$Situation", name := "addUnit", desc := "(III)I" } : Jvm.MethodName)) ∈ am_tb := am_mem 744 (by decide +kernel) rfl
theorem q300 : (Jvm.Cond.instanceMethod ({ cls := "MessengerBoard$Situation", name := "addUnit", desc := "(III)I" } : Jvm.MethodName)) ∈ am_tb := am_mem 745 (by decide +kernel) rfl
theorem q301 : (Jvm.Cond.code ({ cls := "MessengerBoard$Situation", name := "addUnit", desc := "(III)I" } : Jvm.MethodName) prog_8_method_18_code (5 : Nat) (Option.some Jvm.ClassFile.FieldType.int)) ∈ am_tb := am_mem 747 (by decide +kernel) rfl
theorem q302 : (Jvm.Cond.selects "MessengerBoard$Situation" ({ cls := "MessengerBoard$Situation", name := "addUnit", desc := "(III)I" } : Jvm.MethodName) ({ cls := "MessengerBoard$Situation", name := "addUnit", desc := "(III)I" } : Jvm.MethodName)) ∈ am_tb := am_mem 746 (by decide +kernel) rfl
theorem q303 : (Jvm.Cond.fieldLink "MessengerBoard$BoardReader" (142 : Nat) "MessengerBoard$Situation" "pickets" "LMessengerBoard$Table;") ∈ am_tb := am_mem 199 (by decide +kernel) rfl
theorem q304 : (Jvm.Cond.methodLink "MessengerBoard$BoardReader" (145 : Nat) ({ cls := "MessengerBoard$Table", name := "add", desc := "()I" } : Jvm.MethodName)) ∈ am_tb := am_mem 761 (by decide +kernel) rfl
theorem q305 : (Jvm.Cond.methodLink "MessengerBoard$BoardReader" (148 : Nat) ({ cls := "MessengerBoard$Table", name := "put", desc := "(III)V" } : Jvm.MethodName)) ∈ am_tb := am_mem 762 (by decide +kernel) rfl
theorem q306 : (Jvm.Cond.fieldLink "MessengerBoard$BoardReader" (152 : Nat) "MessengerBoard$Situation" "plans" "LMessengerBoard$Table;") ∈ am_tb := am_mem 203 (by decide +kernel) rfl
theorem q307 : (Jvm.Cond.methodLink "MessengerBoard$BoardReader" (35 : Nat) ({ cls := "MessengerBoard$Tokens", name := "isWord", desc := "(Ljava/lang/String;)Z" } : Jvm.MethodName)) ∈ am_tb := am_mem 609 (by decide +kernel) rfl
theorem q308 : (Jvm.Cond.instanceMethod ({ cls := "MessengerBoard$Tokens", name := "isWord", desc := "(Ljava/lang/String;)Z" } : Jvm.MethodName)) ∈ am_tb := am_mem 610 (by decide +kernel) rfl
theorem q309 : (Jvm.Cond.code ({ cls := "MessengerBoard$Tokens", name := "isWord", desc := "(Ljava/lang/String;)Z" } : Jvm.MethodName) prog_10_method_14_code (4 : Nat) (Option.some Jvm.ClassFile.FieldType.boolean)) ∈ am_tb := am_mem 612 (by decide +kernel) rfl
theorem q310 : (Jvm.Cond.selects "MessengerBoard$Tokens" ({ cls := "MessengerBoard$Tokens", name := "isWord", desc := "(Ljava/lang/String;)Z" } : Jvm.MethodName) ({ cls := "MessengerBoard$Tokens", name := "isWord", desc := "(Ljava/lang/String;)Z" } : Jvm.MethodName)) ∈ am_tb := am_mem 611 (by decide +kernel) rfl
theorem q311 : (Jvm.Cond.methodLink "MessengerBoard$BoardReader" (96 : Nat) ({ cls := "MessengerBoard$BoardReader", name := "readPlan", desc := "()V" } : Jvm.MethodName)) ∈ am_tb := am_mem 765 (by decide +kernel) rfl
theorem q312 : (Jvm.Cond.instanceMethod ({ cls := "MessengerBoard$BoardReader", name := "readPlan", desc := "()V" } : Jvm.MethodName)) ∈ am_tb := am_mem 767 (by decide +kernel) rfl
theorem q313 : (Jvm.Cond.code ({ cls := "MessengerBoard$BoardReader", name := "readPlan", desc := "()V" } : Jvm.MethodName) prog_2_method_8_code (6 : Nat) (Option.none : Option Jvm.ClassFile.FieldType)) ∈ am_tb := am_mem 768 (by decide +kernel) rfl
theorem q314 : Jvm.Cond.selects "MessengerBoard$BoardReader" ⟨"MessengerBoard$BoardReader", "readPlan", "()V"⟩ ⟨"MessengerBoard$BoardReader", "readPlan", "()V"⟩ ∈ am_tb := am_mem 14 (by decide +kernel) rfl
theorem q315 : (Jvm.Cond.fieldLink "MessengerBoard$BoardReader" (92 : Nat) "MessengerBoard$Situation" "patience" "I") ∈ am_tb := am_mem 186 (by decide +kernel) rfl
theorem q316 : (Jvm.Cond.methodLink "MessengerBoard$BoardReader" (87 : Nat) ({ cls := "MessengerBoard$BoardReader", name := "readPicket", desc := "()V" } : Jvm.MethodName)) ∈ am_tb := am_mem 757 (by decide +kernel) rfl
theorem q317 : (Jvm.Cond.instanceMethod ({ cls := "MessengerBoard$BoardReader", name := "readPicket", desc := "()V" } : Jvm.MethodName)) ∈ am_tb := am_mem 759 (by decide +kernel) rfl
theorem q318 : (Jvm.Cond.code ({ cls := "MessengerBoard$BoardReader", name := "readPicket", desc := "()V" } : Jvm.MethodName) prog_2_method_7_code (5 : Nat) (Option.none : Option Jvm.ClassFile.FieldType)) ∈ am_tb := am_mem 760 (by decide +kernel) rfl
theorem q319 : Jvm.Cond.selects "MessengerBoard$BoardReader" ⟨"MessengerBoard$BoardReader", "readPicket", "()V"⟩ ⟨"MessengerBoard$BoardReader", "readPicket", "()V"⟩ ∈ am_tb := am_mem 13 (by decide +kernel) rfl
theorem q320 : (Jvm.Cond.methodLink "MessengerBoard$BoardReader" (82 : Nat) ({ cls := "MessengerBoard$BoardReader", name := "readUnit", desc := "()V" } : Jvm.MethodName)) ∈ am_tb := am_mem 739 (by decide +kernel) rfl
theorem q321 : (Jvm.Cond.instanceMethod ({ cls := "MessengerBoard$BoardReader", name := "readUnit", desc := "()V" } : Jvm.MethodName)) ∈ am_tb := am_mem 741 (by decide +kernel) rfl
theorem q322 : (Jvm.Cond.code ({ cls := "MessengerBoard$BoardReader", name := "readUnit", desc := "()V" } : Jvm.MethodName) prog_2_method_6_code (4 : Nat) (Option.none : Option Jvm.ClassFile.FieldType)) ∈ am_tb := am_mem 742 (by decide +kernel) rfl
theorem q323 : Jvm.Cond.selects "MessengerBoard$BoardReader" ⟨"MessengerBoard$BoardReader", "readUnit", "()V"⟩ ⟨"MessengerBoard$BoardReader", "readUnit", "()V"⟩ ∈ am_tb := am_mem 12 (by decide +kernel) rfl
theorem q324 : (Jvm.Cond.methodLink "MessengerBoard$BoardReader" (77 : Nat) ({ cls := "MessengerBoard$BoardReader", name := "readHeadquarters", desc := "()V" } : Jvm.MethodName)) ∈ am_tb := am_mem 730 (by decide +kernel) rfl
theorem q325 : (Jvm.Cond.instanceMethod ({ cls := "MessengerBoard$BoardReader", name := "readHeadquarters", desc := "()V" } : Jvm.MethodName)) ∈ am_tb := am_mem 732 (by decide +kernel) rfl
theorem q326 : (Jvm.Cond.code ({ cls := "MessengerBoard$BoardReader", name := "readHeadquarters", desc := "()V" } : Jvm.MethodName) prog_2_method_5_code (3 : Nat) (Option.none : Option Jvm.ClassFile.FieldType)) ∈ am_tb := am_mem 733 (by decide +kernel) rfl
theorem q327 : Jvm.Cond.selects "MessengerBoard$BoardReader" ⟨"MessengerBoard$BoardReader", "readHeadquarters", "()V"⟩ ⟨"MessengerBoard$BoardReader", "readHeadquarters", "()V"⟩ ∈ am_tb := am_mem 10 (by decide +kernel) rfl
theorem q328 : (Jvm.Cond.methodLink "MessengerBoard$BoardReader" (72 : Nat) ({ cls := "MessengerBoard$BoardReader", name := "readWall", desc := "()V" } : Jvm.MethodName)) ∈ am_tb := am_mem 698 (by decide +kernel) rfl
theorem q329 : (Jvm.Cond.instanceMethod ({ cls := "MessengerBoard$BoardReader", name := "readWall", desc := "()V" } : Jvm.MethodName)) ∈ am_tb := am_mem 700 (by decide +kernel) rfl
theorem q330 : (Jvm.Cond.code ({ cls := "MessengerBoard$BoardReader", name := "readWall", desc := "()V" } : Jvm.MethodName) prog_2_method_4_code (3 : Nat) (Option.none : Option Jvm.ClassFile.FieldType)) ∈ am_tb := am_mem 701 (by decide +kernel) rfl
theorem q331 : Jvm.Cond.selects "MessengerBoard$BoardReader" ⟨"MessengerBoard$BoardReader", "readWall", "()V"⟩ ⟨"MessengerBoard$BoardReader", "readWall", "()V"⟩ ∈ am_tb := am_mem 7 (by decide +kernel) rfl
theorem q332 : (Jvm.Cond.methodLink "MessengerBoard$BoardReader" (19 : Nat) ({ cls := "MessengerBoard$Tokens", name := "open", desc := "(I)V" } : Jvm.MethodName)) ∈ am_tb := am_mem 577 (by decide +kernel) rfl
theorem q333 : (Jvm.Cond.instanceMethod ({ cls := "MessengerBoard$Tokens", name := "open", desc := "(I)V" } : Jvm.MethodName)) ∈ am_tb := am_mem 578 (by decide +kernel) rfl
theorem q334 : (Jvm.Cond.code ({ cls := "MessengerBoard$Tokens", name := "open", desc := "(I)V" } : Jvm.MethodName) prog_10_method_2_code (2 : Nat) (Option.none : Option Jvm.ClassFile.FieldType)) ∈ am_tb := am_mem 580 (by decide +kernel) rfl
theorem q335 : (Jvm.Cond.selects "MessengerBoard$Tokens" ({ cls := "MessengerBoard$Tokens", name := "open", desc := "(I)V" } : Jvm.MethodName) ({ cls := "MessengerBoard$Tokens", name := "open", desc := "(I)V" } : Jvm.MethodName)) ∈ am_tb := am_mem 579 (by decide +kernel) rfl
theorem q336 : (Jvm.Cond.methodLink "MessengerBoard$BoardReader" (25 : Nat) ({ cls := "MessengerBoard$Situation", name := "begin", desc := "()V" } : Jvm.MethodName)) ∈ am_tb := am_mem 584 (by decide +kernel) rfl
theorem q337 : (Jvm.Cond.instanceMethod ({ cls := "MessengerBoard$Situation", name := "begin", desc := "()V" } : Jvm.MethodName)) ∈ am_tb := am_mem 585 (by decide +kernel) rfl
theorem q338 : (Jvm.Cond.code ({ cls := "MessengerBoard$Situation", name := "begin", desc := "()V" } : Jvm.MethodName) prog_8_method_2_code (1 : Nat) (Option.none : Option Jvm.ClassFile.FieldType)) ∈ am_tb := am_mem 587 (by decide +kernel) rfl
theorem q339 : (Jvm.Cond.selects "MessengerBoard$Situation" ({ cls := "MessengerBoard$Situation", name := "begin", desc := "()V" } : Jvm.MethodName) ({ cls := "MessengerBoard$Situation", name := "begin", desc := "()V" } : Jvm.MethodName)) ∈ am_tb := am_mem 586 (by decide +kernel) rfl
theorem q340 : (Jvm.Cond.methodLink "MessengerBoard$BoardReader" (46 : Nat) ({ cls := "MessengerBoard$BoardReader", name := "readSemicolon", desc := "()V" } : Jvm.MethodName)) ∈ am_tb := am_mem 681 (by decide +kernel) rfl
theorem q341 : (Jvm.Cond.instanceMethod ({ cls := "MessengerBoard$BoardReader", name := "readSemicolon", desc := "()V" } : Jvm.MethodName)) ∈ am_tb := am_mem 683 (by decide +kernel) rfl
theorem q342 : (Jvm.Cond.code ({ cls := "MessengerBoard$BoardReader", name := "readSemicolon", desc := "()V" } : Jvm.MethodName) prog_2_method_13_code (1 : Nat) (Option.none : Option Jvm.ClassFile.FieldType)) ∈ am_tb := am_mem 684 (by decide +kernel) rfl
theorem q343 : Jvm.Cond.selects "MessengerBoard$BoardReader" ⟨"MessengerBoard$BoardReader", "readSemicolon", "()V"⟩ ⟨"MessengerBoard$BoardReader", "readSemicolon", "()V"⟩ ∈ am_tb := am_mem 5 (by decide +kernel) rfl
theorem q344 : (Jvm.Cond.methodLink "MessengerBoard$BoardReader" (66 : Nat) ({ cls := "MessengerBoard$Tokens", name := "errorCode", desc := "()I" } : Jvm.MethodName)) ∈ am_tb := am_mem 769 (by decide +kernel) rfl
theorem q345 : (Jvm.Cond.instanceMethod ({ cls := "MessengerBoard$Tokens", name := "errorCode", desc := "()I" } : Jvm.MethodName)) ∈ am_tb := am_mem 770 (by decide +kernel) rfl
theorem q346 : (Jvm.Cond.code ({ cls := "MessengerBoard$Tokens", name := "errorCode", desc := "()I" } : Jvm.MethodName) prog_10_method_5_code (1 : Nat) (Option.some Jvm.ClassFile.FieldType.int)) ∈ am_tb := am_mem 772 (by decide +kernel) rfl
theorem q347 : (Jvm.Cond.selects "MessengerBoard$Tokens" ({ cls := "MessengerBoard$Tokens", name := "errorCode", desc := "()I" } : Jvm.MethodName) ({ cls := "MessengerBoard$Tokens", name := "errorCode", desc := "()I" } : Jvm.MethodName)) ∈ am_tb := am_mem 771 (by decide +kernel) rfl
theorem q348 : (Jvm.Cond.methodLink "MessengerBoard$BoardReader" (60 : Nat) ({ cls := "MessengerBoard$Tokens", name := "atEnd", desc := "()Z" } : Jvm.MethodName)) ∈ am_tb := am_mem 689 (by decide +kernel) rfl
theorem q349 : (Jvm.Cond.instanceMethod ({ cls := "MessengerBoard$Tokens", name := "atEnd", desc := "()Z" } : Jvm.MethodName)) ∈ am_tb := am_mem 690 (by decide +kernel) rfl
theorem q350 : (Jvm.Cond.code ({ cls := "MessengerBoard$Tokens", name := "atEnd", desc := "()Z" } : Jvm.MethodName) prog_10_method_10_code (1 : Nat) (Option.some Jvm.ClassFile.FieldType.boolean)) ∈ am_tb := am_mem 692 (by decide +kernel) rfl
theorem q351 : (Jvm.Cond.selects "MessengerBoard$Tokens" ({ cls := "MessengerBoard$Tokens", name := "atEnd", desc := "()Z" } : Jvm.MethodName) ({ cls := "MessengerBoard$Tokens", name := "atEnd", desc := "()Z" } : Jvm.MethodName)) ∈ am_tb := am_mem 691 (by decide +kernel) rfl
theorem q352 : (Jvm.Cond.methodLink "MessengerBoard$BoardReader" (63 : Nat) ({ cls := "MessengerBoard$BoardReader", name := "readClause", desc := "()V" } : Jvm.MethodName)) ∈ am_tb := am_mem 693 (by decide +kernel) rfl
theorem q353 : (Jvm.Cond.instanceMethod ({ cls := "MessengerBoard$BoardReader", name := "readClause", desc := "()V" } : Jvm.MethodName)) ∈ am_tb := am_mem 695 (by decide +kernel) rfl
theorem q354 : (Jvm.Cond.code ({ cls := "MessengerBoard$BoardReader", name := "readClause", desc := "()V" } : Jvm.MethodName) prog_2_method_3_code (1 : Nat) (Option.none : Option Jvm.ClassFile.FieldType)) ∈ am_tb := am_mem 696 (by decide +kernel) rfl
theorem q355 : Jvm.Cond.selects "MessengerBoard$BoardReader" ⟨"MessengerBoard$BoardReader", "readClause", "()V"⟩ ⟨"MessengerBoard$BoardReader", "readClause", "()V"⟩ ∈ am_tb := am_mem 6 (by decide +kernel) rfl
theorem q356 : (Jvm.Cond.methodLink "MessengerBoard$QueryReader" (3 : Nat) ({ cls := "java/lang/Object", name := "<init>", desc := "()V" } : Jvm.MethodName)) ∈ am_tb := am_mem 342 (by decide +kernel) rfl
theorem q357 : (Jvm.Cond.fieldLink "MessengerBoard$QueryReader" (9 : Nat) "MessengerBoard$QueryReader" "tokens" "LMessengerBoard$Tokens;") ∈ am_tb := am_mem 343 (by decide +kernel) rfl
theorem q358 : (Jvm.Cond.fieldLink "MessengerBoard$QueryReader" (15 : Nat) "MessengerBoard$QueryReader" "situation" "LMessengerBoard$Situation;") ∈ am_tb := am_mem 344 (by decide +kernel) rfl
theorem q359 : (Jvm.Cond.methodLink "MessengerBoard$QueryReader" (106 : Nat) ({ cls := "MessengerBoard$Tokens", name := "isNumber", desc := "()Z" } : Jvm.MethodName)) ∈ am_tb := am_mem 1185 (by decide +kernel) rfl
theorem q360 : (Jvm.Cond.methodLink "MessengerBoard$QueryReader" (30 : Nat) ({ cls := "MessengerBoard$Tokens", name := "isWord", desc := "(Ljava/lang/String;)Z" } : Jvm.MethodName)) ∈ am_tb := am_mem 1158 (by decide +kernel) rfl
theorem q361 : (Jvm.Cond.methodLink "MessengerBoard$QueryReader" (36 : Nat) ({ cls := "MessengerBoard$Tokens", name := "fail", desc := "(I)V" } : Jvm.MethodName)) ∈ am_tb := am_mem 1160 (by decide +kernel) rfl
theorem q362 : (Jvm.Cond.methodLink "MessengerBoard$QueryReader" (109 : Nat) ({ cls := "MessengerBoard$Tokens", name := "value", desc := "()I" } : Jvm.MethodName)) ∈ am_tb := am_mem 1186 (by decide +kernel) rfl
theorem q363 : (Jvm.Cond.fieldLink "MessengerBoard$QueryReader" (62 : Nat) "MessengerBoard$Situation" "orders" "LMessengerBoard$Table;") ∈ am_tb := am_mem 206 (by decide +kernel) rfl
theorem q364 : (Jvm.Cond.methodLink "MessengerBoard$QueryReader" (130 : Nat) ({ cls := "MessengerBoard$Table", name := "get", desc := "(II)I" } : Jvm.MethodName)) ∈ am_tb := am_mem 1201 (by decide +kernel) rfl
theorem q365 : (Jvm.Cond.methodLink "MessengerBoard$QueryReader" (47 : Nat) ({ cls := "MessengerBoard$Tokens", name := "sound", desc := "()Z" } : Jvm.MethodName)) ∈ am_tb := am_mem 1173 (by decide +kernel) rfl
theorem q366 : (Jvm.Cond.methodLink "MessengerBoard$QueryReader" (89 : Nat) ({ cls := "MessengerBoard$QueryReader", name := "readOpened", desc := "(I)J" } : Jvm.MethodName)) ∈ am_tb := am_mem 1176 (by decide +kernel) rfl
theorem q367 : (Jvm.Cond.instanceMethod ({ cls := "MessengerBoard$QueryReader", name := "readOpened", desc := "(I)J" } : Jvm.MethodName)) ∈ am_tb := am_mem 1178 (by decide +kernel) rfl
theorem q368 : (Jvm.Cond.initialized "MessengerBoard$QueryReader") ∈ am_tb := am_mem 118 (by decide +kernel) rfl
theorem q369 : (Jvm.Cond.code ({ cls := "MessengerBoard$QueryReader", name := "readOpened", desc := "(I)J" } : Jvm.MethodName) prog_7_method_8_code (5 : Nat) (Option.some Jvm.ClassFile.FieldType.long)) ∈ am_tb := am_mem 1179 (by decide +kernel) rfl
theorem q370 : Jvm.Cond.selects "MessengerBoard$QueryReader" ⟨"MessengerBoard$QueryReader", "readOpened", "(I)J"⟩ ⟨"MessengerBoard$QueryReader", "readOpened", "(I)J"⟩ ∈ am_tb := am_mem 28 (by decide +kernel) rfl
theorem q371 : (Jvm.Cond.methodLink "MessengerBoard$QueryReader" (85 : Nat) ({ cls := "MessengerBoard$Tokens", name := "isSign", desc := "(C)Z" } : Jvm.MethodName)) ∈ am_tb := am_mem 1175 (by decide +kernel) rfl
theorem q372 : (Jvm.Cond.methodLink "MessengerBoard$QueryReader" (92 : Nat) ({ cls := "MessengerBoard$QueryReader", name := "operandAtHand", desc := "()I" } : Jvm.MethodName)) ∈ am_tb := am_mem 1181 (by decide +kernel) rfl
theorem q373 : (Jvm.Cond.instanceMethod ({ cls := "MessengerBoard$QueryReader", name := "operandAtHand", desc := "()I" } : Jvm.MethodName)) ∈ am_tb := am_mem 1183 (by decide +kernel) rfl
theorem q374 : (Jvm.Cond.code ({ cls := "MessengerBoard$QueryReader", name := "operandAtHand", desc := "()I" } : Jvm.MethodName) prog_7_method_9_code (1 : Nat) (Option.some Jvm.ClassFile.FieldType.int)) ∈ am_tb := am_mem 1184 (by decide +kernel) rfl
theorem q375 : Jvm.Cond.selects "MessengerBoard$QueryReader" ⟨"MessengerBoard$QueryReader", "operandAtHand", "()I"⟩ ⟨"MessengerBoard$QueryReader", "operandAtHand", "()I"⟩ ∈ am_tb := am_mem 29 (by decide +kernel) rfl
theorem q376 : (Jvm.Cond.methodLink "MessengerBoard$QueryReader" (25 : Nat) ({ cls := "MessengerBoard$Tokens", name := "next", desc := "()V" } : Jvm.MethodName)) ∈ am_tb := am_mem 1156 (by decide +kernel) rfl
theorem q377 : (Jvm.Cond.methodLink "MessengerBoard$QueryReader" (68 : Nat) ({ cls := "MessengerBoard$Table", name := "count", desc := "()I" } : Jvm.MethodName)) ∈ am_tb := am_mem 1196 (by decide +kernel) rfl
theorem q378 : (Jvm.Cond.methodLink "MessengerBoard$QueryReader" (95 : Nat) ({ cls := "MessengerBoard$QueryReader", name := "valueOf", desc := "(II)I" } : Jvm.MethodName)) ∈ am_tb := am_mem 1197 (by decide +kernel) rfl
theorem q379 : (Jvm.Cond.instanceMethod ({ cls := "MessengerBoard$QueryReader", name := "valueOf", desc := "(II)I" } : Jvm.MethodName)) ∈ am_tb := am_mem 1199 (by decide +kernel) rfl
theorem q380 : (Jvm.Cond.code ({ cls := "MessengerBoard$QueryReader", name := "valueOf", desc := "(II)I" } : Jvm.MethodName) prog_7_method_10_code (5 : Nat) (Option.some Jvm.ClassFile.FieldType.int)) ∈ am_tb := am_mem 1200 (by decide +kernel) rfl
theorem q381 : Jvm.Cond.selects "MessengerBoard$QueryReader" ⟨"MessengerBoard$QueryReader", "valueOf", "(II)I"⟩ ⟨"MessengerBoard$QueryReader", "valueOf", "(II)I"⟩ ∈ am_tb := am_mem 30 (by decide +kernel) rfl
theorem q382 : (Jvm.Cond.methodLink "MessengerBoard$QueryReader" (99 : Nat) ({ cls := "java/lang/Integer", name := "compare", desc := "(II)I" } : Jvm.MethodName)) ∈ am_tb := am_mem 1202 (by decide +kernel) rfl
theorem q383 : (Jvm.Cond.static ({ cls := "java/lang/Integer", name := "compare", desc := "(II)I" } : Jvm.MethodName)) ∈ am_tb := am_mem 1203 (by decide +kernel) rfl
theorem q384 : (Jvm.Cond.initialized "java/lang/Integer") ∈ am_tb := am_mem 133 (by decide +kernel) rfl
theorem q385 : (Jvm.Cond.code ({ cls := "java/lang/Integer", name := "compare", desc := "(II)I" } : Jvm.MethodName) prog_19_method_40_code (2 : Nat) (Option.some Jvm.ClassFile.FieldType.int)) ∈ am_tb := am_mem 1204 (by decide +kernel) rfl
theorem q386 : (Jvm.Cond.methodLink "MessengerBoard$QueryReader" (78 : Nat) ({ cls := "MessengerBoard$QueryReader", name := "readFactor", desc := "(I)J" } : Jvm.MethodName)) ∈ am_tb := am_mem 1169 (by decide +kernel) rfl
theorem q387 : (Jvm.Cond.instanceMethod ({ cls := "MessengerBoard$QueryReader", name := "readFactor", desc := "(I)J" } : Jvm.MethodName)) ∈ am_tb := am_mem 1171 (by decide +kernel) rfl
theorem q388 : (Jvm.Cond.code ({ cls := "MessengerBoard$QueryReader", name := "readFactor", desc := "(I)J" } : Jvm.MethodName) prog_7_method_7_code (11 : Nat) (Option.some Jvm.ClassFile.FieldType.long)) ∈ am_tb := am_mem 1172 (by decide +kernel) rfl
theorem q389 : Jvm.Cond.selects "MessengerBoard$QueryReader" ⟨"MessengerBoard$QueryReader", "readFactor", "(I)J"⟩ ⟨"MessengerBoard$QueryReader", "readFactor", "(I)J"⟩ ∈ am_tb := am_mem 27 (by decide +kernel) rfl
theorem q390 : (Jvm.Cond.methodLink "MessengerBoard$QueryReader" (73 : Nat) ({ cls := "MessengerBoard$QueryReader", name := "readConjunction", desc := "(I)J" } : Jvm.MethodName)) ∈ am_tb := am_mem 1165 (by decide +kernel) rfl
theorem q391 : (Jvm.Cond.instanceMethod ({ cls := "MessengerBoard$QueryReader", name := "readConjunction", desc := "(I)J" } : Jvm.MethodName)) ∈ am_tb := am_mem 1167 (by decide +kernel) rfl
theorem q392 : (Jvm.Cond.code ({ cls := "MessengerBoard$QueryReader", name := "readConjunction", desc := "(I)J" } : Jvm.MethodName) prog_7_method_6_code (5 : Nat) (Option.some Jvm.ClassFile.FieldType.long)) ∈ am_tb := am_mem 1168 (by decide +kernel) rfl
theorem q393 : Jvm.Cond.selects "MessengerBoard$QueryReader" ⟨"MessengerBoard$QueryReader", "readConjunction", "(I)J"⟩ ⟨"MessengerBoard$QueryReader", "readConjunction", "(I)J"⟩ ∈ am_tb := am_mem 26 (by decide +kernel) rfl
theorem q394 : (Jvm.Cond.methodLink "MessengerBoard$QueryReader" (39 : Nat) ({ cls := "MessengerBoard$QueryReader", name := "readTest", desc := "(I)J" } : Jvm.MethodName)) ∈ am_tb := am_mem 1161 (by decide +kernel) rfl
theorem q395 : (Jvm.Cond.instanceMethod ({ cls := "MessengerBoard$QueryReader", name := "readTest", desc := "(I)J" } : Jvm.MethodName)) ∈ am_tb := am_mem 1163 (by decide +kernel) rfl
theorem q396 : (Jvm.Cond.code ({ cls := "MessengerBoard$QueryReader", name := "readTest", desc := "(I)J" } : Jvm.MethodName) prog_7_method_5_code (5 : Nat) (Option.some Jvm.ClassFile.FieldType.long)) ∈ am_tb := am_mem 1164 (by decide +kernel) rfl
theorem q397 : Jvm.Cond.selects "MessengerBoard$QueryReader" ⟨"MessengerBoard$QueryReader", "readTest", "(I)J"⟩ ⟨"MessengerBoard$QueryReader", "readTest", "(I)J"⟩ ∈ am_tb := am_mem 25 (by decide +kernel) rfl
theorem q398 : (Jvm.Cond.constantLong "MessengerBoard$QueryReader" (104 : Nat) (-1 : Int64)) ∈ am_tb := am_mem 1180 (by decide +kernel) rfl
theorem q399 : (Jvm.Cond.methodLink "MessengerBoard$QueryReader" (19 : Nat) ({ cls := "MessengerBoard$Tokens", name := "open", desc := "(I)V" } : Jvm.MethodName)) ∈ am_tb := am_mem 1155 (by decide +kernel) rfl
theorem q400 : (Jvm.Cond.methodLink "MessengerBoard$QueryReader" (43 : Nat) ({ cls := "MessengerBoard$Tokens", name := "atEnd", desc := "()Z" } : Jvm.MethodName)) ∈ am_tb := am_mem 1207 (by decide +kernel) rfl
theorem q401 : (Jvm.Cond.methodLink "MessengerBoard$QueryReader" (59 : Nat) ({ cls := "MessengerBoard$QueryReader", name := "firstOf", desc := "(J)I" } : Jvm.MethodName)) ∈ am_tb := am_mem 1214 (by decide +kernel) rfl
theorem q402 : (Jvm.Cond.instanceMethod ({ cls := "MessengerBoard$QueryReader", name := "firstOf", desc := "(J)I" } : Jvm.MethodName)) ∈ am_tb := am_mem 1216 (by decide +kernel) rfl
theorem q403 : (Jvm.Cond.code ({ cls := "MessengerBoard$QueryReader", name := "firstOf", desc := "(J)I" } : Jvm.MethodName) prog_7_method_4_code (5 : Nat) (Option.some Jvm.ClassFile.FieldType.int)) ∈ am_tb := am_mem 1217 (by decide +kernel) rfl
theorem q404 : Jvm.Cond.selects "MessengerBoard$QueryReader" ⟨"MessengerBoard$QueryReader", "firstOf", "(J)I"⟩ ⟨"MessengerBoard$QueryReader", "firstOf", "(J)I"⟩ ∈ am_tb := am_mem 32 (by decide +kernel) rfl
theorem q405 : (Jvm.Cond.methodLink "MessengerBoard$QueryReader" (55 : Nat) ({ cls := "MessengerBoard$QueryReader", name := "countOf", desc := "(J)I" } : Jvm.MethodName)) ∈ am_tb := am_mem 1210 (by decide +kernel) rfl
theorem q406 : (Jvm.Cond.instanceMethod ({ cls := "MessengerBoard$QueryReader", name := "countOf", desc := "(J)I" } : Jvm.MethodName)) ∈ am_tb := am_mem 1212 (by decide +kernel) rfl
theorem q407 : (Jvm.Cond.code ({ cls := "MessengerBoard$QueryReader", name := "countOf", desc := "(J)I" } : Jvm.MethodName) prog_7_method_3_code (6 : Nat) (Option.some Jvm.ClassFile.FieldType.int)) ∈ am_tb := am_mem 1213 (by decide +kernel) rfl
theorem q408 : Jvm.Cond.selects "MessengerBoard$QueryReader" ⟨"MessengerBoard$QueryReader", "countOf", "(J)I"⟩ ⟨"MessengerBoard$QueryReader", "countOf", "(J)I"⟩ ∈ am_tb := am_mem 31 (by decide +kernel) rfl
theorem q409 : (Jvm.Cond.constant "MessengerBoard$QueryReader" (50 : Nat) (-1000000000 : Int32)) ∈ am_tb := am_mem 1208 (by decide +kernel) rfl
theorem q410 : (Jvm.Cond.methodLink "MessengerBoard$QueryReader" (51 : Nat) ({ cls := "MessengerBoard$Tokens", name := "errorCode", desc := "()I" } : Jvm.MethodName)) ∈ am_tb := am_mem 1209 (by decide +kernel) rfl
theorem q411 : (Jvm.Cond.methodLink "MessengerBoard" (3 : Nat) ({ cls := "java/lang/Object", name := "<init>", desc := "()V" } : Jvm.MethodName)) ∈ am_tb := am_mem 139 (by decide +kernel) rfl
theorem q412 : (Jvm.Cond.classLink "MessengerBoard" (9 : Nat) "MessengerBoard$Situation") ∈ am_tb := am_mem 142 (by decide +kernel) rfl
theorem q413 : (Jvm.Cond.methodLink "MessengerBoard" (11 : Nat) ({ cls := "MessengerBoard$Situation", name := "<init>", desc := "()V" } : Jvm.MethodName)) ∈ am_tb := am_mem 144 (by decide +kernel) rfl
theorem q414 : (Jvm.Cond.fieldLink "MessengerBoard" (12 : Nat) "MessengerBoard" "now" "LMessengerBoard$Situation;") ∈ am_tb := am_mem 350 (by decide +kernel) rfl
theorem q415 : (Jvm.Cond.fieldLink "MessengerBoard" (16 : Nat) "MessengerBoard" "trial" "LMessengerBoard$Situation;") ∈ am_tb := am_mem 351 (by decide +kernel) rfl
theorem q416 : (Jvm.Cond.classLink "MessengerBoard" (19 : Nat) "MessengerBoard$Trail") ∈ am_tb := am_mem 237 (by decide +kernel) rfl
theorem q417 : (Jvm.Cond.instantiable "MessengerBoard$Trail" (1 : Nat)) ∈ am_tb := am_mem 238 (by decide +kernel) rfl
theorem q418 : (Jvm.Cond.initialized "MessengerBoard$Trail") ∈ am_tb := am_mem 112 (by decide +kernel) rfl
theorem q419 : (Jvm.Cond.instanceMethod ({ cls := "MessengerBoard$Trail", name := "<init>", desc := "()V" } : Jvm.MethodName)) ∈ am_tb := am_mem 240 (by decide +kernel) rfl
theorem q420 : (Jvm.Cond.code ({ cls := "MessengerBoard$Trail", name := "<init>", desc := "()V" } : Jvm.MethodName) prog_11_method_1_code (1 : Nat) (Option.none : Option Jvm.ClassFile.FieldType)) ∈ am_tb := am_mem 241 (by decide +kernel) rfl
theorem q421 : (Jvm.Cond.fieldLink "MessengerBoard" (22 : Nat) "MessengerBoard" "trail" "LMessengerBoard$Trail;") ∈ am_tb := am_mem 352 (by decide +kernel) rfl
theorem q422 : (Jvm.Cond.classLink "MessengerBoard" (26 : Nat) "MessengerBoard$History") ∈ am_tb := am_mem 247 (by decide +kernel) rfl
theorem q423 : (Jvm.Cond.instantiable "MessengerBoard$History" (3 : Nat)) ∈ am_tb := am_mem 248 (by decide +kernel) rfl
theorem q424 : (Jvm.Cond.initialized "MessengerBoard$History") ∈ am_tb := am_mem 113 (by decide +kernel) rfl
theorem q425 : (Jvm.Cond.instanceMethod ({ cls := "MessengerBoard$History", name := "<init>", desc := "()V" } : Jvm.MethodName)) ∈ am_tb := am_mem 250 (by decide +kernel) rfl
theorem q426 : (Jvm.Cond.code ({ cls := "MessengerBoard$History", name := "<init>", desc := "()V" } : Jvm.MethodName) prog_5_method_1_code (1 : Nat) (Option.none : Option Jvm.ClassFile.FieldType)) ∈ am_tb := am_mem 251 (by decide +kernel) rfl
theorem q427 : (Jvm.Cond.fieldLink "MessengerBoard" (29 : Nat) "MessengerBoard" "history" "LMessengerBoard$History;") ∈ am_tb := am_mem 353 (by decide +kernel) rfl
theorem q428 : (Jvm.Cond.classLink "MessengerBoard" (33 : Nat) "MessengerBoard$Paths") ∈ am_tb := am_mem 265 (by decide +kernel) rfl
theorem q429 : (Jvm.Cond.instantiable "MessengerBoard$Paths" (3 : Nat)) ∈ am_tb := am_mem 266 (by decide +kernel) rfl
theorem q430 : (Jvm.Cond.methodLink "MessengerBoard" (35 : Nat) ({ cls := "MessengerBoard$Paths", name := "<init>", desc := "(LMessengerBoard$Situation;)V" } : Jvm.MethodName)) ∈ am_tb := am_mem 267 (by decide +kernel) rfl
theorem q431 : (Jvm.Cond.instanceMethod ({ cls := "MessengerBoard$Paths", name := "<init>", desc := "(LMessengerBoard$Situation;)V" } : Jvm.MethodName)) ∈ am_tb := am_mem 268 (by decide +kernel) rfl
theorem q432 : (Jvm.Cond.code ({ cls := "MessengerBoard$Paths", name := "<init>", desc := "(LMessengerBoard$Situation;)V" } : Jvm.MethodName) prog_6_method_1_code (2 : Nat) (Option.none : Option Jvm.ClassFile.FieldType)) ∈ am_tb := am_mem 269 (by decide +kernel) rfl
theorem q433 : (Jvm.Cond.fieldLink "MessengerBoard" (38 : Nat) "MessengerBoard" "paths" "LMessengerBoard$Paths;") ∈ am_tb := am_mem 354 (by decide +kernel) rfl
theorem q434 : (Jvm.Cond.classLink "MessengerBoard" (42 : Nat) "MessengerBoard$Clock") ∈ am_tb := am_mem 283 (by decide +kernel) rfl
theorem q435 : (Jvm.Cond.instantiable "MessengerBoard$Clock" (1 : Nat)) ∈ am_tb := am_mem 284 (by decide +kernel) rfl
theorem q436 : (Jvm.Cond.methodLink "MessengerBoard" (44 : Nat) ({ cls := "MessengerBoard$Clock", name := "<init>", desc := "(LMessengerBoard$Paths;)V" } : Jvm.MethodName)) ∈ am_tb := am_mem 285 (by decide +kernel) rfl
theorem q437 : (Jvm.Cond.instanceMethod ({ cls := "MessengerBoard$Clock", name := "<init>", desc := "(LMessengerBoard$Paths;)V" } : Jvm.MethodName)) ∈ am_tb := am_mem 286 (by decide +kernel) rfl
theorem q438 : (Jvm.Cond.code ({ cls := "MessengerBoard$Clock", name := "<init>", desc := "(LMessengerBoard$Paths;)V" } : Jvm.MethodName) prog_3_method_1_code (2 : Nat) (Option.none : Option Jvm.ClassFile.FieldType)) ∈ am_tb := am_mem 287 (by decide +kernel) rfl
theorem q439 : (Jvm.Cond.fieldLink "MessengerBoard" (47 : Nat) "MessengerBoard" "clock" "LMessengerBoard$Clock;") ∈ am_tb := am_mem 355 (by decide +kernel) rfl
theorem q440 : (Jvm.Cond.fieldLink "MessengerBoard" (51 : Nat) "MessengerBoard" "buffer" "[I") ∈ am_tb := am_mem 356 (by decide +kernel) rfl
theorem q441 : (Jvm.Cond.classLink "MessengerBoard" (55 : Nat) "MessengerBoard$Tokens") ∈ am_tb := am_mem 293 (by decide +kernel) rfl
theorem q442 : (Jvm.Cond.instantiable "MessengerBoard$Tokens" (8 : Nat)) ∈ am_tb := am_mem 294 (by decide +kernel) rfl
theorem q443 : (Jvm.Cond.methodLink "MessengerBoard" (57 : Nat) ({ cls := "MessengerBoard$Tokens", name := "<init>", desc := "([I)V" } : Jvm.MethodName)) ∈ am_tb := am_mem 295 (by decide +kernel) rfl
theorem q444 : (Jvm.Cond.instanceMethod ({ cls := "MessengerBoard$Tokens", name := "<init>", desc := "([I)V" } : Jvm.MethodName)) ∈ am_tb := am_mem 296 (by decide +kernel) rfl
theorem q445 : (Jvm.Cond.code ({ cls := "MessengerBoard$Tokens", name := "<init>", desc := "([I)V" } : Jvm.MethodName) prog_10_method_1_code (2 : Nat) (Option.none : Option Jvm.ClassFile.FieldType)) ∈ am_tb := am_mem 297 (by decide +kernel) rfl
theorem q446 : (Jvm.Cond.fieldLink "MessengerBoard" (60 : Nat) "MessengerBoard" "tokens" "LMessengerBoard$Tokens;") ∈ am_tb := am_mem 357 (by decide +kernel) rfl
theorem q447 : (Jvm.Cond.classLink "MessengerBoard" (64 : Nat) "MessengerBoard$BoardReader") ∈ am_tb := am_mem 324 (by decide +kernel) rfl
theorem q448 : (Jvm.Cond.instantiable "MessengerBoard$BoardReader" (2 : Nat)) ∈ am_tb := am_mem 325 (by decide +kernel) rfl
theorem q449 : (Jvm.Cond.methodLink "MessengerBoard" (66 : Nat) ({ cls := "MessengerBoard$BoardReader", name := "<init>", desc := "(LMessengerBoard$Tokens;LMessengerBoard$Situation;)V" } : Jvm.MethodName)) ∈ am_tb := am_mem 326 (by decide +kernel) rfl
theorem q450 : (Jvm.Cond.instanceMethod ({ cls := "MessengerBoard$BoardReader", name := "<init>", desc := "(LMessengerBoard$Tokens;LMessengerBoard$Situation;)V" } : Jvm.MethodName)) ∈ am_tb := am_mem 327 (by decide +kernel) rfl
theorem q451 : (Jvm.Cond.code ({ cls := "MessengerBoard$BoardReader", name := "<init>", desc := "(LMessengerBoard$Tokens;LMessengerBoard$Situation;)V" } : Jvm.MethodName) prog_2_method_1_code (3 : Nat) (Option.none : Option Jvm.ClassFile.FieldType)) ∈ am_tb := am_mem 328 (by decide +kernel) rfl
theorem q452 : (Jvm.Cond.fieldLink "MessengerBoard" (69 : Nat) "MessengerBoard" "boardReader" "LMessengerBoard$BoardReader;") ∈ am_tb := am_mem 358 (by decide +kernel) rfl
theorem q453 : (Jvm.Cond.classLink "MessengerBoard" (73 : Nat) "MessengerBoard$QueryReader") ∈ am_tb := am_mem 337 (by decide +kernel) rfl
theorem q454 : (Jvm.Cond.instantiable "MessengerBoard$QueryReader" (2 : Nat)) ∈ am_tb := am_mem 338 (by decide +kernel) rfl
theorem q455 : (Jvm.Cond.methodLink "MessengerBoard" (75 : Nat) ({ cls := "MessengerBoard$QueryReader", name := "<init>", desc := "(LMessengerBoard$Tokens;LMessengerBoard$Situation;)V" } : Jvm.MethodName)) ∈ am_tb := am_mem 339 (by decide +kernel) rfl
theorem q456 : (Jvm.Cond.instanceMethod ({ cls := "MessengerBoard$QueryReader", name := "<init>", desc := "(LMessengerBoard$Tokens;LMessengerBoard$Situation;)V" } : Jvm.MethodName)) ∈ am_tb := am_mem 340 (by decide +kernel) rfl
theorem q457 : (Jvm.Cond.code ({ cls := "MessengerBoard$QueryReader", name := "<init>", desc := "(LMessengerBoard$Tokens;LMessengerBoard$Situation;)V" } : Jvm.MethodName) prog_7_method_1_code (3 : Nat) (Option.none : Option Jvm.ClassFile.FieldType)) ∈ am_tb := am_mem 341 (by decide +kernel) rfl
theorem q458 : (Jvm.Cond.fieldLink "MessengerBoard" (76 : Nat) "MessengerBoard" "queryReader" "LMessengerBoard$QueryReader;") ∈ am_tb := am_mem 359 (by decide +kernel) rfl
theorem q459 : (Jvm.Cond.fieldLink "MessengerBoard" (80 : Nat) "MessengerBoard" "text" "[I") ∈ am_tb := am_mem 360 (by decide +kernel) rfl
theorem q460 : (Jvm.Cond.fieldLink "MessengerBoard" (83 : Nat) "MessengerBoard" "errorAt" "I") ∈ am_tb := am_mem 365 (by decide +kernel) rfl
theorem q461 : (Jvm.Cond.fieldLink "MessengerBoard" (87 : Nat) "MessengerBoard" "buffered" "I") ∈ am_tb := am_mem 364 (by decide +kernel) rfl
theorem q462 : (Jvm.Cond.methodLink "MessengerBoard" (90 : Nat) ({ cls := "MessengerBoard", name := "appendBytes", desc := "(I)V" } : Jvm.MethodName)) ∈ am_tb := am_mem 406 (by decide +kernel) rfl
theorem q463 : (Jvm.Cond.instanceMethod ({ cls := "MessengerBoard", name := "appendBytes", desc := "(I)V" } : Jvm.MethodName)) ∈ am_tb := am_mem 408 (by decide +kernel) rfl
theorem q464 : (Jvm.Cond.code ({ cls := "MessengerBoard", name := "appendBytes", desc := "(I)V" } : Jvm.MethodName) prog_1_method_3_code (3 : Nat) (Option.none : Option Jvm.ClassFile.FieldType)) ∈ am_tb := am_mem 409 (by decide +kernel) rfl
theorem q465 : Jvm.Cond.selects "MessengerBoard" ⟨"MessengerBoard", "appendBytes", "(I)V"⟩ ⟨"MessengerBoard", "appendBytes", "(I)V"⟩ ∈ am_tb := am_mem 0 (by decide +kernel) rfl
theorem q466 : (Jvm.Cond.fieldLink "MessengerBoard" (140 : Nat) "MessengerBoard$Situation" "orders" "LMessengerBoard$Table;") ∈ am_tb := am_mem 207 (by decide +kernel) rfl
theorem q467 : (Jvm.Cond.methodLink "MessengerBoard" (126 : Nat) ({ cls := "MessengerBoard$Table", name := "count", desc := "()I" } : Jvm.MethodName)) ∈ am_tb := am_mem 418 (by decide +kernel) rfl
theorem q468 : (Jvm.Cond.methodLink "MessengerBoard" (232 : Nat) ({ cls := "MessengerBoard$Situation", name := "overtakes", desc := "(II)Z" } : Jvm.MethodName)) ∈ am_tb := am_mem 422 (by decide +kernel) rfl
theorem q469 : (Jvm.Cond.instanceMethod ({ cls := "MessengerBoard$Situation", name := "overtakes", desc := "(II)Z" } : Jvm.MethodName)) ∈ am_tb := am_mem 423 (by decide +kernel) rfl
theorem q470 : (Jvm.Cond.code ({ cls := "MessengerBoard$Situation", name := "overtakes", desc := "(II)Z" } : Jvm.MethodName) prog_8_method_17_code (4 : Nat) (Option.some Jvm.ClassFile.FieldType.boolean)) ∈ am_tb := am_mem 425 (by decide +kernel) rfl
theorem q471 : (Jvm.Cond.selects "MessengerBoard$Situation" ({ cls := "MessengerBoard$Situation", name := "overtakes", desc := "(II)Z" } : Jvm.MethodName) ({ cls := "MessengerBoard$Situation", name := "overtakes", desc := "(II)Z" } : Jvm.MethodName)) ∈ am_tb := am_mem 424 (by decide +kernel) rfl
theorem q472 : (Jvm.Cond.methodLink "MessengerBoard" (183 : Nat) ({ cls := "MessengerBoard$Table", name := "get", desc := "(II)I" } : Jvm.MethodName)) ∈ am_tb := am_mem 434 (by decide +kernel) rfl
theorem q473 : (Jvm.Cond.methodLink "MessengerBoard" (193 : Nat) ({ cls := "MessengerBoard$Situation", name := "ordersIn", desc := "(I)I" } : Jvm.MethodName)) ∈ am_tb := am_mem 439 (by decide +kernel) rfl
theorem q474 : (Jvm.Cond.instanceMethod ({ cls := "MessengerBoard$Situation", name := "ordersIn", desc := "(I)I" } : Jvm.MethodName)) ∈ am_tb := am_mem 440 (by decide +kernel) rfl
theorem q475 : (Jvm.Cond.code ({ cls := "MessengerBoard$Situation", name := "ordersIn", desc := "(I)I" } : Jvm.MethodName) prog_8_method_16_code (5 : Nat) (Option.some Jvm.ClassFile.FieldType.int)) ∈ am_tb := am_mem 442 (by decide +kernel) rfl
theorem q476 : (Jvm.Cond.selects "MessengerBoard$Situation" ({ cls := "MessengerBoard$Situation", name := "ordersIn", desc := "(I)I" } : Jvm.MethodName) ({ cls := "MessengerBoard$Situation", name := "ordersIn", desc := "(I)I" } : Jvm.MethodName)) ∈ am_tb := am_mem 441 (by decide +kernel) rfl
theorem q477 : (Jvm.Cond.fieldLink "MessengerBoard" (287 : Nat) "MessengerBoard" "textLength" "I") ∈ am_tb := am_mem 366 (by decide +kernel) rfl
theorem q478 : (Jvm.Cond.methodLink "MessengerBoard" (293 : Nat) ({ cls := "MessengerBoard$History", name := "count", desc := "()I" } : Jvm.MethodName)) ∈ am_tb := am_mem 452 (by decide +kernel) rfl
theorem q479 : (Jvm.Cond.instanceMethod ({ cls := "MessengerBoard$History", name := "count", desc := "()I" } : Jvm.MethodName)) ∈ am_tb := am_mem 453 (by decide +kernel) rfl
theorem q480 : (Jvm.Cond.code ({ cls := "MessengerBoard$History", name := "count", desc := "()I" } : Jvm.MethodName) prog_5_method_2_code (1 : Nat) (Option.some Jvm.ClassFile.FieldType.int)) ∈ am_tb := am_mem 455 (by decide +kernel) rfl
theorem q481 : (Jvm.Cond.selects "MessengerBoard$History" ({ cls := "MessengerBoard$History", name := "count", desc := "()I" } : Jvm.MethodName) ({ cls := "MessengerBoard$History", name := "count", desc := "()I" } : Jvm.MethodName)) ∈ am_tb := am_mem 454 (by decide +kernel) rfl
theorem q482 : (Jvm.Cond.methodLink "MessengerBoard" (294 : Nat) ({ cls := "MessengerBoard$History", name := "bringBack", desc := "(LMessengerBoard$Situation;)Z" } : Jvm.MethodName)) ∈ am_tb := am_mem 460 (by decide +kernel) rfl
theorem q483 : (Jvm.Cond.instanceMethod ({ cls := "MessengerBoard$History", name := "bringBack", desc := "(LMessengerBoard$Situation;)Z" } : Jvm.MethodName)) ∈ am_tb := am_mem 461 (by decide +kernel) rfl
theorem q484 : (Jvm.Cond.code ({ cls := "MessengerBoard$History", name := "bringBack", desc := "(LMessengerBoard$Situation;)Z" } : Jvm.MethodName) prog_5_method_5_code (3 : Nat) (Option.some Jvm.ClassFile.FieldType.boolean)) ∈ am_tb := am_mem 463 (by decide +kernel) rfl
theorem q485 : (Jvm.Cond.selects "MessengerBoard$History" ({ cls := "MessengerBoard$History", name := "bringBack", desc := "(LMessengerBoard$Situation;)Z" } : Jvm.MethodName) ({ cls := "MessengerBoard$History", name := "bringBack", desc := "(LMessengerBoard$Situation;)Z" } : Jvm.MethodName)) ∈ am_tb := am_mem 462 (by decide +kernel) rfl
theorem q486 : (Jvm.Cond.methodLink "MessengerBoard" (112 : Nat) ({ cls := "MessengerBoard$Paths", name := "forget", desc := "()V" } : Jvm.MethodName)) ∈ am_tb := am_mem 476 (by decide +kernel) rfl
theorem q487 : (Jvm.Cond.instanceMethod ({ cls := "MessengerBoard$Paths", name := "forget", desc := "()V" } : Jvm.MethodName)) ∈ am_tb := am_mem 477 (by decide +kernel) rfl
theorem q488 : (Jvm.Cond.code ({ cls := "MessengerBoard$Paths", name := "forget", desc := "()V" } : Jvm.MethodName) prog_6_method_2_code (2 : Nat) (Option.none : Option Jvm.ClassFile.FieldType)) ∈ am_tb := am_mem 479 (by decide +kernel) rfl
theorem q489 : (Jvm.Cond.selects "MessengerBoard$Paths" ({ cls := "MessengerBoard$Paths", name := "forget", desc := "()V" } : Jvm.MethodName) ({ cls := "MessengerBoard$Paths", name := "forget", desc := "()V" } : Jvm.MethodName)) ∈ am_tb := am_mem 478 (by decide +kernel) rfl
theorem q490 : (Jvm.Cond.fieldLink "MessengerBoard" (298 : Nat) "MessengerBoard" "saved" "LMessengerBoard$Situation;") ∈ am_tb := am_mem 361 (by decide +kernel) rfl
theorem q491 : (Jvm.Cond.fieldLink "MessengerBoard" (301 : Nat) "MessengerBoard" "savedTrail" "LMessengerBoard$Trail;") ∈ am_tb := am_mem 362 (by decide +kernel) rfl
theorem q492 : (Jvm.Cond.methodLink "MessengerBoard" (109 : Nat) ({ cls := "MessengerBoard$Situation", name := "copyFrom", desc := "(LMessengerBoard$Situation;)V" } : Jvm.MethodName)) ∈ am_tb := am_mem 484 (by decide +kernel) rfl
theorem q493 : (Jvm.Cond.methodLink "MessengerBoard" (304 : Nat) ({ cls := "MessengerBoard$Trail", name := "copyFrom", desc := "(LMessengerBoard$Trail;)V" } : Jvm.MethodName)) ∈ am_tb := am_mem 485 (by decide +kernel) rfl
theorem q494 : (Jvm.Cond.instanceMethod ({ cls := "MessengerBoard$Trail", name := "copyFrom", desc := "(LMessengerBoard$Trail;)V" } : Jvm.MethodName)) ∈ am_tb := am_mem 486 (by decide +kernel) rfl
theorem q495 : (Jvm.Cond.code ({ cls := "MessengerBoard$Trail", name := "copyFrom", desc := "(LMessengerBoard$Trail;)V" } : Jvm.MethodName) prog_11_method_4_code (2 : Nat) (Option.none : Option Jvm.ClassFile.FieldType)) ∈ am_tb := am_mem 488 (by decide +kernel) rfl
theorem q496 : (Jvm.Cond.selects "MessengerBoard$Trail" ({ cls := "MessengerBoard$Trail", name := "copyFrom", desc := "(LMessengerBoard$Trail;)V" } : Jvm.MethodName) ({ cls := "MessengerBoard$Trail", name := "copyFrom", desc := "(LMessengerBoard$Trail;)V" } : Jvm.MethodName)) ∈ am_tb := am_mem 487 (by decide +kernel) rfl
theorem q497 : (Jvm.Cond.fieldLink "MessengerBoard" (118 : Nat) "MessengerBoard" "hasSnapshot" "Z") ∈ am_tb := am_mem 363 (by decide +kernel) rfl
theorem q498 : (Jvm.Cond.methodLink "MessengerBoard" (115 : Nat) ({ cls := "MessengerBoard$History", name := "clear", desc := "()V" } : Jvm.MethodName)) ∈ am_tb := am_mem 494 (by decide +kernel) rfl
theorem q499 : (Jvm.Cond.instanceMethod ({ cls := "MessengerBoard$History", name := "clear", desc := "()V" } : Jvm.MethodName)) ∈ am_tb := am_mem 495 (by decide +kernel) rfl
theorem q500 : (Jvm.Cond.code ({ cls := "MessengerBoard$History", name := "clear", desc := "()V" } : Jvm.MethodName) prog_5_method_3_code (1 : Nat) (Option.none : Option Jvm.ClassFile.FieldType)) ∈ am_tb := am_mem 497 (by decide +kernel) rfl
theorem q501 : (Jvm.Cond.selects "MessengerBoard$History" ({ cls := "MessengerBoard$History", name := "clear", desc := "()V" } : Jvm.MethodName) ({ cls := "MessengerBoard$History", name := "clear", desc := "()V" } : Jvm.MethodName)) ∈ am_tb := am_mem 496 (by decide +kernel) rfl
theorem q502 : (Jvm.Cond.classLink "MessengerBoard" (94 : Nat) "java/lang/IllegalArgumentException") ∈ am_tb := am_mem 506 (by decide +kernel) rfl
theorem q503 : (Jvm.Cond.initialized "java/lang/IllegalArgumentException") ∈ am_tb := am_mem 123 (by decide +kernel) rfl
theorem q504 : (Jvm.Cond.methodLink "MessengerBoard" (101 : Nat) ({ cls := "MessengerBoard$BoardReader", name := "readText", desc := "(I)I" } : Jvm.MethodName)) ∈ am_tb := am_mem 573 (by decide +kernel) rfl
theorem q505 : (Jvm.Cond.instanceMethod ({ cls := "MessengerBoard$BoardReader", name := "readText", desc := "(I)I" } : Jvm.MethodName)) ∈ am_tb := am_mem 574 (by decide +kernel) rfl
theorem q506 : (Jvm.Cond.code ({ cls := "MessengerBoard$BoardReader", name := "readText", desc := "(I)I" } : Jvm.MethodName) prog_2_method_2_code (5 : Nat) (Option.some Jvm.ClassFile.FieldType.int)) ∈ am_tb := am_mem 576 (by decide +kernel) rfl
theorem q507 : (Jvm.Cond.selects "MessengerBoard$BoardReader" ({ cls := "MessengerBoard$BoardReader", name := "readText", desc := "(I)I" } : Jvm.MethodName) ({ cls := "MessengerBoard$BoardReader", name := "readText", desc := "(I)I" } : Jvm.MethodName)) ∈ am_tb := am_mem 575 (by decide +kernel) rfl
theorem q508 : (Jvm.Cond.methodLink "MessengerBoard" (105 : Nat) ({ cls := "MessengerBoard$Tokens", name := "errorPlace", desc := "()I" } : Jvm.MethodName)) ∈ am_tb := am_mem 773 (by decide +kernel) rfl
theorem q509 : (Jvm.Cond.instanceMethod ({ cls := "MessengerBoard$Tokens", name := "errorPlace", desc := "()I" } : Jvm.MethodName)) ∈ am_tb := am_mem 774 (by decide +kernel) rfl
theorem q510 : (Jvm.Cond.code ({ cls := "MessengerBoard$Tokens", name := "errorPlace", desc := "()I" } : Jvm.MethodName) prog_10_method_6_code (1 : Nat) (Option.some Jvm.ClassFile.FieldType.int)) ∈ am_tb := am_mem 776 (by decide +kernel) rfl
theorem q511 : (Jvm.Cond.selects "MessengerBoard$Tokens" ({ cls := "MessengerBoard$Tokens", name := "errorPlace", desc := "()I" } : Jvm.MethodName) ({ cls := "MessengerBoard$Tokens", name := "errorPlace", desc := "()I" } : Jvm.MethodName)) ∈ am_tb := am_mem 775 (by decide +kernel) rfl
theorem q512 : (Jvm.Cond.fieldLink "MessengerBoard" (122 : Nat) "MessengerBoard$Situation" "units" "LMessengerBoard$Table;") ∈ am_tb := am_mem 194 (by decide +kernel) rfl
theorem q513 : (Jvm.Cond.fieldLink "MessengerBoard" (131 : Nat) "MessengerBoard$Situation" "width" "I") ∈ am_tb := am_mem 170 (by decide +kernel) rfl
theorem q514 : (Jvm.Cond.fieldLink "MessengerBoard" (134 : Nat) "MessengerBoard$Situation" "height" "I") ∈ am_tb := am_mem 173 (by decide +kernel) rfl
theorem q515 : (Jvm.Cond.fieldLink "MessengerBoard" (137 : Nat) "MessengerBoard$Situation" "pickets" "LMessengerBoard$Table;") ∈ am_tb := am_mem 198 (by decide +kernel) rfl
theorem q516 : (Jvm.Cond.fieldLink "MessengerBoard" (143 : Nat) "MessengerBoard$Situation" "turn" "I") ∈ am_tb := am_mem 183 (by decide +kernel) rfl
theorem q517 : (Jvm.Cond.fieldLink "MessengerBoard" (146 : Nat) "MessengerBoard$Situation" "wallCount" "I") ∈ am_tb := am_mem 189 (by decide +kernel) rfl
theorem q518 : (Jvm.Cond.fieldLink "MessengerBoard" (149 : Nat) "MessengerBoard$Situation" "events" "LMessengerBoard$Table;") ∈ am_tb := am_mem 209 (by decide +kernel) rfl
theorem q519 : (Jvm.Cond.fieldLink "MessengerBoard" (152 : Nat) "MessengerBoard$Situation" "plans" "LMessengerBoard$Table;") ∈ am_tb := am_mem 202 (by decide +kernel) rfl
theorem q520 : (Jvm.Cond.fieldLink "MessengerBoard" (155 : Nat) "MessengerBoard$Situation" "patience" "I") ∈ am_tb := am_mem 187 (by decide +kernel) rfl
theorem q521 : (Jvm.Cond.fieldLink "MessengerBoard" (158 : Nat) "MessengerBoard$Situation" "headquartersX" "I") ∈ am_tb := am_mem 176 (by decide +kernel) rfl
theorem q522 : (Jvm.Cond.fieldLink "MessengerBoard" (161 : Nat) "MessengerBoard$Situation" "headquartersY" "I") ∈ am_tb := am_mem 179 (by decide +kernel) rfl
theorem q523 : (Jvm.Cond.classLink "MessengerBoard" (164 : Nat) "java/util/NoSuchElementException") ∈ am_tb := am_mem 785 (by decide +kernel) rfl
theorem q524 : (Jvm.Cond.initialized "java/util/NoSuchElementException") ∈ am_tb := am_mem 131 (by decide +kernel) rfl
theorem q525 : (Jvm.Cond.methodLink "MessengerBoard" (169 : Nat) ({ cls := "MessengerBoard", name := "needRow", desc := "(LMessengerBoard$Table;I)V" } : Jvm.MethodName)) ∈ am_tb := am_mem 808 (by decide +kernel) rfl
theorem q526 : (Jvm.Cond.static ({ cls := "MessengerBoard", name := "needRow", desc := "(LMessengerBoard$Table;I)V" } : Jvm.MethodName)) ∈ am_tb := am_mem 809 (by decide +kernel) rfl
theorem q527 : (Jvm.Cond.code ({ cls := "MessengerBoard", name := "needRow", desc := "(LMessengerBoard$Table;I)V" } : Jvm.MethodName) prog_1_method_41_code (2 : Nat) (Option.none : Option Jvm.ClassFile.FieldType)) ∈ am_tb := am_mem 810 (by decide +kernel) rfl
theorem q528 : (Jvm.Cond.methodLink "MessengerBoard" (173 : Nat) ({ cls := "MessengerBoard", name := "needColumn", desc := "(II)V" } : Jvm.MethodName)) ∈ am_tb := am_mem 812 (by decide +kernel) rfl
theorem q529 : (Jvm.Cond.static ({ cls := "MessengerBoard", name := "needColumn", desc := "(II)V" } : Jvm.MethodName)) ∈ am_tb := am_mem 813 (by decide +kernel) rfl
theorem q530 : (Jvm.Cond.code ({ cls := "MessengerBoard", name := "needColumn", desc := "(II)V" } : Jvm.MethodName) prog_1_method_42_code (2 : Nat) (Option.none : Option Jvm.ClassFile.FieldType)) ∈ am_tb := am_mem 814 (by decide +kernel) rfl
theorem q531 : (Jvm.Cond.methodLink "MessengerBoard" (180 : Nat) ({ cls := "MessengerBoard$Situation", name := "awaitedBy", desc := "(I)I" } : Jvm.MethodName)) ∈ am_tb := am_mem 820 (by decide +kernel) rfl
theorem q532 : (Jvm.Cond.instanceMethod ({ cls := "MessengerBoard$Situation", name := "awaitedBy", desc := "(I)I" } : Jvm.MethodName)) ∈ am_tb := am_mem 821 (by decide +kernel) rfl
theorem q533 : (Jvm.Cond.code ({ cls := "MessengerBoard$Situation", name := "awaitedBy", desc := "(I)I" } : Jvm.MethodName) prog_8_method_15_code (5 : Nat) (Option.some Jvm.ClassFile.FieldType.int)) ∈ am_tb := am_mem 823 (by decide +kernel) rfl
theorem q534 : (Jvm.Cond.selects "MessengerBoard$Situation" ({ cls := "MessengerBoard$Situation", name := "awaitedBy", desc := "(I)I" } : Jvm.MethodName) ({ cls := "MessengerBoard$Situation", name := "awaitedBy", desc := "(I)I" } : Jvm.MethodName)) ∈ am_tb := am_mem 822 (by decide +kernel) rfl
theorem q535 : (Jvm.Cond.methodLink "MessengerBoard" (177 : Nat) ({ cls := "MessengerBoard$Situation", name := "obeyedBy", desc := "(I)I" } : Jvm.MethodName)) ∈ am_tb := am_mem 816 (by decide +kernel) rfl
theorem q536 : (Jvm.Cond.methodLink "MessengerBoard" (187 : Nat) ({ cls := "MessengerBoard$Situation", name := "watches", desc := "(II)Z" } : Jvm.MethodName)) ∈ am_tb := am_mem 831 (by decide +kernel) rfl
theorem q537 : (Jvm.Cond.methodLink "MessengerBoard" (314 : Nat) ({ cls := "MessengerBoard$Situation", name := "hasCell", desc := "(II)Z" } : Jvm.MethodName)) ∈ am_tb := am_mem 875 (by decide +kernel) rfl
theorem q538 : (Jvm.Cond.instanceMethod ({ cls := "MessengerBoard$Situation", name := "hasCell", desc := "(II)Z" } : Jvm.MethodName)) ∈ am_tb := am_mem 876 (by decide +kernel) rfl
theorem q539 : (Jvm.Cond.code ({ cls := "MessengerBoard$Situation", name := "hasCell", desc := "(II)Z" } : Jvm.MethodName) prog_8_method_4_code (3 : Nat) (Option.some Jvm.ClassFile.FieldType.boolean)) ∈ am_tb := am_mem 878 (by decide +kernel) rfl
theorem q540 : (Jvm.Cond.selects "MessengerBoard$Situation" ({ cls := "MessengerBoard$Situation", name := "hasCell", desc := "(II)Z" } : Jvm.MethodName) ({ cls := "MessengerBoard$Situation", name := "hasCell", desc := "(II)Z" } : Jvm.MethodName)) ∈ am_tb := am_mem 877 (by decide +kernel) rfl
theorem q541 : (Jvm.Cond.methodLink "MessengerBoard" (196 : Nat) ({ cls := "MessengerBoard", name := "needCell", desc := "(II)V" } : Jvm.MethodName)) ∈ am_tb := am_mem 871 (by decide +kernel) rfl
theorem q542 : (Jvm.Cond.instanceMethod ({ cls := "MessengerBoard", name := "needCell", desc := "(II)V" } : Jvm.MethodName)) ∈ am_tb := am_mem 873 (by decide +kernel) rfl
theorem q543 : (Jvm.Cond.code ({ cls := "MessengerBoard", name := "needCell", desc := "(II)V" } : Jvm.MethodName) prog_1_method_43_code (3 : Nat) (Option.none : Option Jvm.ClassFile.FieldType)) ∈ am_tb := am_mem 874 (by decide +kernel) rfl
theorem q544 : Jvm.Cond.selects "MessengerBoard" ⟨"MessengerBoard", "needCell", "(II)V"⟩ ⟨"MessengerBoard", "needCell", "(II)V"⟩ ∈ am_tb := am_mem 15 (by decide +kernel) rfl
theorem q545 : (Jvm.Cond.methodLink "MessengerBoard" (199 : Nat) ({ cls := "MessengerBoard$Situation", name := "walled", desc := "(II)Z" } : Jvm.MethodName)) ∈ am_tb := am_mem 880 (by decide +kernel) rfl
theorem q546 : (Jvm.Cond.methodLink "MessengerBoard" (204 : Nat) ({ cls := "MessengerBoard$Situation", name := "watcher", desc := "(III)I" } : Jvm.MethodName)) ∈ am_tb := am_mem 889 (by decide +kernel) rfl
theorem q547 : (Jvm.Cond.methodLink "MessengerBoard" (208 : Nat) ({ cls := "MessengerBoard", name := "cellAt", desc := "(II)I" } : Jvm.MethodName)) ∈ am_tb := am_mem 904 (by decide +kernel) rfl
theorem q548 : (Jvm.Cond.methodLink "MessengerBoard" (211 : Nat) ({ cls := "MessengerBoard$Paths", name := "between", desc := "(II)I" } : Jvm.MethodName)) ∈ am_tb := am_mem 905 (by decide +kernel) rfl
theorem q549 : (Jvm.Cond.instanceMethod ({ cls := "MessengerBoard$Paths", name := "between", desc := "(II)I" } : Jvm.MethodName)) ∈ am_tb := am_mem 906 (by decide +kernel) rfl
theorem q550 : (Jvm.Cond.code ({ cls := "MessengerBoard$Paths", name := "between", desc := "(II)I" } : Jvm.MethodName) prog_6_method_3_code (4 : Nat) (Option.some Jvm.ClassFile.FieldType.int)) ∈ am_tb := am_mem 908 (by decide +kernel) rfl
theorem q551 : (Jvm.Cond.selects "MessengerBoard$Paths" ({ cls := "MessengerBoard$Paths", name := "between", desc := "(II)I" } : Jvm.MethodName) ({ cls := "MessengerBoard$Paths", name := "between", desc := "(II)I" } : Jvm.MethodName)) ∈ am_tb := am_mem 907 (by decide +kernel) rfl
theorem q552 : (Jvm.Cond.methodLink "MessengerBoard" (214 : Nat) ({ cls := "MessengerBoard$Paths", name := "nextCell", desc := "(II)I" } : Jvm.MethodName)) ∈ am_tb := am_mem 953 (by decide +kernel) rfl
theorem q553 : (Jvm.Cond.methodLink "MessengerBoard" (217 : Nat) ({ cls := "MessengerBoard", name := "xOf", desc := "(I)I" } : Jvm.MethodName)) ∈ am_tb := am_mem 957 (by decide +kernel) rfl
theorem q554 : (Jvm.Cond.methodLink "MessengerBoard" (220 : Nat) ({ cls := "MessengerBoard", name := "yOf", desc := "(I)I" } : Jvm.MethodName)) ∈ am_tb := am_mem 958 (by decide +kernel) rfl
theorem q555 : (Jvm.Cond.methodLink "MessengerBoard" (223 : Nat) ({ cls := "MessengerBoard", name := "nameOf", desc := "(II)I" } : Jvm.MethodName)) ∈ am_tb := am_mem 959 (by decide +kernel) rfl
theorem q556 : (Jvm.Cond.methodLink "MessengerBoard" (226 : Nat) ({ cls := "MessengerBoard", name := "needPastTurn", desc := "(I)V" } : Jvm.MethodName)) ∈ am_tb := am_mem 969 (by decide +kernel) rfl
theorem q557 : (Jvm.Cond.instanceMethod ({ cls := "MessengerBoard", name := "needPastTurn", desc := "(I)V" } : Jvm.MethodName)) ∈ am_tb := am_mem 971 (by decide +kernel) rfl
theorem q558 : (Jvm.Cond.code ({ cls := "MessengerBoard", name := "needPastTurn", desc := "(I)V" } : Jvm.MethodName) prog_1_method_45_code (2 : Nat) (Option.none : Option Jvm.ClassFile.FieldType)) ∈ am_tb := am_mem 972 (by decide +kernel) rfl
theorem q559 : Jvm.Cond.selects "MessengerBoard" ⟨"MessengerBoard", "needPastTurn", "(I)V"⟩ ⟨"MessengerBoard", "needPastTurn", "(I)V"⟩ ∈ am_tb := am_mem 17 (by decide +kernel) rfl
theorem q560 : (Jvm.Cond.methodLink "MessengerBoard" (229 : Nat) ({ cls := "MessengerBoard$Trail", name := "placeOf", desc := "(II)I" } : Jvm.MethodName)) ∈ am_tb := am_mem 973 (by decide +kernel) rfl
theorem q561 : (Jvm.Cond.instanceMethod ({ cls := "MessengerBoard$Trail", name := "placeOf", desc := "(II)I" } : Jvm.MethodName)) ∈ am_tb := am_mem 974 (by decide +kernel) rfl
theorem q562 : (Jvm.Cond.code ({ cls := "MessengerBoard$Trail", name := "placeOf", desc := "(II)I" } : Jvm.MethodName) prog_11_method_3_code (4 : Nat) (Option.some Jvm.ClassFile.FieldType.int)) ∈ am_tb := am_mem 976 (by decide +kernel) rfl
theorem q563 : (Jvm.Cond.selects "MessengerBoard$Trail" ({ cls := "MessengerBoard$Trail", name := "placeOf", desc := "(II)I" } : Jvm.MethodName) ({ cls := "MessengerBoard$Trail", name := "placeOf", desc := "(II)I" } : Jvm.MethodName)) ∈ am_tb := am_mem 975 (by decide +kernel) rfl
theorem q564 : (Jvm.Cond.methodLink "MessengerBoard" (235 : Nat) ({ cls := "MessengerBoard", name := "needGoal", desc := "(III)V" } : Jvm.MethodName)) ∈ am_tb := am_mem 991 (by decide +kernel) rfl
theorem q565 : (Jvm.Cond.instanceMethod ({ cls := "MessengerBoard", name := "needGoal", desc := "(III)V" } : Jvm.MethodName)) ∈ am_tb := am_mem 993 (by decide +kernel) rfl
theorem q566 : (Jvm.Cond.code ({ cls := "MessengerBoard", name := "needGoal", desc := "(III)V" } : Jvm.MethodName) prog_1_method_44_code (4 : Nat) (Option.none : Option Jvm.ClassFile.FieldType)) ∈ am_tb := am_mem 994 (by decide +kernel) rfl
theorem q567 : Jvm.Cond.selects "MessengerBoard" ⟨"MessengerBoard", "needGoal", "(III)V"⟩ ⟨"MessengerBoard", "needGoal", "(III)V"⟩ ∈ am_tb := am_mem 18 (by decide +kernel) rfl
theorem q568 : (Jvm.Cond.methodLink "MessengerBoard" (239 : Nat) ({ cls := "MessengerBoard", name := "needTurns", desc := "(II)V" } : Jvm.MethodName)) ∈ am_tb := am_mem 996 (by decide +kernel) rfl
theorem q569 : (Jvm.Cond.static ({ cls := "MessengerBoard", name := "needTurns", desc := "(II)V" } : Jvm.MethodName)) ∈ am_tb := am_mem 997 (by decide +kernel) rfl
theorem q570 : (Jvm.Cond.code ({ cls := "MessengerBoard", name := "needTurns", desc := "(II)V" } : Jvm.MethodName) prog_1_method_46_code (2 : Nat) (Option.none : Option Jvm.ClassFile.FieldType)) ∈ am_tb := am_mem 998 (by decide +kernel) rfl
theorem q571 : (Jvm.Cond.methodLink "MessengerBoard" (242 : Nat) ({ cls := "MessengerBoard$Situation", name := "addOrder", desc := "(III)I" } : Jvm.MethodName)) ∈ am_tb := am_mem 1000 (by decide +kernel) rfl
theorem q572 : (Jvm.Cond.methodLink "MessengerBoard" (245 : Nat) ({ cls := "MessengerBoard$Clock", name := "passTurn", desc := "(LMessengerBoard$Situation;)V" } : Jvm.MethodName)) ∈ am_tb := am_mem 1004 (by decide +kernel) rfl
theorem q573 : (Jvm.Cond.instanceMethod ({ cls := "MessengerBoard$Clock", name := "passTurn", desc := "(LMessengerBoard$Situation;)V" } : Jvm.MethodName)) ∈ am_tb := am_mem 1005 (by decide +kernel) rfl
theorem q574 : (Jvm.Cond.code ({ cls := "MessengerBoard$Clock", name := "passTurn", desc := "(LMessengerBoard$Situation;)V" } : Jvm.MethodName) prog_3_method_2_code (5 : Nat) (Option.none : Option Jvm.ClassFile.FieldType)) ∈ am_tb := am_mem 1007 (by decide +kernel) rfl
theorem q575 : (Jvm.Cond.selects "MessengerBoard$Clock" ({ cls := "MessengerBoard$Clock", name := "passTurn", desc := "(LMessengerBoard$Situation;)V" } : Jvm.MethodName) ({ cls := "MessengerBoard$Clock", name := "passTurn", desc := "(LMessengerBoard$Situation;)V" } : Jvm.MethodName)) ∈ am_tb := am_mem 1006 (by decide +kernel) rfl
theorem q576 : (Jvm.Cond.methodLink "MessengerBoard" (248 : Nat) ({ cls := "MessengerBoard", name := "arrivalAfter", desc := "(IIII)I" } : Jvm.MethodName)) ∈ am_tb := am_mem 1045 (by decide +kernel) rfl
theorem q577 : (Jvm.Cond.instanceMethod ({ cls := "MessengerBoard", name := "arrivalAfter", desc := "(IIII)I" } : Jvm.MethodName)) ∈ am_tb := am_mem 1047 (by decide +kernel) rfl
theorem q578 : (Jvm.Cond.code ({ cls := "MessengerBoard", name := "arrivalAfter", desc := "(IIII)I" } : Jvm.MethodName) prog_1_method_23_code (7 : Nat) (Option.some Jvm.ClassFile.FieldType.int)) ∈ am_tb := am_mem 1048 (by decide +kernel) rfl
theorem q579 : Jvm.Cond.selects "MessengerBoard" ⟨"MessengerBoard", "arrivalAfter", "(IIII)I"⟩ ⟨"MessengerBoard", "arrivalAfter", "(IIII)I"⟩ ∈ am_tb := am_mem 23 (by decide +kernel) rfl
theorem q580 : (Jvm.Cond.methodLink "MessengerBoard" (252 : Nat) ({ cls := "MessengerBoard$History", name := "remember", desc := "(LMessengerBoard$Situation;)V" } : Jvm.MethodName)) ∈ am_tb := am_mem 1070 (by decide +kernel) rfl
theorem q581 : (Jvm.Cond.instanceMethod ({ cls := "MessengerBoard$History", name := "remember", desc := "(LMessengerBoard$Situation;)V" } : Jvm.MethodName)) ∈ am_tb := am_mem 1071 (by decide +kernel) rfl
theorem q582 : (Jvm.Cond.code ({ cls := "MessengerBoard$History", name := "remember", desc := "(LMessengerBoard$Situation;)V" } : Jvm.MethodName) prog_5_method_4_code (3 : Nat) (Option.none : Option Jvm.ClassFile.FieldType)) ∈ am_tb := am_mem 1073 (by decide +kernel) rfl
theorem q583 : (Jvm.Cond.selects "MessengerBoard$History" ({ cls := "MessengerBoard$History", name := "remember", desc := "(LMessengerBoard$Situation;)V" } : Jvm.MethodName) ({ cls := "MessengerBoard$History", name := "remember", desc := "(LMessengerBoard$Situation;)V" } : Jvm.MethodName)) ∈ am_tb := am_mem 1072 (by decide +kernel) rfl
theorem q584 : (Jvm.Cond.methodLink "MessengerBoard" (255 : Nat) ({ cls := "MessengerBoard$Trail", name := "record", desc := "(LMessengerBoard$Situation;)V" } : Jvm.MethodName)) ∈ am_tb := am_mem 1075 (by decide +kernel) rfl
theorem q585 : (Jvm.Cond.instanceMethod ({ cls := "MessengerBoard$Trail", name := "record", desc := "(LMessengerBoard$Situation;)V" } : Jvm.MethodName)) ∈ am_tb := am_mem 1076 (by decide +kernel) rfl
theorem q586 : (Jvm.Cond.code ({ cls := "MessengerBoard$Trail", name := "record", desc := "(LMessengerBoard$Situation;)V" } : Jvm.MethodName) prog_11_method_2_code (5 : Nat) (Option.none : Option Jvm.ClassFile.FieldType)) ∈ am_tb := am_mem 1078 (by decide +kernel) rfl
theorem q587 : (Jvm.Cond.selects "MessengerBoard$Trail" ({ cls := "MessengerBoard$Trail", name := "record", desc := "(LMessengerBoard$Situation;)V" } : Jvm.MethodName) ({ cls := "MessengerBoard$Trail", name := "record", desc := "(LMessengerBoard$Situation;)V" } : Jvm.MethodName)) ∈ am_tb := am_mem 1077 (by decide +kernel) rfl
theorem q588 : (Jvm.Cond.methodLink "MessengerBoard" (258 : Nat) ({ cls := "MessengerBoard$Situation", name := "isHeadquarters", desc := "(II)Z" } : Jvm.MethodName)) ∈ am_tb := am_mem 1096 (by decide +kernel) rfl
theorem q589 : (Jvm.Cond.methodLink "MessengerBoard" (261 : Nat) ({ cls := "MessengerBoard$Situation", name := "lowestUnitAt", desc := "(II)I" } : Jvm.MethodName)) ∈ am_tb := am_mem 1097 (by decide +kernel) rfl
theorem q590 : (Jvm.Cond.methodLink "MessengerBoard" (264 : Nat) ({ cls := "MessengerBoard$Situation", name := "hasMessengerAt", desc := "(II)Z" } : Jvm.MethodName)) ∈ am_tb := am_mem 1098 (by decide +kernel) rfl
theorem q591 : (Jvm.Cond.instanceMethod ({ cls := "MessengerBoard$Situation", name := "hasMessengerAt", desc := "(II)Z" } : Jvm.MethodName)) ∈ am_tb := am_mem 1099 (by decide +kernel) rfl
theorem q592 : (Jvm.Cond.code ({ cls := "MessengerBoard$Situation", name := "hasMessengerAt", desc := "(II)Z" } : Jvm.MethodName) prog_8_method_10_code (5 : Nat) (Option.some Jvm.ClassFile.FieldType.boolean)) ∈ am_tb := am_mem 1101 (by decide +kernel) rfl
theorem q593 : (Jvm.Cond.selects "MessengerBoard$Situation" ({ cls := "MessengerBoard$Situation", name := "hasMessengerAt", desc := "(II)Z" } : Jvm.MethodName) ({ cls := "MessengerBoard$Situation", name := "hasMessengerAt", desc := "(II)Z" } : Jvm.MethodName)) ∈ am_tb := am_mem 1100 (by decide +kernel) rfl
theorem q594 : (Jvm.Cond.methodLink "MessengerBoard" (267 : Nat) ({ cls := "MessengerBoard$Situation", name := "isGoal", desc := "(II)Z" } : Jvm.MethodName)) ∈ am_tb := am_mem 1102 (by decide +kernel) rfl
theorem q595 : (Jvm.Cond.instanceMethod ({ cls := "MessengerBoard$Situation", name := "isGoal", desc := "(II)Z" } : Jvm.MethodName)) ∈ am_tb := am_mem 1103 (by decide +kernel) rfl
theorem q596 : (Jvm.Cond.code ({ cls := "MessengerBoard$Situation", name := "isGoal", desc := "(II)Z" } : Jvm.MethodName) prog_8_method_11_code (6 : Nat) (Option.some Jvm.ClassFile.FieldType.boolean)) ∈ am_tb := am_mem 1105 (by decide +kernel) rfl
theorem q597 : (Jvm.Cond.selects "MessengerBoard$Situation" ({ cls := "MessengerBoard$Situation", name := "isGoal", desc := "(II)Z" } : Jvm.MethodName) ({ cls := "MessengerBoard$Situation", name := "isGoal", desc := "(II)Z" } : Jvm.MethodName)) ∈ am_tb := am_mem 1104 (by decide +kernel) rfl
theorem q598 : (Jvm.Cond.methodLink "MessengerBoard" (270 : Nat) ({ cls := "MessengerBoard$Situation", name := "turnWall", desc := "(II)V" } : Jvm.MethodName)) ∈ am_tb := am_mem 1106 (by decide +kernel) rfl
theorem q599 : (Jvm.Cond.methodLink "MessengerBoard" (273 : Nat) ({ cls := "MessengerBoard$Table", name := "put", desc := "(III)V" } : Jvm.MethodName)) ∈ am_tb := am_mem 1114 (by decide +kernel) rfl
theorem q600 : (Jvm.Cond.methodLink "MessengerBoard" (282 : Nat) ({ cls := "java/lang/Math", name := "min", desc := "(II)I" } : Jvm.MethodName)) ∈ am_tb := am_mem 1139 (by decide +kernel) rfl
theorem q601 : (Jvm.Cond.methodLink "MessengerBoard" (290 : Nat) ({ cls := "MessengerBoard", name := "signAt", desc := "(II)I" } : Jvm.MethodName)) ∈ am_tb := am_mem 1140 (by decide +kernel) rfl
theorem q602 : (Jvm.Cond.instanceMethod ({ cls := "MessengerBoard", name := "signAt", desc := "(II)I" } : Jvm.MethodName)) ∈ am_tb := am_mem 1142 (by decide +kernel) rfl
theorem q603 : (Jvm.Cond.code ({ cls := "MessengerBoard", name := "signAt", desc := "(II)I" } : Jvm.MethodName) prog_1_method_34_code (4 : Nat) (Option.some Jvm.ClassFile.FieldType.int)) ∈ am_tb := am_mem 1143 (by decide +kernel) rfl
theorem q604 : Jvm.Cond.selects "MessengerBoard" ⟨"MessengerBoard", "signAt", "(II)I"⟩ ⟨"MessengerBoard", "signAt", "(II)I"⟩ ∈ am_tb := am_mem 24 (by decide +kernel) rfl
theorem q605 : (Jvm.Cond.methodLink "MessengerBoard" (307 : Nat) ({ cls := "MessengerBoard$QueryReader", name := "answer", desc := "(I)I" } : Jvm.MethodName)) ∈ am_tb := am_mem 1151 (by decide +kernel) rfl
theorem q606 : (Jvm.Cond.instanceMethod ({ cls := "MessengerBoard$QueryReader", name := "answer", desc := "(I)I" } : Jvm.MethodName)) ∈ am_tb := am_mem 1152 (by decide +kernel) rfl
theorem q607 : (Jvm.Cond.code ({ cls := "MessengerBoard$QueryReader", name := "answer", desc := "(I)I" } : Jvm.MethodName) prog_7_method_2_code (5 : Nat) (Option.some Jvm.ClassFile.FieldType.int)) ∈ am_tb := am_mem 1154 (by decide +kernel) rfl
theorem q608 : (Jvm.Cond.selects "MessengerBoard$QueryReader" ({ cls := "MessengerBoard$QueryReader", name := "answer", desc := "(I)I" } : Jvm.MethodName) ({ cls := "MessengerBoard$QueryReader", name := "answer", desc := "(I)I" } : Jvm.MethodName)) ∈ am_tb := am_mem 1153 (by decide +kernel) rfl
theorem q609 : (Jvm.Cond.methodLink "MessengerBoardModel" (1 : Nat) ({ cls := "java/lang/Object", name := "<init>", desc := "()V" } : Jvm.MethodName)) ∈ am_tb := am_mem 1223 (by decide +kernel) rfl
theorem q610 : (Jvm.Cond.fieldLink "MessengerBoardModel" (9 : Nat) "MessengerBoardModel" "now" "[I") ∈ am_tb := am_mem 1239 (by decide +kernel) rfl
theorem q611 : (Jvm.Cond.fieldLink "MessengerBoardModel" (13 : Nat) "MessengerBoardModel" "draft" "[I") ∈ am_tb := am_mem 1240 (by decide +kernel) rfl
theorem q612 : (Jvm.Cond.fieldLink "MessengerBoardModel" (16 : Nat) "MessengerBoardModel" "aside" "[I") ∈ am_tb := am_mem 1241 (by decide +kernel) rfl
theorem q613 : (Jvm.Cond.fieldLink "MessengerBoardModel" (19 : Nat) "MessengerBoardModel" "snapshot" "[I") ∈ am_tb := am_mem 1242 (by decide +kernel) rfl
theorem q614 : (Jvm.Cond.constant "MessengerBoardModel" (22 : Nat) (39340 : Int32)) ∈ am_tb := am_mem 1224 (by decide +kernel) rfl
theorem q615 : (Jvm.Cond.fieldLink "MessengerBoardModel" (23 : Nat) "MessengerBoardModel" "history" "[I") ∈ am_tb := am_mem 1243 (by decide +kernel) rfl
theorem q616 : (Jvm.Cond.fieldLink "MessengerBoardModel" (26 : Nat) "MessengerBoardModel" "far" "[I") ∈ am_tb := am_mem 1247 (by decide +kernel) rfl
theorem q617 : (Jvm.Cond.fieldLink "MessengerBoardModel" (29 : Nat) "MessengerBoardModel" "queue" "[I") ∈ am_tb := am_mem 1248 (by decide +kernel) rfl
theorem q618 : (Jvm.Cond.fieldLink "MessengerBoardModel" (32 : Nat) "MessengerBoardModel" "formatted" "[I") ∈ am_tb := am_mem 1249 (by decide +kernel) rfl
theorem q619 : (Jvm.Cond.fieldLink "MessengerBoardModel" (35 : Nat) "MessengerBoardModel" "buffer" "[I") ∈ am_tb := am_mem 1251 (by decide +kernel) rfl
theorem q620 : (Jvm.Cond.fieldLink "MessengerBoardModel" (38 : Nat) "MessengerBoardModel" "errorPosition" "I") ∈ am_tb := am_mem 1259 (by decide +kernel) rfl
theorem q621 : (Jvm.Cond.classLink "MessengerBoardModel" (42 : Nat) "java/lang/String") ∈ am_tb := am_mem 1225 (by decide +kernel) rfl
theorem q622 : (Jvm.Cond.fieldLink "MessengerBoardModel" (62 : Nat) "MessengerBoardModel" "names" "[Ljava/lang/String;") ∈ am_tb := am_mem 1263 (by decide +kernel) rfl
theorem q623 : (Jvm.Cond.fieldLink "MessengerBoardModel" (66 : Nat) "MessengerBoardModel" "codes" "[I") ∈ am_tb := am_mem 1264 (by decide +kernel) rfl
theorem q624 : (Jvm.Cond.arrayClass Jvm.ClassFile.FieldType.long) ∈ am_tb := am_mem 1324 (by decide +kernel) rfl
theorem q625 : (Jvm.Cond.fieldLink "MessengerBoardModel" (69 : Nat) "MessengerBoardModel" "stack" "[J") ∈ am_tb := am_mem 1265 (by decide +kernel) rfl
theorem q626 : (Jvm.Cond.methodLink "MessengerBoardModel" (73 : Nat) ({ cls := "MessengerBoardModel", name := "clear", desc := "([I)V" } : Jvm.MethodName)) ∈ am_tb := am_mem 1236 (by decide +kernel) rfl
theorem q627 : (Jvm.Cond.static ({ cls := "MessengerBoardModel", name := "clear", desc := "([I)V" } : Jvm.MethodName)) ∈ am_tb := am_mem 1237 (by decide +kernel) rfl
theorem q628 : (Jvm.Cond.initialized "MessengerBoardModel") ∈ am_tb := am_mem 119 (by decide +kernel) rfl
theorem q629 : (Jvm.Cond.code ({ cls := "MessengerBoardModel", name := "clear", desc := "([I)V" } : Jvm.MethodName) prog_13_method_5_code (2 : Nat) (Option.none : Option Jvm.ClassFile.FieldType)) ∈ am_tb := am_mem 1238 (by decide +kernel) rfl
theorem q630 : (Jvm.Cond.fieldLink "MessengerBoardModel" (77 : Nat) "MessengerBoardModel" "thrown" "I") ∈ am_tb := am_mem 1245 (by decide +kernel) rfl
theorem q631 : (Jvm.Cond.methodLink "MessengerBoardModel" (90 : Nat) ({ cls := "MessengerBoardModel", name := "inRange", desc := "(III)Z" } : Jvm.MethodName)) ∈ am_tb := am_mem 1333 (by decide +kernel) rfl
theorem q632 : (Jvm.Cond.static ({ cls := "MessengerBoardModel", name := "inRange", desc := "(III)Z" } : Jvm.MethodName)) ∈ am_tb := am_mem 1334 (by decide +kernel) rfl
theorem q633 : (Jvm.Cond.code ({ cls := "MessengerBoardModel", name := "inRange", desc := "(III)Z" } : Jvm.MethodName) prog_13_method_4_code (3 : Nat) (Option.some Jvm.ClassFile.FieldType.boolean)) ∈ am_tb := am_mem 1335 (by decide +kernel) rfl
theorem q634 : (Jvm.Cond.methodLink "MessengerBoardModel" (192 : Nat) ({ cls := "MessengerBoardModel", name := "raise", desc := "(I)I" } : Jvm.MethodName)) ∈ am_tb := am_mem 1336 (by decide +kernel) rfl
theorem q635 : (Jvm.Cond.instanceMethod ({ cls := "MessengerBoardModel", name := "raise", desc := "(I)I" } : Jvm.MethodName)) ∈ am_tb := am_mem 1338 (by decide +kernel) rfl
theorem q636 : (Jvm.Cond.code ({ cls := "MessengerBoardModel", name := "raise", desc := "(I)I" } : Jvm.MethodName) prog_13_method_3_code (2 : Nat) (Option.some Jvm.ClassFile.FieldType.int)) ∈ am_tb := am_mem 1339 (by decide +kernel) rfl
theorem q637 : Jvm.Cond.selects "MessengerBoardModel" ⟨"MessengerBoardModel", "raise", "(I)I"⟩ ⟨"MessengerBoardModel", "raise", "(I)I"⟩ ∈ am_tb := am_mem 33 (by decide +kernel) rfl
theorem q638 : (Jvm.Cond.methodLink "MessengerBoardModel" (80 : Nat) ({ cls := "MessengerBoardModel", name := "unitAt", desc := "(II)I" } : Jvm.MethodName)) ∈ am_tb := am_mem 1352 (by decide +kernel) rfl
theorem q639 : (Jvm.Cond.static ({ cls := "MessengerBoardModel", name := "unitAt", desc := "(II)I" } : Jvm.MethodName)) ∈ am_tb := am_mem 1353 (by decide +kernel) rfl
theorem q640 : (Jvm.Cond.code ({ cls := "MessengerBoardModel", name := "unitAt", desc := "(II)I" } : Jvm.MethodName) prog_13_method_6_code (2 : Nat) (Option.some Jvm.ClassFile.FieldType.int)) ∈ am_tb := am_mem 1354 (by decide +kernel) rfl
theorem q641 : (Jvm.Cond.methodLink "MessengerBoardModel" (87 : Nat) ({ cls := "MessengerBoardModel", name := "orderAt", desc := "(II)I" } : Jvm.MethodName)) ∈ am_tb := am_mem 1363 (by decide +kernel) rfl
theorem q642 : (Jvm.Cond.static ({ cls := "MessengerBoardModel", name := "orderAt", desc := "(II)I" } : Jvm.MethodName)) ∈ am_tb := am_mem 1364 (by decide +kernel) rfl
theorem q643 : (Jvm.Cond.code ({ cls := "MessengerBoardModel", name := "orderAt", desc := "(II)I" } : Jvm.MethodName) prog_13_method_8_code (2 : Nat) (Option.some Jvm.ClassFile.FieldType.int)) ∈ am_tb := am_mem 1365 (by decide +kernel) rfl
theorem q644 : (Jvm.Cond.methodLink "MessengerBoardModel" (130 : Nat) ({ cls := "MessengerBoardModel", name := "ofOrder", desc := "(II)I" } : Jvm.MethodName)) ∈ am_tb := am_mem 1359 (by decide +kernel) rfl
theorem q645 : (Jvm.Cond.instanceMethod ({ cls := "MessengerBoardModel", name := "ofOrder", desc := "(II)I" } : Jvm.MethodName)) ∈ am_tb := am_mem 1361 (by decide +kernel) rfl
theorem q646 : (Jvm.Cond.code ({ cls := "MessengerBoardModel", name := "ofOrder", desc := "(II)I" } : Jvm.MethodName) prog_13_method_14_code (3 : Nat) (Option.some Jvm.ClassFile.FieldType.int)) ∈ am_tb := am_mem 1362 (by decide +kernel) rfl
theorem q647 : Jvm.Cond.selects "MessengerBoardModel" ⟨"MessengerBoardModel", "ofOrder", "(II)I"⟩ ⟨"MessengerBoardModel", "ofOrder", "(II)I"⟩ ∈ am_tb := am_mem 37 (by decide +kernel) rfl
theorem q648 : (Jvm.Cond.methodLink "MessengerBoardModel" (195 : Nat) ({ cls := "MessengerBoardModel", name := "isUnit", desc := "(I)Z" } : Jvm.MethodName)) ∈ am_tb := am_mem 1344 (by decide +kernel) rfl
theorem q649 : (Jvm.Cond.instanceMethod ({ cls := "MessengerBoardModel", name := "isUnit", desc := "(I)Z" } : Jvm.MethodName)) ∈ am_tb := am_mem 1346 (by decide +kernel) rfl
theorem q650 : (Jvm.Cond.code ({ cls := "MessengerBoardModel", name := "isUnit", desc := "(I)Z" } : Jvm.MethodName) prog_13_method_16_code (2 : Nat) (Option.some Jvm.ClassFile.FieldType.boolean)) ∈ am_tb := am_mem 1347 (by decide +kernel) rfl
theorem q651 : Jvm.Cond.selects "MessengerBoardModel" ⟨"MessengerBoardModel", "isUnit", "(I)Z"⟩ ⟨"MessengerBoardModel", "isUnit", "(I)Z"⟩ ∈ am_tb := am_mem 34 (by decide +kernel) rfl
theorem q652 : (Jvm.Cond.methodLink "MessengerBoardModel" (198 : Nat) ({ cls := "MessengerBoardModel", name := "onWayTo", desc := "(I)I" } : Jvm.MethodName)) ∈ am_tb := am_mem 1366 (by decide +kernel) rfl
theorem q653 : (Jvm.Cond.instanceMethod ({ cls := "MessengerBoardModel", name := "onWayTo", desc := "(I)I" } : Jvm.MethodName)) ∈ am_tb := am_mem 1368 (by decide +kernel) rfl
theorem q654 : (Jvm.Cond.code ({ cls := "MessengerBoardModel", name := "onWayTo", desc := "(I)I" } : Jvm.MethodName) prog_13_method_43_code (4 : Nat) (Option.some Jvm.ClassFile.FieldType.int)) ∈ am_tb := am_mem 1369 (by decide +kernel) rfl
theorem q655 : Jvm.Cond.selects "MessengerBoardModel" ⟨"MessengerBoardModel", "onWayTo", "(I)I"⟩ ⟨"MessengerBoardModel", "onWayTo", "(I)I"⟩ ∈ am_tb := am_mem 38 (by decide +kernel) rfl
theorem q656 : (Jvm.Cond.methodLink "MessengerBoardModel" (140 : Nat) ({ cls := "MessengerBoardModel", name := "obeyedBy", desc := "(I)I" } : Jvm.MethodName)) ∈ am_tb := am_mem 1355 (by decide +kernel) rfl
theorem q657 : (Jvm.Cond.instanceMethod ({ cls := "MessengerBoardModel", name := "obeyedBy", desc := "(I)I" } : Jvm.MethodName)) ∈ am_tb := am_mem 1357 (by decide +kernel) rfl
theorem q658 : (Jvm.Cond.code ({ cls := "MessengerBoardModel", name := "obeyedBy", desc := "(I)I" } : Jvm.MethodName) prog_13_method_31_code (3 : Nat) (Option.some Jvm.ClassFile.FieldType.int)) ∈ am_tb := am_mem 1358 (by decide +kernel) rfl
theorem q659 : Jvm.Cond.selects "MessengerBoardModel" ⟨"MessengerBoardModel", "obeyedBy", "(I)I"⟩ ⟨"MessengerBoardModel", "obeyedBy", "(I)I"⟩ ∈ am_tb := am_mem 36 (by decide +kernel) rfl
theorem q660 : (Jvm.Cond.methodLink "MessengerBoardModel" (133 : Nat) ({ cls := "MessengerBoardModel", name := "ofUnit", desc := "(II)I" } : Jvm.MethodName)) ∈ am_tb := am_mem 1348 (by decide +kernel) rfl
theorem q661 : (Jvm.Cond.instanceMethod ({ cls := "MessengerBoardModel", name := "ofUnit", desc := "(II)I" } : Jvm.MethodName)) ∈ am_tb := am_mem 1350 (by decide +kernel) rfl
theorem q662 : (Jvm.Cond.code ({ cls := "MessengerBoardModel", name := "ofUnit", desc := "(II)I" } : Jvm.MethodName) prog_13_method_12_code (3 : Nat) (Option.some Jvm.ClassFile.FieldType.int)) ∈ am_tb := am_mem 1351 (by decide +kernel) rfl
theorem q663 : Jvm.Cond.selects "MessengerBoardModel" ⟨"MessengerBoardModel", "ofUnit", "(II)I"⟩ ⟨"MessengerBoardModel", "ofUnit", "(II)I"⟩ ∈ am_tb := am_mem 35 (by decide +kernel) rfl
theorem q664 : (Jvm.Cond.methodLink "MessengerBoardModel" (84 : Nat) ({ cls := "MessengerBoardModel", name := "picketAt", desc := "(II)I" } : Jvm.MethodName)) ∈ am_tb := am_mem 1390 (by decide +kernel) rfl
theorem q665 : (Jvm.Cond.static ({ cls := "MessengerBoardModel", name := "picketAt", desc := "(II)I" } : Jvm.MethodName)) ∈ am_tb := am_mem 1391 (by decide +kernel) rfl
theorem q666 : (Jvm.Cond.code ({ cls := "MessengerBoardModel", name := "picketAt", desc := "(II)I" } : Jvm.MethodName) prog_13_method_7_code (2 : Nat) (Option.some Jvm.ClassFile.FieldType.int)) ∈ am_tb := am_mem 1392 (by decide +kernel) rfl
theorem q667 : (Jvm.Cond.methodLink "MessengerBoardModel" (111 : Nat) ({ cls := "MessengerBoardModel", name := "ofPicket", desc := "(II)I" } : Jvm.MethodName)) ∈ am_tb := am_mem 1386 (by decide +kernel) rfl
theorem q668 : (Jvm.Cond.instanceMethod ({ cls := "MessengerBoardModel", name := "ofPicket", desc := "(II)I" } : Jvm.MethodName)) ∈ am_tb := am_mem 1388 (by decide +kernel) rfl
theorem q669 : (Jvm.Cond.code ({ cls := "MessengerBoardModel", name := "ofPicket", desc := "(II)I" } : Jvm.MethodName) prog_13_method_13_code (3 : Nat) (Option.some Jvm.ClassFile.FieldType.int)) ∈ am_tb := am_mem 1389 (by decide +kernel) rfl
theorem q670 : Jvm.Cond.selects "MessengerBoardModel" ⟨"MessengerBoardModel", "ofPicket", "(II)I"⟩ ⟨"MessengerBoardModel", "ofPicket", "(II)I"⟩ ∈ am_tb := am_mem 42 (by decide +kernel) rfl
theorem q671 : (Jvm.Cond.methodLink "MessengerBoardModel" (201 : Nat) ({ cls := "MessengerBoardModel", name := "isPicket", desc := "(I)Z" } : Jvm.MethodName)) ∈ am_tb := am_mem 1374 (by decide +kernel) rfl
theorem q672 : (Jvm.Cond.instanceMethod ({ cls := "MessengerBoardModel", name := "isPicket", desc := "(I)Z" } : Jvm.MethodName)) ∈ am_tb := am_mem 1376 (by decide +kernel) rfl
theorem q673 : (Jvm.Cond.code ({ cls := "MessengerBoardModel", name := "isPicket", desc := "(I)Z" } : Jvm.MethodName) prog_13_method_17_code (2 : Nat) (Option.some Jvm.ClassFile.FieldType.boolean)) ∈ am_tb := am_mem 1377 (by decide +kernel) rfl
theorem q674 : Jvm.Cond.selects "MessengerBoardModel" ⟨"MessengerBoardModel", "isPicket", "(I)Z"⟩ ⟨"MessengerBoardModel", "isPicket", "(I)Z"⟩ ∈ am_tb := am_mem 39 (by decide +kernel) rfl
theorem q675 : (Jvm.Cond.methodLink "MessengerBoardModel" (126 : Nat) ({ cls := "MessengerBoardModel", name := "turnNow", desc := "()I" } : Jvm.MethodName)) ∈ am_tb := am_mem 1378 (by decide +kernel) rfl
theorem q676 : (Jvm.Cond.instanceMethod ({ cls := "MessengerBoardModel", name := "turnNow", desc := "()I" } : Jvm.MethodName)) ∈ am_tb := am_mem 1380 (by decide +kernel) rfl
theorem q677 : (Jvm.Cond.code ({ cls := "MessengerBoardModel", name := "turnNow", desc := "()I" } : Jvm.MethodName) prog_13_method_15_code (1 : Nat) (Option.some Jvm.ClassFile.FieldType.int)) ∈ am_tb := am_mem 1381 (by decide +kernel) rfl
theorem q678 : Jvm.Cond.selects "MessengerBoardModel" ⟨"MessengerBoardModel", "turnNow", "()I"⟩ ⟨"MessengerBoardModel", "turnNow", "()I"⟩ ∈ am_tb := am_mem 40 (by decide +kernel) rfl
theorem q679 : (Jvm.Cond.methodLink "MessengerBoardModel" (123 : Nat) ({ cls := "MessengerBoardModel", name := "watches", desc := "(II)Z" } : Jvm.MethodName)) ∈ am_tb := am_mem 1382 (by decide +kernel) rfl
theorem q680 : (Jvm.Cond.instanceMethod ({ cls := "MessengerBoardModel", name := "watches", desc := "(II)Z" } : Jvm.MethodName)) ∈ am_tb := am_mem 1384 (by decide +kernel) rfl
theorem q681 : (Jvm.Cond.code ({ cls := "MessengerBoardModel", name := "watches", desc := "(II)Z" } : Jvm.MethodName) prog_13_method_26_code (3 : Nat) (Option.some Jvm.ClassFile.FieldType.boolean)) ∈ am_tb := am_mem 1385 (by decide +kernel) rfl
theorem q682 : Jvm.Cond.selects "MessengerBoardModel" ⟨"MessengerBoardModel", "watches", "(II)Z"⟩ ⟨"MessengerBoardModel", "watches", "(II)Z"⟩ ∈ am_tb := am_mem 41 (by decide +kernel) rfl
theorem q683 : (Jvm.Cond.methodLink "MessengerBoardModel" (204 : Nat) ({ cls := "MessengerBoardModel", name := "isOrder", desc := "(I)Z" } : Jvm.MethodName)) ∈ am_tb := am_mem 1397 (by decide +kernel) rfl
theorem q684 : (Jvm.Cond.instanceMethod ({ cls := "MessengerBoardModel", name := "isOrder", desc := "(I)Z" } : Jvm.MethodName)) ∈ am_tb := am_mem 1399 (by decide +kernel) rfl
theorem q685 : (Jvm.Cond.code ({ cls := "MessengerBoardModel", name := "isOrder", desc := "(I)Z" } : Jvm.MethodName) prog_13_method_18_code (2 : Nat) (Option.some Jvm.ClassFile.FieldType.boolean)) ∈ am_tb := am_mem 1400 (by decide +kernel) rfl
theorem q686 : Jvm.Cond.selects "MessengerBoardModel" ⟨"MessengerBoardModel", "isOrder", "(I)Z"⟩ ⟨"MessengerBoardModel", "isOrder", "(I)Z"⟩ ∈ am_tb := am_mem 43 (by decide +kernel) rfl
theorem q687 : (Jvm.Cond.methodLink "MessengerBoardModel" (207 : Nat) ({ cls := "MessengerBoardModel", name := "isPlan", desc := "(I)Z" } : Jvm.MethodName)) ∈ am_tb := am_mem 1405 (by decide +kernel) rfl
theorem q688 : (Jvm.Cond.instanceMethod ({ cls := "MessengerBoardModel", name := "isPlan", desc := "(I)Z" } : Jvm.MethodName)) ∈ am_tb := am_mem 1407 (by decide +kernel) rfl
theorem q689 : (Jvm.Cond.code ({ cls := "MessengerBoardModel", name := "isPlan", desc := "(I)Z" } : Jvm.MethodName) prog_13_method_19_code (2 : Nat) (Option.some Jvm.ClassFile.FieldType.boolean)) ∈ am_tb := am_mem 1408 (by decide +kernel) rfl
theorem q690 : Jvm.Cond.selects "MessengerBoardModel" ⟨"MessengerBoardModel", "isPlan", "(I)Z"⟩ ⟨"MessengerBoardModel", "isPlan", "(I)Z"⟩ ∈ am_tb := am_mem 44 (by decide +kernel) rfl
theorem q691 : (Jvm.Cond.methodLink "MessengerBoardModel" (164 : Nat) ({ cls := "MessengerBoardModel", name := "planAt", desc := "(II)I" } : Jvm.MethodName)) ∈ am_tb := am_mem 1409 (by decide +kernel) rfl
theorem q692 : (Jvm.Cond.static ({ cls := "MessengerBoardModel", name := "planAt", desc := "(II)I" } : Jvm.MethodName)) ∈ am_tb := am_mem 1410 (by decide +kernel) rfl
theorem q693 : (Jvm.Cond.code ({ cls := "MessengerBoardModel", name := "planAt", desc := "(II)I" } : Jvm.MethodName) prog_13_method_9_code (2 : Nat) (Option.some Jvm.ClassFile.FieldType.int)) ∈ am_tb := am_mem 1411 (by decide +kernel) rfl
theorem q694 : (Jvm.Cond.methodLink "MessengerBoardModel" (210 : Nat) ({ cls := "MessengerBoardModel", name := "ordersIn", desc := "(I)I" } : Jvm.MethodName)) ∈ am_tb := am_mem 1420 (by decide +kernel) rfl
theorem q695 : (Jvm.Cond.instanceMethod ({ cls := "MessengerBoardModel", name := "ordersIn", desc := "(I)I" } : Jvm.MethodName)) ∈ am_tb := am_mem 1422 (by decide +kernel) rfl
theorem q696 : (Jvm.Cond.code ({ cls := "MessengerBoardModel", name := "ordersIn", desc := "(I)I" } : Jvm.MethodName) prog_13_method_49_code (4 : Nat) (Option.some Jvm.ClassFile.FieldType.int)) ∈ am_tb := am_mem 1423 (by decide +kernel) rfl
theorem q697 : Jvm.Cond.selects "MessengerBoardModel" ⟨"MessengerBoardModel", "ordersIn", "(I)I"⟩ ⟨"MessengerBoardModel", "ordersIn", "(I)I"⟩ ∈ am_tb := am_mem 45 (by decide +kernel) rfl
theorem q698 : (Jvm.Cond.methodLink "MessengerBoardModel" (94 : Nat) ({ cls := "MessengerBoardModel", name := "isCell", desc := "(II)Z" } : Jvm.MethodName)) ∈ am_tb := am_mem 1428 (by decide +kernel) rfl
theorem q699 : (Jvm.Cond.instanceMethod ({ cls := "MessengerBoardModel", name := "isCell", desc := "(II)Z" } : Jvm.MethodName)) ∈ am_tb := am_mem 1430 (by decide +kernel) rfl
theorem q700 : (Jvm.Cond.code ({ cls := "MessengerBoardModel", name := "isCell", desc := "(II)Z" } : Jvm.MethodName) prog_13_method_20_code (3 : Nat) (Option.some Jvm.ClassFile.FieldType.boolean)) ∈ am_tb := am_mem 1431 (by decide +kernel) rfl
theorem q701 : Jvm.Cond.selects "MessengerBoardModel" ⟨"MessengerBoardModel", "isCell", "(II)Z"⟩ ⟨"MessengerBoardModel", "isCell", "(II)Z"⟩ ∈ am_tb := am_mem 46 (by decide +kernel) rfl
theorem q702 : (Jvm.Cond.methodLink "MessengerBoardModel" (98 : Nat) ({ cls := "MessengerBoardModel", name := "wallAt", desc := "(II)I" } : Jvm.MethodName)) ∈ am_tb := am_mem 1436 (by decide +kernel) rfl
theorem q703 : (Jvm.Cond.static ({ cls := "MessengerBoardModel", name := "wallAt", desc := "(II)I" } : Jvm.MethodName)) ∈ am_tb := am_mem 1437 (by decide +kernel) rfl
theorem q704 : (Jvm.Cond.code ({ cls := "MessengerBoardModel", name := "wallAt", desc := "(II)I" } : Jvm.MethodName) prog_13_method_11_code (2 : Nat) (Option.some Jvm.ClassFile.FieldType.int)) ∈ am_tb := am_mem 1438 (by decide +kernel) rfl
theorem q705 : (Jvm.Cond.methodLink "MessengerBoardModel" (101 : Nat) ({ cls := "MessengerBoardModel", name := "isFree", desc := "(II)Z" } : Jvm.MethodName)) ∈ am_tb := am_mem 1432 (by decide +kernel) rfl
theorem q706 : (Jvm.Cond.instanceMethod ({ cls := "MessengerBoardModel", name := "isFree", desc := "(II)Z" } : Jvm.MethodName)) ∈ am_tb := am_mem 1434 (by decide +kernel) rfl
theorem q707 : (Jvm.Cond.code ({ cls := "MessengerBoardModel", name := "isFree", desc := "(II)Z" } : Jvm.MethodName) prog_13_method_21_code (3 : Nat) (Option.some Jvm.ClassFile.FieldType.boolean)) ∈ am_tb := am_mem 1435 (by decide +kernel) rfl
theorem q708 : Jvm.Cond.selects "MessengerBoardModel" ⟨"MessengerBoardModel", "isFree", "(II)Z"⟩ ⟨"MessengerBoardModel", "isFree", "(II)Z"⟩ ∈ am_tb := am_mem 47 (by decide +kernel) rfl
theorem q709 : (Jvm.Cond.methodLink "MessengerBoardModel" (114 : Nat) ({ cls := "java/lang/Math", name := "abs", desc := "(I)I" } : Jvm.MethodName)) ∈ am_tb := am_mem 1451 (by decide +kernel) rfl
theorem q710 : (Jvm.Cond.methodLink "MessengerBoardModel" (120 : Nat) ({ cls := "MessengerBoardModel", name := "isNear", desc := "(III)Z" } : Jvm.MethodName)) ∈ am_tb := am_mem 1447 (by decide +kernel) rfl
theorem q711 : (Jvm.Cond.instanceMethod ({ cls := "MessengerBoardModel", name := "isNear", desc := "(III)Z" } : Jvm.MethodName)) ∈ am_tb := am_mem 1449 (by decide +kernel) rfl
theorem q712 : (Jvm.Cond.code ({ cls := "MessengerBoardModel", name := "isNear", desc := "(III)Z" } : Jvm.MethodName) prog_13_method_27_code (5 : Nat) (Option.some Jvm.ClassFile.FieldType.boolean)) ∈ am_tb := am_mem 1450 (by decide +kernel) rfl
theorem q713 : Jvm.Cond.selects "MessengerBoardModel" ⟨"MessengerBoardModel", "isNear", "(III)Z"⟩ ⟨"MessengerBoardModel", "isNear", "(III)Z"⟩ ∈ am_tb := am_mem 49 (by decide +kernel) rfl
theorem q714 : (Jvm.Cond.methodLink "MessengerBoardModel" (146 : Nat) ({ cls := "MessengerBoardModel", name := "watcher", desc := "(III)I" } : Jvm.MethodName)) ∈ am_tb := am_mem 1443 (by decide +kernel) rfl
theorem q715 : (Jvm.Cond.instanceMethod ({ cls := "MessengerBoardModel", name := "watcher", desc := "(III)I" } : Jvm.MethodName)) ∈ am_tb := am_mem 1445 (by decide +kernel) rfl
theorem q716 : (Jvm.Cond.code ({ cls := "MessengerBoardModel", name := "watcher", desc := "(III)I" } : Jvm.MethodName) prog_13_method_28_code (5 : Nat) (Option.some Jvm.ClassFile.FieldType.int)) ∈ am_tb := am_mem 1446 (by decide +kernel) rfl
theorem q717 : Jvm.Cond.selects "MessengerBoardModel" ⟨"MessengerBoardModel", "watcher", "(III)I"⟩ ⟨"MessengerBoardModel", "watcher", "(III)I"⟩ ∈ am_tb := am_mem 48 (by decide +kernel) rfl
theorem q718 : (Jvm.Cond.methodLink "MessengerBoardModel" (107 : Nat) ({ cls := "MessengerBoardModel", name := "beside", desc := "(IZ)I" } : Jvm.MethodName)) ∈ am_tb := am_mem 1464 (by decide +kernel) rfl
theorem q719 : (Jvm.Cond.static ({ cls := "MessengerBoardModel", name := "beside", desc := "(IZ)I" } : Jvm.MethodName)) ∈ am_tb := am_mem 1465 (by decide +kernel) rfl
theorem q720 : (Jvm.Cond.code ({ cls := "MessengerBoardModel", name := "beside", desc := "(IZ)I" } : Jvm.MethodName) prog_13_method_22_code (2 : Nat) (Option.some Jvm.ClassFile.FieldType.int)) ∈ am_tb := am_mem 1466 (by decide +kernel) rfl
theorem q721 : (Jvm.Cond.methodLink "MessengerBoardModel" (104 : Nat) ({ cls := "MessengerBoardModel", name := "spread", desc := "(II)I" } : Jvm.MethodName)) ∈ am_tb := am_mem 1460 (by decide +kernel) rfl
theorem q722 : (Jvm.Cond.instanceMethod ({ cls := "MessengerBoardModel", name := "spread", desc := "(II)I" } : Jvm.MethodName)) ∈ am_tb := am_mem 1462 (by decide +kernel) rfl
theorem q723 : (Jvm.Cond.code ({ cls := "MessengerBoardModel", name := "spread", desc := "(II)I" } : Jvm.MethodName) prog_13_method_24_code (7 : Nat) (Option.some Jvm.ClassFile.FieldType.int)) ∈ am_tb := am_mem 1463 (by decide +kernel) rfl
theorem q724 : Jvm.Cond.selects "MessengerBoardModel" ⟨"MessengerBoardModel", "spread", "(II)I"⟩ ⟨"MessengerBoardModel", "spread", "(II)I"⟩ ∈ am_tb := am_mem 51 (by decide +kernel) rfl
theorem q725 : (Jvm.Cond.methodLink "MessengerBoardModel" (158 : Nat) ({ cls := "MessengerBoardModel", name := "layFar", desc := "(II)V" } : Jvm.MethodName)) ∈ am_tb := am_mem 1456 (by decide +kernel) rfl
theorem q726 : (Jvm.Cond.instanceMethod ({ cls := "MessengerBoardModel", name := "layFar", desc := "(II)V" } : Jvm.MethodName)) ∈ am_tb := am_mem 1458 (by decide +kernel) rfl
theorem q727 : (Jvm.Cond.code ({ cls := "MessengerBoardModel", name := "layFar", desc := "(II)V" } : Jvm.MethodName) prog_13_method_23_code (5 : Nat) (Option.none : Option Jvm.ClassFile.FieldType)) ∈ am_tb := am_mem 1459 (by decide +kernel) rfl
theorem q728 : Jvm.Cond.selects "MessengerBoardModel" ⟨"MessengerBoardModel", "layFar", "(II)V"⟩ ⟨"MessengerBoardModel", "layFar", "(II)V"⟩ ∈ am_tb := am_mem 50 (by decide +kernel) rfl
theorem q729 : (Jvm.Cond.methodLink "MessengerBoardModel" (143 : Nat) ({ cls := "MessengerBoardModel", name := "stepFrom", desc := "(II)I" } : Jvm.MethodName)) ∈ am_tb := am_mem 1471 (by decide +kernel) rfl
theorem q730 : (Jvm.Cond.instanceMethod ({ cls := "MessengerBoardModel", name := "stepFrom", desc := "(II)I" } : Jvm.MethodName)) ∈ am_tb := am_mem 1473 (by decide +kernel) rfl
theorem q731 : (Jvm.Cond.code ({ cls := "MessengerBoardModel", name := "stepFrom", desc := "(II)I" } : Jvm.MethodName) prog_13_method_25_code (6 : Nat) (Option.some Jvm.ClassFile.FieldType.int)) ∈ am_tb := am_mem 1474 (by decide +kernel) rfl
theorem q732 : Jvm.Cond.selects "MessengerBoardModel" ⟨"MessengerBoardModel", "stepFrom", "(II)I"⟩ ⟨"MessengerBoardModel", "stepFrom", "(II)I"⟩ ∈ am_tb := am_mem 52 (by decide +kernel) rfl
theorem q733 : (Jvm.Cond.methodLink "MessengerBoardModel" (177 : Nat) ({ cls := "MessengerBoardModel", name := "wasSlot", desc := "(II)I" } : Jvm.MethodName)) ∈ am_tb := am_mem 1479 (by decide +kernel) rfl
theorem q734 : (Jvm.Cond.static ({ cls := "MessengerBoardModel", name := "wasSlot", desc := "(II)I" } : Jvm.MethodName)) ∈ am_tb := am_mem 1480 (by decide +kernel) rfl
theorem q735 : (Jvm.Cond.code ({ cls := "MessengerBoardModel", name := "wasSlot", desc := "(II)I" } : Jvm.MethodName) prog_13_method_10_code (2 : Nat) (Option.some Jvm.ClassFile.FieldType.int)) ∈ am_tb := am_mem 1481 (by decide +kernel) rfl
theorem q736 : (Jvm.Cond.methodLink "MessengerBoardModel" (213 : Nat) ({ cls := "MessengerBoardModel", name := "copy", desc := "([II[II)V" } : Jvm.MethodName)) ∈ am_tb := am_mem 1502 (by decide +kernel) rfl
theorem q737 : (Jvm.Cond.static ({ cls := "MessengerBoardModel", name := "copy", desc := "([II[II)V" } : Jvm.MethodName)) ∈ am_tb := am_mem 1503 (by decide +kernel) rfl
theorem q738 : (Jvm.Cond.code ({ cls := "MessengerBoardModel", name := "copy", desc := "([II[II)V" } : Jvm.MethodName) prog_13_method_81_code (5 : Nat) (Option.none : Option Jvm.ClassFile.FieldType)) ∈ am_tb := am_mem 1504 (by decide +kernel) rfl
theorem q739 : (Jvm.Cond.methodLink "MessengerBoardModel" (167 : Nat) ({ cls := "MessengerBoardModel", name := "dispatch", desc := "(III)V" } : Jvm.MethodName)) ∈ am_tb := am_mem 1505 (by decide +kernel) rfl
theorem q740 : (Jvm.Cond.instanceMethod ({ cls := "MessengerBoardModel", name := "dispatch", desc := "(III)V" } : Jvm.MethodName)) ∈ am_tb := am_mem 1507 (by decide +kernel) rfl
theorem q741 : (Jvm.Cond.code ({ cls := "MessengerBoardModel", name := "dispatch", desc := "(III)V" } : Jvm.MethodName) prog_13_method_30_code (5 : Nat) (Option.none : Option Jvm.ClassFile.FieldType)) ∈ am_tb := am_mem 1508 (by decide +kernel) rfl
theorem q742 : Jvm.Cond.selects "MessengerBoardModel" ⟨"MessengerBoardModel", "dispatch", "(III)V"⟩ ⟨"MessengerBoardModel", "dispatch", "(III)V"⟩ ∈ am_tb := am_mem 55 (by decide +kernel) rfl
theorem q743 : (Jvm.Cond.methodLink "MessengerBoardModel" (136 : Nat) ({ cls := "MessengerBoardModel", name := "become", desc := "(II)V" } : Jvm.MethodName)) ∈ am_tb := am_mem 1529 (by decide +kernel) rfl
theorem q744 : (Jvm.Cond.instanceMethod ({ cls := "MessengerBoardModel", name := "become", desc := "(II)V" } : Jvm.MethodName)) ∈ am_tb := am_mem 1531 (by decide +kernel) rfl
theorem q745 : (Jvm.Cond.code ({ cls := "MessengerBoardModel", name := "become", desc := "(II)V" } : Jvm.MethodName) prog_13_method_29_code (4 : Nat) (Option.none : Option Jvm.ClassFile.FieldType)) ∈ am_tb := am_mem 1532 (by decide +kernel) rfl
theorem q746 : Jvm.Cond.selects "MessengerBoardModel" ⟨"MessengerBoardModel", "become", "(II)V"⟩ ⟨"MessengerBoardModel", "become", "(II)V"⟩ ∈ am_tb := am_mem 61 (by decide +kernel) rfl
theorem q747 : (Jvm.Cond.methodLink "MessengerBoardModel" (150 : Nat) ({ cls := "MessengerBoardModel", name := "isThere", desc := "(I)Z" } : Jvm.MethodName)) ∈ am_tb := am_mem 1521 (by decide +kernel) rfl
theorem q748 : (Jvm.Cond.instanceMethod ({ cls := "MessengerBoardModel", name := "isThere", desc := "(I)Z" } : Jvm.MethodName)) ∈ am_tb := am_mem 1523 (by decide +kernel) rfl
theorem q749 : (Jvm.Cond.code ({ cls := "MessengerBoardModel", name := "isThere", desc := "(I)Z" } : Jvm.MethodName) prog_13_method_33_code (3 : Nat) (Option.some Jvm.ClassFile.FieldType.boolean)) ∈ am_tb := am_mem 1524 (by decide +kernel) rfl
theorem q750 : Jvm.Cond.selects "MessengerBoardModel" ⟨"MessengerBoardModel", "isThere", "(I)Z"⟩ ⟨"MessengerBoardModel", "isThere", "(I)Z"⟩ ∈ am_tb := am_mem 59 (by decide +kernel) rfl
theorem q751 : (Jvm.Cond.methodLink "MessengerBoardModel" (154 : Nat) ({ cls := "MessengerBoardModel", name := "arrive", desc := "(I)V" } : Jvm.MethodName)) ∈ am_tb := am_mem 1525 (by decide +kernel) rfl
theorem q752 : (Jvm.Cond.instanceMethod ({ cls := "MessengerBoardModel", name := "arrive", desc := "(I)V" } : Jvm.MethodName)) ∈ am_tb := am_mem 1527 (by decide +kernel) rfl
theorem q753 : (Jvm.Cond.code ({ cls := "MessengerBoardModel", name := "arrive", desc := "(I)V" } : Jvm.MethodName) prog_13_method_32_code (4 : Nat) (Option.none : Option Jvm.ClassFile.FieldType)) ∈ am_tb := am_mem 1528 (by decide +kernel) rfl
theorem q754 : Jvm.Cond.selects "MessengerBoardModel" ⟨"MessengerBoardModel", "arrive", "(I)V"⟩ ⟨"MessengerBoardModel", "arrive", "(I)V"⟩ ∈ am_tb := am_mem 60 (by decide +kernel) rfl
theorem q755 : (Jvm.Cond.methodLink "MessengerBoardModel" (161 : Nat) ({ cls := "MessengerBoardModel", name := "ride", desc := "(I)Z" } : Jvm.MethodName)) ∈ am_tb := am_mem 1533 (by decide +kernel) rfl
theorem q756 : (Jvm.Cond.instanceMethod ({ cls := "MessengerBoardModel", name := "ride", desc := "(I)Z" } : Jvm.MethodName)) ∈ am_tb := am_mem 1535 (by decide +kernel) rfl
theorem q757 : (Jvm.Cond.code ({ cls := "MessengerBoardModel", name := "ride", desc := "(I)Z" } : Jvm.MethodName) prog_13_method_34_code (4 : Nat) (Option.some Jvm.ClassFile.FieldType.boolean)) ∈ am_tb := am_mem 1536 (by decide +kernel) rfl
theorem q758 : Jvm.Cond.selects "MessengerBoardModel" ⟨"MessengerBoardModel", "ride", "(I)Z"⟩ ⟨"MessengerBoardModel", "ride", "(I)Z"⟩ ∈ am_tb := am_mem 62 (by decide +kernel) rfl
theorem q759 : (Jvm.Cond.methodLink "MessengerBoardModel" (171 : Nat) ({ cls := "MessengerBoardModel", name := "isInGoal", desc := "(II)Z" } : Jvm.MethodName)) ∈ am_tb := am_mem 1541 (by decide +kernel) rfl
theorem q760 : (Jvm.Cond.instanceMethod ({ cls := "MessengerBoardModel", name := "isInGoal", desc := "(II)Z" } : Jvm.MethodName)) ∈ am_tb := am_mem 1543 (by decide +kernel) rfl
theorem q761 : (Jvm.Cond.code ({ cls := "MessengerBoardModel", name := "isInGoal", desc := "(II)Z" } : Jvm.MethodName) prog_13_method_37_code (3 : Nat) (Option.some Jvm.ClassFile.FieldType.boolean)) ∈ am_tb := am_mem 1544 (by decide +kernel) rfl
theorem q762 : Jvm.Cond.selects "MessengerBoardModel" ⟨"MessengerBoardModel", "isInGoal", "(II)Z"⟩ ⟨"MessengerBoardModel", "isInGoal", "(II)Z"⟩ ∈ am_tb := am_mem 64 (by decide +kernel) rfl
theorem q763 : (Jvm.Cond.methodLink "MessengerBoardModel" (174 : Nat) ({ cls := "MessengerBoardModel", name := "walk", desc := "(II)V" } : Jvm.MethodName)) ∈ am_tb := am_mem 1545 (by decide +kernel) rfl
theorem q764 : (Jvm.Cond.instanceMethod ({ cls := "MessengerBoardModel", name := "walk", desc := "(II)V" } : Jvm.MethodName)) ∈ am_tb := am_mem 1547 (by decide +kernel) rfl
theorem q765 : (Jvm.Cond.code ({ cls := "MessengerBoardModel", name := "walk", desc := "(II)V" } : Jvm.MethodName) prog_13_method_38_code (4 : Nat) (Option.none : Option Jvm.ClassFile.FieldType)) ∈ am_tb := am_mem 1548 (by decide +kernel) rfl
theorem q766 : Jvm.Cond.selects "MessengerBoardModel" ⟨"MessengerBoardModel", "walk", "(II)V"⟩ ⟨"MessengerBoardModel", "walk", "(II)V"⟩ ∈ am_tb := am_mem 65 (by decide +kernel) rfl
theorem q767 : (Jvm.Cond.methodLink "MessengerBoardModel" (180 : Nat) ({ cls := "MessengerBoardModel", name := "sendPlanned", desc := "()V" } : Jvm.MethodName)) ∈ am_tb := am_mem 1513 (by decide +kernel) rfl
theorem q768 : (Jvm.Cond.instanceMethod ({ cls := "MessengerBoardModel", name := "sendPlanned", desc := "()V" } : Jvm.MethodName)) ∈ am_tb := am_mem 1515 (by decide +kernel) rfl
theorem q769 : (Jvm.Cond.code ({ cls := "MessengerBoardModel", name := "sendPlanned", desc := "()V" } : Jvm.MethodName) prog_13_method_36_code (2 : Nat) (Option.none : Option Jvm.ClassFile.FieldType)) ∈ am_tb := am_mem 1516 (by decide +kernel) rfl
theorem q770 : Jvm.Cond.selects "MessengerBoardModel" ⟨"MessengerBoardModel", "sendPlanned", "()V"⟩ ⟨"MessengerBoardModel", "sendPlanned", "()V"⟩ ∈ am_tb := am_mem 57 (by decide +kernel) rfl
theorem q771 : (Jvm.Cond.methodLink "MessengerBoardModel" (189 : Nat) ({ cls := "MessengerBoardModel", name := "remember", desc := "()V" } : Jvm.MethodName)) ∈ am_tb := am_mem 1549 (by decide +kernel) rfl
theorem q772 : (Jvm.Cond.instanceMethod ({ cls := "MessengerBoardModel", name := "remember", desc := "()V" } : Jvm.MethodName)) ∈ am_tb := am_mem 1551 (by decide +kernel) rfl
theorem q773 : (Jvm.Cond.code ({ cls := "MessengerBoardModel", name := "remember", desc := "()V" } : Jvm.MethodName) prog_13_method_40_code (2 : Nat) (Option.none : Option Jvm.ClassFile.FieldType)) ∈ am_tb := am_mem 1552 (by decide +kernel) rfl
theorem q774 : Jvm.Cond.selects "MessengerBoardModel" ⟨"MessengerBoardModel", "remember", "()V"⟩ ⟨"MessengerBoardModel", "remember", "()V"⟩ ∈ am_tb := am_mem 66 (by decide +kernel) rfl
theorem q775 : (Jvm.Cond.methodLink "MessengerBoardModel" (186 : Nat) ({ cls := "MessengerBoardModel", name := "move", desc := "(I)V" } : Jvm.MethodName)) ∈ am_tb := am_mem 1537 (by decide +kernel) rfl
theorem q776 : (Jvm.Cond.instanceMethod ({ cls := "MessengerBoardModel", name := "move", desc := "(I)V" } : Jvm.MethodName)) ∈ am_tb := am_mem 1539 (by decide +kernel) rfl
theorem q777 : (Jvm.Cond.code ({ cls := "MessengerBoardModel", name := "move", desc := "(I)V" } : Jvm.MethodName) prog_13_method_39_code (3 : Nat) (Option.none : Option Jvm.ClassFile.FieldType)) ∈ am_tb := am_mem 1540 (by decide +kernel) rfl
theorem q778 : Jvm.Cond.selects "MessengerBoardModel" ⟨"MessengerBoardModel", "move", "(I)V"⟩ ⟨"MessengerBoardModel", "move", "(I)V"⟩ ∈ am_tb := am_mem 63 (by decide +kernel) rfl
theorem q779 : (Jvm.Cond.methodLink "MessengerBoardModel" (183 : Nat) ({ cls := "MessengerBoardModel", name := "carry", desc := "(I)V" } : Jvm.MethodName)) ∈ am_tb := am_mem 1517 (by decide +kernel) rfl
theorem q780 : (Jvm.Cond.instanceMethod ({ cls := "MessengerBoardModel", name := "carry", desc := "(I)V" } : Jvm.MethodName)) ∈ am_tb := am_mem 1519 (by decide +kernel) rfl
theorem q781 : (Jvm.Cond.code ({ cls := "MessengerBoardModel", name := "carry", desc := "(I)V" } : Jvm.MethodName) prog_13_method_35_code (3 : Nat) (Option.none : Option Jvm.ClassFile.FieldType)) ∈ am_tb := am_mem 1520 (by decide +kernel) rfl
theorem q782 : Jvm.Cond.selects "MessengerBoardModel" ⟨"MessengerBoardModel", "carry", "(I)V"⟩ ⟨"MessengerBoardModel", "carry", "(I)V"⟩ ∈ am_tb := am_mem 58 (by decide +kernel) rfl
theorem q783 : (Jvm.Cond.methodLink "MessengerBoardModel" (217 : Nat) ({ cls := "MessengerBoardModel", name := "isTarget", desc := "(III)Z" } : Jvm.MethodName)) ∈ am_tb := am_mem 1494 (by decide +kernel) rfl
theorem q784 : (Jvm.Cond.instanceMethod ({ cls := "MessengerBoardModel", name := "isTarget", desc := "(III)Z" } : Jvm.MethodName)) ∈ am_tb := am_mem 1496 (by decide +kernel) rfl
theorem q785 : (Jvm.Cond.code ({ cls := "MessengerBoardModel", name := "isTarget", desc := "(III)Z" } : Jvm.MethodName) prog_13_method_58_code (4 : Nat) (Option.some Jvm.ClassFile.FieldType.boolean)) ∈ am_tb := am_mem 1497 (by decide +kernel) rfl
theorem q786 : Jvm.Cond.selects "MessengerBoardModel" ⟨"MessengerBoardModel", "isTarget", "(III)Z"⟩ ⟨"MessengerBoardModel", "isTarget", "(III)Z"⟩ ∈ am_tb := am_mem 53 (by decide +kernel) rfl
theorem q787 : (Jvm.Cond.methodLink "MessengerBoardModel" (220 : Nat) ({ cls := "MessengerBoardModel", name := "begin", desc := "()V" } : Jvm.MethodName)) ∈ am_tb := am_mem 1498 (by decide +kernel) rfl
theorem q788 : (Jvm.Cond.instanceMethod ({ cls := "MessengerBoardModel", name := "begin", desc := "()V" } : Jvm.MethodName)) ∈ am_tb := am_mem 1500 (by decide +kernel) rfl
theorem q789 : (Jvm.Cond.code ({ cls := "MessengerBoardModel", name := "begin", desc := "()V" } : Jvm.MethodName) prog_13_method_59_code (1 : Nat) (Option.none : Option Jvm.ClassFile.FieldType)) ∈ am_tb := am_mem 1501 (by decide +kernel) rfl
theorem q790 : Jvm.Cond.selects "MessengerBoardModel" ⟨"MessengerBoardModel", "begin", "()V"⟩ ⟨"MessengerBoardModel", "begin", "()V"⟩ ∈ am_tb := am_mem 54 (by decide +kernel) rfl
theorem q791 : (Jvm.Cond.methodLink "MessengerBoardModel" (226 : Nat) ({ cls := "MessengerBoardModel", name := "end", desc := "()V" } : Jvm.MethodName)) ∈ am_tb := am_mem 1553 (by decide +kernel) rfl
theorem q792 : (Jvm.Cond.instanceMethod ({ cls := "MessengerBoardModel", name := "end", desc := "()V" } : Jvm.MethodName)) ∈ am_tb := am_mem 1555 (by decide +kernel) rfl
theorem q793 : (Jvm.Cond.code ({ cls := "MessengerBoardModel", name := "end", desc := "()V" } : Jvm.MethodName) prog_13_method_60_code (1 : Nat) (Option.none : Option Jvm.ClassFile.FieldType)) ∈ am_tb := am_mem 1556 (by decide +kernel) rfl
theorem q794 : Jvm.Cond.selects "MessengerBoardModel" ⟨"MessengerBoardModel", "end", "()V"⟩ ⟨"MessengerBoardModel", "end", "()V"⟩ ∈ am_tb := am_mem 67 (by decide +kernel) rfl
theorem q795 : (Jvm.Cond.methodLink "MessengerBoardModel" (223 : Nat) ({ cls := "MessengerBoardModel", name := "passTurn", desc := "()V" } : Jvm.MethodName)) ∈ am_tb := am_mem 1509 (by decide +kernel) rfl
theorem q796 : (Jvm.Cond.instanceMethod ({ cls := "MessengerBoardModel", name := "passTurn", desc := "()V" } : Jvm.MethodName)) ∈ am_tb := am_mem 1511 (by decide +kernel) rfl
theorem q797 : (Jvm.Cond.code ({ cls := "MessengerBoardModel", name := "passTurn", desc := "()V" } : Jvm.MethodName) prog_13_method_41_code (3 : Nat) (Option.none : Option Jvm.ClassFile.FieldType)) ∈ am_tb := am_mem 1512 (by decide +kernel) rfl
theorem q798 : Jvm.Cond.selects "MessengerBoardModel" ⟨"MessengerBoardModel", "passTurn", "()V"⟩ ⟨"MessengerBoardModel", "passTurn", "()V"⟩ ∈ am_tb := am_mem 56 (by decide +kernel) rfl
theorem q799 : (Jvm.Cond.methodLink "MessengerBoardModel" (229 : Nat) ({ cls := "MessengerBoardModel", name := "arrivalOf", desc := "(III)I" } : Jvm.MethodName)) ∈ am_tb := am_mem 1561 (by decide +kernel) rfl
theorem q800 : (Jvm.Cond.instanceMethod ({ cls := "MessengerBoardModel", name := "arrivalOf", desc := "(III)I" } : Jvm.MethodName)) ∈ am_tb := am_mem 1563 (by decide +kernel) rfl
theorem q801 : (Jvm.Cond.code ({ cls := "MessengerBoardModel", name := "arrivalOf", desc := "(III)I" } : Jvm.MethodName) prog_13_method_62_code (5 : Nat) (Option.some Jvm.ClassFile.FieldType.int)) ∈ am_tb := am_mem 1564 (by decide +kernel) rfl
theorem q802 : Jvm.Cond.selects "MessengerBoardModel" ⟨"MessengerBoardModel", "arrivalOf", "(III)I"⟩ ⟨"MessengerBoardModel", "arrivalOf", "(III)I"⟩ ∈ am_tb := am_mem 68 (by decide +kernel) rfl
theorem q803 : (Jvm.Cond.fieldLink "MessengerBoardModel" (253 : Nat) "MessengerBoardModel" "undoCount" "I") ∈ am_tb := am_mem 1244 (by decide +kernel) rfl
theorem q804 : (Jvm.Cond.methodLink "MessengerBoardModel" (232 : Nat) ({ cls := "MessengerBoardModel", name := "record", desc := "()V" } : Jvm.MethodName)) ∈ am_tb := am_mem 1585 (by decide +kernel) rfl
theorem q805 : (Jvm.Cond.instanceMethod ({ cls := "MessengerBoardModel", name := "record", desc := "()V" } : Jvm.MethodName)) ∈ am_tb := am_mem 1587 (by decide +kernel) rfl
theorem q806 : (Jvm.Cond.code ({ cls := "MessengerBoardModel", name := "record", desc := "()V" } : Jvm.MethodName) prog_13_method_82_code (2 : Nat) (Option.none : Option Jvm.ClassFile.FieldType)) ∈ am_tb := am_mem 1588 (by decide +kernel) rfl
theorem q807 : Jvm.Cond.selects "MessengerBoardModel" ⟨"MessengerBoardModel", "record", "()V"⟩ ⟨"MessengerBoardModel", "record", "()V"⟩ ∈ am_tb := am_mem 69 (by decide +kernel) rfl
theorem q808 : (Jvm.Cond.methodLink "MessengerBoardModel" (235 : Nat) ({ cls := "MessengerBoardModel", name := "isHeld", desc := "(II)Z" } : Jvm.MethodName)) ∈ am_tb := am_mem 1597 (by decide +kernel) rfl
theorem q809 : (Jvm.Cond.instanceMethod ({ cls := "MessengerBoardModel", name := "isHeld", desc := "(II)Z" } : Jvm.MethodName)) ∈ am_tb := am_mem 1599 (by decide +kernel) rfl
theorem q810 : (Jvm.Cond.code ({ cls := "MessengerBoardModel", name := "isHeld", desc := "(II)Z" } : Jvm.MethodName) prog_13_method_70_code (5 : Nat) (Option.some Jvm.ClassFile.FieldType.boolean)) ∈ am_tb := am_mem 1600 (by decide +kernel) rfl
theorem q811 : Jvm.Cond.selects "MessengerBoardModel" ⟨"MessengerBoardModel", "isHeld", "(II)Z"⟩ ⟨"MessengerBoardModel", "isHeld", "(II)Z"⟩ ∈ am_tb := am_mem 70 (by decide +kernel) rfl
theorem q812 : (Jvm.Cond.methodLink "MessengerBoardModel" (238 : Nat) ({ cls := "MessengerBoardModel", name := "isGoal", desc := "(II)Z" } : Jvm.MethodName)) ∈ am_tb := am_mem 1601 (by decide +kernel) rfl
theorem q813 : (Jvm.Cond.instanceMethod ({ cls := "MessengerBoardModel", name := "isGoal", desc := "(II)Z" } : Jvm.MethodName)) ∈ am_tb := am_mem 1603 (by decide +kernel) rfl
theorem q814 : (Jvm.Cond.code ({ cls := "MessengerBoardModel", name := "isGoal", desc := "(II)Z" } : Jvm.MethodName) prog_13_method_71_code (6 : Nat) (Option.some Jvm.ClassFile.FieldType.boolean)) ∈ am_tb := am_mem 1604 (by decide +kernel) rfl
theorem q815 : Jvm.Cond.selects "MessengerBoardModel" ⟨"MessengerBoardModel", "isGoal", "(II)Z"⟩ ⟨"MessengerBoardModel", "isGoal", "(II)Z"⟩ ∈ am_tb := am_mem 71 (by decide +kernel) rfl
theorem q816 : (Jvm.Cond.methodLink "MessengerBoardModel" (241 : Nat) ({ cls := "MessengerBoardModel", name := "lowestIn", desc := "(II)I" } : Jvm.MethodName)) ∈ am_tb := am_mem 1625 (by decide +kernel) rfl
theorem q817 : (Jvm.Cond.instanceMethod ({ cls := "MessengerBoardModel", name := "lowestIn", desc := "(II)I" } : Jvm.MethodName)) ∈ am_tb := am_mem 1627 (by decide +kernel) rfl
theorem q818 : (Jvm.Cond.code ({ cls := "MessengerBoardModel", name := "lowestIn", desc := "(II)I" } : Jvm.MethodName) prog_13_method_76_code (4 : Nat) (Option.some Jvm.ClassFile.FieldType.int)) ∈ am_tb := am_mem 1628 (by decide +kernel) rfl
theorem q819 : Jvm.Cond.selects "MessengerBoardModel" ⟨"MessengerBoardModel", "lowestIn", "(II)I"⟩ ⟨"MessengerBoardModel", "lowestIn", "(II)I"⟩ ∈ am_tb := am_mem 73 (by decide +kernel) rfl
theorem q820 : (Jvm.Cond.methodLink "MessengerBoardModel" (244 : Nat) ({ cls := "MessengerBoardModel", name := "hasMessenger", desc := "(II)Z" } : Jvm.MethodName)) ∈ am_tb := am_mem 1629 (by decide +kernel) rfl
theorem q821 : (Jvm.Cond.instanceMethod ({ cls := "MessengerBoardModel", name := "hasMessenger", desc := "(II)Z" } : Jvm.MethodName)) ∈ am_tb := am_mem 1631 (by decide +kernel) rfl
theorem q822 : (Jvm.Cond.code ({ cls := "MessengerBoardModel", name := "hasMessenger", desc := "(II)Z" } : Jvm.MethodName) prog_13_method_77_code (4 : Nat) (Option.some Jvm.ClassFile.FieldType.boolean)) ∈ am_tb := am_mem 1632 (by decide +kernel) rfl
theorem q823 : Jvm.Cond.selects "MessengerBoardModel" ⟨"MessengerBoardModel", "hasMessenger", "(II)Z"⟩ ⟨"MessengerBoardModel", "hasMessenger", "(II)Z"⟩ ∈ am_tb := am_mem 74 (by decide +kernel) rfl
theorem q824 : (Jvm.Cond.fieldLink "MessengerBoardModel" (247 : Nat) "MessengerBoardModel" "formattedLength" "I") ∈ am_tb := am_mem 1250 (by decide +kernel) rfl
theorem q825 : (Jvm.Cond.methodLink "MessengerBoardModel" (250 : Nat) ({ cls := "MessengerBoardModel", name := "symbol", desc := "(II)I" } : Jvm.MethodName)) ∈ am_tb := am_mem 1621 (by decide +kernel) rfl
theorem q826 : (Jvm.Cond.instanceMethod ({ cls := "MessengerBoardModel", name := "symbol", desc := "(II)I" } : Jvm.MethodName)) ∈ am_tb := am_mem 1623 (by decide +kernel) rfl
theorem q827 : (Jvm.Cond.code ({ cls := "MessengerBoardModel", name := "symbol", desc := "(II)I" } : Jvm.MethodName) prog_13_method_78_code (4 : Nat) (Option.some Jvm.ClassFile.FieldType.int)) ∈ am_tb := am_mem 1624 (by decide +kernel) rfl
theorem q828 : Jvm.Cond.selects "MessengerBoardModel" ⟨"MessengerBoardModel", "symbol", "(II)I"⟩ ⟨"MessengerBoardModel", "symbol", "(II)I"⟩ ∈ am_tb := am_mem 72 (by decide +kernel) rfl
theorem q829 : (Jvm.Cond.fieldLink "MessengerBoardModel" (256 : Nat) "MessengerBoardModel" "hasSnapshot" "Z") ∈ am_tb := am_mem 1246 (by decide +kernel) rfl
theorem q830 : (Jvm.Cond.fieldLink "MessengerBoardModel" (260 : Nat) "MessengerBoardModel" "bufferLength" "I") ∈ am_tb := am_mem 1252 (by decide +kernel) rfl
theorem q831 : (Jvm.Cond.fieldLink "MessengerBoardModel" (263 : Nat) "MessengerBoardModel" "limit" "I") ∈ am_tb := am_mem 1253 (by decide +kernel) rfl
theorem q832 : (Jvm.Cond.methodLink "MessengerBoardModel" (266 : Nat) ({ cls := "MessengerBoardModel", name := "byteAt", desc := "(I)I" } : Jvm.MethodName)) ∈ am_tb := am_mem 1673 (by decide +kernel) rfl
theorem q833 : (Jvm.Cond.instanceMethod ({ cls := "MessengerBoardModel", name := "byteAt", desc := "(I)I" } : Jvm.MethodName)) ∈ am_tb := am_mem 1675 (by decide +kernel) rfl
theorem q834 : (Jvm.Cond.code ({ cls := "MessengerBoardModel", name := "byteAt", desc := "(I)I" } : Jvm.MethodName) prog_13_method_89_code (2 : Nat) (Option.some Jvm.ClassFile.FieldType.int)) ∈ am_tb := am_mem 1676 (by decide +kernel) rfl
theorem q835 : Jvm.Cond.selects "MessengerBoardModel" ⟨"MessengerBoardModel", "byteAt", "(I)I"⟩ ⟨"MessengerBoardModel", "byteAt", "(I)I"⟩ ∈ am_tb := am_mem 77 (by decide +kernel) rfl
theorem q836 : (Jvm.Cond.fieldLink "MessengerBoardModel" (269 : Nat) "MessengerBoardModel" "next" "I") ∈ am_tb := am_mem 1254 (by decide +kernel) rfl
theorem q837 : (Jvm.Cond.fieldLink "MessengerBoardModel" (272 : Nat) "MessengerBoardModel" "beginsAt" "I") ∈ am_tb := am_mem 1255 (by decide +kernel) rfl
theorem q838 : (Jvm.Cond.methodLink "MessengerBoardModel" (278 : Nat) ({ cls := "MessengerBoardModel", name := "isLetter", desc := "(I)Z" } : Jvm.MethodName)) ∈ am_tb := am_mem 1677 (by decide +kernel) rfl
theorem q839 : (Jvm.Cond.instanceMethod ({ cls := "MessengerBoardModel", name := "isLetter", desc := "(I)Z" } : Jvm.MethodName)) ∈ am_tb := am_mem 1679 (by decide +kernel) rfl
theorem q840 : (Jvm.Cond.code ({ cls := "MessengerBoardModel", name := "isLetter", desc := "(I)Z" } : Jvm.MethodName) prog_13_method_90_code (2 : Nat) (Option.some Jvm.ClassFile.FieldType.boolean)) ∈ am_tb := am_mem 1680 (by decide +kernel) rfl
theorem q841 : Jvm.Cond.selects "MessengerBoardModel" ⟨"MessengerBoardModel", "isLetter", "(I)Z"⟩ ⟨"MessengerBoardModel", "isLetter", "(I)Z"⟩ ∈ am_tb := am_mem 78 (by decide +kernel) rfl
theorem q842 : (Jvm.Cond.methodLink "MessengerBoardModel" (281 : Nat) ({ cls := "MessengerBoardModel", name := "isDigit", desc := "(I)Z" } : Jvm.MethodName)) ∈ am_tb := am_mem 1681 (by decide +kernel) rfl
theorem q843 : (Jvm.Cond.instanceMethod ({ cls := "MessengerBoardModel", name := "isDigit", desc := "(I)Z" } : Jvm.MethodName)) ∈ am_tb := am_mem 1683 (by decide +kernel) rfl
theorem q844 : (Jvm.Cond.code ({ cls := "MessengerBoardModel", name := "isDigit", desc := "(I)Z" } : Jvm.MethodName) prog_13_method_91_code (2 : Nat) (Option.some Jvm.ClassFile.FieldType.boolean)) ∈ am_tb := am_mem 1684 (by decide +kernel) rfl
theorem q845 : Jvm.Cond.selects "MessengerBoardModel" ⟨"MessengerBoardModel", "isDigit", "(I)Z"⟩ ⟨"MessengerBoardModel", "isDigit", "(I)Z"⟩ ∈ am_tb := am_mem 79 (by decide +kernel) rfl
theorem q846 : (Jvm.Cond.fieldLink "MessengerBoardModel" (275 : Nat) "MessengerBoardModel" "token" "I") ∈ am_tb := am_mem 1256 (by decide +kernel) rfl
theorem q847 : (Jvm.Cond.fieldLink "MessengerBoardModel" (284 : Nat) "MessengerBoardModel" "error" "I") ∈ am_tb := am_mem 1257 (by decide +kernel) rfl
theorem q848 : (Jvm.Cond.fieldLink "MessengerBoardModel" (287 : Nat) "MessengerBoardModel" "nested" "I") ∈ am_tb := am_mem 1260 (by decide +kernel) rfl
theorem q849 : (Jvm.Cond.methodLink "MessengerBoardModel" (290 : Nat) ({ cls := "MessengerBoardModel", name := "scan", desc := "()V" } : Jvm.MethodName)) ∈ am_tb := am_mem 1669 (by decide +kernel) rfl
theorem q850 : (Jvm.Cond.instanceMethod ({ cls := "MessengerBoardModel", name := "scan", desc := "()V" } : Jvm.MethodName)) ∈ am_tb := am_mem 1671 (by decide +kernel) rfl
theorem q851 : (Jvm.Cond.code ({ cls := "MessengerBoardModel", name := "scan", desc := "()V" } : Jvm.MethodName) prog_13_method_92_code (1 : Nat) (Option.none : Option Jvm.ClassFile.FieldType)) ∈ am_tb := am_mem 1672 (by decide +kernel) rfl
theorem q852 : Jvm.Cond.selects "MessengerBoardModel" ⟨"MessengerBoardModel", "scan", "()V"⟩ ⟨"MessengerBoardModel", "scan", "()V"⟩ ∈ am_tb := am_mem 76 (by decide +kernel) rfl
theorem q853 : (Jvm.Cond.methodLink "MessengerBoardModel" (299 : Nat) ({ cls := "java/lang/String", name := "length", desc := "()I" } : Jvm.MethodName)) ∈ am_tb := am_mem 1698 (by decide +kernel) rfl
theorem q854 : (Jvm.Cond.methodLink "MessengerBoardModel" (302 : Nat) ({ cls := "java/lang/String", name := "charAt", desc := "(I)C" } : Jvm.MethodName)) ∈ am_tb := am_mem 1699 (by decide +kernel) rfl
theorem q855 : (Jvm.Cond.fieldLink "MessengerBoardModel" (293 : Nat) "MessengerBoardModel" "errorAt" "I") ∈ am_tb := am_mem 1258 (by decide +kernel) rfl
theorem q856 : (Jvm.Cond.methodLink "MessengerBoardModel" (296 : Nat) ({ cls := "MessengerBoardModel", name := "flaw", desc := "(I)V" } : Jvm.MethodName)) ∈ am_tb := am_mem 1704 (by decide +kernel) rfl
theorem q857 : (Jvm.Cond.instanceMethod ({ cls := "MessengerBoardModel", name := "flaw", desc := "(I)V" } : Jvm.MethodName)) ∈ am_tb := am_mem 1706 (by decide +kernel) rfl
theorem q858 : (Jvm.Cond.code ({ cls := "MessengerBoardModel", name := "flaw", desc := "(I)V" } : Jvm.MethodName) prog_13_method_95_code (2 : Nat) (Option.none : Option Jvm.ClassFile.FieldType)) ∈ am_tb := am_mem 1707 (by decide +kernel) rfl
theorem q859 : Jvm.Cond.selects "MessengerBoardModel" ⟨"MessengerBoardModel", "flaw", "(I)V"⟩ ⟨"MessengerBoardModel", "flaw", "(I)V"⟩ ∈ am_tb := am_mem 84 (by decide +kernel) rfl
theorem q860 : (Jvm.Cond.methodLink "MessengerBoardModel" (306 : Nat) ({ cls := "MessengerBoardModel", name := "isWord", desc := "(Ljava/lang/String;)Z" } : Jvm.MethodName)) ∈ am_tb := am_mem 1694 (by decide +kernel) rfl
theorem q861 : (Jvm.Cond.instanceMethod ({ cls := "MessengerBoardModel", name := "isWord", desc := "(Ljava/lang/String;)Z" } : Jvm.MethodName)) ∈ am_tb := am_mem 1696 (by decide +kernel) rfl
theorem q862 : (Jvm.Cond.code ({ cls := "MessengerBoardModel", name := "isWord", desc := "(Ljava/lang/String;)Z" } : Jvm.MethodName) prog_13_method_99_code (4 : Nat) (Option.some Jvm.ClassFile.FieldType.boolean)) ∈ am_tb := am_mem 1697 (by decide +kernel) rfl
theorem q863 : Jvm.Cond.selects "MessengerBoardModel" ⟨"MessengerBoardModel", "isWord", "(Ljava/lang/String;)Z"⟩ ⟨"MessengerBoardModel", "isWord", "(Ljava/lang/String;)Z"⟩ ∈ am_tb := am_mem 82 (by decide +kernel) rfl
theorem q864 : (Jvm.Cond.methodLink "MessengerBoardModel" (310 : Nat) ({ cls := "MessengerBoardModel", name := "check", desc := "(ZI)V" } : Jvm.MethodName)) ∈ am_tb := am_mem 1700 (by decide +kernel) rfl
theorem q865 : (Jvm.Cond.instanceMethod ({ cls := "MessengerBoardModel", name := "check", desc := "(ZI)V" } : Jvm.MethodName)) ∈ am_tb := am_mem 1702 (by decide +kernel) rfl
theorem q866 : (Jvm.Cond.code ({ cls := "MessengerBoardModel", name := "check", desc := "(ZI)V" } : Jvm.MethodName) prog_13_method_96_code (3 : Nat) (Option.none : Option Jvm.ClassFile.FieldType)) ∈ am_tb := am_mem 1703 (by decide +kernel) rfl
theorem q867 : Jvm.Cond.selects "MessengerBoardModel" ⟨"MessengerBoardModel", "check", "(ZI)V"⟩ ⟨"MessengerBoardModel", "check", "(ZI)V"⟩ ∈ am_tb := am_mem 83 (by decide +kernel) rfl
theorem q868 : (Jvm.Cond.methodLink "MessengerBoardModel" (314 : Nat) ({ cls := "MessengerBoardModel", name := "advance", desc := "()V" } : Jvm.MethodName)) ∈ am_tb := am_mem 1708 (by decide +kernel) rfl
theorem q869 : (Jvm.Cond.instanceMethod ({ cls := "MessengerBoardModel", name := "advance", desc := "()V" } : Jvm.MethodName)) ∈ am_tb := am_mem 1710 (by decide +kernel) rfl
theorem q870 : (Jvm.Cond.code ({ cls := "MessengerBoardModel", name := "advance", desc := "()V" } : Jvm.MethodName) prog_13_method_97_code (1 : Nat) (Option.none : Option Jvm.ClassFile.FieldType)) ∈ am_tb := am_mem 1711 (by decide +kernel) rfl
theorem q871 : Jvm.Cond.selects "MessengerBoardModel" ⟨"MessengerBoardModel", "advance", "()V"⟩ ⟨"MessengerBoardModel", "advance", "()V"⟩ ∈ am_tb := am_mem 85 (by decide +kernel) rfl
theorem q872 : (Jvm.Cond.constantLong "MessengerBoardModel" (320 : Nat) (2000000000 : Int64)) ∈ am_tb := am_mem 1720 (by decide +kernel) rfl
theorem q873 : (Jvm.Cond.constantLong "MessengerBoardModel" (322 : Nat) (10 : Int64)) ∈ am_tb := am_mem 1721 (by decide +kernel) rfl
theorem q874 : (Jvm.Cond.constantLong "MessengerBoardModel" (324 : Nat) (48 : Int64)) ∈ am_tb := am_mem 1722 (by decide +kernel) rfl
theorem q875 : (Jvm.Cond.methodLink "MessengerBoardModel" (326 : Nat) ({ cls := "java/lang/Math", name := "min", desc := "(JJ)J" } : Jvm.MethodName)) ∈ am_tb := am_mem 1723 (by decide +kernel) rfl
theorem q876 : (Jvm.Cond.static ({ cls := "java/lang/Math", name := "min", desc := "(JJ)J" } : Jvm.MethodName)) ∈ am_tb := am_mem 1724 (by decide +kernel) rfl
theorem q877 : (Jvm.Cond.code ({ cls := "java/lang/Math", name := "min", desc := "(JJ)J" } : Jvm.MethodName) prog_20_method_70_code (4 : Nat) (Option.some Jvm.ClassFile.FieldType.long)) ∈ am_tb := am_mem 1725 (by decide +kernel) rfl
theorem q878 : (Jvm.Cond.methodLink "MessengerBoardModel" (330 : Nat) ({ cls := "MessengerBoardModel", name := "value", desc := "()I" } : Jvm.MethodName)) ∈ am_tb := am_mem 1716 (by decide +kernel) rfl
theorem q879 : (Jvm.Cond.instanceMethod ({ cls := "MessengerBoardModel", name := "value", desc := "()I" } : Jvm.MethodName)) ∈ am_tb := am_mem 1718 (by decide +kernel) rfl
theorem q880 : (Jvm.Cond.code ({ cls := "MessengerBoardModel", name := "value", desc := "()I" } : Jvm.MethodName) prog_13_method_103_code (3 : Nat) (Option.some Jvm.ClassFile.FieldType.int)) ∈ am_tb := am_mem 1719 (by decide +kernel) rfl
theorem q881 : Jvm.Cond.selects "MessengerBoardModel" ⟨"MessengerBoardModel", "value", "()I"⟩ ⟨"MessengerBoardModel", "value", "()I"⟩ ∈ am_tb := am_mem 87 (by decide +kernel) rfl
theorem q882 : (Jvm.Cond.methodLink "MessengerBoardModel" (317 : Nat) ({ cls := "MessengerBoardModel", name := "isSymbol", desc := "(I)Z" } : Jvm.MethodName)) ∈ am_tb := am_mem 1730 (by decide +kernel) rfl
theorem q883 : (Jvm.Cond.instanceMethod ({ cls := "MessengerBoardModel", name := "isSymbol", desc := "(I)Z" } : Jvm.MethodName)) ∈ am_tb := am_mem 1732 (by decide +kernel) rfl
theorem q884 : (Jvm.Cond.code ({ cls := "MessengerBoardModel", name := "isSymbol", desc := "(I)Z" } : Jvm.MethodName) prog_13_method_98_code (2 : Nat) (Option.some Jvm.ClassFile.FieldType.boolean)) ∈ am_tb := am_mem 1733 (by decide +kernel) rfl
theorem q885 : Jvm.Cond.selects "MessengerBoardModel" ⟨"MessengerBoardModel", "isSymbol", "(I)Z"⟩ ⟨"MessengerBoardModel", "isSymbol", "(I)Z"⟩ ∈ am_tb := am_mem 89 (by decide +kernel) rfl
theorem q886 : (Jvm.Cond.methodLink "MessengerBoardModel" (333 : Nat) ({ cls := "MessengerBoardModel", name := "readNumber", desc := "(II)I" } : Jvm.MethodName)) ∈ am_tb := am_mem 1712 (by decide +kernel) rfl
theorem q887 : (Jvm.Cond.instanceMethod ({ cls := "MessengerBoardModel", name := "readNumber", desc := "(II)I" } : Jvm.MethodName)) ∈ am_tb := am_mem 1714 (by decide +kernel) rfl
theorem q888 : (Jvm.Cond.code ({ cls := "MessengerBoardModel", name := "readNumber", desc := "(II)I" } : Jvm.MethodName) prog_13_method_104_code (4 : Nat) (Option.some Jvm.ClassFile.FieldType.int)) ∈ am_tb := am_mem 1715 (by decide +kernel) rfl
theorem q889 : Jvm.Cond.selects "MessengerBoardModel" ⟨"MessengerBoardModel", "readNumber", "(II)I"⟩ ⟨"MessengerBoardModel", "readNumber", "(II)I"⟩ ∈ am_tb := am_mem 86 (by decide +kernel) rfl
theorem q890 : (Jvm.Cond.fieldLink "MessengerBoardModel" (336 : Nat) "MessengerBoardModel" "readX" "I") ∈ am_tb := am_mem 1261 (by decide +kernel) rfl
theorem q891 : (Jvm.Cond.fieldLink "MessengerBoardModel" (339 : Nat) "MessengerBoardModel" "readY" "I") ∈ am_tb := am_mem 1262 (by decide +kernel) rfl
theorem q892 : (Jvm.Cond.methodLink "MessengerBoardModel" (342 : Nat) ({ cls := "MessengerBoardModel", name := "isHeldInDraft", desc := "(II)Z" } : Jvm.MethodName)) ∈ am_tb := am_mem 1751 (by decide +kernel) rfl
theorem q893 : (Jvm.Cond.instanceMethod ({ cls := "MessengerBoardModel", name := "isHeldInDraft", desc := "(II)Z" } : Jvm.MethodName)) ∈ am_tb := am_mem 1753 (by decide +kernel) rfl
theorem q894 : (Jvm.Cond.code ({ cls := "MessengerBoardModel", name := "isHeldInDraft", desc := "(II)Z" } : Jvm.MethodName) prog_13_method_105_code (5 : Nat) (Option.some Jvm.ClassFile.FieldType.boolean)) ∈ am_tb := am_mem 1754 (by decide +kernel) rfl
theorem q895 : Jvm.Cond.selects "MessengerBoardModel" ⟨"MessengerBoardModel", "isHeldInDraft", "(II)Z"⟩ ⟨"MessengerBoardModel", "isHeldInDraft", "(II)Z"⟩ ∈ am_tb := am_mem 94 (by decide +kernel) rfl
theorem q896 : (Jvm.Cond.methodLink "MessengerBoardModel" (345 : Nat) ({ cls := "MessengerBoardModel", name := "readCell", desc := "(ZZ)V" } : Jvm.MethodName)) ∈ am_tb := am_mem 1747 (by decide +kernel) rfl
theorem q897 : (Jvm.Cond.instanceMethod ({ cls := "MessengerBoardModel", name := "readCell", desc := "(ZZ)V" } : Jvm.MethodName)) ∈ am_tb := am_mem 1749 (by decide +kernel) rfl
theorem q898 : (Jvm.Cond.code ({ cls := "MessengerBoardModel", name := "readCell", desc := "(ZZ)V" } : Jvm.MethodName) prog_13_method_106_code (4 : Nat) (Option.none : Option Jvm.ClassFile.FieldType)) ∈ am_tb := am_mem 1750 (by decide +kernel) rfl
theorem q899 : Jvm.Cond.selects "MessengerBoardModel" ⟨"MessengerBoardModel", "readCell", "(ZZ)V"⟩ ⟨"MessengerBoardModel", "readCell", "(ZZ)V"⟩ ∈ am_tb := am_mem 93 (by decide +kernel) rfl
theorem q900 : (Jvm.Cond.methodLink "MessengerBoardModel" (351 : Nat) ({ cls := "MessengerBoardModel", name := "accept", desc := "(Ljava/lang/String;)Z" } : Jvm.MethodName)) ∈ am_tb := am_mem 1739 (by decide +kernel) rfl
theorem q901 : (Jvm.Cond.instanceMethod ({ cls := "MessengerBoardModel", name := "accept", desc := "(Ljava/lang/String;)Z" } : Jvm.MethodName)) ∈ am_tb := am_mem 1741 (by decide +kernel) rfl
theorem q902 : (Jvm.Cond.code ({ cls := "MessengerBoardModel", name := "accept", desc := "(Ljava/lang/String;)Z" } : Jvm.MethodName) prog_13_method_100_code (3 : Nat) (Option.some Jvm.ClassFile.FieldType.boolean)) ∈ am_tb := am_mem 1742 (by decide +kernel) rfl
theorem q903 : Jvm.Cond.selects "MessengerBoardModel" ⟨"MessengerBoardModel", "accept", "(Ljava/lang/String;)Z"⟩ ⟨"MessengerBoardModel", "accept", "(Ljava/lang/String;)Z"⟩ ∈ am_tb := am_mem 91 (by decide +kernel) rfl
theorem q904 : (Jvm.Cond.methodLink "MessengerBoardModel" (374 : Nat) ({ cls := "MessengerBoardModel", name := "readPlan", desc := "()V" } : Jvm.MethodName)) ∈ am_tb := am_mem 1771 (by decide +kernel) rfl
theorem q905 : (Jvm.Cond.instanceMethod ({ cls := "MessengerBoardModel", name := "readPlan", desc := "()V" } : Jvm.MethodName)) ∈ am_tb := am_mem 1773 (by decide +kernel) rfl
theorem q906 : (Jvm.Cond.code ({ cls := "MessengerBoardModel", name := "readPlan", desc := "()V" } : Jvm.MethodName) prog_13_method_111_code (4 : Nat) (Option.none : Option Jvm.ClassFile.FieldType)) ∈ am_tb := am_mem 1774 (by decide +kernel) rfl
theorem q907 : Jvm.Cond.selects "MessengerBoardModel" ⟨"MessengerBoardModel", "readPlan", "()V"⟩ ⟨"MessengerBoardModel", "readPlan", "()V"⟩ ∈ am_tb := am_mem 98 (by decide +kernel) rfl
theorem q908 : (Jvm.Cond.methodLink "MessengerBoardModel" (377 : Nat) ({ cls := "MessengerBoardModel", name := "expect", desc := "(I)V" } : Jvm.MethodName)) ∈ am_tb := am_mem 1726 (by decide +kernel) rfl
theorem q909 : (Jvm.Cond.instanceMethod ({ cls := "MessengerBoardModel", name := "expect", desc := "(I)V" } : Jvm.MethodName)) ∈ am_tb := am_mem 1728 (by decide +kernel) rfl
theorem q910 : (Jvm.Cond.code ({ cls := "MessengerBoardModel", name := "expect", desc := "(I)V" } : Jvm.MethodName) prog_13_method_102_code (2 : Nat) (Option.none : Option Jvm.ClassFile.FieldType)) ∈ am_tb := am_mem 1729 (by decide +kernel) rfl
theorem q911 : Jvm.Cond.selects "MessengerBoardModel" ⟨"MessengerBoardModel", "expect", "(I)V"⟩ ⟨"MessengerBoardModel", "expect", "(I)V"⟩ ∈ am_tb := am_mem 88 (by decide +kernel) rfl
theorem q912 : (Jvm.Cond.methodLink "MessengerBoardModel" (367 : Nat) ({ cls := "MessengerBoardModel", name := "readPicket", desc := "()V" } : Jvm.MethodName)) ∈ am_tb := am_mem 1765 (by decide +kernel) rfl
theorem q913 : (Jvm.Cond.instanceMethod ({ cls := "MessengerBoardModel", name := "readPicket", desc := "()V" } : Jvm.MethodName)) ∈ am_tb := am_mem 1767 (by decide +kernel) rfl
theorem q914 : (Jvm.Cond.code ({ cls := "MessengerBoardModel", name := "readPicket", desc := "()V" } : Jvm.MethodName) prog_13_method_110_code (7 : Nat) (Option.none : Option Jvm.ClassFile.FieldType)) ∈ am_tb := am_mem 1768 (by decide +kernel) rfl
theorem q915 : Jvm.Cond.selects "MessengerBoardModel" ⟨"MessengerBoardModel", "readPicket", "()V"⟩ ⟨"MessengerBoardModel", "readPicket", "()V"⟩ ∈ am_tb := am_mem 97 (by decide +kernel) rfl
theorem q916 : (Jvm.Cond.methodLink "MessengerBoardModel" (362 : Nat) ({ cls := "MessengerBoardModel", name := "readUnit", desc := "()V" } : Jvm.MethodName)) ∈ am_tb := am_mem 1760 (by decide +kernel) rfl
theorem q917 : (Jvm.Cond.instanceMethod ({ cls := "MessengerBoardModel", name := "readUnit", desc := "()V" } : Jvm.MethodName)) ∈ am_tb := am_mem 1762 (by decide +kernel) rfl
theorem q918 : (Jvm.Cond.code ({ cls := "MessengerBoardModel", name := "readUnit", desc := "()V" } : Jvm.MethodName) prog_13_method_109_code (3 : Nat) (Option.none : Option Jvm.ClassFile.FieldType)) ∈ am_tb := am_mem 1763 (by decide +kernel) rfl
theorem q919 : Jvm.Cond.selects "MessengerBoardModel" ⟨"MessengerBoardModel", "readUnit", "()V"⟩ ⟨"MessengerBoardModel", "readUnit", "()V"⟩ ∈ am_tb := am_mem 96 (by decide +kernel) rfl
theorem q920 : (Jvm.Cond.methodLink "MessengerBoardModel" (359 : Nat) ({ cls := "MessengerBoardModel", name := "readMain", desc := "()V" } : Jvm.MethodName)) ∈ am_tb := am_mem 1756 (by decide +kernel) rfl
theorem q921 : (Jvm.Cond.instanceMethod ({ cls := "MessengerBoardModel", name := "readMain", desc := "()V" } : Jvm.MethodName)) ∈ am_tb := am_mem 1758 (by decide +kernel) rfl
theorem q922 : (Jvm.Cond.code ({ cls := "MessengerBoardModel", name := "readMain", desc := "()V" } : Jvm.MethodName) prog_13_method_108_code (1 : Nat) (Option.none : Option Jvm.ClassFile.FieldType)) ∈ am_tb := am_mem 1759 (by decide +kernel) rfl
theorem q923 : Jvm.Cond.selects "MessengerBoardModel" ⟨"MessengerBoardModel", "readMain", "()V"⟩ ⟨"MessengerBoardModel", "readMain", "()V"⟩ ∈ am_tb := am_mem 95 (by decide +kernel) rfl
theorem q924 : (Jvm.Cond.methodLink "MessengerBoardModel" (354 : Nat) ({ cls := "MessengerBoardModel", name := "readWall", desc := "()V" } : Jvm.MethodName)) ∈ am_tb := am_mem 1743 (by decide +kernel) rfl
theorem q925 : (Jvm.Cond.instanceMethod ({ cls := "MessengerBoardModel", name := "readWall", desc := "()V" } : Jvm.MethodName)) ∈ am_tb := am_mem 1745 (by decide +kernel) rfl
theorem q926 : (Jvm.Cond.code ({ cls := "MessengerBoardModel", name := "readWall", desc := "()V" } : Jvm.MethodName) prog_13_method_107_code (1 : Nat) (Option.none : Option Jvm.ClassFile.FieldType)) ∈ am_tb := am_mem 1746 (by decide +kernel) rfl
theorem q927 : Jvm.Cond.selects "MessengerBoardModel" ⟨"MessengerBoardModel", "readWall", "()V"⟩ ⟨"MessengerBoardModel", "readWall", "()V"⟩ ∈ am_tb := am_mem 92 (by decide +kernel) rfl
theorem q928 : (Jvm.Cond.methodLink "MessengerBoardModel" (382 : Nat) ({ cls := "MessengerBoardModel", name := "expectWord", desc := "(Ljava/lang/String;)V" } : Jvm.MethodName)) ∈ am_tb := am_mem 1690 (by decide +kernel) rfl
theorem q929 : (Jvm.Cond.instanceMethod ({ cls := "MessengerBoardModel", name := "expectWord", desc := "(Ljava/lang/String;)V" } : Jvm.MethodName)) ∈ am_tb := am_mem 1692 (by decide +kernel) rfl
theorem q930 : (Jvm.Cond.code ({ cls := "MessengerBoardModel", name := "expectWord", desc := "(Ljava/lang/String;)V" } : Jvm.MethodName) prog_13_method_101_code (2 : Nat) (Option.none : Option Jvm.ClassFile.FieldType)) ∈ am_tb := am_mem 1693 (by decide +kernel) rfl
theorem q931 : Jvm.Cond.selects "MessengerBoardModel" ⟨"MessengerBoardModel", "expectWord", "(Ljava/lang/String;)V"⟩ ⟨"MessengerBoardModel", "expectWord", "(Ljava/lang/String;)V"⟩ ∈ am_tb := am_mem 81 (by decide +kernel) rfl
theorem q932 : (Jvm.Cond.methodLink "MessengerBoardModel" (386 : Nat) ({ cls := "MessengerBoardModel", name := "readClause", desc := "()V" } : Jvm.MethodName)) ∈ am_tb := am_mem 1734 (by decide +kernel) rfl
theorem q933 : (Jvm.Cond.instanceMethod ({ cls := "MessengerBoardModel", name := "readClause", desc := "()V" } : Jvm.MethodName)) ∈ am_tb := am_mem 1736 (by decide +kernel) rfl
theorem q934 : (Jvm.Cond.code ({ cls := "MessengerBoardModel", name := "readClause", desc := "()V" } : Jvm.MethodName) prog_13_method_112_code (2 : Nat) (Option.none : Option Jvm.ClassFile.FieldType)) ∈ am_tb := am_mem 1737 (by decide +kernel) rfl
theorem q935 : Jvm.Cond.selects "MessengerBoardModel" ⟨"MessengerBoardModel", "readClause", "()V"⟩ ⟨"MessengerBoardModel", "readClause", "()V"⟩ ∈ am_tb := am_mem 90 (by decide +kernel) rfl
theorem q936 : (Jvm.Cond.methodLink "MessengerBoardModel" (389 : Nat) ({ cls := "MessengerBoardModel", name := "startText", desc := "(I)V" } : Jvm.MethodName)) ∈ am_tb := am_mem 1665 (by decide +kernel) rfl
theorem q937 : (Jvm.Cond.instanceMethod ({ cls := "MessengerBoardModel", name := "startText", desc := "(I)V" } : Jvm.MethodName)) ∈ am_tb := am_mem 1667 (by decide +kernel) rfl
theorem q938 : (Jvm.Cond.code ({ cls := "MessengerBoardModel", name := "startText", desc := "(I)V" } : Jvm.MethodName) prog_13_method_93_code (2 : Nat) (Option.none : Option Jvm.ClassFile.FieldType)) ∈ am_tb := am_mem 1668 (by decide +kernel) rfl
theorem q939 : Jvm.Cond.selects "MessengerBoardModel" ⟨"MessengerBoardModel", "startText", "(I)V"⟩ ⟨"MessengerBoardModel", "startText", "(I)V"⟩ ∈ am_tb := am_mem 75 (by decide +kernel) rfl
theorem q940 : (Jvm.Cond.methodLink "MessengerBoardModel" (392 : Nat) ({ cls := "MessengerBoardModel", name := "readAll", desc := "()V" } : Jvm.MethodName)) ∈ am_tb := am_mem 1685 (by decide +kernel) rfl
theorem q941 : (Jvm.Cond.instanceMethod ({ cls := "MessengerBoardModel", name := "readAll", desc := "()V" } : Jvm.MethodName)) ∈ am_tb := am_mem 1687 (by decide +kernel) rfl
theorem q942 : (Jvm.Cond.code ({ cls := "MessengerBoardModel", name := "readAll", desc := "()V" } : Jvm.MethodName) prog_13_method_113_code (1 : Nat) (Option.none : Option Jvm.ClassFile.FieldType)) ∈ am_tb := am_mem 1688 (by decide +kernel) rfl
theorem q943 : Jvm.Cond.selects "MessengerBoardModel" ⟨"MessengerBoardModel", "readAll", "()V"⟩ ⟨"MessengerBoardModel", "readAll", "()V"⟩ ∈ am_tb := am_mem 80 (by decide +kernel) rfl
theorem q944 : (Jvm.Cond.methodLink "MessengerBoardModel" (395 : Nat) ({ cls := "MessengerBoardModel", name := "finish", desc := "()I" } : Jvm.MethodName)) ∈ am_tb := am_mem 1775 (by decide +kernel) rfl
theorem q945 : (Jvm.Cond.instanceMethod ({ cls := "MessengerBoardModel", name := "finish", desc := "()I" } : Jvm.MethodName)) ∈ am_tb := am_mem 1777 (by decide +kernel) rfl
theorem q946 : (Jvm.Cond.code ({ cls := "MessengerBoardModel", name := "finish", desc := "()I" } : Jvm.MethodName) prog_13_method_94_code (1 : Nat) (Option.some Jvm.ClassFile.FieldType.int)) ∈ am_tb := am_mem 1778 (by decide +kernel) rfl
theorem q947 : Jvm.Cond.selects "MessengerBoardModel" ⟨"MessengerBoardModel", "finish", "()I"⟩ ⟨"MessengerBoardModel", "finish", "()I"⟩ ∈ am_tb := am_mem 99 (by decide +kernel) rfl
theorem q948 : (Jvm.Cond.fieldLink "MessengerBoardModel" (398 : Nat) "MessengerBoardModel" "codeCount" "I") ∈ am_tb := am_mem 1266 (by decide +kernel) rfl
theorem q949 : (Jvm.Cond.methodLink "MessengerBoardModel" (409 : Nat) ({ cls := "MessengerBoardModel", name := "compileFactor", desc := "()V" } : Jvm.MethodName)) ∈ am_tb := am_mem 1794 (by decide +kernel) rfl
theorem q950 : (Jvm.Cond.instanceMethod ({ cls := "MessengerBoardModel", name := "compileFactor", desc := "()V" } : Jvm.MethodName)) ∈ am_tb := am_mem 1796 (by decide +kernel) rfl
theorem q951 : (Jvm.Cond.code ({ cls := "MessengerBoardModel", name := "compileFactor", desc := "()V" } : Jvm.MethodName) prog_13_method_118_code (2 : Nat) (Option.none : Option Jvm.ClassFile.FieldType)) ∈ am_tb := am_mem 1797 (by decide +kernel) rfl
theorem q952 : Jvm.Cond.selects "MessengerBoardModel" ⟨"MessengerBoardModel", "compileFactor", "()V"⟩ ⟨"MessengerBoardModel", "compileFactor", "()V"⟩ ∈ am_tb := am_mem 102 (by decide +kernel) rfl
theorem q953 : (Jvm.Cond.methodLink "MessengerBoardModel" (401 : Nat) ({ cls := "MessengerBoardModel", name := "emit", desc := "(I)V" } : Jvm.MethodName)) ∈ am_tb := am_mem 1803 (by decide +kernel) rfl
theorem q954 : (Jvm.Cond.instanceMethod ({ cls := "MessengerBoardModel", name := "emit", desc := "(I)V" } : Jvm.MethodName)) ∈ am_tb := am_mem 1805 (by decide +kernel) rfl
theorem q955 : (Jvm.Cond.code ({ cls := "MessengerBoardModel", name := "emit", desc := "(I)V" } : Jvm.MethodName) prog_13_method_115_code (2 : Nat) (Option.none : Option Jvm.ClassFile.FieldType)) ∈ am_tb := am_mem 1806 (by decide +kernel) rfl
theorem q956 : Jvm.Cond.selects "MessengerBoardModel" ⟨"MessengerBoardModel", "emit", "(I)V"⟩ ⟨"MessengerBoardModel", "emit", "(I)V"⟩ ∈ am_tb := am_mem 104 (by decide +kernel) rfl
theorem q957 : (Jvm.Cond.methodLink "MessengerBoardModel" (420 : Nat) ({ cls := "MessengerBoardModel", name := "compileConjunction", desc := "()V" } : Jvm.MethodName)) ∈ am_tb := am_mem 1790 (by decide +kernel) rfl
theorem q958 : (Jvm.Cond.instanceMethod ({ cls := "MessengerBoardModel", name := "compileConjunction", desc := "()V" } : Jvm.MethodName)) ∈ am_tb := am_mem 1792 (by decide +kernel) rfl
theorem q959 : (Jvm.Cond.code ({ cls := "MessengerBoardModel", name := "compileConjunction", desc := "()V" } : Jvm.MethodName) prog_13_method_119_code (1 : Nat) (Option.none : Option Jvm.ClassFile.FieldType)) ∈ am_tb := am_mem 1793 (by decide +kernel) rfl
theorem q960 : Jvm.Cond.selects "MessengerBoardModel" ⟨"MessengerBoardModel", "compileConjunction", "()V"⟩ ⟨"MessengerBoardModel", "compileConjunction", "()V"⟩ ∈ am_tb := am_mem 101 (by decide +kernel) rfl
theorem q961 : (Jvm.Cond.methodLink "MessengerBoardModel" (415 : Nat) ({ cls := "MessengerBoardModel", name := "compileValue", desc := "()V" } : Jvm.MethodName)) ∈ am_tb := am_mem 1807 (by decide +kernel) rfl
theorem q962 : (Jvm.Cond.instanceMethod ({ cls := "MessengerBoardModel", name := "compileValue", desc := "()V" } : Jvm.MethodName)) ∈ am_tb := am_mem 1809 (by decide +kernel) rfl
theorem q963 : (Jvm.Cond.code ({ cls := "MessengerBoardModel", name := "compileValue", desc := "()V" } : Jvm.MethodName) prog_13_method_117_code (2 : Nat) (Option.none : Option Jvm.ClassFile.FieldType)) ∈ am_tb := am_mem 1810 (by decide +kernel) rfl
theorem q964 : Jvm.Cond.selects "MessengerBoardModel" ⟨"MessengerBoardModel", "compileValue", "()V"⟩ ⟨"MessengerBoardModel", "compileValue", "()V"⟩ ∈ am_tb := am_mem 105 (by decide +kernel) rfl
theorem q965 : (Jvm.Cond.methodLink "MessengerBoardModel" (406 : Nat) ({ cls := "MessengerBoardModel", name := "enter", desc := "()V" } : Jvm.MethodName)) ∈ am_tb := am_mem 1799 (by decide +kernel) rfl
theorem q966 : (Jvm.Cond.instanceMethod ({ cls := "MessengerBoardModel", name := "enter", desc := "()V" } : Jvm.MethodName)) ∈ am_tb := am_mem 1801 (by decide +kernel) rfl
theorem q967 : (Jvm.Cond.code ({ cls := "MessengerBoardModel", name := "enter", desc := "()V" } : Jvm.MethodName) prog_13_method_116_code (1 : Nat) (Option.none : Option Jvm.ClassFile.FieldType)) ∈ am_tb := am_mem 1802 (by decide +kernel) rfl
theorem q968 : Jvm.Cond.selects "MessengerBoardModel" ⟨"MessengerBoardModel", "enter", "()V"⟩ ⟨"MessengerBoardModel", "enter", "()V"⟩ ∈ am_tb := am_mem 103 (by decide +kernel) rfl
theorem q969 : (Jvm.Cond.methodLink "MessengerBoardModel" (412 : Nat) ({ cls := "MessengerBoardModel", name := "compileTest", desc := "()V" } : Jvm.MethodName)) ∈ am_tb := am_mem 1786 (by decide +kernel) rfl
theorem q970 : (Jvm.Cond.instanceMethod ({ cls := "MessengerBoardModel", name := "compileTest", desc := "()V" } : Jvm.MethodName)) ∈ am_tb := am_mem 1788 (by decide +kernel) rfl
theorem q971 : (Jvm.Cond.code ({ cls := "MessengerBoardModel", name := "compileTest", desc := "()V" } : Jvm.MethodName) prog_13_method_120_code (1 : Nat) (Option.none : Option Jvm.ClassFile.FieldType)) ∈ am_tb := am_mem 1789 (by decide +kernel) rfl
theorem q972 : Jvm.Cond.selects "MessengerBoardModel" ⟨"MessengerBoardModel", "compileTest", "()V"⟩ ⟨"MessengerBoardModel", "compileTest", "()V"⟩ ∈ am_tb := am_mem 100 (by decide +kernel) rfl
theorem q973 : (Jvm.Cond.methodLink "MessengerBoardModel" (428 : Nat) ({ cls := "MessengerBoardModel", name := "operate", desc := "(IJJ)J" } : Jvm.MethodName)) ∈ am_tb := am_mem 1822 (by decide +kernel) rfl
theorem q974 : (Jvm.Cond.static ({ cls := "MessengerBoardModel", name := "operate", desc := "(IJJ)J" } : Jvm.MethodName)) ∈ am_tb := am_mem 1823 (by decide +kernel) rfl
theorem q975 : (Jvm.Cond.code ({ cls := "MessengerBoardModel", name := "operate", desc := "(IJJ)J" } : Jvm.MethodName) prog_13_method_121_code (5 : Nat) (Option.some Jvm.ClassFile.FieldType.long)) ∈ am_tb := am_mem 1824 (by decide +kernel) rfl
theorem q976 : (Jvm.Cond.methodLink "MessengerBoardModel" (425 : Nat) ({ cls := "MessengerBoardModel", name := "property", desc := "(II)I" } : Jvm.MethodName)) ∈ am_tb := am_mem 1818 (by decide +kernel) rfl
theorem q977 : (Jvm.Cond.instanceMethod ({ cls := "MessengerBoardModel", name := "property", desc := "(II)I" } : Jvm.MethodName)) ∈ am_tb := am_mem 1820 (by decide +kernel) rfl
theorem q978 : (Jvm.Cond.code ({ cls := "MessengerBoardModel", name := "property", desc := "(II)I" } : Jvm.MethodName) prog_13_method_122_code (3 : Nat) (Option.some Jvm.ClassFile.FieldType.int)) ∈ am_tb := am_mem 1821 (by decide +kernel) rfl
theorem q979 : Jvm.Cond.selects "MessengerBoardModel" ⟨"MessengerBoardModel", "property", "(II)I"⟩ ⟨"MessengerBoardModel", "property", "(II)I"⟩ ∈ am_tb := am_mem 107 (by decide +kernel) rfl
theorem q980 : (Jvm.Cond.methodLink "MessengerBoardModel" (432 : Nat) ({ cls := "java/lang/Math", name := "min", desc := "(II)I" } : Jvm.MethodName)) ∈ am_tb := am_mem 1783 (by decide +kernel) rfl
theorem q981 : (Jvm.Cond.methodLink "MessengerBoardModel" (439 : Nat) ({ cls := "MessengerBoardModel", name := "holdsFor", desc := "(I)Z" } : Jvm.MethodName)) ∈ am_tb := am_mem 1814 (by decide +kernel) rfl
theorem q982 : (Jvm.Cond.instanceMethod ({ cls := "MessengerBoardModel", name := "holdsFor", desc := "(I)Z" } : Jvm.MethodName)) ∈ am_tb := am_mem 1816 (by decide +kernel) rfl
theorem q983 : (Jvm.Cond.code ({ cls := "MessengerBoardModel", name := "holdsFor", desc := "(I)Z" } : Jvm.MethodName) prog_13_method_123_code (5 : Nat) (Option.some Jvm.ClassFile.FieldType.boolean)) ∈ am_tb := am_mem 1817 (by decide +kernel) rfl
theorem q984 : Jvm.Cond.selects "MessengerBoardModel" ⟨"MessengerBoardModel", "holdsFor", "(I)Z"⟩ ⟨"MessengerBoardModel", "holdsFor", "(I)Z"⟩ ∈ am_tb := am_mem 106 (by decide +kernel) rfl
theorem q985 : (Jvm.Cond.constant "MessengerBoardModel" (438 : Nat) (-1000000000 : Int32)) ∈ am_tb := am_mem 1813 (by decide +kernel) rfl
theorem q986 : (Jvm.Cond.methodLink "MessengerBoardLaw" (67 : Nat) ({ cls := "MessengerBoard", name := "bestDelay", desc := "(III)I" } : Jvm.MethodName)) ∈ am_tb := am_mem 1052 (by decide +kernel) rfl
theorem q987 : (Jvm.Cond.instanceMethod ({ cls := "MessengerBoard", name := "bestDelay", desc := "(III)I" } : Jvm.MethodName)) ∈ am_tb := am_mem 1053 (by decide +kernel) rfl
theorem q988 : (Jvm.Cond.code ({ cls := "MessengerBoard", name := "bestDelay", desc := "(III)I" } : Jvm.MethodName) prog_1_method_22_code (5 : Nat) (Option.some Jvm.ClassFile.FieldType.int)) ∈ am_tb := am_mem 1055 (by decide +kernel) rfl
theorem q989 : (Jvm.Cond.selects "MessengerBoard" ({ cls := "MessengerBoard", name := "bestDelay", desc := "(III)I" } : Jvm.MethodName) ({ cls := "MessengerBoard", name := "bestDelay", desc := "(III)I" } : Jvm.MethodName)) ∈ am_tb := am_mem 1054 (by decide +kernel) rfl
theorem q990 : (Jvm.Cond.classLink "MessengerBoardLaw" (18 : Nat) "java/util/NoSuchElementException") ∈ am_tb := am_mem 780 (by decide +kernel) rfl
theorem q991 : (Jvm.Cond.instantiable "java/util/NoSuchElementException" (6 : Nat)) ∈ am_tb := am_mem 786 (by decide +kernel) rfl
theorem q992 : (Jvm.Cond.classLink "MessengerBoardLaw" (13 : Nat) "java/lang/IllegalArgumentException") ∈ am_tb := am_mem 501 (by decide +kernel) rfl
theorem q993 : (Jvm.Cond.instantiable "java/lang/IllegalArgumentException" (6 : Nat)) ∈ am_tb := am_mem 507 (by decide +kernel) rfl
theorem q994 : (Jvm.Cond.methodLink "MessengerBoardLaw" (47 : Nat) ({ cls := "MessengerBoard", name := "distance", desc := "(IIII)I" } : Jvm.MethodName)) ∈ am_tb := am_mem 900 (by decide +kernel) rfl
theorem q995 : (Jvm.Cond.instanceMethod ({ cls := "MessengerBoard", name := "distance", desc := "(IIII)I" } : Jvm.MethodName)) ∈ am_tb := am_mem 901 (by decide +kernel) rfl
theorem q996 : (Jvm.Cond.code ({ cls := "MessengerBoard", name := "distance", desc := "(IIII)I" } : Jvm.MethodName) prog_1_method_15_code (5 : Nat) (Option.some Jvm.ClassFile.FieldType.int)) ∈ am_tb := am_mem 903 (by decide +kernel) rfl
theorem q997 : (Jvm.Cond.selects "MessengerBoard" ({ cls := "MessengerBoard", name := "distance", desc := "(IIII)I" } : Jvm.MethodName) ({ cls := "MessengerBoard", name := "distance", desc := "(IIII)I" } : Jvm.MethodName)) ∈ am_tb := am_mem 902 (by decide +kernel) rfl
theorem q998 : (Jvm.Cond.methodLink "MessengerBoardLaw" (33 : Nat) ({ cls := "MessengerBoard", name := "event", desc := "(II)I" } : Jvm.MethodName)) ∈ am_tb := am_mem 852 (by decide +kernel) rfl
theorem q999 : (Jvm.Cond.instanceMethod ({ cls := "MessengerBoard", name := "event", desc := "(II)I" } : Jvm.MethodName)) ∈ am_tb := am_mem 853 (by decide +kernel) rfl
theorem q1000 : (Jvm.Cond.code ({ cls := "MessengerBoard", name := "event", desc := "(II)I" } : Jvm.MethodName) prog_1_method_11_code (3 : Nat) (Option.some Jvm.ClassFile.FieldType.int)) ∈ am_tb := am_mem 855 (by decide +kernel) rfl
theorem q1001 : (Jvm.Cond.selects "MessengerBoard" ({ cls := "MessengerBoard", name := "event", desc := "(II)I" } : Jvm.MethodName) ({ cls := "MessengerBoard", name := "event", desc := "(II)I" } : Jvm.MethodName)) ∈ am_tb := am_mem 854 (by decide +kernel) rfl
theorem q1002 : (Jvm.Cond.methodLink "MessengerBoardLaw" (70 : Nat) ({ cls := "MessengerBoard", name := "failing", desc := "(I)I" } : Jvm.MethodName)) ∈ am_tb := am_mem 1059 (by decide +kernel) rfl
theorem q1003 : (Jvm.Cond.instanceMethod ({ cls := "MessengerBoard", name := "failing", desc := "(I)I" } : Jvm.MethodName)) ∈ am_tb := am_mem 1060 (by decide +kernel) rfl
theorem q1004 : (Jvm.Cond.code ({ cls := "MessengerBoard", name := "failing", desc := "(I)I" } : Jvm.MethodName) prog_1_method_24_code (7 : Nat) (Option.some Jvm.ClassFile.FieldType.int)) ∈ am_tb := am_mem 1062 (by decide +kernel) rfl
theorem q1005 : (Jvm.Cond.selects "MessengerBoard" ({ cls := "MessengerBoard", name := "failing", desc := "(I)I" } : Jvm.MethodName) ({ cls := "MessengerBoard", name := "failing", desc := "(I)I" } : Jvm.MethodName)) ∈ am_tb := am_mem 1061 (by decide +kernel) rfl
theorem q1006 : (Jvm.Cond.methodLink "MessengerBoardLaw" (91 : Nat) ({ cls := "MessengerBoard", name := "format", desc := "(I)I" } : Jvm.MethodName)) ∈ am_tb := am_mem 1134 (by decide +kernel) rfl
theorem q1007 : (Jvm.Cond.instanceMethod ({ cls := "MessengerBoard", name := "format", desc := "(I)I" } : Jvm.MethodName)) ∈ am_tb := am_mem 1135 (by decide +kernel) rfl
theorem q1008 : (Jvm.Cond.code ({ cls := "MessengerBoard", name := "format", desc := "(I)I" } : Jvm.MethodName) prog_1_method_33_code (3 : Nat) (Option.some Jvm.ClassFile.FieldType.int)) ∈ am_tb := am_mem 1137 (by decide +kernel) rfl
theorem q1009 : (Jvm.Cond.selects "MessengerBoard" ({ cls := "MessengerBoard", name := "format", desc := "(I)I" } : Jvm.MethodName) ({ cls := "MessengerBoard", name := "format", desc := "(I)I" } : Jvm.MethodName)) ∈ am_tb := am_mem 1136 (by decide +kernel) rfl
theorem q1010 : (Jvm.Cond.methodLink "MessengerBoardLaw" (39 : Nat) ({ cls := "MessengerBoard", name := "isWall", desc := "(II)Z" } : Jvm.MethodName)) ∈ am_tb := am_mem 867 (by decide +kernel) rfl
theorem q1011 : (Jvm.Cond.instanceMethod ({ cls := "MessengerBoard", name := "isWall", desc := "(II)Z" } : Jvm.MethodName)) ∈ am_tb := am_mem 868 (by decide +kernel) rfl
theorem q1012 : (Jvm.Cond.code ({ cls := "MessengerBoard", name := "isWall", desc := "(II)Z" } : Jvm.MethodName) prog_1_method_13_code (3 : Nat) (Option.some Jvm.ClassFile.FieldType.boolean)) ∈ am_tb := am_mem 870 (by decide +kernel) rfl
theorem q1013 : (Jvm.Cond.selects "MessengerBoard" ({ cls := "MessengerBoard", name := "isWall", desc := "(II)Z" } : Jvm.MethodName) ({ cls := "MessengerBoard", name := "isWall", desc := "(II)Z" } : Jvm.MethodName)) ∈ am_tb := am_mem 869 (by decide +kernel) rfl
theorem q1014 : (Jvm.Cond.methodLink "MessengerBoardLaw" (43 : Nat) ({ cls := "MessengerBoard", name := "isWatched", desc := "(III)Z" } : Jvm.MethodName)) ∈ am_tb := am_mem 884 (by decide +kernel) rfl
theorem q1015 : (Jvm.Cond.instanceMethod ({ cls := "MessengerBoard", name := "isWatched", desc := "(III)Z" } : Jvm.MethodName)) ∈ am_tb := am_mem 885 (by decide +kernel) rfl
theorem q1016 : (Jvm.Cond.code ({ cls := "MessengerBoard", name := "isWatched", desc := "(III)Z" } : Jvm.MethodName) prog_1_method_14_code (4 : Nat) (Option.some Jvm.ClassFile.FieldType.boolean)) ∈ am_tb := am_mem 887 (by decide +kernel) rfl
theorem q1017 : (Jvm.Cond.selects "MessengerBoard" ({ cls := "MessengerBoard", name := "isWatched", desc := "(III)Z" } : Jvm.MethodName) ({ cls := "MessengerBoard", name := "isWatched", desc := "(III)Z" } : Jvm.MethodName)) ∈ am_tb := am_mem 886 (by decide +kernel) rfl
theorem q1018 : (Jvm.Cond.methodLink "MessengerBoardLaw" (7 : Nat) ({ cls := "MessengerBoard", name := "load", desc := "(I)I" } : Jvm.MethodName)) ∈ am_tb := am_mem 502 (by decide +kernel) rfl
theorem q1019 : (Jvm.Cond.instanceMethod ({ cls := "MessengerBoard", name := "load", desc := "(I)I" } : Jvm.MethodName)) ∈ am_tb := am_mem 503 (by decide +kernel) rfl
theorem q1020 : (Jvm.Cond.code ({ cls := "MessengerBoard", name := "load", desc := "(I)I" } : Jvm.MethodName) prog_1_method_4_code (3 : Nat) (Option.some Jvm.ClassFile.FieldType.int)) ∈ am_tb := am_mem 505 (by decide +kernel) rfl
theorem q1021 : (Jvm.Cond.selects "MessengerBoard" ({ cls := "MessengerBoard", name := "load", desc := "(I)I" } : Jvm.MethodName) ({ cls := "MessengerBoard", name := "load", desc := "(I)I" } : Jvm.MethodName)) ∈ am_tb := am_mem 504 (by decide +kernel) rfl
theorem q1022 : (Jvm.Cond.methodLink "MessengerBoardLaw" (82 : Nat) ({ cls := "MessengerBoard", name := "movePicket", desc := "(III)I" } : Jvm.MethodName)) ∈ am_tb := am_mem 1110 (by decide +kernel) rfl
theorem q1023 : (Jvm.Cond.instanceMethod ({ cls := "MessengerBoard", name := "movePicket", desc := "(III)I" } : Jvm.MethodName)) ∈ am_tb := am_mem 1111 (by decide +kernel) rfl
theorem q1024 : (Jvm.Cond.code ({ cls := "MessengerBoard", name := "movePicket", desc := "(III)I" } : Jvm.MethodName) prog_1_method_30_code (4 : Nat) (Option.some Jvm.ClassFile.FieldType.int)) ∈ am_tb := am_mem 1113 (by decide +kernel) rfl
theorem q1025 : (Jvm.Cond.selects "MessengerBoard" ({ cls := "MessengerBoard", name := "movePicket", desc := "(III)I" } : Jvm.MethodName) ({ cls := "MessengerBoard", name := "movePicket", desc := "(III)I" } : Jvm.MethodName)) ∈ am_tb := am_mem 1112 (by decide +kernel) rfl
theorem q1026 : (Jvm.Cond.methodLink "MessengerBoardLaw" (85 : Nat) ({ cls := "MessengerBoard", name := "movePlan", desc := "(II)I" } : Jvm.MethodName)) ∈ am_tb := am_mem 1118 (by decide +kernel) rfl
theorem q1027 : (Jvm.Cond.instanceMethod ({ cls := "MessengerBoard", name := "movePlan", desc := "(II)I" } : Jvm.MethodName)) ∈ am_tb := am_mem 1119 (by decide +kernel) rfl
theorem q1028 : (Jvm.Cond.code ({ cls := "MessengerBoard", name := "movePlan", desc := "(II)I" } : Jvm.MethodName) prog_1_method_31_code (4 : Nat) (Option.some Jvm.ClassFile.FieldType.int)) ∈ am_tb := am_mem 1121 (by decide +kernel) rfl
theorem q1029 : (Jvm.Cond.selects "MessengerBoard" ({ cls := "MessengerBoard", name := "movePlan", desc := "(II)I" } : Jvm.MethodName) ({ cls := "MessengerBoard", name := "movePlan", desc := "(II)I" } : Jvm.MethodName)) ∈ am_tb := am_mem 1120 (by decide +kernel) rfl
theorem q1030 : (Jvm.Cond.methodLink "MessengerBoardLaw" (27 : Nat) ({ cls := "MessengerBoard", name := "order", desc := "(II)I" } : Jvm.MethodName)) ∈ am_tb := am_mem 838 (by decide +kernel) rfl
theorem q1031 : (Jvm.Cond.instanceMethod ({ cls := "MessengerBoard", name := "order", desc := "(II)I" } : Jvm.MethodName)) ∈ am_tb := am_mem 839 (by decide +kernel) rfl
theorem q1032 : (Jvm.Cond.code ({ cls := "MessengerBoard", name := "order", desc := "(II)I" } : Jvm.MethodName) prog_1_method_9_code (3 : Nat) (Option.some Jvm.ClassFile.FieldType.int)) ∈ am_tb := am_mem 841 (by decide +kernel) rfl
theorem q1033 : (Jvm.Cond.selects "MessengerBoard" ({ cls := "MessengerBoard", name := "order", desc := "(II)I" } : Jvm.MethodName) ({ cls := "MessengerBoard", name := "order", desc := "(II)I" } : Jvm.MethodName)) ∈ am_tb := am_mem 840 (by decide +kernel) rfl
theorem q1034 : (Jvm.Cond.methodLink "MessengerBoardLaw" (36 : Nat) ({ cls := "MessengerBoard", name := "orders", desc := "(I)I" } : Jvm.MethodName)) ∈ am_tb := am_mem 859 (by decide +kernel) rfl
theorem q1035 : (Jvm.Cond.instanceMethod ({ cls := "MessengerBoard", name := "orders", desc := "(I)I" } : Jvm.MethodName)) ∈ am_tb := am_mem 860 (by decide +kernel) rfl
theorem q1036 : (Jvm.Cond.code ({ cls := "MessengerBoard", name := "orders", desc := "(I)I" } : Jvm.MethodName) prog_1_method_12_code (2 : Nat) (Option.some Jvm.ClassFile.FieldType.int)) ∈ am_tb := am_mem 862 (by decide +kernel) rfl
theorem q1037 : (Jvm.Cond.selects "MessengerBoard" ({ cls := "MessengerBoard", name := "orders", desc := "(I)I" } : Jvm.MethodName) ({ cls := "MessengerBoard", name := "orders", desc := "(I)I" } : Jvm.MethodName)) ∈ am_tb := am_mem 861 (by decide +kernel) rfl
theorem q1038 : (Jvm.Cond.methodLink "MessengerBoardLaw" (73 : Nat) ({ cls := "MessengerBoard", name := "pass", desc := "(I)I" } : Jvm.MethodName)) ∈ am_tb := am_mem 1066 (by decide +kernel) rfl
theorem q1039 : (Jvm.Cond.instanceMethod ({ cls := "MessengerBoard", name := "pass", desc := "(I)I" } : Jvm.MethodName)) ∈ am_tb := am_mem 1067 (by decide +kernel) rfl
theorem q1040 : (Jvm.Cond.code ({ cls := "MessengerBoard", name := "pass", desc := "(I)I" } : Jvm.MethodName) prog_1_method_27_code (4 : Nat) (Option.some Jvm.ClassFile.FieldType.int)) ∈ am_tb := am_mem 1069 (by decide +kernel) rfl
theorem q1041 : (Jvm.Cond.selects "MessengerBoard" ({ cls := "MessengerBoard", name := "pass", desc := "(I)I" } : Jvm.MethodName) ({ cls := "MessengerBoard", name := "pass", desc := "(I)I" } : Jvm.MethodName)) ∈ am_tb := am_mem 1068 (by decide +kernel) rfl
theorem q1042 : (Jvm.Cond.methodLink "MessengerBoardLaw" (24 : Nat) ({ cls := "MessengerBoard", name := "picket", desc := "(II)I" } : Jvm.MethodName)) ∈ am_tb := am_mem 827 (by decide +kernel) rfl
theorem q1043 : (Jvm.Cond.instanceMethod ({ cls := "MessengerBoard", name := "picket", desc := "(II)I" } : Jvm.MethodName)) ∈ am_tb := am_mem 828 (by decide +kernel) rfl
theorem q1044 : (Jvm.Cond.code ({ cls := "MessengerBoard", name := "picket", desc := "(II)I" } : Jvm.MethodName) prog_1_method_8_code (3 : Nat) (Option.some Jvm.ClassFile.FieldType.int)) ∈ am_tb := am_mem 830 (by decide +kernel) rfl
theorem q1045 : (Jvm.Cond.selects "MessengerBoard" ({ cls := "MessengerBoard", name := "picket", desc := "(II)I" } : Jvm.MethodName) ({ cls := "MessengerBoard", name := "picket", desc := "(II)I" } : Jvm.MethodName)) ∈ am_tb := am_mem 829 (by decide +kernel) rfl
theorem q1046 : (Jvm.Cond.methodLink "MessengerBoardLaw" (30 : Nat) ({ cls := "MessengerBoard", name := "plan", desc := "(II)I" } : Jvm.MethodName)) ∈ am_tb := am_mem 845 (by decide +kernel) rfl
theorem q1047 : (Jvm.Cond.instanceMethod ({ cls := "MessengerBoard", name := "plan", desc := "(II)I" } : Jvm.MethodName)) ∈ am_tb := am_mem 846 (by decide +kernel) rfl
theorem q1048 : (Jvm.Cond.code ({ cls := "MessengerBoard", name := "plan", desc := "(II)I" } : Jvm.MethodName) prog_1_method_10_code (3 : Nat) (Option.some Jvm.ClassFile.FieldType.int)) ∈ am_tb := am_mem 848 (by decide +kernel) rfl
theorem q1049 : (Jvm.Cond.selects "MessengerBoard" ({ cls := "MessengerBoard", name := "plan", desc := "(II)I" } : Jvm.MethodName) ({ cls := "MessengerBoard", name := "plan", desc := "(II)I" } : Jvm.MethodName)) ∈ am_tb := am_mem 847 (by decide +kernel) rfl
theorem q1050 : (Jvm.Cond.methodLink "MessengerBoardLaw" (94 : Nat) ({ cls := "MessengerBoard", name := "query", desc := "(I)I" } : Jvm.MethodName)) ∈ am_tb := am_mem 1147 (by decide +kernel) rfl
theorem q1051 : (Jvm.Cond.instanceMethod ({ cls := "MessengerBoard", name := "query", desc := "(I)I" } : Jvm.MethodName)) ∈ am_tb := am_mem 1148 (by decide +kernel) rfl
theorem q1052 : (Jvm.Cond.code ({ cls := "MessengerBoard", name := "query", desc := "(I)I" } : Jvm.MethodName) prog_1_method_40_code (3 : Nat) (Option.some Jvm.ClassFile.FieldType.int)) ∈ am_tb := am_mem 1150 (by decide +kernel) rfl
theorem q1053 : (Jvm.Cond.selects "MessengerBoard" ({ cls := "MessengerBoard", name := "query", desc := "(I)I" } : Jvm.MethodName) ({ cls := "MessengerBoard", name := "query", desc := "(I)I" } : Jvm.MethodName)) ∈ am_tb := am_mem 1149 (by decide +kernel) rfl
theorem q1054 : (Jvm.Cond.methodLink "MessengerBoardLaw" (76 : Nat) ({ cls := "MessengerBoard", name := "send", desc := "(III)I" } : Jvm.MethodName)) ∈ am_tb := am_mem 1085 (by decide +kernel) rfl
theorem q1055 : (Jvm.Cond.instanceMethod ({ cls := "MessengerBoard", name := "send", desc := "(III)I" } : Jvm.MethodName)) ∈ am_tb := am_mem 1086 (by decide +kernel) rfl
theorem q1056 : (Jvm.Cond.code ({ cls := "MessengerBoard", name := "send", desc := "(III)I" } : Jvm.MethodName) prog_1_method_28_code (4 : Nat) (Option.some Jvm.ClassFile.FieldType.int)) ∈ am_tb := am_mem 1088 (by decide +kernel) rfl
theorem q1057 : (Jvm.Cond.selects "MessengerBoard" ({ cls := "MessengerBoard", name := "send", desc := "(III)I" } : Jvm.MethodName) ({ cls := "MessengerBoard", name := "send", desc := "(III)I" } : Jvm.MethodName)) ∈ am_tb := am_mem 1087 (by decide +kernel) rfl
theorem q1058 : (Jvm.Cond.methodLink "MessengerBoardLaw" (88 : Nat) ({ cls := "MessengerBoard", name := "setPatience", desc := "(I)I" } : Jvm.MethodName)) ∈ am_tb := am_mem 1126 (by decide +kernel) rfl
theorem q1059 : (Jvm.Cond.instanceMethod ({ cls := "MessengerBoard", name := "setPatience", desc := "(I)I" } : Jvm.MethodName)) ∈ am_tb := am_mem 1127 (by decide +kernel) rfl
theorem q1060 : (Jvm.Cond.code ({ cls := "MessengerBoard", name := "setPatience", desc := "(I)I" } : Jvm.MethodName) prog_1_method_32_code (3 : Nat) (Option.some Jvm.ClassFile.FieldType.int)) ∈ am_tb := am_mem 1129 (by decide +kernel) rfl
theorem q1061 : (Jvm.Cond.selects "MessengerBoard" ({ cls := "MessengerBoard", name := "setPatience", desc := "(I)I" } : Jvm.MethodName) ({ cls := "MessengerBoard", name := "setPatience", desc := "(I)I" } : Jvm.MethodName)) ∈ am_tb := am_mem 1128 (by decide +kernel) rfl
theorem q1062 : (Jvm.Cond.methodLink "MessengerBoardLaw" (15 : Nat) ({ cls := "MessengerBoard", name := "size", desc := "(I)I" } : Jvm.MethodName)) ∈ am_tb := am_mem 781 (by decide +kernel) rfl
theorem q1063 : (Jvm.Cond.instanceMethod ({ cls := "MessengerBoard", name := "size", desc := "(I)I" } : Jvm.MethodName)) ∈ am_tb := am_mem 782 (by decide +kernel) rfl
theorem q1064 : (Jvm.Cond.code ({ cls := "MessengerBoard", name := "size", desc := "(I)I" } : Jvm.MethodName) prog_1_method_6_code (2 : Nat) (Option.some Jvm.ClassFile.FieldType.int)) ∈ am_tb := am_mem 784 (by decide +kernel) rfl
theorem q1065 : (Jvm.Cond.selects "MessengerBoard" ({ cls := "MessengerBoard", name := "size", desc := "(I)I" } : Jvm.MethodName) ({ cls := "MessengerBoard", name := "size", desc := "(I)I" } : Jvm.MethodName)) ∈ am_tb := am_mem 783 (by decide +kernel) rfl
theorem q1066 : (Jvm.Cond.methodLink "MessengerBoardLaw" (57 : Nat) ({ cls := "MessengerBoard", name := "stateAt", desc := "(II)I" } : Jvm.MethodName)) ∈ am_tb := am_mem 980 (by decide +kernel) rfl
theorem q1067 : (Jvm.Cond.instanceMethod ({ cls := "MessengerBoard", name := "stateAt", desc := "(II)I" } : Jvm.MethodName)) ∈ am_tb := am_mem 981 (by decide +kernel) rfl
theorem q1068 : (Jvm.Cond.code ({ cls := "MessengerBoard", name := "stateAt", desc := "(II)I" } : Jvm.MethodName) prog_1_method_18_code (6 : Nat) (Option.some Jvm.ClassFile.FieldType.int)) ∈ am_tb := am_mem 983 (by decide +kernel) rfl
theorem q1069 : (Jvm.Cond.selects "MessengerBoard" ({ cls := "MessengerBoard", name := "stateAt", desc := "(II)I" } : Jvm.MethodName) ({ cls := "MessengerBoard", name := "stateAt", desc := "(II)I" } : Jvm.MethodName)) ∈ am_tb := am_mem 982 (by decide +kernel) rfl
theorem q1070 : (Jvm.Cond.methodLink "MessengerBoardLaw" (51 : Nat) ({ cls := "MessengerBoard", name := "step", desc := "(IIII)I" } : Jvm.MethodName)) ∈ am_tb := am_mem 949 (by decide +kernel) rfl
theorem q1071 : (Jvm.Cond.instanceMethod ({ cls := "MessengerBoard", name := "step", desc := "(IIII)I" } : Jvm.MethodName)) ∈ am_tb := am_mem 950 (by decide +kernel) rfl
theorem q1072 : (Jvm.Cond.code ({ cls := "MessengerBoard", name := "step", desc := "(IIII)I" } : Jvm.MethodName) prog_1_method_16_code (6 : Nat) (Option.some Jvm.ClassFile.FieldType.int)) ∈ am_tb := am_mem 952 (by decide +kernel) rfl
theorem q1073 : (Jvm.Cond.selects "MessengerBoard" ({ cls := "MessengerBoard", name := "step", desc := "(IIII)I" } : Jvm.MethodName) ({ cls := "MessengerBoard", name := "step", desc := "(IIII)I" } : Jvm.MethodName)) ∈ am_tb := am_mem 951 (by decide +kernel) rfl
theorem q1074 : (Jvm.Cond.methodLink "MessengerBoardLaw" (20 : Nat) ({ cls := "MessengerBoard", name := "unit", desc := "(II)I" } : Jvm.MethodName)) ∈ am_tb := am_mem 804 (by decide +kernel) rfl
theorem q1075 : (Jvm.Cond.instanceMethod ({ cls := "MessengerBoard", name := "unit", desc := "(II)I" } : Jvm.MethodName)) ∈ am_tb := am_mem 805 (by decide +kernel) rfl
theorem q1076 : (Jvm.Cond.code ({ cls := "MessengerBoard", name := "unit", desc := "(II)I" } : Jvm.MethodName) prog_1_method_7_code (3 : Nat) (Option.some Jvm.ClassFile.FieldType.int)) ∈ am_tb := am_mem 807 (by decide +kernel) rfl
theorem q1077 : (Jvm.Cond.selects "MessengerBoard" ({ cls := "MessengerBoard", name := "unit", desc := "(II)I" } : Jvm.MethodName) ({ cls := "MessengerBoard", name := "unit", desc := "(II)I" } : Jvm.MethodName)) ∈ am_tb := am_mem 806 (by decide +kernel) rfl
theorem q1078 : (Jvm.Cond.methodLink "MessengerBoardLaw" (79 : Nat) ({ cls := "MessengerBoard", name := "wall", desc := "(II)I" } : Jvm.MethodName)) ∈ am_tb := am_mem 1092 (by decide +kernel) rfl
theorem q1079 : (Jvm.Cond.instanceMethod ({ cls := "MessengerBoard", name := "wall", desc := "(II)I" } : Jvm.MethodName)) ∈ am_tb := am_mem 1093 (by decide +kernel) rfl
theorem q1080 : (Jvm.Cond.code ({ cls := "MessengerBoard", name := "wall", desc := "(II)I" } : Jvm.MethodName) prog_1_method_29_code (3 : Nat) (Option.some Jvm.ClassFile.FieldType.int)) ∈ am_tb := am_mem 1095 (by decide +kernel) rfl
theorem q1081 : (Jvm.Cond.selects "MessengerBoard" ({ cls := "MessengerBoard", name := "wall", desc := "(II)I" } : Jvm.MethodName) ({ cls := "MessengerBoard", name := "wall", desc := "(II)I" } : Jvm.MethodName)) ∈ am_tb := am_mem 1094 (by decide +kernel) rfl
theorem q1082 : (Jvm.Cond.methodLink "MessengerBoardLaw" (54 : Nat) ({ cls := "MessengerBoard", name := "wasAt", desc := "(II)I" } : Jvm.MethodName)) ∈ am_tb := am_mem 965 (by decide +kernel) rfl
theorem q1083 : (Jvm.Cond.instanceMethod ({ cls := "MessengerBoard", name := "wasAt", desc := "(II)I" } : Jvm.MethodName)) ∈ am_tb := am_mem 966 (by decide +kernel) rfl
theorem q1084 : (Jvm.Cond.code ({ cls := "MessengerBoard", name := "wasAt", desc := "(II)I" } : Jvm.MethodName) prog_1_method_17_code (3 : Nat) (Option.some Jvm.ClassFile.FieldType.int)) ∈ am_tb := am_mem 968 (by decide +kernel) rfl
theorem q1085 : (Jvm.Cond.selects "MessengerBoard" ({ cls := "MessengerBoard", name := "wasAt", desc := "(II)I" } : Jvm.MethodName) ({ cls := "MessengerBoard", name := "wasAt", desc := "(II)I" } : Jvm.MethodName)) ∈ am_tb := am_mem 967 (by decide +kernel) rfl
theorem q1086 : (Jvm.Cond.methodLink "MessengerBoardLaw" (63 : Nat) ({ cls := "MessengerBoard", name := "wouldArrive", desc := "(III)I" } : Jvm.MethodName)) ∈ am_tb := am_mem 1041 (by decide +kernel) rfl
theorem q1087 : (Jvm.Cond.instanceMethod ({ cls := "MessengerBoard", name := "wouldArrive", desc := "(III)I" } : Jvm.MethodName)) ∈ am_tb := am_mem 1042 (by decide +kernel) rfl
theorem q1088 : (Jvm.Cond.code ({ cls := "MessengerBoard", name := "wouldArrive", desc := "(III)I" } : Jvm.MethodName) prog_1_method_21_code (4 : Nat) (Option.some Jvm.ClassFile.FieldType.int)) ∈ am_tb := am_mem 1044 (by decide +kernel) rfl
theorem q1089 : (Jvm.Cond.selects "MessengerBoard" ({ cls := "MessengerBoard", name := "wouldArrive", desc := "(III)I" } : Jvm.MethodName) ({ cls := "MessengerBoard", name := "wouldArrive", desc := "(III)I" } : Jvm.MethodName)) ∈ am_tb := am_mem 1043 (by decide +kernel) rfl
theorem q1090 : (Jvm.Cond.methodLink "MessengerBoardLaw" (60 : Nat) ({ cls := "MessengerBoard", name := "wouldBe", desc := "(IIII)I" } : Jvm.MethodName)) ∈ am_tb := am_mem 987 (by decide +kernel) rfl
theorem q1091 : (Jvm.Cond.instanceMethod ({ cls := "MessengerBoard", name := "wouldBe", desc := "(IIII)I" } : Jvm.MethodName)) ∈ am_tb := am_mem 988 (by decide +kernel) rfl
theorem q1092 : (Jvm.Cond.code ({ cls := "MessengerBoard", name := "wouldBe", desc := "(IIII)I" } : Jvm.MethodName) prog_1_method_20_code (7 : Nat) (Option.some Jvm.ClassFile.FieldType.int)) ∈ am_tb := am_mem 990 (by decide +kernel) rfl
theorem q1093 : (Jvm.Cond.selects "MessengerBoard" ({ cls := "MessengerBoard", name := "wouldBe", desc := "(IIII)I" } : Jvm.MethodName) ({ cls := "MessengerBoard", name := "wouldBe", desc := "(IIII)I" } : Jvm.MethodName)) ∈ am_tb := am_mem 989 (by decide +kernel) rfl
theorem q1094 : (Jvm.Cond.classLink "MessengerBoardLaw" (8 : Nat) "MessengerBoard") ∈ am_tb := am_mem 134 (by decide +kernel) rfl
theorem q1095 : (Jvm.Cond.instantiable "MessengerBoard" (17 : Nat)) ∈ am_tb := am_mem 135 (by decide +kernel) rfl
theorem q1096 : (Jvm.Cond.methodLink "MessengerBoardLaw" (97 : Nat) ({ cls := "MessengerBoard", name := "<init>", desc := "()V" } : Jvm.MethodName)) ∈ am_tb := am_mem 136 (by decide +kernel) rfl
theorem q1097 : (Jvm.Cond.instanceMethod ({ cls := "MessengerBoard", name := "<init>", desc := "()V" } : Jvm.MethodName)) ∈ am_tb := am_mem 137 (by decide +kernel) rfl
theorem q1098 : (Jvm.Cond.code ({ cls := "MessengerBoard", name := "<init>", desc := "()V" } : Jvm.MethodName) prog_1_method_1_code (1 : Nat) (Option.none : Option Jvm.ClassFile.FieldType)) ∈ am_tb := am_mem 138 (by decide +kernel) rfl
theorem q1099 : (Jvm.Cond.classLink "MessengerBoardLaw" (98 : Nat) "MessengerBoardModel") ∈ am_tb := am_mem 1218 (by decide +kernel) rfl
theorem q1100 : (Jvm.Cond.instantiable "MessengerBoardModel" (28 : Nat)) ∈ am_tb := am_mem 1219 (by decide +kernel) rfl
theorem q1101 : (Jvm.Cond.methodLink "MessengerBoardLaw" (100 : Nat) ({ cls := "MessengerBoardModel", name := "<init>", desc := "()V" } : Jvm.MethodName)) ∈ am_tb := am_mem 1220 (by decide +kernel) rfl
theorem q1102 : (Jvm.Cond.instanceMethod ({ cls := "MessengerBoardModel", name := "<init>", desc := "()V" } : Jvm.MethodName)) ∈ am_tb := am_mem 1221 (by decide +kernel) rfl
theorem q1103 : (Jvm.Cond.code ({ cls := "MessengerBoardModel", name := "<init>", desc := "()V" } : Jvm.MethodName) prog_13_method_1_code (1 : Nat) (Option.none : Option Jvm.ClassFile.FieldType)) ∈ am_tb := am_mem 1222 (by decide +kernel) rfl
theorem q1104 : (Jvm.Cond.methodLink "MessengerBoardLaw" (101 : Nat) ({ cls := "MessengerBoard", name := "feed", desc := "(IIIII)I" } : Jvm.MethodName)) ∈ am_tb := am_mem 402 (by decide +kernel) rfl
theorem q1105 : (Jvm.Cond.instanceMethod ({ cls := "MessengerBoard", name := "feed", desc := "(IIIII)I" } : Jvm.MethodName)) ∈ am_tb := am_mem 403 (by decide +kernel) rfl
theorem q1106 : (Jvm.Cond.code ({ cls := "MessengerBoard", name := "feed", desc := "(IIIII)I" } : Jvm.MethodName) prog_1_method_2_code (6 : Nat) (Option.some Jvm.ClassFile.FieldType.int)) ∈ am_tb := am_mem 405 (by decide +kernel) rfl
theorem q1107 : (Jvm.Cond.selects "MessengerBoard" ({ cls := "MessengerBoard", name := "feed", desc := "(IIIII)I" } : Jvm.MethodName) ({ cls := "MessengerBoard", name := "feed", desc := "(IIIII)I" } : Jvm.MethodName)) ∈ am_tb := am_mem 404 (by decide +kernel) rfl
theorem q1108 : (Jvm.Cond.methodLink "MessengerBoardLaw" (105 : Nat) ({ cls := "MessengerBoardModel", name := "feed", desc := "(IIIII)I" } : Jvm.MethodName)) ∈ am_tb := am_mem 1653 (by decide +kernel) rfl
theorem q1109 : (Jvm.Cond.instanceMethod ({ cls := "MessengerBoardModel", name := "feed", desc := "(IIIII)I" } : Jvm.MethodName)) ∈ am_tb := am_mem 1654 (by decide +kernel) rfl
theorem q1110 : (Jvm.Cond.code ({ cls := "MessengerBoardModel", name := "feed", desc := "(IIIII)I" } : Jvm.MethodName) prog_13_method_87_code (8 : Nat) (Option.some Jvm.ClassFile.FieldType.int)) ∈ am_tb := am_mem 1656 (by decide +kernel) rfl
theorem q1111 : (Jvm.Cond.selects "MessengerBoardModel" ({ cls := "MessengerBoardModel", name := "feed", desc := "(IIIII)I" } : Jvm.MethodName) ({ cls := "MessengerBoardModel", name := "feed", desc := "(IIIII)I" } : Jvm.MethodName)) ∈ am_tb := am_mem 1655 (by decide +kernel) rfl
theorem q1112 : (Jvm.Cond.methodLink "MessengerBoardLaw" (106 : Nat) ({ cls := "MessengerBoardLaw", name := "load", desc := "(LMessengerBoard;I[J)I" } : Jvm.MethodName)) ∈ am_tb := am_mem 498 (by decide +kernel) rfl
theorem q1113 : (Jvm.Cond.static ({ cls := "MessengerBoardLaw", name := "load", desc := "(LMessengerBoard;I[J)I" } : Jvm.MethodName)) ∈ am_tb := am_mem 499 (by decide +kernel) rfl
theorem q1114 : (Jvm.Cond.initialized "MessengerBoardLaw") ∈ am_tb := am_mem 108 (by decide +kernel) rfl
theorem q1115 : (Jvm.Cond.codeWith ({ cls := "MessengerBoardLaw", name := "load", desc := "(LMessengerBoard;I[J)I" } : Jvm.MethodName) method_3_code (4 : Nat) (Option.some Jvm.ClassFile.FieldType.int) [((0 : Nat), (9 : Nat), (12 : Nat), (13 : Nat))]) ∈ am_tb := am_mem 500 (by decide +kernel) rfl
theorem q1116 : (Jvm.Cond.methodLink "MessengerBoardLaw" (111 : Nat) ({ cls := "MessengerBoardModel", name := "load", desc := "(I)I" } : Jvm.MethodName)) ∈ am_tb := am_mem 1661 (by decide +kernel) rfl
theorem q1117 : (Jvm.Cond.instanceMethod ({ cls := "MessengerBoardModel", name := "load", desc := "(I)I" } : Jvm.MethodName)) ∈ am_tb := am_mem 1662 (by decide +kernel) rfl
theorem q1118 : (Jvm.Cond.code ({ cls := "MessengerBoardModel", name := "load", desc := "(I)I" } : Jvm.MethodName) prog_13_method_114_code (2 : Nat) (Option.some Jvm.ClassFile.FieldType.int)) ∈ am_tb := am_mem 1664 (by decide +kernel) rfl
theorem q1119 : (Jvm.Cond.selects "MessengerBoardModel" ({ cls := "MessengerBoardModel", name := "load", desc := "(I)I" } : Jvm.MethodName) ({ cls := "MessengerBoardModel", name := "load", desc := "(I)I" } : Jvm.MethodName)) ∈ am_tb := am_mem 1663 (by decide +kernel) rfl
theorem q1120 : (Jvm.Cond.methodLink "MessengerBoardLaw" (112 : Nat) ({ cls := "MessengerBoardModel", name := "thrown", desc := "()I" } : Jvm.MethodName)) ∈ am_tb := am_mem 1325 (by decide +kernel) rfl
theorem q1121 : (Jvm.Cond.instanceMethod ({ cls := "MessengerBoardModel", name := "thrown", desc := "()I" } : Jvm.MethodName)) ∈ am_tb := am_mem 1326 (by decide +kernel) rfl
theorem q1122 : (Jvm.Cond.code ({ cls := "MessengerBoardModel", name := "thrown", desc := "()I" } : Jvm.MethodName) prog_13_method_2_code (1 : Nat) (Option.some Jvm.ClassFile.FieldType.int)) ∈ am_tb := am_mem 1328 (by decide +kernel) rfl
theorem q1123 : (Jvm.Cond.selects "MessengerBoardModel" ({ cls := "MessengerBoardModel", name := "thrown", desc := "()I" } : Jvm.MethodName) ({ cls := "MessengerBoardModel", name := "thrown", desc := "()I" } : Jvm.MethodName)) ∈ am_tb := am_mem 1327 (by decide +kernel) rfl
theorem q1124 : (Jvm.Cond.methodLink "MessengerBoardLaw" (116 : Nat) ({ cls := "MessengerBoard", name := "errorPosition", desc := "()I" } : Jvm.MethodName)) ∈ am_tb := am_mem 410 (by decide +kernel) rfl
theorem q1125 : (Jvm.Cond.instanceMethod ({ cls := "MessengerBoard", name := "errorPosition", desc := "()I" } : Jvm.MethodName)) ∈ am_tb := am_mem 411 (by decide +kernel) rfl
theorem q1126 : (Jvm.Cond.code ({ cls := "MessengerBoard", name := "errorPosition", desc := "()I" } : Jvm.MethodName) prog_1_method_5_code (1 : Nat) (Option.some Jvm.ClassFile.FieldType.int)) ∈ am_tb := am_mem 413 (by decide +kernel) rfl
theorem q1127 : (Jvm.Cond.selects "MessengerBoard" ({ cls := "MessengerBoard", name := "errorPosition", desc := "()I" } : Jvm.MethodName) ({ cls := "MessengerBoard", name := "errorPosition", desc := "()I" } : Jvm.MethodName)) ∈ am_tb := am_mem 412 (by decide +kernel) rfl
theorem q1128 : (Jvm.Cond.methodLink "MessengerBoardLaw" (119 : Nat) ({ cls := "MessengerBoardModel", name := "errorPosition", desc := "()I" } : Jvm.MethodName)) ∈ am_tb := am_mem 1657 (by decide +kernel) rfl
theorem q1129 : (Jvm.Cond.instanceMethod ({ cls := "MessengerBoardModel", name := "errorPosition", desc := "()I" } : Jvm.MethodName)) ∈ am_tb := am_mem 1658 (by decide +kernel) rfl
theorem q1130 : (Jvm.Cond.code ({ cls := "MessengerBoardModel", name := "errorPosition", desc := "()I" } : Jvm.MethodName) prog_13_method_88_code (1 : Nat) (Option.some Jvm.ClassFile.FieldType.int)) ∈ am_tb := am_mem 1660 (by decide +kernel) rfl
theorem q1131 : (Jvm.Cond.selects "MessengerBoardModel" ({ cls := "MessengerBoardModel", name := "errorPosition", desc := "()I" } : Jvm.MethodName) ({ cls := "MessengerBoardModel", name := "errorPosition", desc := "()I" } : Jvm.MethodName)) ∈ am_tb := am_mem 1659 (by decide +kernel) rfl
theorem q1132 : (Jvm.Cond.methodLink "MessengerBoardLaw" (120 : Nat) ({ cls := "MessengerBoardLaw", name := "size", desc := "(LMessengerBoard;I[J)I" } : Jvm.MethodName)) ∈ am_tb := am_mem 777 (by decide +kernel) rfl
theorem q1133 : (Jvm.Cond.static ({ cls := "MessengerBoardLaw", name := "size", desc := "(LMessengerBoard;I[J)I" } : Jvm.MethodName)) ∈ am_tb := am_mem 778 (by decide +kernel) rfl
theorem q1134 : (Jvm.Cond.codeWith ({ cls := "MessengerBoardLaw", name := "size", desc := "(LMessengerBoard;I[J)I" } : Jvm.MethodName) method_4_code (4 : Nat) (Option.some Jvm.ClassFile.FieldType.int) [((0 : Nat), (9 : Nat), (12 : Nat), (18 : Nat))]) ∈ am_tb := am_mem 779 (by decide +kernel) rfl
theorem q1135 : (Jvm.Cond.methodLink "MessengerBoardLaw" (122 : Nat) ({ cls := "MessengerBoardModel", name := "size", desc := "(I)I" } : Jvm.MethodName)) ∈ am_tb := am_mem 1329 (by decide +kernel) rfl
theorem q1136 : (Jvm.Cond.instanceMethod ({ cls := "MessengerBoardModel", name := "size", desc := "(I)I" } : Jvm.MethodName)) ∈ am_tb := am_mem 1330 (by decide +kernel) rfl
theorem q1137 : (Jvm.Cond.code ({ cls := "MessengerBoardModel", name := "size", desc := "(I)I" } : Jvm.MethodName) prog_13_method_42_code (2 : Nat) (Option.some Jvm.ClassFile.FieldType.int)) ∈ am_tb := am_mem 1332 (by decide +kernel) rfl
theorem q1138 : (Jvm.Cond.selects "MessengerBoardModel" ({ cls := "MessengerBoardModel", name := "size", desc := "(I)I" } : Jvm.MethodName) ({ cls := "MessengerBoardModel", name := "size", desc := "(I)I" } : Jvm.MethodName)) ∈ am_tb := am_mem 1331 (by decide +kernel) rfl
theorem q1139 : (Jvm.Cond.methodLink "MessengerBoardLaw" (123 : Nat) ({ cls := "MessengerBoardLaw", name := "unit", desc := "(LMessengerBoard;II[J)I" } : Jvm.MethodName)) ∈ am_tb := am_mem 801 (by decide +kernel) rfl
theorem q1140 : (Jvm.Cond.static ({ cls := "MessengerBoardLaw", name := "unit", desc := "(LMessengerBoard;II[J)I" } : Jvm.MethodName)) ∈ am_tb := am_mem 802 (by decide +kernel) rfl
theorem q1141 : (Jvm.Cond.codeWith ({ cls := "MessengerBoardLaw", name := "unit", desc := "(LMessengerBoard;II[J)I" } : Jvm.MethodName) method_5_code (5 : Nat) (Option.some Jvm.ClassFile.FieldType.int) [((0 : Nat), (10 : Nat), (13 : Nat), (18 : Nat))]) ∈ am_tb := am_mem 803 (by decide +kernel) rfl
theorem q1142 : (Jvm.Cond.methodLink "MessengerBoardLaw" (126 : Nat) ({ cls := "MessengerBoardModel", name := "unit", desc := "(II)I" } : Jvm.MethodName)) ∈ am_tb := am_mem 1340 (by decide +kernel) rfl
theorem q1143 : (Jvm.Cond.instanceMethod ({ cls := "MessengerBoardModel", name := "unit", desc := "(II)I" } : Jvm.MethodName)) ∈ am_tb := am_mem 1341 (by decide +kernel) rfl
theorem q1144 : (Jvm.Cond.code ({ cls := "MessengerBoardModel", name := "unit", desc := "(II)I" } : Jvm.MethodName) prog_13_method_44_code (3 : Nat) (Option.some Jvm.ClassFile.FieldType.int)) ∈ am_tb := am_mem 1343 (by decide +kernel) rfl
theorem q1145 : (Jvm.Cond.selects "MessengerBoardModel" ({ cls := "MessengerBoardModel", name := "unit", desc := "(II)I" } : Jvm.MethodName) ({ cls := "MessengerBoardModel", name := "unit", desc := "(II)I" } : Jvm.MethodName)) ∈ am_tb := am_mem 1342 (by decide +kernel) rfl
theorem q1146 : (Jvm.Cond.methodLink "MessengerBoardLaw" (127 : Nat) ({ cls := "MessengerBoardLaw", name := "picket", desc := "(LMessengerBoard;II[J)I" } : Jvm.MethodName)) ∈ am_tb := am_mem 824 (by decide +kernel) rfl
theorem q1147 : (Jvm.Cond.static ({ cls := "MessengerBoardLaw", name := "picket", desc := "(LMessengerBoard;II[J)I" } : Jvm.MethodName)) ∈ am_tb := am_mem 825 (by decide +kernel) rfl
theorem q1148 : (Jvm.Cond.codeWith ({ cls := "MessengerBoardLaw", name := "picket", desc := "(LMessengerBoard;II[J)I" } : Jvm.MethodName) method_6_code (5 : Nat) (Option.some Jvm.ClassFile.FieldType.int) [((0 : Nat), (10 : Nat), (13 : Nat), (18 : Nat))]) ∈ am_tb := am_mem 826 (by decide +kernel) rfl
theorem q1149 : (Jvm.Cond.methodLink "MessengerBoardLaw" (129 : Nat) ({ cls := "MessengerBoardModel", name := "picket", desc := "(II)I" } : Jvm.MethodName)) ∈ am_tb := am_mem 1370 (by decide +kernel) rfl
theorem q1150 : (Jvm.Cond.instanceMethod ({ cls := "MessengerBoardModel", name := "picket", desc := "(II)I" } : Jvm.MethodName)) ∈ am_tb := am_mem 1371 (by decide +kernel) rfl
theorem q1151 : (Jvm.Cond.code ({ cls := "MessengerBoardModel", name := "picket", desc := "(II)I" } : Jvm.MethodName) prog_13_method_45_code (3 : Nat) (Option.some Jvm.ClassFile.FieldType.int)) ∈ am_tb := am_mem 1373 (by decide +kernel) rfl
theorem q1152 : (Jvm.Cond.selects "MessengerBoardModel" ({ cls := "MessengerBoardModel", name := "picket", desc := "(II)I" } : Jvm.MethodName) ({ cls := "MessengerBoardModel", name := "picket", desc := "(II)I" } : Jvm.MethodName)) ∈ am_tb := am_mem 1372 (by decide +kernel) rfl
theorem q1153 : (Jvm.Cond.methodLink "MessengerBoardLaw" (130 : Nat) ({ cls := "MessengerBoardLaw", name := "order", desc := "(LMessengerBoard;II[J)I" } : Jvm.MethodName)) ∈ am_tb := am_mem 835 (by decide +kernel) rfl
theorem q1154 : (Jvm.Cond.static ({ cls := "MessengerBoardLaw", name := "order", desc := "(LMessengerBoard;II[J)I" } : Jvm.MethodName)) ∈ am_tb := am_mem 836 (by decide +kernel) rfl
theorem q1155 : (Jvm.Cond.codeWith ({ cls := "MessengerBoardLaw", name := "order", desc := "(LMessengerBoard;II[J)I" } : Jvm.MethodName) method_7_code (5 : Nat) (Option.some Jvm.ClassFile.FieldType.int) [((0 : Nat), (10 : Nat), (13 : Nat), (18 : Nat))]) ∈ am_tb := am_mem 837 (by decide +kernel) rfl
theorem q1156 : (Jvm.Cond.methodLink "MessengerBoardLaw" (132 : Nat) ({ cls := "MessengerBoardModel", name := "order", desc := "(II)I" } : Jvm.MethodName)) ∈ am_tb := am_mem 1393 (by decide +kernel) rfl
theorem q1157 : (Jvm.Cond.instanceMethod ({ cls := "MessengerBoardModel", name := "order", desc := "(II)I" } : Jvm.MethodName)) ∈ am_tb := am_mem 1394 (by decide +kernel) rfl
theorem q1158 : (Jvm.Cond.code ({ cls := "MessengerBoardModel", name := "order", desc := "(II)I" } : Jvm.MethodName) prog_13_method_46_code (3 : Nat) (Option.some Jvm.ClassFile.FieldType.int)) ∈ am_tb := am_mem 1396 (by decide +kernel) rfl
theorem q1159 : (Jvm.Cond.selects "MessengerBoardModel" ({ cls := "MessengerBoardModel", name := "order", desc := "(II)I" } : Jvm.MethodName) ({ cls := "MessengerBoardModel", name := "order", desc := "(II)I" } : Jvm.MethodName)) ∈ am_tb := am_mem 1395 (by decide +kernel) rfl
theorem q1160 : (Jvm.Cond.methodLink "MessengerBoardLaw" (133 : Nat) ({ cls := "MessengerBoardLaw", name := "plan", desc := "(LMessengerBoard;II[J)I" } : Jvm.MethodName)) ∈ am_tb := am_mem 842 (by decide +kernel) rfl
theorem q1161 : (Jvm.Cond.static ({ cls := "MessengerBoardLaw", name := "plan", desc := "(LMessengerBoard;II[J)I" } : Jvm.MethodName)) ∈ am_tb := am_mem 843 (by decide +kernel) rfl
theorem q1162 : (Jvm.Cond.codeWith ({ cls := "MessengerBoardLaw", name := "plan", desc := "(LMessengerBoard;II[J)I" } : Jvm.MethodName) method_8_code (5 : Nat) (Option.some Jvm.ClassFile.FieldType.int) [((0 : Nat), (10 : Nat), (13 : Nat), (18 : Nat))]) ∈ am_tb := am_mem 844 (by decide +kernel) rfl
theorem q1163 : (Jvm.Cond.methodLink "MessengerBoardLaw" (135 : Nat) ({ cls := "MessengerBoardModel", name := "plan", desc := "(II)I" } : Jvm.MethodName)) ∈ am_tb := am_mem 1401 (by decide +kernel) rfl
theorem q1164 : (Jvm.Cond.instanceMethod ({ cls := "MessengerBoardModel", name := "plan", desc := "(II)I" } : Jvm.MethodName)) ∈ am_tb := am_mem 1402 (by decide +kernel) rfl
theorem q1165 : (Jvm.Cond.code ({ cls := "MessengerBoardModel", name := "plan", desc := "(II)I" } : Jvm.MethodName) prog_13_method_47_code (3 : Nat) (Option.some Jvm.ClassFile.FieldType.int)) ∈ am_tb := am_mem 1404 (by decide +kernel) rfl
theorem q1166 : (Jvm.Cond.selects "MessengerBoardModel" ({ cls := "MessengerBoardModel", name := "plan", desc := "(II)I" } : Jvm.MethodName) ({ cls := "MessengerBoardModel", name := "plan", desc := "(II)I" } : Jvm.MethodName)) ∈ am_tb := am_mem 1403 (by decide +kernel) rfl
theorem q1167 : (Jvm.Cond.methodLink "MessengerBoardLaw" (136 : Nat) ({ cls := "MessengerBoardLaw", name := "event", desc := "(LMessengerBoard;II[J)I" } : Jvm.MethodName)) ∈ am_tb := am_mem 849 (by decide +kernel) rfl
theorem q1168 : (Jvm.Cond.static ({ cls := "MessengerBoardLaw", name := "event", desc := "(LMessengerBoard;II[J)I" } : Jvm.MethodName)) ∈ am_tb := am_mem 850 (by decide +kernel) rfl
theorem q1169 : (Jvm.Cond.codeWith ({ cls := "MessengerBoardLaw", name := "event", desc := "(LMessengerBoard;II[J)I" } : Jvm.MethodName) method_9_code (5 : Nat) (Option.some Jvm.ClassFile.FieldType.int) [((0 : Nat), (10 : Nat), (13 : Nat), (18 : Nat))]) ∈ am_tb := am_mem 851 (by decide +kernel) rfl
theorem q1170 : (Jvm.Cond.methodLink "MessengerBoardLaw" (138 : Nat) ({ cls := "MessengerBoardModel", name := "event", desc := "(II)I" } : Jvm.MethodName)) ∈ am_tb := am_mem 1412 (by decide +kernel) rfl
theorem q1171 : (Jvm.Cond.instanceMethod ({ cls := "MessengerBoardModel", name := "event", desc := "(II)I" } : Jvm.MethodName)) ∈ am_tb := am_mem 1413 (by decide +kernel) rfl
theorem q1172 : (Jvm.Cond.code ({ cls := "MessengerBoardModel", name := "event", desc := "(II)I" } : Jvm.MethodName) prog_13_method_48_code (4 : Nat) (Option.some Jvm.ClassFile.FieldType.int)) ∈ am_tb := am_mem 1415 (by decide +kernel) rfl
theorem q1173 : (Jvm.Cond.selects "MessengerBoardModel" ({ cls := "MessengerBoardModel", name := "event", desc := "(II)I" } : Jvm.MethodName) ({ cls := "MessengerBoardModel", name := "event", desc := "(II)I" } : Jvm.MethodName)) ∈ am_tb := am_mem 1414 (by decide +kernel) rfl
theorem q1174 : (Jvm.Cond.methodLink "MessengerBoardLaw" (139 : Nat) ({ cls := "MessengerBoardLaw", name := "orders", desc := "(LMessengerBoard;I[J)I" } : Jvm.MethodName)) ∈ am_tb := am_mem 856 (by decide +kernel) rfl
theorem q1175 : (Jvm.Cond.static ({ cls := "MessengerBoardLaw", name := "orders", desc := "(LMessengerBoard;I[J)I" } : Jvm.MethodName)) ∈ am_tb := am_mem 857 (by decide +kernel) rfl
theorem q1176 : (Jvm.Cond.codeWith ({ cls := "MessengerBoardLaw", name := "orders", desc := "(LMessengerBoard;I[J)I" } : Jvm.MethodName) method_10_code (4 : Nat) (Option.some Jvm.ClassFile.FieldType.int) [((0 : Nat), (9 : Nat), (12 : Nat), (13 : Nat))]) ∈ am_tb := am_mem 858 (by decide +kernel) rfl
theorem q1177 : (Jvm.Cond.methodLink "MessengerBoardLaw" (141 : Nat) ({ cls := "MessengerBoardModel", name := "orders", desc := "(I)I" } : Jvm.MethodName)) ∈ am_tb := am_mem 1416 (by decide +kernel) rfl
theorem q1178 : (Jvm.Cond.instanceMethod ({ cls := "MessengerBoardModel", name := "orders", desc := "(I)I" } : Jvm.MethodName)) ∈ am_tb := am_mem 1417 (by decide +kernel) rfl
theorem q1179 : (Jvm.Cond.code ({ cls := "MessengerBoardModel", name := "orders", desc := "(I)I" } : Jvm.MethodName) prog_13_method_50_code (2 : Nat) (Option.some Jvm.ClassFile.FieldType.int)) ∈ am_tb := am_mem 1419 (by decide +kernel) rfl
theorem q1180 : (Jvm.Cond.selects "MessengerBoardModel" ({ cls := "MessengerBoardModel", name := "orders", desc := "(I)I" } : Jvm.MethodName) ({ cls := "MessengerBoardModel", name := "orders", desc := "(I)I" } : Jvm.MethodName)) ∈ am_tb := am_mem 1418 (by decide +kernel) rfl
theorem q1181 : (Jvm.Cond.methodLink "MessengerBoardLaw" (142 : Nat) ({ cls := "MessengerBoardLaw", name := "isWall", desc := "(LMessengerBoard;II[J)I" } : Jvm.MethodName)) ∈ am_tb := am_mem 864 (by decide +kernel) rfl
theorem q1182 : (Jvm.Cond.static ({ cls := "MessengerBoardLaw", name := "isWall", desc := "(LMessengerBoard;II[J)I" } : Jvm.MethodName)) ∈ am_tb := am_mem 865 (by decide +kernel) rfl
theorem q1183 : (Jvm.Cond.codeWith ({ cls := "MessengerBoardLaw", name := "isWall", desc := "(LMessengerBoard;II[J)I" } : Jvm.MethodName) method_11_code (5 : Nat) (Option.some Jvm.ClassFile.FieldType.int) [((0 : Nat), (17 : Nat), (20 : Nat), (18 : Nat))]) ∈ am_tb := am_mem 866 (by decide +kernel) rfl
theorem q1184 : (Jvm.Cond.methodLink "MessengerBoardLaw" (144 : Nat) ({ cls := "MessengerBoardModel", name := "isWall", desc := "(II)Z" } : Jvm.MethodName)) ∈ am_tb := am_mem 1424 (by decide +kernel) rfl
theorem q1185 : (Jvm.Cond.instanceMethod ({ cls := "MessengerBoardModel", name := "isWall", desc := "(II)Z" } : Jvm.MethodName)) ∈ am_tb := am_mem 1425 (by decide +kernel) rfl
theorem q1186 : (Jvm.Cond.code ({ cls := "MessengerBoardModel", name := "isWall", desc := "(II)Z" } : Jvm.MethodName) prog_13_method_51_code (3 : Nat) (Option.some Jvm.ClassFile.FieldType.boolean)) ∈ am_tb := am_mem 1427 (by decide +kernel) rfl
theorem q1187 : (Jvm.Cond.selects "MessengerBoardModel" ({ cls := "MessengerBoardModel", name := "isWall", desc := "(II)Z" } : Jvm.MethodName) ({ cls := "MessengerBoardModel", name := "isWall", desc := "(II)Z" } : Jvm.MethodName)) ∈ am_tb := am_mem 1426 (by decide +kernel) rfl
theorem q1188 : (Jvm.Cond.methodLink "MessengerBoardLaw" (145 : Nat) ({ cls := "MessengerBoardLaw", name := "isWatched", desc := "(LMessengerBoard;III[J)I" } : Jvm.MethodName)) ∈ am_tb := am_mem 881 (by decide +kernel) rfl
theorem q1189 : (Jvm.Cond.static ({ cls := "MessengerBoardLaw", name := "isWatched", desc := "(LMessengerBoard;III[J)I" } : Jvm.MethodName)) ∈ am_tb := am_mem 882 (by decide +kernel) rfl
theorem q1190 : (Jvm.Cond.codeWith ({ cls := "MessengerBoardLaw", name := "isWatched", desc := "(LMessengerBoard;III[J)I" } : Jvm.MethodName) method_12_code (6 : Nat) (Option.some Jvm.ClassFile.FieldType.int) [((0 : Nat), (19 : Nat), (22 : Nat), (18 : Nat)), ((0 : Nat), (19 : Nat), (26 : Nat), (13 : Nat))]) ∈ am_tb := am_mem 883 (by decide +kernel) rfl
theorem q1191 : (Jvm.Cond.methodLink "MessengerBoardLaw" (148 : Nat) ({ cls := "MessengerBoardModel", name := "isWatched", desc := "(III)Z" } : Jvm.MethodName)) ∈ am_tb := am_mem 1439 (by decide +kernel) rfl
theorem q1192 : (Jvm.Cond.instanceMethod ({ cls := "MessengerBoardModel", name := "isWatched", desc := "(III)Z" } : Jvm.MethodName)) ∈ am_tb := am_mem 1440 (by decide +kernel) rfl
theorem q1193 : (Jvm.Cond.code ({ cls := "MessengerBoardModel", name := "isWatched", desc := "(III)Z" } : Jvm.MethodName) prog_13_method_52_code (4 : Nat) (Option.some Jvm.ClassFile.FieldType.boolean)) ∈ am_tb := am_mem 1442 (by decide +kernel) rfl
theorem q1194 : (Jvm.Cond.selects "MessengerBoardModel" ({ cls := "MessengerBoardModel", name := "isWatched", desc := "(III)Z" } : Jvm.MethodName) ({ cls := "MessengerBoardModel", name := "isWatched", desc := "(III)Z" } : Jvm.MethodName)) ∈ am_tb := am_mem 1441 (by decide +kernel) rfl
theorem q1195 : (Jvm.Cond.methodLink "MessengerBoardLaw" (149 : Nat) ({ cls := "MessengerBoardLaw", name := "distance", desc := "(LMessengerBoard;IIII[J)I" } : Jvm.MethodName)) ∈ am_tb := am_mem 897 (by decide +kernel) rfl
theorem q1196 : (Jvm.Cond.static ({ cls := "MessengerBoardLaw", name := "distance", desc := "(LMessengerBoard;IIII[J)I" } : Jvm.MethodName)) ∈ am_tb := am_mem 898 (by decide +kernel) rfl
theorem q1197 : (Jvm.Cond.codeWith ({ cls := "MessengerBoardLaw", name := "distance", desc := "(LMessengerBoard;IIII[J)I" } : Jvm.MethodName) method_13_code (7 : Nat) (Option.some Jvm.ClassFile.FieldType.int) [((0 : Nat), (14 : Nat), (17 : Nat), (18 : Nat))]) ∈ am_tb := am_mem 899 (by decide +kernel) rfl
theorem q1198 : (Jvm.Cond.methodLink "MessengerBoardLaw" (152 : Nat) ({ cls := "MessengerBoardModel", name := "distance", desc := "(IIII)I" } : Jvm.MethodName)) ∈ am_tb := am_mem 1452 (by decide +kernel) rfl
theorem q1199 : (Jvm.Cond.instanceMethod ({ cls := "MessengerBoardModel", name := "distance", desc := "(IIII)I" } : Jvm.MethodName)) ∈ am_tb := am_mem 1453 (by decide +kernel) rfl
theorem q1200 : (Jvm.Cond.code ({ cls := "MessengerBoardModel", name := "distance", desc := "(IIII)I" } : Jvm.MethodName) prog_13_method_53_code (5 : Nat) (Option.some Jvm.ClassFile.FieldType.int)) ∈ am_tb := am_mem 1455 (by decide +kernel) rfl
theorem q1201 : (Jvm.Cond.selects "MessengerBoardModel" ({ cls := "MessengerBoardModel", name := "distance", desc := "(IIII)I" } : Jvm.MethodName) ({ cls := "MessengerBoardModel", name := "distance", desc := "(IIII)I" } : Jvm.MethodName)) ∈ am_tb := am_mem 1454 (by decide +kernel) rfl
theorem q1202 : (Jvm.Cond.methodLink "MessengerBoardLaw" (153 : Nat) ({ cls := "MessengerBoardLaw", name := "step", desc := "(LMessengerBoard;IIII[J)I" } : Jvm.MethodName)) ∈ am_tb := am_mem 946 (by decide +kernel) rfl
theorem q1203 : (Jvm.Cond.static ({ cls := "MessengerBoardLaw", name := "step", desc := "(LMessengerBoard;IIII[J)I" } : Jvm.MethodName)) ∈ am_tb := am_mem 947 (by decide +kernel) rfl
theorem q1204 : (Jvm.Cond.codeWith ({ cls := "MessengerBoardLaw", name := "step", desc := "(LMessengerBoard;IIII[J)I" } : Jvm.MethodName) method_14_code (7 : Nat) (Option.some Jvm.ClassFile.FieldType.int) [((0 : Nat), (14 : Nat), (17 : Nat), (18 : Nat))]) ∈ am_tb := am_mem 948 (by decide +kernel) rfl
theorem q1205 : (Jvm.Cond.methodLink "MessengerBoardLaw" (155 : Nat) ({ cls := "MessengerBoardModel", name := "step", desc := "(IIII)I" } : Jvm.MethodName)) ∈ am_tb := am_mem 1467 (by decide +kernel) rfl
theorem q1206 : (Jvm.Cond.instanceMethod ({ cls := "MessengerBoardModel", name := "step", desc := "(IIII)I" } : Jvm.MethodName)) ∈ am_tb := am_mem 1468 (by decide +kernel) rfl
theorem q1207 : (Jvm.Cond.code ({ cls := "MessengerBoardModel", name := "step", desc := "(IIII)I" } : Jvm.MethodName) prog_13_method_54_code (6 : Nat) (Option.some Jvm.ClassFile.FieldType.int)) ∈ am_tb := am_mem 1470 (by decide +kernel) rfl
theorem q1208 : (Jvm.Cond.selects "MessengerBoardModel" ({ cls := "MessengerBoardModel", name := "step", desc := "(IIII)I" } : Jvm.MethodName) ({ cls := "MessengerBoardModel", name := "step", desc := "(IIII)I" } : Jvm.MethodName)) ∈ am_tb := am_mem 1469 (by decide +kernel) rfl
theorem q1209 : (Jvm.Cond.methodLink "MessengerBoardLaw" (156 : Nat) ({ cls := "MessengerBoardLaw", name := "wasAt", desc := "(LMessengerBoard;II[J)I" } : Jvm.MethodName)) ∈ am_tb := am_mem 962 (by decide +kernel) rfl
theorem q1210 : (Jvm.Cond.static ({ cls := "MessengerBoardLaw", name := "wasAt", desc := "(LMessengerBoard;II[J)I" } : Jvm.MethodName)) ∈ am_tb := am_mem 963 (by decide +kernel) rfl
theorem q1211 : (Jvm.Cond.codeWith ({ cls := "MessengerBoardLaw", name := "wasAt", desc := "(LMessengerBoard;II[J)I" } : Jvm.MethodName) method_15_code (5 : Nat) (Option.some Jvm.ClassFile.FieldType.int) [((0 : Nat), (10 : Nat), (13 : Nat), (18 : Nat)), ((0 : Nat), (10 : Nat), (17 : Nat), (13 : Nat))]) ∈ am_tb := am_mem 964 (by decide +kernel) rfl
theorem q1212 : (Jvm.Cond.methodLink "MessengerBoardLaw" (158 : Nat) ({ cls := "MessengerBoardModel", name := "wasAt", desc := "(II)I" } : Jvm.MethodName)) ∈ am_tb := am_mem 1475 (by decide +kernel) rfl
theorem q1213 : (Jvm.Cond.instanceMethod ({ cls := "MessengerBoardModel", name := "wasAt", desc := "(II)I" } : Jvm.MethodName)) ∈ am_tb := am_mem 1476 (by decide +kernel) rfl
theorem q1214 : (Jvm.Cond.code ({ cls := "MessengerBoardModel", name := "wasAt", desc := "(II)I" } : Jvm.MethodName) prog_13_method_55_code (3 : Nat) (Option.some Jvm.ClassFile.FieldType.int)) ∈ am_tb := am_mem 1478 (by decide +kernel) rfl
theorem q1215 : (Jvm.Cond.selects "MessengerBoardModel" ({ cls := "MessengerBoardModel", name := "wasAt", desc := "(II)I" } : Jvm.MethodName) ({ cls := "MessengerBoardModel", name := "wasAt", desc := "(II)I" } : Jvm.MethodName)) ∈ am_tb := am_mem 1477 (by decide +kernel) rfl
theorem q1216 : (Jvm.Cond.methodLink "MessengerBoardLaw" (159 : Nat) ({ cls := "MessengerBoardLaw", name := "stateAt", desc := "(LMessengerBoard;II[J)I" } : Jvm.MethodName)) ∈ am_tb := am_mem 977 (by decide +kernel) rfl
theorem q1217 : (Jvm.Cond.static ({ cls := "MessengerBoardLaw", name := "stateAt", desc := "(LMessengerBoard;II[J)I" } : Jvm.MethodName)) ∈ am_tb := am_mem 978 (by decide +kernel) rfl
theorem q1218 : (Jvm.Cond.codeWith ({ cls := "MessengerBoardLaw", name := "stateAt", desc := "(LMessengerBoard;II[J)I" } : Jvm.MethodName) method_16_code (5 : Nat) (Option.some Jvm.ClassFile.FieldType.int) [((0 : Nat), (10 : Nat), (13 : Nat), (18 : Nat)), ((0 : Nat), (10 : Nat), (17 : Nat), (13 : Nat))]) ∈ am_tb := am_mem 979 (by decide +kernel) rfl
theorem q1219 : (Jvm.Cond.methodLink "MessengerBoardLaw" (161 : Nat) ({ cls := "MessengerBoardModel", name := "stateAt", desc := "(II)I" } : Jvm.MethodName)) ∈ am_tb := am_mem 1482 (by decide +kernel) rfl
theorem q1220 : (Jvm.Cond.instanceMethod ({ cls := "MessengerBoardModel", name := "stateAt", desc := "(II)I" } : Jvm.MethodName)) ∈ am_tb := am_mem 1483 (by decide +kernel) rfl
theorem q1221 : (Jvm.Cond.code ({ cls := "MessengerBoardModel", name := "stateAt", desc := "(II)I" } : Jvm.MethodName) prog_13_method_56_code (6 : Nat) (Option.some Jvm.ClassFile.FieldType.int)) ∈ am_tb := am_mem 1485 (by decide +kernel) rfl
theorem q1222 : (Jvm.Cond.selects "MessengerBoardModel" ({ cls := "MessengerBoardModel", name := "stateAt", desc := "(II)I" } : Jvm.MethodName) ({ cls := "MessengerBoardModel", name := "stateAt", desc := "(II)I" } : Jvm.MethodName)) ∈ am_tb := am_mem 1484 (by decide +kernel) rfl
theorem q1223 : (Jvm.Cond.methodLink "MessengerBoardLaw" (162 : Nat) ({ cls := "MessengerBoard", name := "crossed", desc := "()I" } : Jvm.MethodName)) ∈ am_tb := am_mem 414 (by decide +kernel) rfl
theorem q1224 : (Jvm.Cond.instanceMethod ({ cls := "MessengerBoard", name := "crossed", desc := "()I" } : Jvm.MethodName)) ∈ am_tb := am_mem 415 (by decide +kernel) rfl
theorem q1225 : (Jvm.Cond.code ({ cls := "MessengerBoard", name := "crossed", desc := "()I" } : Jvm.MethodName) prog_1_method_19_code (5 : Nat) (Option.some Jvm.ClassFile.FieldType.int)) ∈ am_tb := am_mem 417 (by decide +kernel) rfl
theorem q1226 : (Jvm.Cond.selects "MessengerBoard" ({ cls := "MessengerBoard", name := "crossed", desc := "()I" } : Jvm.MethodName) ({ cls := "MessengerBoard", name := "crossed", desc := "()I" } : Jvm.MethodName)) ∈ am_tb := am_mem 416 (by decide +kernel) rfl
theorem q1227 : (Jvm.Cond.methodLink "MessengerBoardLaw" (165 : Nat) ({ cls := "MessengerBoardModel", name := "crossed", desc := "()I" } : Jvm.MethodName)) ∈ am_tb := am_mem 1486 (by decide +kernel) rfl
theorem q1228 : (Jvm.Cond.instanceMethod ({ cls := "MessengerBoardModel", name := "crossed", desc := "()I" } : Jvm.MethodName)) ∈ am_tb := am_mem 1487 (by decide +kernel) rfl
theorem q1229 : (Jvm.Cond.code ({ cls := "MessengerBoardModel", name := "crossed", desc := "()I" } : Jvm.MethodName) prog_13_method_57_code (6 : Nat) (Option.some Jvm.ClassFile.FieldType.int)) ∈ am_tb := am_mem 1489 (by decide +kernel) rfl
theorem q1230 : (Jvm.Cond.selects "MessengerBoardModel" ({ cls := "MessengerBoardModel", name := "crossed", desc := "()I" } : Jvm.MethodName) ({ cls := "MessengerBoardModel", name := "crossed", desc := "()I" } : Jvm.MethodName)) ∈ am_tb := am_mem 1488 (by decide +kernel) rfl
theorem q1231 : (Jvm.Cond.methodLink "MessengerBoardLaw" (166 : Nat) ({ cls := "MessengerBoardLaw", name := "wouldBe", desc := "(LMessengerBoard;IIII[J)I" } : Jvm.MethodName)) ∈ am_tb := am_mem 984 (by decide +kernel) rfl
theorem q1232 : (Jvm.Cond.static ({ cls := "MessengerBoardLaw", name := "wouldBe", desc := "(LMessengerBoard;IIII[J)I" } : Jvm.MethodName)) ∈ am_tb := am_mem 985 (by decide +kernel) rfl
theorem q1233 : (Jvm.Cond.codeWith ({ cls := "MessengerBoardLaw", name := "wouldBe", desc := "(LMessengerBoard;IIII[J)I" } : Jvm.MethodName) method_17_code (7 : Nat) (Option.some Jvm.ClassFile.FieldType.int) [((0 : Nat), (14 : Nat), (17 : Nat), (18 : Nat)), ((0 : Nat), (14 : Nat), (21 : Nat), (13 : Nat))]) ∈ am_tb := am_mem 986 (by decide +kernel) rfl
theorem q1234 : (Jvm.Cond.methodLink "MessengerBoardLaw" (168 : Nat) ({ cls := "MessengerBoardModel", name := "wouldBe", desc := "(IIII)I" } : Jvm.MethodName)) ∈ am_tb := am_mem 1490 (by decide +kernel) rfl
theorem q1235 : (Jvm.Cond.instanceMethod ({ cls := "MessengerBoardModel", name := "wouldBe", desc := "(IIII)I" } : Jvm.MethodName)) ∈ am_tb := am_mem 1491 (by decide +kernel) rfl
theorem q1236 : (Jvm.Cond.code ({ cls := "MessengerBoardModel", name := "wouldBe", desc := "(IIII)I" } : Jvm.MethodName) prog_13_method_61_code (8 : Nat) (Option.some Jvm.ClassFile.FieldType.int)) ∈ am_tb := am_mem 1493 (by decide +kernel) rfl
theorem q1237 : (Jvm.Cond.selects "MessengerBoardModel" ({ cls := "MessengerBoardModel", name := "wouldBe", desc := "(IIII)I" } : Jvm.MethodName) ({ cls := "MessengerBoardModel", name := "wouldBe", desc := "(IIII)I" } : Jvm.MethodName)) ∈ am_tb := am_mem 1492 (by decide +kernel) rfl
theorem q1238 : (Jvm.Cond.methodLink "MessengerBoardLaw" (169 : Nat) ({ cls := "MessengerBoardLaw", name := "wouldArrive", desc := "(LMessengerBoard;III[J)I" } : Jvm.MethodName)) ∈ am_tb := am_mem 1038 (by decide +kernel) rfl
theorem q1239 : (Jvm.Cond.static ({ cls := "MessengerBoardLaw", name := "wouldArrive", desc := "(LMessengerBoard;III[J)I" } : Jvm.MethodName)) ∈ am_tb := am_mem 1039 (by decide +kernel) rfl
theorem q1240 : (Jvm.Cond.codeWith ({ cls := "MessengerBoardLaw", name := "wouldArrive", desc := "(LMessengerBoard;III[J)I" } : Jvm.MethodName) method_18_code (6 : Nat) (Option.some Jvm.ClassFile.FieldType.int) [((0 : Nat), (12 : Nat), (15 : Nat), (18 : Nat)), ((0 : Nat), (12 : Nat), (19 : Nat), (13 : Nat))]) ∈ am_tb := am_mem 1040 (by decide +kernel) rfl
theorem q1241 : (Jvm.Cond.methodLink "MessengerBoardLaw" (171 : Nat) ({ cls := "MessengerBoardModel", name := "wouldArrive", desc := "(III)I" } : Jvm.MethodName)) ∈ am_tb := am_mem 1557 (by decide +kernel) rfl
theorem q1242 : (Jvm.Cond.instanceMethod ({ cls := "MessengerBoardModel", name := "wouldArrive", desc := "(III)I" } : Jvm.MethodName)) ∈ am_tb := am_mem 1558 (by decide +kernel) rfl
theorem q1243 : (Jvm.Cond.code ({ cls := "MessengerBoardModel", name := "wouldArrive", desc := "(III)I" } : Jvm.MethodName) prog_13_method_63_code (5 : Nat) (Option.some Jvm.ClassFile.FieldType.int)) ∈ am_tb := am_mem 1560 (by decide +kernel) rfl
theorem q1244 : (Jvm.Cond.selects "MessengerBoardModel" ({ cls := "MessengerBoardModel", name := "wouldArrive", desc := "(III)I" } : Jvm.MethodName) ({ cls := "MessengerBoardModel", name := "wouldArrive", desc := "(III)I" } : Jvm.MethodName)) ∈ am_tb := am_mem 1559 (by decide +kernel) rfl
theorem q1245 : (Jvm.Cond.methodLink "MessengerBoardLaw" (172 : Nat) ({ cls := "MessengerBoardLaw", name := "bestDelay", desc := "(LMessengerBoard;III[J)I" } : Jvm.MethodName)) ∈ am_tb := am_mem 1049 (by decide +kernel) rfl
theorem q1246 : (Jvm.Cond.static ({ cls := "MessengerBoardLaw", name := "bestDelay", desc := "(LMessengerBoard;III[J)I" } : Jvm.MethodName)) ∈ am_tb := am_mem 1050 (by decide +kernel) rfl
theorem q1247 : (Jvm.Cond.codeWith ({ cls := "MessengerBoardLaw", name := "bestDelay", desc := "(LMessengerBoard;III[J)I" } : Jvm.MethodName) method_19_code (6 : Nat) (Option.some Jvm.ClassFile.FieldType.int) [((0 : Nat), (12 : Nat), (15 : Nat), (18 : Nat)), ((0 : Nat), (12 : Nat), (19 : Nat), (13 : Nat))]) ∈ am_tb := am_mem 1051 (by decide +kernel) rfl
theorem q1248 : (Jvm.Cond.methodLink "MessengerBoardLaw" (174 : Nat) ({ cls := "MessengerBoardModel", name := "bestDelay", desc := "(III)I" } : Jvm.MethodName)) ∈ am_tb := am_mem 1565 (by decide +kernel) rfl
theorem q1249 : (Jvm.Cond.instanceMethod ({ cls := "MessengerBoardModel", name := "bestDelay", desc := "(III)I" } : Jvm.MethodName)) ∈ am_tb := am_mem 1566 (by decide +kernel) rfl
theorem q1250 : (Jvm.Cond.code ({ cls := "MessengerBoardModel", name := "bestDelay", desc := "(III)I" } : Jvm.MethodName) prog_13_method_64_code (6 : Nat) (Option.some Jvm.ClassFile.FieldType.int)) ∈ am_tb := am_mem 1568 (by decide +kernel) rfl
theorem q1251 : (Jvm.Cond.selects "MessengerBoardModel" ({ cls := "MessengerBoardModel", name := "bestDelay", desc := "(III)I" } : Jvm.MethodName) ({ cls := "MessengerBoardModel", name := "bestDelay", desc := "(III)I" } : Jvm.MethodName)) ∈ am_tb := am_mem 1567 (by decide +kernel) rfl
theorem q1252 : (Jvm.Cond.methodLink "MessengerBoardLaw" (175 : Nat) ({ cls := "MessengerBoardLaw", name := "failing", desc := "(LMessengerBoard;I[J)I" } : Jvm.MethodName)) ∈ am_tb := am_mem 1056 (by decide +kernel) rfl
theorem q1253 : (Jvm.Cond.static ({ cls := "MessengerBoardLaw", name := "failing", desc := "(LMessengerBoard;I[J)I" } : Jvm.MethodName)) ∈ am_tb := am_mem 1057 (by decide +kernel) rfl
theorem q1254 : (Jvm.Cond.codeWith ({ cls := "MessengerBoardLaw", name := "failing", desc := "(LMessengerBoard;I[J)I" } : Jvm.MethodName) method_20_code (4 : Nat) (Option.some Jvm.ClassFile.FieldType.int) [((0 : Nat), (9 : Nat), (12 : Nat), (13 : Nat))]) ∈ am_tb := am_mem 1058 (by decide +kernel) rfl
theorem q1255 : (Jvm.Cond.methodLink "MessengerBoardLaw" (177 : Nat) ({ cls := "MessengerBoardModel", name := "failing", desc := "(I)I" } : Jvm.MethodName)) ∈ am_tb := am_mem 1569 (by decide +kernel) rfl
theorem q1256 : (Jvm.Cond.instanceMethod ({ cls := "MessengerBoardModel", name := "failing", desc := "(I)I" } : Jvm.MethodName)) ∈ am_tb := am_mem 1570 (by decide +kernel) rfl
theorem q1257 : (Jvm.Cond.code ({ cls := "MessengerBoardModel", name := "failing", desc := "(I)I" } : Jvm.MethodName) prog_13_method_65_code (5 : Nat) (Option.some Jvm.ClassFile.FieldType.int)) ∈ am_tb := am_mem 1572 (by decide +kernel) rfl
theorem q1258 : (Jvm.Cond.selects "MessengerBoardModel" ({ cls := "MessengerBoardModel", name := "failing", desc := "(I)I" } : Jvm.MethodName) ({ cls := "MessengerBoardModel", name := "failing", desc := "(I)I" } : Jvm.MethodName)) ∈ am_tb := am_mem 1571 (by decide +kernel) rfl
theorem q1259 : (Jvm.Cond.methodLink "MessengerBoardLaw" (178 : Nat) ({ cls := "MessengerBoard", name := "meanDelay", desc := "()D" } : Jvm.MethodName)) ∈ am_tb := am_mem 430 (by decide +kernel) rfl
theorem q1260 : (Jvm.Cond.instanceMethod ({ cls := "MessengerBoard", name := "meanDelay", desc := "()D" } : Jvm.MethodName)) ∈ am_tb := am_mem 431 (by decide +kernel) rfl
theorem q1261 : (Jvm.Cond.code ({ cls := "MessengerBoard", name := "meanDelay", desc := "()D" } : Jvm.MethodName) prog_1_method_25_code (6 : Nat) (Option.some Jvm.ClassFile.FieldType.double)) ∈ am_tb := am_mem 433 (by decide +kernel) rfl
theorem q1262 : (Jvm.Cond.selects "MessengerBoard" ({ cls := "MessengerBoard", name := "meanDelay", desc := "()D" } : Jvm.MethodName) ({ cls := "MessengerBoard", name := "meanDelay", desc := "()D" } : Jvm.MethodName)) ∈ am_tb := am_mem 432 (by decide +kernel) rfl
theorem q1263 : (Jvm.Cond.methodLink "MessengerBoardLaw" (182 : Nat) ({ cls := "MessengerBoardModel", name := "meanDelay", desc := "()D" } : Jvm.MethodName)) ∈ am_tb := am_mem 1573 (by decide +kernel) rfl
theorem q1264 : (Jvm.Cond.instanceMethod ({ cls := "MessengerBoardModel", name := "meanDelay", desc := "()D" } : Jvm.MethodName)) ∈ am_tb := am_mem 1574 (by decide +kernel) rfl
theorem q1265 : (Jvm.Cond.code ({ cls := "MessengerBoardModel", name := "meanDelay", desc := "()D" } : Jvm.MethodName) prog_13_method_66_code (5 : Nat) (Option.some Jvm.ClassFile.FieldType.double)) ∈ am_tb := am_mem 1576 (by decide +kernel) rfl
theorem q1266 : (Jvm.Cond.selects "MessengerBoardModel" ({ cls := "MessengerBoardModel", name := "meanDelay", desc := "()D" } : Jvm.MethodName) ({ cls := "MessengerBoardModel", name := "meanDelay", desc := "()D" } : Jvm.MethodName)) ∈ am_tb := am_mem 1575 (by decide +kernel) rfl
theorem q1267 : (Jvm.Cond.methodLink "MessengerBoardLaw" (183 : Nat) ({ cls := "MessengerBoard", name := "success", desc := "()F" } : Jvm.MethodName)) ∈ am_tb := am_mem 435 (by decide +kernel) rfl
theorem q1268 : (Jvm.Cond.instanceMethod ({ cls := "MessengerBoard", name := "success", desc := "()F" } : Jvm.MethodName)) ∈ am_tb := am_mem 436 (by decide +kernel) rfl
theorem q1269 : (Jvm.Cond.code ({ cls := "MessengerBoard", name := "success", desc := "()F" } : Jvm.MethodName) prog_1_method_26_code (2 : Nat) (Option.some Jvm.ClassFile.FieldType.float)) ∈ am_tb := am_mem 438 (by decide +kernel) rfl
theorem q1270 : (Jvm.Cond.selects "MessengerBoard" ({ cls := "MessengerBoard", name := "success", desc := "()F" } : Jvm.MethodName) ({ cls := "MessengerBoard", name := "success", desc := "()F" } : Jvm.MethodName)) ∈ am_tb := am_mem 437 (by decide +kernel) rfl
theorem q1271 : (Jvm.Cond.methodLink "MessengerBoardLaw" (187 : Nat) ({ cls := "MessengerBoardModel", name := "success", desc := "()F" } : Jvm.MethodName)) ∈ am_tb := am_mem 1577 (by decide +kernel) rfl
theorem q1272 : (Jvm.Cond.instanceMethod ({ cls := "MessengerBoardModel", name := "success", desc := "()F" } : Jvm.MethodName)) ∈ am_tb := am_mem 1578 (by decide +kernel) rfl
theorem q1273 : (Jvm.Cond.code ({ cls := "MessengerBoardModel", name := "success", desc := "()F" } : Jvm.MethodName) prog_13_method_67_code (1 : Nat) (Option.some Jvm.ClassFile.FieldType.float)) ∈ am_tb := am_mem 1580 (by decide +kernel) rfl
theorem q1274 : (Jvm.Cond.selects "MessengerBoardModel" ({ cls := "MessengerBoardModel", name := "success", desc := "()F" } : Jvm.MethodName) ({ cls := "MessengerBoardModel", name := "success", desc := "()F" } : Jvm.MethodName)) ∈ am_tb := am_mem 1579 (by decide +kernel) rfl
theorem q1275 : (Jvm.Cond.methodLink "MessengerBoardLaw" (188 : Nat) ({ cls := "MessengerBoardLaw", name := "pass", desc := "(LMessengerBoard;I[J)I" } : Jvm.MethodName)) ∈ am_tb := am_mem 1063 (by decide +kernel) rfl
theorem q1276 : (Jvm.Cond.static ({ cls := "MessengerBoardLaw", name := "pass", desc := "(LMessengerBoard;I[J)I" } : Jvm.MethodName)) ∈ am_tb := am_mem 1064 (by decide +kernel) rfl
theorem q1277 : (Jvm.Cond.codeWith ({ cls := "MessengerBoardLaw", name := "pass", desc := "(LMessengerBoard;I[J)I" } : Jvm.MethodName) method_21_code (4 : Nat) (Option.some Jvm.ClassFile.FieldType.int) [((0 : Nat), (9 : Nat), (12 : Nat), (13 : Nat))]) ∈ am_tb := am_mem 1065 (by decide +kernel) rfl
theorem q1278 : (Jvm.Cond.methodLink "MessengerBoardLaw" (190 : Nat) ({ cls := "MessengerBoardModel", name := "pass", desc := "(I)I" } : Jvm.MethodName)) ∈ am_tb := am_mem 1581 (by decide +kernel) rfl
theorem q1279 : (Jvm.Cond.instanceMethod ({ cls := "MessengerBoardModel", name := "pass", desc := "(I)I" } : Jvm.MethodName)) ∈ am_tb := am_mem 1582 (by decide +kernel) rfl
theorem q1280 : (Jvm.Cond.code ({ cls := "MessengerBoardModel", name := "pass", desc := "(I)I" } : Jvm.MethodName) prog_13_method_68_code (4 : Nat) (Option.some Jvm.ClassFile.FieldType.int)) ∈ am_tb := am_mem 1584 (by decide +kernel) rfl
theorem q1281 : (Jvm.Cond.selects "MessengerBoardModel" ({ cls := "MessengerBoardModel", name := "pass", desc := "(I)I" } : Jvm.MethodName) ({ cls := "MessengerBoardModel", name := "pass", desc := "(I)I" } : Jvm.MethodName)) ∈ am_tb := am_mem 1583 (by decide +kernel) rfl
theorem q1282 : (Jvm.Cond.methodLink "MessengerBoardLaw" (191 : Nat) ({ cls := "MessengerBoardLaw", name := "send", desc := "(LMessengerBoard;III[J)I" } : Jvm.MethodName)) ∈ am_tb := am_mem 1082 (by decide +kernel) rfl
theorem q1283 : (Jvm.Cond.static ({ cls := "MessengerBoardLaw", name := "send", desc := "(LMessengerBoard;III[J)I" } : Jvm.MethodName)) ∈ am_tb := am_mem 1083 (by decide +kernel) rfl
theorem q1284 : (Jvm.Cond.codeWith ({ cls := "MessengerBoardLaw", name := "send", desc := "(LMessengerBoard;III[J)I" } : Jvm.MethodName) method_22_code (6 : Nat) (Option.some Jvm.ClassFile.FieldType.int) [((0 : Nat), (12 : Nat), (15 : Nat), (18 : Nat)), ((0 : Nat), (12 : Nat), (19 : Nat), (13 : Nat))]) ∈ am_tb := am_mem 1084 (by decide +kernel) rfl
theorem q1285 : (Jvm.Cond.methodLink "MessengerBoardLaw" (193 : Nat) ({ cls := "MessengerBoardModel", name := "send", desc := "(III)I" } : Jvm.MethodName)) ∈ am_tb := am_mem 1589 (by decide +kernel) rfl
theorem q1286 : (Jvm.Cond.instanceMethod ({ cls := "MessengerBoardModel", name := "send", desc := "(III)I" } : Jvm.MethodName)) ∈ am_tb := am_mem 1590 (by decide +kernel) rfl
theorem q1287 : (Jvm.Cond.code ({ cls := "MessengerBoardModel", name := "send", desc := "(III)I" } : Jvm.MethodName) prog_13_method_69_code (4 : Nat) (Option.some Jvm.ClassFile.FieldType.int)) ∈ am_tb := am_mem 1592 (by decide +kernel) rfl
theorem q1288 : (Jvm.Cond.selects "MessengerBoardModel" ({ cls := "MessengerBoardModel", name := "send", desc := "(III)I" } : Jvm.MethodName) ({ cls := "MessengerBoardModel", name := "send", desc := "(III)I" } : Jvm.MethodName)) ∈ am_tb := am_mem 1591 (by decide +kernel) rfl
theorem q1289 : (Jvm.Cond.methodLink "MessengerBoardLaw" (194 : Nat) ({ cls := "MessengerBoardLaw", name := "wall", desc := "(LMessengerBoard;II[J)I" } : Jvm.MethodName)) ∈ am_tb := am_mem 1089 (by decide +kernel) rfl
theorem q1290 : (Jvm.Cond.static ({ cls := "MessengerBoardLaw", name := "wall", desc := "(LMessengerBoard;II[J)I" } : Jvm.MethodName)) ∈ am_tb := am_mem 1090 (by decide +kernel) rfl
theorem q1291 : (Jvm.Cond.codeWith ({ cls := "MessengerBoardLaw", name := "wall", desc := "(LMessengerBoard;II[J)I" } : Jvm.MethodName) method_23_code (5 : Nat) (Option.some Jvm.ClassFile.FieldType.int) [((0 : Nat), (10 : Nat), (13 : Nat), (18 : Nat))]) ∈ am_tb := am_mem 1091 (by decide +kernel) rfl
theorem q1292 : (Jvm.Cond.methodLink "MessengerBoardLaw" (196 : Nat) ({ cls := "MessengerBoardModel", name := "wall", desc := "(II)I" } : Jvm.MethodName)) ∈ am_tb := am_mem 1593 (by decide +kernel) rfl
theorem q1293 : (Jvm.Cond.instanceMethod ({ cls := "MessengerBoardModel", name := "wall", desc := "(II)I" } : Jvm.MethodName)) ∈ am_tb := am_mem 1594 (by decide +kernel) rfl
theorem q1294 : (Jvm.Cond.code ({ cls := "MessengerBoardModel", name := "wall", desc := "(II)I" } : Jvm.MethodName) prog_13_method_72_code (3 : Nat) (Option.some Jvm.ClassFile.FieldType.int)) ∈ am_tb := am_mem 1596 (by decide +kernel) rfl
theorem q1295 : (Jvm.Cond.selects "MessengerBoardModel" ({ cls := "MessengerBoardModel", name := "wall", desc := "(II)I" } : Jvm.MethodName) ({ cls := "MessengerBoardModel", name := "wall", desc := "(II)I" } : Jvm.MethodName)) ∈ am_tb := am_mem 1595 (by decide +kernel) rfl
theorem q1296 : (Jvm.Cond.methodLink "MessengerBoardLaw" (197 : Nat) ({ cls := "MessengerBoardLaw", name := "movePicket", desc := "(LMessengerBoard;III[J)I" } : Jvm.MethodName)) ∈ am_tb := am_mem 1107 (by decide +kernel) rfl
theorem q1297 : (Jvm.Cond.static ({ cls := "MessengerBoardLaw", name := "movePicket", desc := "(LMessengerBoard;III[J)I" } : Jvm.MethodName)) ∈ am_tb := am_mem 1108 (by decide +kernel) rfl
theorem q1298 : (Jvm.Cond.codeWith ({ cls := "MessengerBoardLaw", name := "movePicket", desc := "(LMessengerBoard;III[J)I" } : Jvm.MethodName) method_24_code (6 : Nat) (Option.some Jvm.ClassFile.FieldType.int) [((0 : Nat), (12 : Nat), (15 : Nat), (18 : Nat))]) ∈ am_tb := am_mem 1109 (by decide +kernel) rfl
theorem q1299 : (Jvm.Cond.methodLink "MessengerBoardLaw" (199 : Nat) ({ cls := "MessengerBoardModel", name := "movePicket", desc := "(III)I" } : Jvm.MethodName)) ∈ am_tb := am_mem 1605 (by decide +kernel) rfl
theorem q1300 : (Jvm.Cond.instanceMethod ({ cls := "MessengerBoardModel", name := "movePicket", desc := "(III)I" } : Jvm.MethodName)) ∈ am_tb := am_mem 1606 (by decide +kernel) rfl
theorem q1301 : (Jvm.Cond.code ({ cls := "MessengerBoardModel", name := "movePicket", desc := "(III)I" } : Jvm.MethodName) prog_13_method_73_code (4 : Nat) (Option.some Jvm.ClassFile.FieldType.int)) ∈ am_tb := am_mem 1608 (by decide +kernel) rfl
theorem q1302 : (Jvm.Cond.selects "MessengerBoardModel" ({ cls := "MessengerBoardModel", name := "movePicket", desc := "(III)I" } : Jvm.MethodName) ({ cls := "MessengerBoardModel", name := "movePicket", desc := "(III)I" } : Jvm.MethodName)) ∈ am_tb := am_mem 1607 (by decide +kernel) rfl
theorem q1303 : (Jvm.Cond.methodLink "MessengerBoardLaw" (200 : Nat) ({ cls := "MessengerBoardLaw", name := "movePlan", desc := "(LMessengerBoard;II[J)I" } : Jvm.MethodName)) ∈ am_tb := am_mem 1115 (by decide +kernel) rfl
theorem q1304 : (Jvm.Cond.static ({ cls := "MessengerBoardLaw", name := "movePlan", desc := "(LMessengerBoard;II[J)I" } : Jvm.MethodName)) ∈ am_tb := am_mem 1116 (by decide +kernel) rfl
theorem q1305 : (Jvm.Cond.codeWith ({ cls := "MessengerBoardLaw", name := "movePlan", desc := "(LMessengerBoard;II[J)I" } : Jvm.MethodName) method_25_code (5 : Nat) (Option.some Jvm.ClassFile.FieldType.int) [((0 : Nat), (10 : Nat), (13 : Nat), (18 : Nat)), ((0 : Nat), (10 : Nat), (17 : Nat), (13 : Nat))]) ∈ am_tb := am_mem 1117 (by decide +kernel) rfl
theorem q1306 : (Jvm.Cond.methodLink "MessengerBoardLaw" (202 : Nat) ({ cls := "MessengerBoardModel", name := "movePlan", desc := "(II)I" } : Jvm.MethodName)) ∈ am_tb := am_mem 1609 (by decide +kernel) rfl
theorem q1307 : (Jvm.Cond.instanceMethod ({ cls := "MessengerBoardModel", name := "movePlan", desc := "(II)I" } : Jvm.MethodName)) ∈ am_tb := am_mem 1610 (by decide +kernel) rfl
theorem q1308 : (Jvm.Cond.code ({ cls := "MessengerBoardModel", name := "movePlan", desc := "(II)I" } : Jvm.MethodName) prog_13_method_74_code (4 : Nat) (Option.some Jvm.ClassFile.FieldType.int)) ∈ am_tb := am_mem 1612 (by decide +kernel) rfl
theorem q1309 : (Jvm.Cond.selects "MessengerBoardModel" ({ cls := "MessengerBoardModel", name := "movePlan", desc := "(II)I" } : Jvm.MethodName) ({ cls := "MessengerBoardModel", name := "movePlan", desc := "(II)I" } : Jvm.MethodName)) ∈ am_tb := am_mem 1611 (by decide +kernel) rfl
theorem q1310 : (Jvm.Cond.methodLink "MessengerBoardLaw" (203 : Nat) ({ cls := "MessengerBoardLaw", name := "setPatience", desc := "(LMessengerBoard;I[J)I" } : Jvm.MethodName)) ∈ am_tb := am_mem 1123 (by decide +kernel) rfl
theorem q1311 : (Jvm.Cond.static ({ cls := "MessengerBoardLaw", name := "setPatience", desc := "(LMessengerBoard;I[J)I" } : Jvm.MethodName)) ∈ am_tb := am_mem 1124 (by decide +kernel) rfl
theorem q1312 : (Jvm.Cond.codeWith ({ cls := "MessengerBoardLaw", name := "setPatience", desc := "(LMessengerBoard;I[J)I" } : Jvm.MethodName) method_26_code (4 : Nat) (Option.some Jvm.ClassFile.FieldType.int) [((0 : Nat), (9 : Nat), (12 : Nat), (13 : Nat))]) ∈ am_tb := am_mem 1125 (by decide +kernel) rfl
theorem q1313 : (Jvm.Cond.methodLink "MessengerBoardLaw" (205 : Nat) ({ cls := "MessengerBoardModel", name := "setPatience", desc := "(I)I" } : Jvm.MethodName)) ∈ am_tb := am_mem 1613 (by decide +kernel) rfl
theorem q1314 : (Jvm.Cond.instanceMethod ({ cls := "MessengerBoardModel", name := "setPatience", desc := "(I)I" } : Jvm.MethodName)) ∈ am_tb := am_mem 1614 (by decide +kernel) rfl
theorem q1315 : (Jvm.Cond.code ({ cls := "MessengerBoardModel", name := "setPatience", desc := "(I)I" } : Jvm.MethodName) prog_13_method_75_code (3 : Nat) (Option.some Jvm.ClassFile.FieldType.int)) ∈ am_tb := am_mem 1616 (by decide +kernel) rfl
theorem q1316 : (Jvm.Cond.selects "MessengerBoardModel" ({ cls := "MessengerBoardModel", name := "setPatience", desc := "(I)I" } : Jvm.MethodName) ({ cls := "MessengerBoardModel", name := "setPatience", desc := "(I)I" } : Jvm.MethodName)) ∈ am_tb := am_mem 1615 (by decide +kernel) rfl
theorem q1317 : (Jvm.Cond.methodLink "MessengerBoardLaw" (206 : Nat) ({ cls := "MessengerBoardLaw", name := "format", desc := "(LMessengerBoard;I[J)I" } : Jvm.MethodName)) ∈ am_tb := am_mem 1131 (by decide +kernel) rfl
theorem q1318 : (Jvm.Cond.static ({ cls := "MessengerBoardLaw", name := "format", desc := "(LMessengerBoard;I[J)I" } : Jvm.MethodName)) ∈ am_tb := am_mem 1132 (by decide +kernel) rfl
theorem q1319 : (Jvm.Cond.codeWith ({ cls := "MessengerBoardLaw", name := "format", desc := "(LMessengerBoard;I[J)I" } : Jvm.MethodName) method_27_code (4 : Nat) (Option.some Jvm.ClassFile.FieldType.int) [((0 : Nat), (9 : Nat), (12 : Nat), (18 : Nat))]) ∈ am_tb := am_mem 1133 (by decide +kernel) rfl
theorem q1320 : (Jvm.Cond.methodLink "MessengerBoardLaw" (208 : Nat) ({ cls := "MessengerBoardModel", name := "format", desc := "(I)I" } : Jvm.MethodName)) ∈ am_tb := am_mem 1617 (by decide +kernel) rfl
theorem q1321 : (Jvm.Cond.instanceMethod ({ cls := "MessengerBoardModel", name := "format", desc := "(I)I" } : Jvm.MethodName)) ∈ am_tb := am_mem 1618 (by decide +kernel) rfl
theorem q1322 : (Jvm.Cond.code ({ cls := "MessengerBoardModel", name := "format", desc := "(I)I" } : Jvm.MethodName) prog_13_method_79_code (3 : Nat) (Option.some Jvm.ClassFile.FieldType.int)) ∈ am_tb := am_mem 1620 (by decide +kernel) rfl
theorem q1323 : (Jvm.Cond.selects "MessengerBoardModel" ({ cls := "MessengerBoardModel", name := "format", desc := "(I)I" } : Jvm.MethodName) ({ cls := "MessengerBoardModel", name := "format", desc := "(I)I" } : Jvm.MethodName)) ∈ am_tb := am_mem 1619 (by decide +kernel) rfl
theorem q1324 : (Jvm.Cond.methodLink "MessengerBoardLaw" (209 : Nat) ({ cls := "MessengerBoard", name := "formattedByte", desc := "(I)I" } : Jvm.MethodName)) ∈ am_tb := am_mem 444 (by decide +kernel) rfl
theorem q1325 : (Jvm.Cond.instanceMethod ({ cls := "MessengerBoard", name := "formattedByte", desc := "(I)I" } : Jvm.MethodName)) ∈ am_tb := am_mem 445 (by decide +kernel) rfl
theorem q1326 : (Jvm.Cond.code ({ cls := "MessengerBoard", name := "formattedByte", desc := "(I)I" } : Jvm.MethodName) prog_1_method_35_code (2 : Nat) (Option.some Jvm.ClassFile.FieldType.int)) ∈ am_tb := am_mem 447 (by decide +kernel) rfl
theorem q1327 : (Jvm.Cond.selects "MessengerBoard" ({ cls := "MessengerBoard", name := "formattedByte", desc := "(I)I" } : Jvm.MethodName) ({ cls := "MessengerBoard", name := "formattedByte", desc := "(I)I" } : Jvm.MethodName)) ∈ am_tb := am_mem 446 (by decide +kernel) rfl
theorem q1328 : (Jvm.Cond.methodLink "MessengerBoardLaw" (212 : Nat) ({ cls := "MessengerBoardModel", name := "formattedByte", desc := "(I)I" } : Jvm.MethodName)) ∈ am_tb := am_mem 1633 (by decide +kernel) rfl
theorem q1329 : (Jvm.Cond.instanceMethod ({ cls := "MessengerBoardModel", name := "formattedByte", desc := "(I)I" } : Jvm.MethodName)) ∈ am_tb := am_mem 1634 (by decide +kernel) rfl
theorem q1330 : (Jvm.Cond.code ({ cls := "MessengerBoardModel", name := "formattedByte", desc := "(I)I" } : Jvm.MethodName) prog_13_method_80_code (2 : Nat) (Option.some Jvm.ClassFile.FieldType.int)) ∈ am_tb := am_mem 1636 (by decide +kernel) rfl
theorem q1331 : (Jvm.Cond.selects "MessengerBoardModel" ({ cls := "MessengerBoardModel", name := "formattedByte", desc := "(I)I" } : Jvm.MethodName) ({ cls := "MessengerBoardModel", name := "formattedByte", desc := "(I)I" } : Jvm.MethodName)) ∈ am_tb := am_mem 1635 (by decide +kernel) rfl
theorem q1332 : (Jvm.Cond.methodLink "MessengerBoardLaw" (213 : Nat) ({ cls := "MessengerBoard", name := "undoCount", desc := "()I" } : Jvm.MethodName)) ∈ am_tb := am_mem 448 (by decide +kernel) rfl
theorem q1333 : (Jvm.Cond.instanceMethod ({ cls := "MessengerBoard", name := "undoCount", desc := "()I" } : Jvm.MethodName)) ∈ am_tb := am_mem 449 (by decide +kernel) rfl
theorem q1334 : (Jvm.Cond.code ({ cls := "MessengerBoard", name := "undoCount", desc := "()I" } : Jvm.MethodName) prog_1_method_36_code (1 : Nat) (Option.some Jvm.ClassFile.FieldType.int)) ∈ am_tb := am_mem 451 (by decide +kernel) rfl
theorem q1335 : (Jvm.Cond.selects "MessengerBoard" ({ cls := "MessengerBoard", name := "undoCount", desc := "()I" } : Jvm.MethodName) ({ cls := "MessengerBoard", name := "undoCount", desc := "()I" } : Jvm.MethodName)) ∈ am_tb := am_mem 450 (by decide +kernel) rfl
theorem q1336 : (Jvm.Cond.methodLink "MessengerBoardLaw" (216 : Nat) ({ cls := "MessengerBoardModel", name := "undoCount", desc := "()I" } : Jvm.MethodName)) ∈ am_tb := am_mem 1637 (by decide +kernel) rfl
theorem q1337 : (Jvm.Cond.instanceMethod ({ cls := "MessengerBoardModel", name := "undoCount", desc := "()I" } : Jvm.MethodName)) ∈ am_tb := am_mem 1638 (by decide +kernel) rfl
theorem q1338 : (Jvm.Cond.code ({ cls := "MessengerBoardModel", name := "undoCount", desc := "()I" } : Jvm.MethodName) prog_13_method_83_code (1 : Nat) (Option.some Jvm.ClassFile.FieldType.int)) ∈ am_tb := am_mem 1640 (by decide +kernel) rfl
theorem q1339 : (Jvm.Cond.selects "MessengerBoardModel" ({ cls := "MessengerBoardModel", name := "undoCount", desc := "()I" } : Jvm.MethodName) ({ cls := "MessengerBoardModel", name := "undoCount", desc := "()I" } : Jvm.MethodName)) ∈ am_tb := am_mem 1639 (by decide +kernel) rfl
theorem q1340 : (Jvm.Cond.methodLink "MessengerBoardLaw" (217 : Nat) ({ cls := "MessengerBoard", name := "undo", desc := "()I" } : Jvm.MethodName)) ∈ am_tb := am_mem 456 (by decide +kernel) rfl
theorem q1341 : (Jvm.Cond.instanceMethod ({ cls := "MessengerBoard", name := "undo", desc := "()I" } : Jvm.MethodName)) ∈ am_tb := am_mem 457 (by decide +kernel) rfl
theorem q1342 : (Jvm.Cond.code ({ cls := "MessengerBoard", name := "undo", desc := "()I" } : Jvm.MethodName) prog_1_method_37_code (1 : Nat) (Option.some Jvm.ClassFile.FieldType.int)) ∈ am_tb := am_mem 459 (by decide +kernel) rfl
theorem q1343 : (Jvm.Cond.selects "MessengerBoard" ({ cls := "MessengerBoard", name := "undo", desc := "()I" } : Jvm.MethodName) ({ cls := "MessengerBoard", name := "undo", desc := "()I" } : Jvm.MethodName)) ∈ am_tb := am_mem 458 (by decide +kernel) rfl
theorem q1344 : (Jvm.Cond.methodLink "MessengerBoardLaw" (220 : Nat) ({ cls := "MessengerBoardModel", name := "undo", desc := "()I" } : Jvm.MethodName)) ∈ am_tb := am_mem 1641 (by decide +kernel) rfl
theorem q1345 : (Jvm.Cond.instanceMethod ({ cls := "MessengerBoardModel", name := "undo", desc := "()I" } : Jvm.MethodName)) ∈ am_tb := am_mem 1642 (by decide +kernel) rfl
theorem q1346 : (Jvm.Cond.code ({ cls := "MessengerBoardModel", name := "undo", desc := "()I" } : Jvm.MethodName) prog_13_method_84_code (1 : Nat) (Option.some Jvm.ClassFile.FieldType.int)) ∈ am_tb := am_mem 1644 (by decide +kernel) rfl
theorem q1347 : (Jvm.Cond.selects "MessengerBoardModel" ({ cls := "MessengerBoardModel", name := "undo", desc := "()I" } : Jvm.MethodName) ({ cls := "MessengerBoardModel", name := "undo", desc := "()I" } : Jvm.MethodName)) ∈ am_tb := am_mem 1643 (by decide +kernel) rfl
theorem q1348 : (Jvm.Cond.methodLink "MessengerBoardLaw" (221 : Nat) ({ cls := "MessengerBoard", name := "saveSnapshot", desc := "()V" } : Jvm.MethodName)) ∈ am_tb := am_mem 480 (by decide +kernel) rfl
theorem q1349 : (Jvm.Cond.instanceMethod ({ cls := "MessengerBoard", name := "saveSnapshot", desc := "()V" } : Jvm.MethodName)) ∈ am_tb := am_mem 481 (by decide +kernel) rfl
theorem q1350 : (Jvm.Cond.code ({ cls := "MessengerBoard", name := "saveSnapshot", desc := "()V" } : Jvm.MethodName) prog_1_method_38_code (1 : Nat) (Option.none : Option Jvm.ClassFile.FieldType)) ∈ am_tb := am_mem 483 (by decide +kernel) rfl
theorem q1351 : (Jvm.Cond.selects "MessengerBoard" ({ cls := "MessengerBoard", name := "saveSnapshot", desc := "()V" } : Jvm.MethodName) ({ cls := "MessengerBoard", name := "saveSnapshot", desc := "()V" } : Jvm.MethodName)) ∈ am_tb := am_mem 482 (by decide +kernel) rfl
theorem q1352 : (Jvm.Cond.methodLink "MessengerBoardLaw" (224 : Nat) ({ cls := "MessengerBoardModel", name := "saveSnapshot", desc := "()V" } : Jvm.MethodName)) ∈ am_tb := am_mem 1645 (by decide +kernel) rfl
theorem q1353 : (Jvm.Cond.instanceMethod ({ cls := "MessengerBoardModel", name := "saveSnapshot", desc := "()V" } : Jvm.MethodName)) ∈ am_tb := am_mem 1646 (by decide +kernel) rfl
theorem q1354 : (Jvm.Cond.code ({ cls := "MessengerBoardModel", name := "saveSnapshot", desc := "()V" } : Jvm.MethodName) prog_13_method_85_code (1 : Nat) (Option.none : Option Jvm.ClassFile.FieldType)) ∈ am_tb := am_mem 1648 (by decide +kernel) rfl
theorem q1355 : (Jvm.Cond.selects "MessengerBoardModel" ({ cls := "MessengerBoardModel", name := "saveSnapshot", desc := "()V" } : Jvm.MethodName) ({ cls := "MessengerBoardModel", name := "saveSnapshot", desc := "()V" } : Jvm.MethodName)) ∈ am_tb := am_mem 1647 (by decide +kernel) rfl
theorem q1356 : (Jvm.Cond.methodLink "MessengerBoardLaw" (225 : Nat) ({ cls := "MessengerBoard", name := "restoreSnapshot", desc := "()Z" } : Jvm.MethodName)) ∈ am_tb := am_mem 490 (by decide +kernel) rfl
theorem q1357 : (Jvm.Cond.instanceMethod ({ cls := "MessengerBoard", name := "restoreSnapshot", desc := "()Z" } : Jvm.MethodName)) ∈ am_tb := am_mem 491 (by decide +kernel) rfl
theorem q1358 : (Jvm.Cond.code ({ cls := "MessengerBoard", name := "restoreSnapshot", desc := "()Z" } : Jvm.MethodName) prog_1_method_39_code (1 : Nat) (Option.some Jvm.ClassFile.FieldType.boolean)) ∈ am_tb := am_mem 493 (by decide +kernel) rfl
theorem q1359 : (Jvm.Cond.selects "MessengerBoard" ({ cls := "MessengerBoard", name := "restoreSnapshot", desc := "()Z" } : Jvm.MethodName) ({ cls := "MessengerBoard", name := "restoreSnapshot", desc := "()Z" } : Jvm.MethodName)) ∈ am_tb := am_mem 492 (by decide +kernel) rfl
theorem q1360 : (Jvm.Cond.methodLink "MessengerBoardLaw" (229 : Nat) ({ cls := "MessengerBoardModel", name := "restoreSnapshot", desc := "()Z" } : Jvm.MethodName)) ∈ am_tb := am_mem 1649 (by decide +kernel) rfl
theorem q1361 : (Jvm.Cond.instanceMethod ({ cls := "MessengerBoardModel", name := "restoreSnapshot", desc := "()Z" } : Jvm.MethodName)) ∈ am_tb := am_mem 1650 (by decide +kernel) rfl
theorem q1362 : (Jvm.Cond.code ({ cls := "MessengerBoardModel", name := "restoreSnapshot", desc := "()Z" } : Jvm.MethodName) prog_13_method_86_code (1 : Nat) (Option.some Jvm.ClassFile.FieldType.boolean)) ∈ am_tb := am_mem 1652 (by decide +kernel) rfl
theorem q1363 : (Jvm.Cond.selects "MessengerBoardModel" ({ cls := "MessengerBoardModel", name := "restoreSnapshot", desc := "()Z" } : Jvm.MethodName) ({ cls := "MessengerBoardModel", name := "restoreSnapshot", desc := "()Z" } : Jvm.MethodName)) ∈ am_tb := am_mem 1651 (by decide +kernel) rfl
theorem q1364 : (Jvm.Cond.methodLink "MessengerBoardLaw" (230 : Nat) ({ cls := "MessengerBoardLaw", name := "query", desc := "(LMessengerBoard;I[J)I" } : Jvm.MethodName)) ∈ am_tb := am_mem 1144 (by decide +kernel) rfl
theorem q1365 : (Jvm.Cond.static ({ cls := "MessengerBoardLaw", name := "query", desc := "(LMessengerBoard;I[J)I" } : Jvm.MethodName)) ∈ am_tb := am_mem 1145 (by decide +kernel) rfl
theorem q1366 : (Jvm.Cond.codeWith ({ cls := "MessengerBoardLaw", name := "query", desc := "(LMessengerBoard;I[J)I" } : Jvm.MethodName) method_28_code (4 : Nat) (Option.some Jvm.ClassFile.FieldType.int) [((0 : Nat), (9 : Nat), (12 : Nat), (13 : Nat))]) ∈ am_tb := am_mem 1146 (by decide +kernel) rfl
theorem q1367 : (Jvm.Cond.methodLink "MessengerBoardLaw" (232 : Nat) ({ cls := "MessengerBoardModel", name := "query", desc := "(I)I" } : Jvm.MethodName)) ∈ am_tb := am_mem 1779 (by decide +kernel) rfl
theorem q1368 : (Jvm.Cond.instanceMethod ({ cls := "MessengerBoardModel", name := "query", desc := "(I)I" } : Jvm.MethodName)) ∈ am_tb := am_mem 1780 (by decide +kernel) rfl
theorem q1369 : (Jvm.Cond.code ({ cls := "MessengerBoardModel", name := "query", desc := "(I)I" } : Jvm.MethodName) prog_13_method_124_code (5 : Nat) (Option.some Jvm.ClassFile.FieldType.int)) ∈ am_tb := am_mem 1782 (by decide +kernel) rfl
theorem q1370 : (Jvm.Cond.selects "MessengerBoardModel" ({ cls := "MessengerBoardModel", name := "query", desc := "(I)I" } : Jvm.MethodName) ({ cls := "MessengerBoardModel", name := "query", desc := "(I)I" } : Jvm.MethodName)) ∈ am_tb := am_mem 1781 (by decide +kernel) rfl
theorem q1371 : (Jvm.Cond.laysFinal "MessengerBoard$BoardReader" "MessengerBoard$BoardReader" "tokens" "LMessengerBoard$Tokens;") ∈ am_tb := am_mem 332 (by decide +kernel) rfl
theorem q1372 : (Jvm.Cond.laysFinal "MessengerBoard$BoardReader" "MessengerBoard$BoardReader" "draft" "LMessengerBoard$Situation;") ∈ am_tb := am_mem 334 (by decide +kernel) rfl
theorem q1373 : (Jvm.Cond.laysFinal "MessengerBoard$Clock" "MessengerBoard$Clock" "paths" "LMessengerBoard$Paths;") ∈ am_tb := am_mem 290 (by decide +kernel) rfl
theorem q1374 : (Jvm.Cond.laysFinal "MessengerBoard$Distances" "MessengerBoard$Distances" "steps" "[I") ∈ am_tb := am_mem 921 (by decide +kernel) rfl
theorem q1375 : (Jvm.Cond.lays "MessengerBoard$Distances" "MessengerBoard$Distances" "known" "Z") ∈ am_tb := am_mem 923 (by decide +kernel) rfl
theorem q1376 : (Jvm.Cond.laysFinal "MessengerBoard$History" "MessengerBoard$History" "ring" "[LMessengerBoard$Situation;") ∈ am_tb := am_mem 258 (by decide +kernel) rfl
theorem q1377 : (Jvm.Cond.lays "MessengerBoard$History" "MessengerBoard$History" "oldest" "I") ∈ am_tb := am_mem 260 (by decide +kernel) rfl
theorem q1378 : (Jvm.Cond.lays "MessengerBoard$History" "MessengerBoard$History" "count" "I") ∈ am_tb := am_mem 262 (by decide +kernel) rfl
theorem q1379 : (Jvm.Cond.laysFinal "MessengerBoard$Paths" "MessengerBoard$Paths" "situation" "LMessengerBoard$Situation;") ∈ am_tb := am_mem 276 (by decide +kernel) rfl
theorem q1380 : (Jvm.Cond.laysFinal "MessengerBoard$Paths" "MessengerBoard$Paths" "byTarget" "[LMessengerBoard$Distances;") ∈ am_tb := am_mem 278 (by decide +kernel) rfl
theorem q1381 : (Jvm.Cond.laysFinal "MessengerBoard$Paths" "MessengerBoard$Paths" "queue" "[I") ∈ am_tb := am_mem 280 (by decide +kernel) rfl
theorem q1382 : (Jvm.Cond.laysFinal "MessengerBoard$QueryReader" "MessengerBoard$QueryReader" "tokens" "LMessengerBoard$Tokens;") ∈ am_tb := am_mem 345 (by decide +kernel) rfl
theorem q1383 : (Jvm.Cond.laysFinal "MessengerBoard$QueryReader" "MessengerBoard$QueryReader" "situation" "LMessengerBoard$Situation;") ∈ am_tb := am_mem 347 (by decide +kernel) rfl
theorem q1384 : (Jvm.Cond.lays "MessengerBoard$Situation" "MessengerBoard$Situation" "width" "I") ∈ am_tb := am_mem 210 (by decide +kernel) rfl
theorem q1385 : (Jvm.Cond.lays "MessengerBoard$Situation" "MessengerBoard$Situation" "height" "I") ∈ am_tb := am_mem 212 (by decide +kernel) rfl
theorem q1386 : (Jvm.Cond.lays "MessengerBoard$Situation" "MessengerBoard$Situation" "headquartersX" "I") ∈ am_tb := am_mem 214 (by decide +kernel) rfl
theorem q1387 : (Jvm.Cond.lays "MessengerBoard$Situation" "MessengerBoard$Situation" "headquartersY" "I") ∈ am_tb := am_mem 216 (by decide +kernel) rfl
theorem q1388 : (Jvm.Cond.lays "MessengerBoard$Situation" "MessengerBoard$Situation" "turn" "I") ∈ am_tb := am_mem 218 (by decide +kernel) rfl
theorem q1389 : (Jvm.Cond.lays "MessengerBoard$Situation" "MessengerBoard$Situation" "patience" "I") ∈ am_tb := am_mem 220 (by decide +kernel) rfl
theorem q1390 : (Jvm.Cond.lays "MessengerBoard$Situation" "MessengerBoard$Situation" "wallCount" "I") ∈ am_tb := am_mem 222 (by decide +kernel) rfl
theorem q1391 : (Jvm.Cond.laysFinal "MessengerBoard$Situation" "MessengerBoard$Situation" "walls" "[I") ∈ am_tb := am_mem 224 (by decide +kernel) rfl
theorem q1392 : (Jvm.Cond.laysFinal "MessengerBoard$Situation" "MessengerBoard$Situation" "units" "LMessengerBoard$Table;") ∈ am_tb := am_mem 226 (by decide +kernel) rfl
theorem q1393 : (Jvm.Cond.laysFinal "MessengerBoard$Situation" "MessengerBoard$Situation" "pickets" "LMessengerBoard$Table;") ∈ am_tb := am_mem 228 (by decide +kernel) rfl
theorem q1394 : (Jvm.Cond.laysFinal "MessengerBoard$Situation" "MessengerBoard$Situation" "plans" "LMessengerBoard$Table;") ∈ am_tb := am_mem 230 (by decide +kernel) rfl
theorem q1395 : (Jvm.Cond.laysFinal "MessengerBoard$Situation" "MessengerBoard$Situation" "orders" "LMessengerBoard$Table;") ∈ am_tb := am_mem 232 (by decide +kernel) rfl
theorem q1396 : (Jvm.Cond.laysFinal "MessengerBoard$Situation" "MessengerBoard$Situation" "events" "LMessengerBoard$Table;") ∈ am_tb := am_mem 234 (by decide +kernel) rfl
theorem q1397 : (Jvm.Cond.laysFinal "MessengerBoard$Table" "MessengerBoard$Table" "capacity" "I") ∈ am_tb := am_mem 158 (by decide +kernel) rfl
theorem q1398 : (Jvm.Cond.laysFinal "MessengerBoard$Table" "MessengerBoard$Table" "columns" "I") ∈ am_tb := am_mem 160 (by decide +kernel) rfl
theorem q1399 : (Jvm.Cond.laysFinal "MessengerBoard$Table" "MessengerBoard$Table" "places" "[I") ∈ am_tb := am_mem 162 (by decide +kernel) rfl
theorem q1400 : (Jvm.Cond.lays "MessengerBoard$Table" "MessengerBoard$Table" "count" "I") ∈ am_tb := am_mem 164 (by decide +kernel) rfl
theorem q1401 : (Jvm.Cond.laysFinal "MessengerBoard$Tokens" "MessengerBoard$Tokens" "bytes" "[I") ∈ am_tb := am_mem 307 (by decide +kernel) rfl
theorem q1402 : (Jvm.Cond.lays "MessengerBoard$Tokens" "MessengerBoard$Tokens" "length" "I") ∈ am_tb := am_mem 309 (by decide +kernel) rfl
theorem q1403 : (Jvm.Cond.lays "MessengerBoard$Tokens" "MessengerBoard$Tokens" "start" "I") ∈ am_tb := am_mem 311 (by decide +kernel) rfl
theorem q1404 : (Jvm.Cond.lays "MessengerBoard$Tokens" "MessengerBoard$Tokens" "end" "I") ∈ am_tb := am_mem 313 (by decide +kernel) rfl
theorem q1405 : (Jvm.Cond.lays "MessengerBoard$Tokens" "MessengerBoard$Tokens" "kind" "I") ∈ am_tb := am_mem 315 (by decide +kernel) rfl
theorem q1406 : (Jvm.Cond.lays "MessengerBoard$Tokens" "MessengerBoard$Tokens" "number" "I") ∈ am_tb := am_mem 317 (by decide +kernel) rfl
theorem q1407 : (Jvm.Cond.lays "MessengerBoard$Tokens" "MessengerBoard$Tokens" "code" "I") ∈ am_tb := am_mem 319 (by decide +kernel) rfl
theorem q1408 : (Jvm.Cond.lays "MessengerBoard$Tokens" "MessengerBoard$Tokens" "errorStart" "I") ∈ am_tb := am_mem 321 (by decide +kernel) rfl
theorem q1409 : (Jvm.Cond.laysFinal "MessengerBoard$Trail" "MessengerBoard$Trail" "places" "[I") ∈ am_tb := am_mem 244 (by decide +kernel) rfl
theorem q1410 : (Jvm.Cond.laysFinal "MessengerBoard" "MessengerBoard" "now" "LMessengerBoard$Situation;") ∈ am_tb := am_mem 367 (by decide +kernel) rfl
theorem q1411 : (Jvm.Cond.laysFinal "MessengerBoard" "MessengerBoard" "trial" "LMessengerBoard$Situation;") ∈ am_tb := am_mem 369 (by decide +kernel) rfl
theorem q1412 : (Jvm.Cond.laysFinal "MessengerBoard" "MessengerBoard" "trail" "LMessengerBoard$Trail;") ∈ am_tb := am_mem 371 (by decide +kernel) rfl
theorem q1413 : (Jvm.Cond.laysFinal "MessengerBoard" "MessengerBoard" "history" "LMessengerBoard$History;") ∈ am_tb := am_mem 373 (by decide +kernel) rfl
theorem q1414 : (Jvm.Cond.laysFinal "MessengerBoard" "MessengerBoard" "paths" "LMessengerBoard$Paths;") ∈ am_tb := am_mem 375 (by decide +kernel) rfl
theorem q1415 : (Jvm.Cond.laysFinal "MessengerBoard" "MessengerBoard" "clock" "LMessengerBoard$Clock;") ∈ am_tb := am_mem 377 (by decide +kernel) rfl
theorem q1416 : (Jvm.Cond.laysFinal "MessengerBoard" "MessengerBoard" "buffer" "[I") ∈ am_tb := am_mem 379 (by decide +kernel) rfl
theorem q1417 : (Jvm.Cond.laysFinal "MessengerBoard" "MessengerBoard" "tokens" "LMessengerBoard$Tokens;") ∈ am_tb := am_mem 381 (by decide +kernel) rfl
theorem q1418 : (Jvm.Cond.laysFinal "MessengerBoard" "MessengerBoard" "boardReader" "LMessengerBoard$BoardReader;") ∈ am_tb := am_mem 383 (by decide +kernel) rfl
theorem q1419 : (Jvm.Cond.laysFinal "MessengerBoard" "MessengerBoard" "queryReader" "LMessengerBoard$QueryReader;") ∈ am_tb := am_mem 385 (by decide +kernel) rfl
theorem q1420 : (Jvm.Cond.laysFinal "MessengerBoard" "MessengerBoard" "text" "[I") ∈ am_tb := am_mem 387 (by decide +kernel) rfl
theorem q1421 : (Jvm.Cond.lays "MessengerBoard" "MessengerBoard" "saved" "LMessengerBoard$Situation;") ∈ am_tb := am_mem 389 (by decide +kernel) rfl
theorem q1422 : (Jvm.Cond.lays "MessengerBoard" "MessengerBoard" "savedTrail" "LMessengerBoard$Trail;") ∈ am_tb := am_mem 391 (by decide +kernel) rfl
theorem q1423 : (Jvm.Cond.lays "MessengerBoard" "MessengerBoard" "hasSnapshot" "Z") ∈ am_tb := am_mem 393 (by decide +kernel) rfl
theorem q1424 : (Jvm.Cond.lays "MessengerBoard" "MessengerBoard" "buffered" "I") ∈ am_tb := am_mem 395 (by decide +kernel) rfl
theorem q1425 : (Jvm.Cond.lays "MessengerBoard" "MessengerBoard" "errorAt" "I") ∈ am_tb := am_mem 397 (by decide +kernel) rfl
theorem q1426 : (Jvm.Cond.lays "MessengerBoard" "MessengerBoard" "textLength" "I") ∈ am_tb := am_mem 399 (by decide +kernel) rfl
theorem q1427 : (Jvm.Cond.laysFinal "MessengerBoardModel" "MessengerBoardModel" "now" "[I") ∈ am_tb := am_mem 1267 (by decide +kernel) rfl
theorem q1428 : (Jvm.Cond.laysFinal "MessengerBoardModel" "MessengerBoardModel" "draft" "[I") ∈ am_tb := am_mem 1269 (by decide +kernel) rfl
theorem q1429 : (Jvm.Cond.laysFinal "MessengerBoardModel" "MessengerBoardModel" "aside" "[I") ∈ am_tb := am_mem 1271 (by decide +kernel) rfl
theorem q1430 : (Jvm.Cond.laysFinal "MessengerBoardModel" "MessengerBoardModel" "snapshot" "[I") ∈ am_tb := am_mem 1273 (by decide +kernel) rfl
theorem q1431 : (Jvm.Cond.laysFinal "MessengerBoardModel" "MessengerBoardModel" "history" "[I") ∈ am_tb := am_mem 1275 (by decide +kernel) rfl
theorem q1432 : (Jvm.Cond.lays "MessengerBoardModel" "MessengerBoardModel" "undoCount" "I") ∈ am_tb := am_mem 1277 (by decide +kernel) rfl
theorem q1433 : (Jvm.Cond.lays "MessengerBoardModel" "MessengerBoardModel" "thrown" "I") ∈ am_tb := am_mem 1279 (by decide +kernel) rfl
theorem q1434 : (Jvm.Cond.lays "MessengerBoardModel" "MessengerBoardModel" "hasSnapshot" "Z") ∈ am_tb := am_mem 1281 (by decide +kernel) rfl
theorem q1435 : (Jvm.Cond.laysFinal "MessengerBoardModel" "MessengerBoardModel" "far" "[I") ∈ am_tb := am_mem 1283 (by decide +kernel) rfl
theorem q1436 : (Jvm.Cond.laysFinal "MessengerBoardModel" "MessengerBoardModel" "queue" "[I") ∈ am_tb := am_mem 1285 (by decide +kernel) rfl
theorem q1437 : (Jvm.Cond.laysFinal "MessengerBoardModel" "MessengerBoardModel" "formatted" "[I") ∈ am_tb := am_mem 1287 (by decide +kernel) rfl
theorem q1438 : (Jvm.Cond.lays "MessengerBoardModel" "MessengerBoardModel" "formattedLength" "I") ∈ am_tb := am_mem 1289 (by decide +kernel) rfl
theorem q1439 : (Jvm.Cond.laysFinal "MessengerBoardModel" "MessengerBoardModel" "buffer" "[I") ∈ am_tb := am_mem 1291 (by decide +kernel) rfl
theorem q1440 : (Jvm.Cond.lays "MessengerBoardModel" "MessengerBoardModel" "bufferLength" "I") ∈ am_tb := am_mem 1293 (by decide +kernel) rfl
theorem q1441 : (Jvm.Cond.lays "MessengerBoardModel" "MessengerBoardModel" "limit" "I") ∈ am_tb := am_mem 1295 (by decide +kernel) rfl
theorem q1442 : (Jvm.Cond.lays "MessengerBoardModel" "MessengerBoardModel" "next" "I") ∈ am_tb := am_mem 1297 (by decide +kernel) rfl
theorem q1443 : (Jvm.Cond.lays "MessengerBoardModel" "MessengerBoardModel" "beginsAt" "I") ∈ am_tb := am_mem 1299 (by decide +kernel) rfl
theorem q1444 : (Jvm.Cond.lays "MessengerBoardModel" "MessengerBoardModel" "token" "I") ∈ am_tb := am_mem 1301 (by decide +kernel) rfl
theorem q1445 : (Jvm.Cond.lays "MessengerBoardModel" "MessengerBoardModel" "error" "I") ∈ am_tb := am_mem 1303 (by decide +kernel) rfl
theorem q1446 : (Jvm.Cond.lays "MessengerBoardModel" "MessengerBoardModel" "errorAt" "I") ∈ am_tb := am_mem 1305 (by decide +kernel) rfl
theorem q1447 : (Jvm.Cond.lays "MessengerBoardModel" "MessengerBoardModel" "errorPosition" "I") ∈ am_tb := am_mem 1307 (by decide +kernel) rfl
theorem q1448 : (Jvm.Cond.lays "MessengerBoardModel" "MessengerBoardModel" "nested" "I") ∈ am_tb := am_mem 1309 (by decide +kernel) rfl
theorem q1449 : (Jvm.Cond.lays "MessengerBoardModel" "MessengerBoardModel" "readX" "I") ∈ am_tb := am_mem 1311 (by decide +kernel) rfl
theorem q1450 : (Jvm.Cond.lays "MessengerBoardModel" "MessengerBoardModel" "readY" "I") ∈ am_tb := am_mem 1313 (by decide +kernel) rfl
theorem q1451 : (Jvm.Cond.laysFinal "MessengerBoardModel" "MessengerBoardModel" "names" "[Ljava/lang/String;") ∈ am_tb := am_mem 1315 (by decide +kernel) rfl
theorem q1452 : (Jvm.Cond.laysFinal "MessengerBoardModel" "MessengerBoardModel" "codes" "[I") ∈ am_tb := am_mem 1317 (by decide +kernel) rfl
theorem q1453 : (Jvm.Cond.laysFinal "MessengerBoardModel" "MessengerBoardModel" "stack" "[J") ∈ am_tb := am_mem 1319 (by decide +kernel) rfl
theorem q1454 : (Jvm.Cond.lays "MessengerBoardModel" "MessengerBoardModel" "codeCount" "I") ∈ am_tb := am_mem 1321 (by decide +kernel) rfl
theorem am_f0_0 : am_ft 0 0 = 2 := by decide +kernel
theorem am_f0_1 : am_ft 0 1 = 2 := by decide +kernel
theorem am_f1_0 : am_ft 1 0 = 2 := by decide +kernel
theorem am_f2_0 : am_ft 2 0 = 2 := by decide +kernel
theorem am_f2_1 : am_ft 2 1 ≠ 2 := by decide +kernel
theorem am_f3_0 : am_ft 3 0 = 2 := by decide +kernel
theorem am_f3_1 : am_ft 3 1 ≠ 2 := by decide +kernel
theorem am_f3_2 : am_ft 3 2 ≠ 2 := by decide +kernel
theorem am_f4_0 : am_ft 4 0 = 2 := by decide +kernel
theorem am_f4_1 : am_ft 4 1 = 2 := by decide +kernel
theorem am_f4_2 : am_ft 4 2 = 2 := by decide +kernel
theorem am_f5_0 : am_ft 5 0 = 2 := by decide +kernel
theorem am_f5_1 : am_ft 5 1 = 2 := by decide +kernel
theorem am_f6_0 : am_ft 6 0 ≠ 2 := by decide +kernel
theorem am_f6_1 : am_ft 6 1 ≠ 2 := by decide +kernel
theorem am_f6_2 : am_ft 6 2 ≠ 2 := by decide +kernel
theorem am_f6_3 : am_ft 6 3 ≠ 2 := by decide +kernel
theorem am_f6_4 : am_ft 6 4 ≠ 2 := by decide +kernel
theorem am_f6_5 : am_ft 6 5 ≠ 2 := by decide +kernel
theorem am_f6_6 : am_ft 6 6 ≠ 2 := by decide +kernel
theorem am_f6_7 : am_ft 6 7 = 2 := by decide +kernel
theorem am_f6_8 : am_ft 6 8 = 2 := by decide +kernel
theorem am_f6_9 : am_ft 6 9 = 2 := by decide +kernel
theorem am_f6_10 : am_ft 6 10 = 2 := by decide +kernel
theorem am_f6_11 : am_ft 6 11 = 2 := by decide +kernel
theorem am_f6_12 : am_ft 6 12 = 2 := by decide +kernel
theorem am_f7_0 : am_ft 7 0 ≠ 2 := by decide +kernel
theorem am_f7_1 : am_ft 7 1 ≠ 2 := by decide +kernel
theorem am_f7_2 : am_ft 7 2 = 2 := by decide +kernel
theorem am_f7_3 : am_ft 7 3 ≠ 2 := by decide +kernel
theorem am_f8_0 : am_ft 8 0 = 2 := by decide +kernel
theorem am_f8_1 : am_ft 8 1 ≠ 2 := by decide +kernel
theorem am_f8_2 : am_ft 8 2 ≠ 2 := by decide +kernel
theorem am_f8_3 : am_ft 8 3 ≠ 2 := by decide +kernel
theorem am_f8_4 : am_ft 8 4 ≠ 2 := by decide +kernel
theorem am_f8_5 : am_ft 8 5 ≠ 2 := by decide +kernel
theorem am_f8_6 : am_ft 8 6 ≠ 2 := by decide +kernel
theorem am_f8_7 : am_ft 8 7 ≠ 2 := by decide +kernel
theorem am_f9_0 : am_ft 9 0 = 2 := by decide +kernel
theorem am_f10_0 : am_ft 10 0 = 2 := by decide +kernel
theorem am_f10_1 : am_ft 10 1 = 2 := by decide +kernel
theorem am_f10_2 : am_ft 10 2 = 2 := by decide +kernel
theorem am_f10_3 : am_ft 10 3 = 2 := by decide +kernel
theorem am_f10_4 : am_ft 10 4 = 2 := by decide +kernel
theorem am_f10_5 : am_ft 10 5 = 2 := by decide +kernel
theorem am_f10_6 : am_ft 10 6 = 2 := by decide +kernel
theorem am_f10_7 : am_ft 10 7 = 2 := by decide +kernel
theorem am_f10_8 : am_ft 10 8 = 2 := by decide +kernel
theorem am_f10_9 : am_ft 10 9 = 2 := by decide +kernel
theorem am_f10_10 : am_ft 10 10 = 2 := by decide +kernel
theorem am_f10_11 : am_ft 10 11 = 2 := by decide +kernel
theorem am_f10_12 : am_ft 10 12 = 2 := by decide +kernel
theorem am_f10_13 : am_ft 10 13 ≠ 2 := by decide +kernel
theorem am_f10_14 : am_ft 10 14 ≠ 2 := by decide +kernel
theorem am_f10_15 : am_ft 10 15 ≠ 2 := by decide +kernel
theorem am_f10_16 : am_ft 10 16 ≠ 2 := by decide +kernel
theorem am_f11_0 : am_ft 11 0 = 2 := by decide +kernel
theorem am_f11_1 : am_ft 11 1 = 2 := by decide +kernel
theorem am_f11_2 : am_ft 11 2 = 2 := by decide +kernel
theorem am_f11_3 : am_ft 11 3 = 2 := by decide +kernel
theorem am_f11_4 : am_ft 11 4 = 2 := by decide +kernel
theorem am_f11_5 : am_ft 11 5 ≠ 2 := by decide +kernel
theorem am_f11_6 : am_ft 11 6 ≠ 2 := by decide +kernel
theorem am_f11_7 : am_ft 11 7 ≠ 2 := by decide +kernel
theorem am_f11_8 : am_ft 11 8 = 2 := by decide +kernel
theorem am_f11_9 : am_ft 11 9 = 2 := by decide +kernel
theorem am_f11_10 : am_ft 11 10 = 2 := by decide +kernel
theorem am_f11_11 : am_ft 11 11 ≠ 2 := by decide +kernel
theorem am_f11_12 : am_ft 11 12 = 2 := by decide +kernel
theorem am_f11_13 : am_ft 11 13 ≠ 2 := by decide +kernel
theorem am_f11_14 : am_ft 11 14 ≠ 2 := by decide +kernel
theorem am_f11_15 : am_ft 11 15 ≠ 2 := by decide +kernel
theorem am_f11_16 : am_ft 11 16 ≠ 2 := by decide +kernel
theorem am_f11_17 : am_ft 11 17 ≠ 2 := by decide +kernel
theorem am_f11_18 : am_ft 11 18 ≠ 2 := by decide +kernel
theorem am_f11_19 : am_ft 11 19 ≠ 2 := by decide +kernel
theorem am_f11_20 : am_ft 11 20 ≠ 2 := by decide +kernel
theorem am_f11_21 : am_ft 11 21 ≠ 2 := by decide +kernel
theorem am_f11_22 : am_ft 11 22 ≠ 2 := by decide +kernel
theorem am_f11_23 : am_ft 11 23 ≠ 2 := by decide +kernel
theorem am_f11_24 : am_ft 11 24 = 2 := by decide +kernel
theorem am_f11_25 : am_ft 11 25 = 2 := by decide +kernel
theorem am_f11_26 : am_ft 11 26 = 2 := by decide +kernel
theorem am_f11_27 : am_ft 11 27 ≠ 2 := by decide +kernel
theorem am_ci0 : am_CI 0 (RX0, TX0, 2) := by
  refine ⟨rfl, by decide, fun w hw => ?_, ⟨tyX0, fun k hk => ⟨tyX0_ok k hk, ?_⟩⟩, nmX0⟩
  · obtain ⟨k, hk, rfl⟩ := List.mem_map.mp hw
    have hk := List.mem_range.mp hk
    match k, hk with
    | 0, _ => exact q1371
    | 1, _ => exact q1372
    | k + 2, hk => exact absurd hk (by show ¬ k + 2 < 2; omega)
  · match k, hk with
    | 0, _ => rw [if_pos am_f0_0]; rfl
    | 1, _ => rw [if_pos am_f0_1]; rfl
    | k + 2, hk => exact absurd hk (by show ¬ k + 2 < 2; omega)
theorem am_ci1 : am_CI 1 (RX1, TX1, 1) := by
  refine ⟨rfl, by decide, fun w hw => ?_, ⟨tyX1, fun k hk => ⟨tyX1_ok k hk, ?_⟩⟩, nmX1⟩
  · obtain ⟨k, hk, rfl⟩ := List.mem_map.mp hw
    have hk := List.mem_range.mp hk
    match k, hk with
    | 0, _ => exact q1373
    | k + 1, hk => exact absurd hk (by show ¬ k + 1 < 1; omega)
  · match k, hk with
    | 0, _ => rw [if_pos am_f1_0]; rfl
    | k + 1, hk => exact absurd hk (by show ¬ k + 1 < 1; omega)
theorem am_ci2 : am_CI 2 (RX2, TX2, 2) := by
  refine ⟨rfl, by decide, fun w hw => ?_, ⟨tyX2, fun k hk => ⟨tyX2_ok k hk, ?_⟩⟩, nmX2⟩
  · obtain ⟨k, hk, rfl⟩ := List.mem_map.mp hw
    have hk := List.mem_range.mp hk
    match k, hk with
    | 0, _ => exact q1374
    | 1, _ => exact q1375
    | k + 2, hk => exact absurd hk (by show ¬ k + 2 < 2; omega)
  · match k, hk with
    | 0, _ => rw [if_pos am_f2_0]; rfl
    | 1, _ => rw [if_neg am_f2_1]; rfl
    | k + 2, hk => exact absurd hk (by show ¬ k + 2 < 2; omega)
theorem am_ci3 : am_CI 3 (RX3, TX3, 3) := by
  refine ⟨rfl, by decide, fun w hw => ?_, ⟨tyX3, fun k hk => ⟨tyX3_ok k hk, ?_⟩⟩, nmX3⟩
  · obtain ⟨k, hk, rfl⟩ := List.mem_map.mp hw
    have hk := List.mem_range.mp hk
    match k, hk with
    | 0, _ => exact q1376
    | 1, _ => exact q1377
    | 2, _ => exact q1378
    | k + 3, hk => exact absurd hk (by show ¬ k + 3 < 3; omega)
  · match k, hk with
    | 0, _ => rw [if_pos am_f3_0]; rfl
    | 1, _ => rw [if_neg am_f3_1]; rfl
    | 2, _ => rw [if_neg am_f3_2]; rfl
    | k + 3, hk => exact absurd hk (by show ¬ k + 3 < 3; omega)
theorem am_ci4 : am_CI 4 (RX4, TX4, 3) := by
  refine ⟨rfl, by decide, fun w hw => ?_, ⟨tyX4, fun k hk => ⟨tyX4_ok k hk, ?_⟩⟩, nmX4⟩
  · obtain ⟨k, hk, rfl⟩ := List.mem_map.mp hw
    have hk := List.mem_range.mp hk
    match k, hk with
    | 0, _ => exact q1379
    | 1, _ => exact q1380
    | 2, _ => exact q1381
    | k + 3, hk => exact absurd hk (by show ¬ k + 3 < 3; omega)
  · match k, hk with
    | 0, _ => rw [if_pos am_f4_0]; rfl
    | 1, _ => rw [if_pos am_f4_1]; rfl
    | 2, _ => rw [if_pos am_f4_2]; rfl
    | k + 3, hk => exact absurd hk (by show ¬ k + 3 < 3; omega)
theorem am_ci5 : am_CI 5 (RX5, TX5, 2) := by
  refine ⟨rfl, by decide, fun w hw => ?_, ⟨tyX5, fun k hk => ⟨tyX5_ok k hk, ?_⟩⟩, nmX5⟩
  · obtain ⟨k, hk, rfl⟩ := List.mem_map.mp hw
    have hk := List.mem_range.mp hk
    match k, hk with
    | 0, _ => exact q1382
    | 1, _ => exact q1383
    | k + 2, hk => exact absurd hk (by show ¬ k + 2 < 2; omega)
  · match k, hk with
    | 0, _ => rw [if_pos am_f5_0]; rfl
    | 1, _ => rw [if_pos am_f5_1]; rfl
    | k + 2, hk => exact absurd hk (by show ¬ k + 2 < 2; omega)
theorem am_ci6 : am_CI 6 (RX6, TX6, 13) := by
  refine ⟨rfl, by decide, fun w hw => ?_, ⟨tyX6, fun k hk => ⟨tyX6_ok k hk, ?_⟩⟩, nmX6⟩
  · obtain ⟨k, hk, rfl⟩ := List.mem_map.mp hw
    have hk := List.mem_range.mp hk
    match k, hk with
    | 0, _ => exact q1384
    | 1, _ => exact q1385
    | 2, _ => exact q1386
    | 3, _ => exact q1387
    | 4, _ => exact q1388
    | 5, _ => exact q1389
    | 6, _ => exact q1390
    | 7, _ => exact q1391
    | 8, _ => exact q1392
    | 9, _ => exact q1393
    | 10, _ => exact q1394
    | 11, _ => exact q1395
    | 12, _ => exact q1396
    | k + 13, hk => exact absurd hk (by show ¬ k + 13 < 13; omega)
  · match k, hk with
    | 0, _ => rw [if_neg am_f6_0]; rfl
    | 1, _ => rw [if_neg am_f6_1]; rfl
    | 2, _ => rw [if_neg am_f6_2]; rfl
    | 3, _ => rw [if_neg am_f6_3]; rfl
    | 4, _ => rw [if_neg am_f6_4]; rfl
    | 5, _ => rw [if_neg am_f6_5]; rfl
    | 6, _ => rw [if_neg am_f6_6]; rfl
    | 7, _ => rw [if_pos am_f6_7]; rfl
    | 8, _ => rw [if_pos am_f6_8]; rfl
    | 9, _ => rw [if_pos am_f6_9]; rfl
    | 10, _ => rw [if_pos am_f6_10]; rfl
    | 11, _ => rw [if_pos am_f6_11]; rfl
    | 12, _ => rw [if_pos am_f6_12]; rfl
    | k + 13, hk => exact absurd hk (by show ¬ k + 13 < 13; omega)
theorem am_ci7 : am_CI 7 (RX7, TX7, 4) := by
  refine ⟨rfl, by decide, fun w hw => ?_, ⟨tyX7, fun k hk => ⟨tyX7_ok k hk, ?_⟩⟩, nmX7⟩
  · obtain ⟨k, hk, rfl⟩ := List.mem_map.mp hw
    have hk := List.mem_range.mp hk
    match k, hk with
    | 0, _ => exact q1397
    | 1, _ => exact q1398
    | 2, _ => exact q1399
    | 3, _ => exact q1400
    | k + 4, hk => exact absurd hk (by show ¬ k + 4 < 4; omega)
  · match k, hk with
    | 0, _ => rw [if_neg am_f7_0]; rfl
    | 1, _ => rw [if_neg am_f7_1]; rfl
    | 2, _ => rw [if_pos am_f7_2]; rfl
    | 3, _ => rw [if_neg am_f7_3]; rfl
    | k + 4, hk => exact absurd hk (by show ¬ k + 4 < 4; omega)
theorem am_ci8 : am_CI 8 (RX8, TX8, 8) := by
  refine ⟨rfl, by decide, fun w hw => ?_, ⟨tyX8, fun k hk => ⟨tyX8_ok k hk, ?_⟩⟩, nmX8⟩
  · obtain ⟨k, hk, rfl⟩ := List.mem_map.mp hw
    have hk := List.mem_range.mp hk
    match k, hk with
    | 0, _ => exact q1401
    | 1, _ => exact q1402
    | 2, _ => exact q1403
    | 3, _ => exact q1404
    | 4, _ => exact q1405
    | 5, _ => exact q1406
    | 6, _ => exact q1407
    | 7, _ => exact q1408
    | k + 8, hk => exact absurd hk (by show ¬ k + 8 < 8; omega)
  · match k, hk with
    | 0, _ => rw [if_pos am_f8_0]; rfl
    | 1, _ => rw [if_neg am_f8_1]; rfl
    | 2, _ => rw [if_neg am_f8_2]; rfl
    | 3, _ => rw [if_neg am_f8_3]; rfl
    | 4, _ => rw [if_neg am_f8_4]; rfl
    | 5, _ => rw [if_neg am_f8_5]; rfl
    | 6, _ => rw [if_neg am_f8_6]; rfl
    | 7, _ => rw [if_neg am_f8_7]; rfl
    | k + 8, hk => exact absurd hk (by show ¬ k + 8 < 8; omega)
theorem am_ci9 : am_CI 9 (RX9, TX9, 1) := by
  refine ⟨rfl, by decide, fun w hw => ?_, ⟨tyX9, fun k hk => ⟨tyX9_ok k hk, ?_⟩⟩, nmX9⟩
  · obtain ⟨k, hk, rfl⟩ := List.mem_map.mp hw
    have hk := List.mem_range.mp hk
    match k, hk with
    | 0, _ => exact q1409
    | k + 1, hk => exact absurd hk (by show ¬ k + 1 < 1; omega)
  · match k, hk with
    | 0, _ => rw [if_pos am_f9_0]; rfl
    | k + 1, hk => exact absurd hk (by show ¬ k + 1 < 1; omega)
theorem am_ci10 : am_CI 10 (RX10, TX10, 17) := by
  refine ⟨rfl, by decide, fun w hw => ?_, ⟨tyX10, fun k hk => ⟨tyX10_ok k hk, ?_⟩⟩, nmX10⟩
  · obtain ⟨k, hk, rfl⟩ := List.mem_map.mp hw
    have hk := List.mem_range.mp hk
    match k, hk with
    | 0, _ => exact q1410
    | 1, _ => exact q1411
    | 2, _ => exact q1412
    | 3, _ => exact q1413
    | 4, _ => exact q1414
    | 5, _ => exact q1415
    | 6, _ => exact q1416
    | 7, _ => exact q1417
    | 8, _ => exact q1418
    | 9, _ => exact q1419
    | 10, _ => exact q1420
    | 11, _ => exact q1421
    | 12, _ => exact q1422
    | 13, _ => exact q1423
    | 14, _ => exact q1424
    | 15, _ => exact q1425
    | 16, _ => exact q1426
    | k + 17, hk => exact absurd hk (by show ¬ k + 17 < 17; omega)
  · match k, hk with
    | 0, _ => rw [if_pos am_f10_0]; rfl
    | 1, _ => rw [if_pos am_f10_1]; rfl
    | 2, _ => rw [if_pos am_f10_2]; rfl
    | 3, _ => rw [if_pos am_f10_3]; rfl
    | 4, _ => rw [if_pos am_f10_4]; rfl
    | 5, _ => rw [if_pos am_f10_5]; rfl
    | 6, _ => rw [if_pos am_f10_6]; rfl
    | 7, _ => rw [if_pos am_f10_7]; rfl
    | 8, _ => rw [if_pos am_f10_8]; rfl
    | 9, _ => rw [if_pos am_f10_9]; rfl
    | 10, _ => rw [if_pos am_f10_10]; rfl
    | 11, _ => rw [if_pos am_f10_11]; rfl
    | 12, _ => rw [if_pos am_f10_12]; rfl
    | 13, _ => rw [if_neg am_f10_13]; rfl
    | 14, _ => rw [if_neg am_f10_14]; rfl
    | 15, _ => rw [if_neg am_f10_15]; rfl
    | 16, _ => rw [if_neg am_f10_16]; rfl
    | k + 17, hk => exact absurd hk (by show ¬ k + 17 < 17; omega)
theorem am_ci11 : am_CI 11 (RX11, TX11, 28) := by
  refine ⟨rfl, by decide, fun w hw => ?_, ⟨tyX11, fun k hk => ⟨tyX11_ok k hk, ?_⟩⟩, nmX11⟩
  · obtain ⟨k, hk, rfl⟩ := List.mem_map.mp hw
    have hk := List.mem_range.mp hk
    match k, hk with
    | 0, _ => exact q1427
    | 1, _ => exact q1428
    | 2, _ => exact q1429
    | 3, _ => exact q1430
    | 4, _ => exact q1431
    | 5, _ => exact q1432
    | 6, _ => exact q1433
    | 7, _ => exact q1434
    | 8, _ => exact q1435
    | 9, _ => exact q1436
    | 10, _ => exact q1437
    | 11, _ => exact q1438
    | 12, _ => exact q1439
    | 13, _ => exact q1440
    | 14, _ => exact q1441
    | 15, _ => exact q1442
    | 16, _ => exact q1443
    | 17, _ => exact q1444
    | 18, _ => exact q1445
    | 19, _ => exact q1446
    | 20, _ => exact q1447
    | 21, _ => exact q1448
    | 22, _ => exact q1449
    | 23, _ => exact q1450
    | 24, _ => exact q1451
    | 25, _ => exact q1452
    | 26, _ => exact q1453
    | 27, _ => exact q1454
    | k + 28, hk => exact absurd hk (by show ¬ k + 28 < 28; omega)
  · match k, hk with
    | 0, _ => rw [if_pos am_f11_0]; rfl
    | 1, _ => rw [if_pos am_f11_1]; rfl
    | 2, _ => rw [if_pos am_f11_2]; rfl
    | 3, _ => rw [if_pos am_f11_3]; rfl
    | 4, _ => rw [if_pos am_f11_4]; rfl
    | 5, _ => rw [if_neg am_f11_5]; rfl
    | 6, _ => rw [if_neg am_f11_6]; rfl
    | 7, _ => rw [if_neg am_f11_7]; rfl
    | 8, _ => rw [if_pos am_f11_8]; rfl
    | 9, _ => rw [if_pos am_f11_9]; rfl
    | 10, _ => rw [if_pos am_f11_10]; rfl
    | 11, _ => rw [if_neg am_f11_11]; rfl
    | 12, _ => rw [if_pos am_f11_12]; rfl
    | 13, _ => rw [if_neg am_f11_13]; rfl
    | 14, _ => rw [if_neg am_f11_14]; rfl
    | 15, _ => rw [if_neg am_f11_15]; rfl
    | 16, _ => rw [if_neg am_f11_16]; rfl
    | 17, _ => rw [if_neg am_f11_17]; rfl
    | 18, _ => rw [if_neg am_f11_18]; rfl
    | 19, _ => rw [if_neg am_f11_19]; rfl
    | 20, _ => rw [if_neg am_f11_20]; rfl
    | 21, _ => rw [if_neg am_f11_21]; rfl
    | 22, _ => rw [if_neg am_f11_22]; rfl
    | 23, _ => rw [if_neg am_f11_23]; rfl
    | 24, _ => rw [if_pos am_f11_24]; rfl
    | 25, _ => rw [if_pos am_f11_25]; rfl
    | 26, _ => rw [if_pos am_f11_26]; rfl
    | 27, _ => rw [if_neg am_f11_27]; rfl
    | k + 28, hk => exact absurd hk (by show ¬ k + 28 < 28; omega)
theorem t0 : ("MessengerBoard", 96, "no such length", 1) ∈ am_strs := List.mem_of_getElem? (i := 0) rfl
theorem t1 : ("MessengerBoard$BoardReader", 33, "board", 2) ∈ am_strs := List.mem_of_getElem? (i := 1) rfl
theorem t2 : ("MessengerBoard$BoardReader", 70, "wall", 3) ∈ am_strs := List.mem_of_getElem? (i := 2) rfl
theorem t3 : ("MessengerBoard$BoardReader", 75, "headquarters", 4) ∈ am_strs := List.mem_of_getElem? (i := 3) rfl
theorem t4 : ("MessengerBoard$BoardReader", 80, "unit", 5) ∈ am_strs := List.mem_of_getElem? (i := 4) rfl
theorem t5 : ("MessengerBoard$BoardReader", 85, "picket", 6) ∈ am_strs := List.mem_of_getElem? (i := 5) rfl
theorem t6 : ("MessengerBoard$BoardReader", 90, "patience", 7) ∈ am_strs := List.mem_of_getElem? (i := 6) rfl
theorem t7 : ("MessengerBoard$BoardReader", 94, "plan", 8) ∈ am_strs := List.mem_of_getElem? (i := 7) rfl
theorem t8 : ("MessengerBoard", 166, "no such number of the board", 9) ∈ am_strs := List.mem_of_getElem? (i := 8) rfl
theorem t9 : ("MessengerBoard", 310, "no such unit, picket, order, plan or event", 10) ∈ am_strs := List.mem_of_getElem? (i := 9) rfl
theorem t10 : ("MessengerBoard", 312, "no such property", 11) ∈ am_strs := List.mem_of_getElem? (i := 10) rfl
theorem t11 : ("MessengerBoard", 191, "no such state", 12) ∈ am_strs := List.mem_of_getElem? (i := 11) rfl
theorem t12 : ("MessengerBoard", 317, "no such cell", 13) ∈ am_strs := List.mem_of_getElem? (i := 12) rfl
theorem t13 : ("MessengerBoard", 202, "no such turn", 14) ∈ am_strs := List.mem_of_getElem? (i := 13) rfl
theorem t14 : ("MessengerBoard", 319, "the goal is a wall", 15) ∈ am_strs := List.mem_of_getElem? (i := 14) rfl
theorem t15 : ("MessengerBoard", 321, "no such number of turns", 16) ∈ am_strs := List.mem_of_getElem? (i := 15) rfl
theorem t16 : ("MessengerBoard", 276, "no such turn for a plan", 17) ∈ am_strs := List.mem_of_getElem? (i := 16) rfl
theorem t17 : ("MessengerBoard", 278, "no such patience", 18) ∈ am_strs := List.mem_of_getElem? (i := 17) rfl
theorem t18 : ("MessengerBoard", 280, "no such row", 19) ∈ am_strs := List.mem_of_getElem? (i := 18) rfl
theorem t19 : ("MessengerBoard$QueryReader", 28, "many", 20) ∈ am_strs := List.mem_of_getElem? (i := 19) rfl
theorem t20 : ("MessengerBoard$QueryReader", 34, "first", 21) ∈ am_strs := List.mem_of_getElem? (i := 20) rfl
theorem t21 : ("MessengerBoard$QueryReader", 83, "not", 22) ∈ am_strs := List.mem_of_getElem? (i := 21) rfl
theorem t22 : ("MessengerBoard$QueryReader", 112, "order", 23) ∈ am_strs := List.mem_of_getElem? (i := 22) rfl
theorem t23 : ("MessengerBoard$QueryReader", 114, "unit", 5) ∈ am_strs := List.mem_of_getElem? (i := 23) rfl
theorem t24 : ("MessengerBoard$QueryReader", 116, "state", 24) ∈ am_strs := List.mem_of_getElem? (i := 24) rfl
theorem t25 : ("MessengerBoard$QueryReader", 118, "sent", 25) ∈ am_strs := List.mem_of_getElem? (i := 25) rfl
theorem t26 : ("MessengerBoard$QueryReader", 120, "arrived", 26) ∈ am_strs := List.mem_of_getElem? (i := 26) rfl
theorem t27 : ("MessengerBoard$QueryReader", 122, "ended", 27) ∈ am_strs := List.mem_of_getElem? (i := 27) rfl
theorem t28 : ("MessengerBoard$QueryReader", 124, "steps", 28) ∈ am_strs := List.mem_of_getElem? (i := 28) rfl
theorem t29 : ("MessengerBoard$QueryReader", 126, "x", 29) ∈ am_strs := List.mem_of_getElem? (i := 29) rfl
theorem t30 : ("MessengerBoard$QueryReader", 128, "y", 30) ∈ am_strs := List.mem_of_getElem? (i := 30) rfl
theorem t31 : ("MessengerBoard$QueryReader", 81, "and", 31) ∈ am_strs := List.mem_of_getElem? (i := 31) rfl
theorem t32 : ("MessengerBoard$QueryReader", 76, "or", 32) ∈ am_strs := List.mem_of_getElem? (i := 32) rfl
theorem t33 : ("MessengerBoardModel", 44, "order", 23) ∈ am_strs := List.mem_of_getElem? (i := 33) rfl
theorem t34 : ("MessengerBoardModel", 46, "unit", 5) ∈ am_strs := List.mem_of_getElem? (i := 34) rfl
theorem t35 : ("MessengerBoardModel", 48, "state", 24) ∈ am_strs := List.mem_of_getElem? (i := 35) rfl
theorem t36 : ("MessengerBoardModel", 50, "sent", 25) ∈ am_strs := List.mem_of_getElem? (i := 36) rfl
theorem t37 : ("MessengerBoardModel", 52, "arrived", 26) ∈ am_strs := List.mem_of_getElem? (i := 37) rfl
theorem t38 : ("MessengerBoardModel", 54, "ended", 27) ∈ am_strs := List.mem_of_getElem? (i := 38) rfl
theorem t39 : ("MessengerBoardModel", 56, "steps", 28) ∈ am_strs := List.mem_of_getElem? (i := 39) rfl
theorem t40 : ("MessengerBoardModel", 58, "x", 29) ∈ am_strs := List.mem_of_getElem? (i := 40) rfl
theorem t41 : ("MessengerBoardModel", 60, "y", 30) ∈ am_strs := List.mem_of_getElem? (i := 41) rfl
theorem t42 : ("MessengerBoardModel", 380, "board", 2) ∈ am_strs := List.mem_of_getElem? (i := 42) rfl
theorem t43 : ("MessengerBoardModel", 349, "wall", 3) ∈ am_strs := List.mem_of_getElem? (i := 43) rfl
theorem t44 : ("MessengerBoardModel", 357, "headquarters", 4) ∈ am_strs := List.mem_of_getElem? (i := 44) rfl
theorem t45 : ("MessengerBoardModel", 365, "picket", 6) ∈ am_strs := List.mem_of_getElem? (i := 45) rfl
theorem t46 : ("MessengerBoardModel", 370, "patience", 7) ∈ am_strs := List.mem_of_getElem? (i := 46) rfl
theorem t47 : ("MessengerBoardModel", 372, "plan", 8) ∈ am_strs := List.mem_of_getElem? (i := 47) rfl
theorem t48 : ("MessengerBoardModel", 434, "first", 21) ∈ am_strs := List.mem_of_getElem? (i := 48) rfl
theorem t49 : ("MessengerBoardModel", 436, "many", 20) ∈ am_strs := List.mem_of_getElem? (i := 49) rfl
theorem t50 : ("MessengerBoardModel", 404, "not", 22) ∈ am_strs := List.mem_of_getElem? (i := 50) rfl
theorem t51 : ("MessengerBoardModel", 418, "and", 31) ∈ am_strs := List.mem_of_getElem? (i := 51) rfl
theorem t52 : ("MessengerBoardModel", 423, "or", 32) ∈ am_strs := List.mem_of_getElem? (i := 52) rfl
theorem n0 : ("MessengerBoard", 21, (⟨"MessengerBoard$Trail", "<init>", "()V"⟩ : MethodName), "MessengerBoard") ∈ am_nst := List.mem_of_getElem? (i := 0) rfl
theorem n1 : ("MessengerBoard", 28, (⟨"MessengerBoard$History", "<init>", "()V"⟩ : MethodName), "MessengerBoard") ∈ am_nst := List.mem_of_getElem? (i := 1) rfl
theorem n2 : ("MessengerBoard$Situation", 77, (⟨"MessengerBoard", "cellAt", "(II)I"⟩ : MethodName), "MessengerBoard") ∈ am_nst := List.mem_of_getElem? (i := 2) rfl
theorem n3 : ("MessengerBoard$Paths", 43, (⟨"MessengerBoard$Distances", "<init>", "()V"⟩ : MethodName), "MessengerBoard") ∈ am_nst := List.mem_of_getElem? (i := 3) rfl
theorem n4 : ("MessengerBoard$Paths", 53, (⟨"MessengerBoard", "xOf", "(I)I"⟩ : MethodName), "MessengerBoard") ∈ am_nst := List.mem_of_getElem? (i := 4) rfl
theorem n5 : ("MessengerBoard$Paths", 56, (⟨"MessengerBoard", "yOf", "(I)I"⟩ : MethodName), "MessengerBoard") ∈ am_nst := List.mem_of_getElem? (i := 5) rfl
theorem n6 : ("MessengerBoard$Clock", 63, (⟨"MessengerBoard", "cellAt", "(II)I"⟩ : MethodName), "MessengerBoard") ∈ am_nst := List.mem_of_getElem? (i := 6) rfl
theorem n7 : ("MessengerBoard$Clock", 71, (⟨"MessengerBoard", "xOf", "(I)I"⟩ : MethodName), "MessengerBoard") ∈ am_nst := List.mem_of_getElem? (i := 7) rfl
theorem n8 : ("MessengerBoard$Clock", 79, (⟨"MessengerBoard", "yOf", "(I)I"⟩ : MethodName), "MessengerBoard") ∈ am_nst := List.mem_of_getElem? (i := 8) rfl
theorem n9 : ("MessengerBoard$Trail", 35, (⟨"MessengerBoard", "nameOf", "(II)I"⟩ : MethodName), "MessengerBoard") ∈ am_nst := List.mem_of_getElem? (i := 9) rfl
theorem am_x0_98 : decode prog_18_method_2_code 0 = .ok (.aload_n 0, 1) := by decide +kernel
theorem am_x1_98 : decode prog_18_method_2_code 1 = .ok (.aload_n 1, 1) := by decide +kernel
theorem am_x2_98 : decode prog_18_method_2_code 2 = .ok (.invokespecial 7, 3) := by decide +kernel
theorem am_x5_98 : decode prog_18_method_2_code 5 = .ok (.return_, 1) := by decide +kernel
theorem am_gl_98 : ∀ w ∈ am_atX RX10 98 "java/lang/IllegalArgumentException" 7 prog_18_method_2_code "java/lang/RuntimeException" ["java/lang/Exception"], (w ∈ lw_tbl ∧ goodWord w = true) ∨ am_dv w = true := by decide +kernel
theorem am_at_98 : ∀ w ∈ am_atX RX10 98 "java/lang/IllegalArgumentException" 7 prog_18_method_2_code "java/lang/RuntimeException" ["java/lang/Exception"], w ∈ am_tb ∨ am_dv w = true := fun w hw => (am_gl_98 w hw).imp (fun h => List.mem_filter.mpr h) id
theorem am_go_98 : ∀ w ∈ Cond.classLink RX10 94 "java/lang/IllegalArgumentException" :: Cond.initialized "java/lang/IllegalArgumentException" :: am_atX RX10 98 "java/lang/IllegalArgumentException" 7 prog_18_method_2_code "java/lang/RuntimeException" ["java/lang/Exception"], vx_ot w = true := by decide +kernel
theorem am_x0_168 : decode prog_30_method_4_code 0 = .ok (.aload_n 0, 1) := by decide +kernel
theorem am_x1_168 : decode prog_30_method_4_code 1 = .ok (.aload_n 1, 1) := by decide +kernel
theorem am_x2_168 : decode prog_30_method_4_code 2 = .ok (.invokespecial 13, 3) := by decide +kernel
theorem am_x5_168 : decode prog_30_method_4_code 5 = .ok (.return_, 1) := by decide +kernel
theorem am_gl_168 : ∀ w ∈ am_atX RX10 168 "java/util/NoSuchElementException" 13 prog_30_method_4_code "java/lang/RuntimeException" ["java/lang/Exception"], (w ∈ lw_tbl ∧ goodWord w = true) ∨ am_dv w = true := by decide +kernel
theorem am_at_168 : ∀ w ∈ am_atX RX10 168 "java/util/NoSuchElementException" 13 prog_30_method_4_code "java/lang/RuntimeException" ["java/lang/Exception"], w ∈ am_tb ∨ am_dv w = true := fun w hw => (am_gl_168 w hw).imp (fun h => List.mem_filter.mpr h) id
theorem am_go_168 : ∀ w ∈ Cond.classLink RX10 164 "java/util/NoSuchElementException" :: Cond.initialized "java/util/NoSuchElementException" :: am_atX RX10 168 "java/util/NoSuchElementException" 13 prog_30_method_4_code "java/lang/RuntimeException" ["java/lang/Exception"], vx_ot w = true := by decide +kernel
