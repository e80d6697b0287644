theorem zwr_477 : (Jvm.Cond.fieldLink "HillSchool" (10 : Nat) "HillSchool" "hill" "LHillSchool$Hill;") ∈ zall := zmemG (zmj_2 134 rfl) rfl
theorem zwr_485 : (Jvm.Cond.fieldLink "HillSchool" (41 : Nat) "HillSchool" "latestStatus" "I") ∈ zall := zmemG (zmj_2 142 rfl) rfl
theorem zwr_541 : (Jvm.Cond.code ({ cls := "HillSchool", name := "accept", desc := "(I)I" } : Jvm.MethodName) prog_1_method_41_code (2 : Nat) (Option.some Jvm.ClassFile.FieldType.int)) ∈ zall := zmemG (zmj_2 198 rfl) rfl
theorem zwr_484 : (Jvm.Cond.fieldLink "HillSchool" (38 : Nat) "HillSchool" "refusals" "[I") ∈ zall := zmemG (zmj_2 141 rfl) rfl
theorem zwr_537 : (Jvm.Cond.code ({ cls := "HillSchool", name := "refuse", desc := "(I)I" } : Jvm.MethodName) prog_1_method_40_code (2 : Nat) (Option.some Jvm.ClassFile.FieldType.int)) ∈ zall := zmemG (zmj_2 194 rfl) rfl
theorem zwr_143 : (Jvm.Cond.fieldLink "HillSchool$Columns" (9 : Nat) "HillSchool$Columns" "many" "I") ∈ zall := zmemG (zmj_1 40 rfl) rfl
theorem zwr_149 : (Jvm.Cond.fieldLink "HillSchool$Columns" (15 : Nat) "HillSchool$Columns" "heights" "[I") ∈ zall := zmemG (zmj_1 46 rfl) rfl
theorem zwr_533 : (Jvm.Cond.code ({ cls := "HillSchool$Columns", name := "grow", desc := "()Z" } : Jvm.MethodName) prog_3_method_3_code (1 : Nat) (Option.some Jvm.ClassFile.FieldType.boolean)) ∈ zall := zmemG (zmj_2 190 rfl) rfl
theorem zwr_0 : (Jvm.Cond.selects "HillSchool" ({ cls := "HillSchool", name := "refuse", desc := "(I)I" } : Jvm.MethodName) ({ cls := "HillSchool", name := "refuse", desc := "(I)I" } : Jvm.MethodName)) ∈ zall := zmemG (zmj_0 0 rfl) rfl
theorem zwr_1 : (Jvm.Cond.selects "HillSchool" ({ cls := "HillSchool", name := "accept", desc := "(I)I" } : Jvm.MethodName) ({ cls := "HillSchool", name := "accept", desc := "(I)I" } : Jvm.MethodName)) ∈ zall := zmemG (zmj_0 1 rfl) rfl
theorem zwr_104 : (Jvm.Cond.initialized "HillSchool") ∈ zall := zmemG (zmj_1 1 rfl) rfl
theorem zwr_106 : (Jvm.Cond.initialized "HillSchool$Columns") ∈ zall := zmemG (zmj_1 3 rfl) rfl
theorem zwr_529 : (Jvm.Cond.code ({ cls := "HillSchool", name := "column", desc := "()I" } : Jvm.MethodName) prog_1_method_2_code (2 : Nat) (Option.some Jvm.ClassFile.FieldType.int)) ∈ zall := zmemG (zmj_2 186 rfl) rfl
theorem zwr_530 : (Jvm.Cond.methodLink "HillSchool" (103 : Nat) ({ cls := "HillSchool$Columns", name := "grow", desc := "()Z" } : Jvm.MethodName)) ∈ zall := zmemG (zmj_2 187 rfl) rfl
theorem zwr_531 : (Jvm.Cond.instanceMethod ({ cls := "HillSchool$Columns", name := "grow", desc := "()Z" } : Jvm.MethodName)) ∈ zall := zmemG (zmj_2 188 rfl) rfl
theorem zwr_532 : (Jvm.Cond.selects "HillSchool$Columns" ({ cls := "HillSchool$Columns", name := "grow", desc := "()Z" } : Jvm.MethodName) ({ cls := "HillSchool$Columns", name := "grow", desc := "()Z" } : Jvm.MethodName)) ∈ zall := zmemG (zmj_2 189 rfl) rfl
theorem zwr_534 : (Jvm.Cond.methodLink "HillSchool" (109 : Nat) ({ cls := "HillSchool", name := "refuse", desc := "(I)I" } : Jvm.MethodName)) ∈ zall := zmemG (zmj_2 191 rfl) rfl
theorem zwr_536 : (Jvm.Cond.instanceMethod ({ cls := "HillSchool", name := "refuse", desc := "(I)I" } : Jvm.MethodName)) ∈ zall := zmemG (zmj_2 193 rfl) rfl
theorem zwr_538 : (Jvm.Cond.methodLink "HillSchool" (119 : Nat) ({ cls := "HillSchool", name := "accept", desc := "(I)I" } : Jvm.MethodName)) ∈ zall := zmemG (zmj_2 195 rfl) rfl
theorem zwr_540 : (Jvm.Cond.instanceMethod ({ cls := "HillSchool", name := "accept", desc := "(I)I" } : Jvm.MethodName)) ∈ zall := zmemG (zmj_2 197 rfl) rfl
theorem zwr_549 : (Jvm.Cond.code ({ cls := "HillSchool$Columns", name := "has", desc := "(I)Z" } : Jvm.MethodName) prog_3_method_2_code (2 : Nat) (Option.some Jvm.ClassFile.FieldType.boolean)) ∈ zall := zmemG (zmj_2 206 rfl) rfl
theorem zwr_150 : (Jvm.Cond.fieldLink "HillSchool$Columns" (19 : Nat) "HillSchool$Columns" "weights" "[I") ∈ zall := zmemG (zmj_1 47 rfl) rfl
theorem zwr_547 : (Jvm.Cond.instanceMethod ({ cls := "HillSchool$Columns", name := "has", desc := "(I)Z" } : Jvm.MethodName)) ∈ zall := zmemG (zmj_2 204 rfl) rfl
theorem zwr_548 : (Jvm.Cond.selects "HillSchool$Columns" ({ cls := "HillSchool$Columns", name := "has", desc := "(I)Z" } : Jvm.MethodName) ({ cls := "HillSchool$Columns", name := "has", desc := "(I)Z" } : Jvm.MethodName)) ∈ zall := zmemG (zmj_2 205 rfl) rfl
theorem zwr_553 : (Jvm.Cond.code ({ cls := "HillSchool$Columns", name := "put", desc := "(II)Z" } : Jvm.MethodName) prog_3_method_9_code (3 : Nat) (Option.some Jvm.ClassFile.FieldType.boolean)) ∈ zall := zmemG (zmj_2 210 rfl) rfl
theorem zwr_554 : (Jvm.Cond.methodLink "HillSchool$Columns" (22 : Nat) ({ cls := "HillSchool$Columns", name := "has", desc := "(I)Z" } : Jvm.MethodName)) ∈ zall := zmemG (zmj_2 211 rfl) rfl
theorem zwr_558 : (Jvm.Cond.code ({ cls := "HillSchool$Columns", name := "high", desc := "(I)I" } : Jvm.MethodName) prog_3_method_4_code (2 : Nat) (Option.some Jvm.ClassFile.FieldType.int)) ∈ zall := zmemG (zmj_2 215 rfl) rfl
theorem zwr_545 : (Jvm.Cond.code ({ cls := "HillSchool", name := "stone", desc := "(II)I" } : Jvm.MethodName) prog_1_method_3_code (3 : Nat) (Option.some Jvm.ClassFile.FieldType.int)) ∈ zall := zmemG (zmj_2 202 rfl) rfl
theorem zwr_546 : (Jvm.Cond.methodLink "HillSchool" (122 : Nat) ({ cls := "HillSchool$Columns", name := "has", desc := "(I)Z" } : Jvm.MethodName)) ∈ zall := zmemG (zmj_2 203 rfl) rfl
theorem zwr_550 : (Jvm.Cond.methodLink "HillSchool" (126 : Nat) ({ cls := "HillSchool$Columns", name := "put", desc := "(II)Z" } : Jvm.MethodName)) ∈ zall := zmemG (zmj_2 207 rfl) rfl
theorem zwr_551 : (Jvm.Cond.instanceMethod ({ cls := "HillSchool$Columns", name := "put", desc := "(II)Z" } : Jvm.MethodName)) ∈ zall := zmemG (zmj_2 208 rfl) rfl
theorem zwr_552 : (Jvm.Cond.selects "HillSchool$Columns" ({ cls := "HillSchool$Columns", name := "put", desc := "(II)Z" } : Jvm.MethodName) ({ cls := "HillSchool$Columns", name := "put", desc := "(II)Z" } : Jvm.MethodName)) ∈ zall := zmemG (zmj_2 209 rfl) rfl
theorem zwr_555 : (Jvm.Cond.methodLink "HillSchool" (130 : Nat) ({ cls := "HillSchool$Columns", name := "high", desc := "(I)I" } : Jvm.MethodName)) ∈ zall := zmemG (zmj_2 212 rfl) rfl
theorem zwr_556 : (Jvm.Cond.instanceMethod ({ cls := "HillSchool$Columns", name := "high", desc := "(I)I" } : Jvm.MethodName)) ∈ zall := zmemG (zmj_2 213 rfl) rfl
theorem zwr_557 : (Jvm.Cond.selects "HillSchool$Columns" ({ cls := "HillSchool$Columns", name := "high", desc := "(I)I" } : Jvm.MethodName) ({ cls := "HillSchool$Columns", name := "high", desc := "(I)I" } : Jvm.MethodName)) ∈ zall := zmemG (zmj_2 214 rfl) rfl
theorem zwr_570 : (Jvm.Cond.code ({ cls := "HillSchool$Columns", name := "top", desc := "(I)I" } : Jvm.MethodName) prog_3_method_6_code (3 : Nat) (Option.some Jvm.ClassFile.FieldType.int)) ∈ zall := zmemG (zmj_2 227 rfl) rfl
theorem zwr_571 : (Jvm.Cond.methodLink "HillSchool$Columns" (26 : Nat) ({ cls := "HillSchool$Columns", name := "high", desc := "(I)I" } : Jvm.MethodName)) ∈ zall := zmemG (zmj_2 228 rfl) rfl
theorem zwr_566 : (Jvm.Cond.code ({ cls := "HillSchool$Columns", name := "take", desc := "(I)I" } : Jvm.MethodName) prog_3_method_10_code (3 : Nat) (Option.some Jvm.ClassFile.FieldType.int)) ∈ zall := zmemG (zmj_2 223 rfl) rfl
theorem zwr_567 : (Jvm.Cond.methodLink "HillSchool$Columns" (34 : Nat) ({ cls := "HillSchool$Columns", name := "top", desc := "(I)I" } : Jvm.MethodName)) ∈ zall := zmemG (zmj_2 224 rfl) rfl
theorem zwr_568 : (Jvm.Cond.instanceMethod ({ cls := "HillSchool$Columns", name := "top", desc := "(I)I" } : Jvm.MethodName)) ∈ zall := zmemG (zmj_2 225 rfl) rfl
theorem zwr_569 : (Jvm.Cond.selects "HillSchool$Columns" ({ cls := "HillSchool$Columns", name := "top", desc := "(I)I" } : Jvm.MethodName) ({ cls := "HillSchool$Columns", name := "top", desc := "(I)I" } : Jvm.MethodName)) ∈ zall := zmemG (zmj_2 226 rfl) rfl
theorem zwr_562 : (Jvm.Cond.code ({ cls := "HillSchool", name := "lift", desc := "(I)I" } : Jvm.MethodName) prog_1_method_4_code (2 : Nat) (Option.some Jvm.ClassFile.FieldType.int)) ∈ zall := zmemG (zmj_2 219 rfl) rfl
theorem zwr_563 : (Jvm.Cond.methodLink "HillSchool" (133 : Nat) ({ cls := "HillSchool$Columns", name := "take", desc := "(I)I" } : Jvm.MethodName)) ∈ zall := zmemG (zmj_2 220 rfl) rfl
theorem zwr_564 : (Jvm.Cond.instanceMethod ({ cls := "HillSchool$Columns", name := "take", desc := "(I)I" } : Jvm.MethodName)) ∈ zall := zmemG (zmj_2 221 rfl) rfl
theorem zwr_565 : (Jvm.Cond.selects "HillSchool$Columns" ({ cls := "HillSchool$Columns", name := "take", desc := "(I)I" } : Jvm.MethodName) ({ cls := "HillSchool$Columns", name := "take", desc := "(I)I" } : Jvm.MethodName)) ∈ zall := zmemG (zmj_2 222 rfl) rfl
theorem zwr_579 : (Jvm.Cond.code ({ cls := "HillSchool$Columns", name := "heft", desc := "(II)I" } : Jvm.MethodName) prog_3_method_5_code (3 : Nat) (Option.some Jvm.ClassFile.FieldType.int)) ∈ zall := zmemG (zmj_2 236 rfl) rfl
theorem zwr_575 : (Jvm.Cond.code ({ cls := "HillSchool", name := "of", desc := "(II)I" } : Jvm.MethodName) prog_1_method_5_code (3 : Nat) (Option.some Jvm.ClassFile.FieldType.int)) ∈ zall := zmemG (zmj_2 232 rfl) rfl
theorem zwr_576 : (Jvm.Cond.methodLink "HillSchool" (136 : Nat) ({ cls := "HillSchool$Columns", name := "heft", desc := "(II)I" } : Jvm.MethodName)) ∈ zall := zmemG (zmj_2 233 rfl) rfl
theorem zwr_577 : (Jvm.Cond.instanceMethod ({ cls := "HillSchool$Columns", name := "heft", desc := "(II)I" } : Jvm.MethodName)) ∈ zall := zmemG (zmj_2 234 rfl) rfl
theorem zwr_578 : (Jvm.Cond.selects "HillSchool$Columns" ({ cls := "HillSchool$Columns", name := "heft", desc := "(II)I" } : Jvm.MethodName) ({ cls := "HillSchool$Columns", name := "heft", desc := "(II)I" } : Jvm.MethodName)) ∈ zall := zmemG (zmj_2 235 rfl) rfl
theorem zwr_587 : (Jvm.Cond.code ({ cls := "HillSchool$Columns", name := "load", desc := "(I)I" } : Jvm.MethodName) prog_3_method_7_code (4 : Nat) (Option.some Jvm.ClassFile.FieldType.int)) ∈ zall := zmemG (zmj_3 4 rfl) rfl
theorem zwr_588 : (Jvm.Cond.methodLink "HillSchool$Columns" (30 : Nat) ({ cls := "HillSchool$Columns", name := "heft", desc := "(II)I" } : Jvm.MethodName)) ∈ zall := zmemG (zmj_3 5 rfl) rfl
theorem zwr_583 : (Jvm.Cond.code ({ cls := "HillSchool", name := "weight", desc := "(I)I" } : Jvm.MethodName) prog_1_method_6_code (2 : Nat) (Option.some Jvm.ClassFile.FieldType.int)) ∈ zall := zmemG (zmj_3 0 rfl) rfl
theorem zwr_584 : (Jvm.Cond.methodLink "HillSchool" (140 : Nat) ({ cls := "HillSchool$Columns", name := "load", desc := "(I)I" } : Jvm.MethodName)) ∈ zall := zmemG (zmj_3 1 rfl) rfl
theorem zwr_585 : (Jvm.Cond.instanceMethod ({ cls := "HillSchool$Columns", name := "load", desc := "(I)I" } : Jvm.MethodName)) ∈ zall := zmemG (zmj_3 2 rfl) rfl
theorem zwr_586 : (Jvm.Cond.selects "HillSchool$Columns" ({ cls := "HillSchool$Columns", name := "load", desc := "(I)I" } : Jvm.MethodName) ({ cls := "HillSchool$Columns", name := "load", desc := "(I)I" } : Jvm.MethodName)) ∈ zall := zmemG (zmj_3 3 rfl) rfl
theorem zwr_173 : (Jvm.Cond.fieldLink "HillSchool$Hill" (18 : Nat) "HillSchool$Hill" "children" "I") ∈ zall := zmemG (zmj_1 70 rfl) rfl
theorem zwr_177 : (Jvm.Cond.fieldLink "HillSchool$Hill" (22 : Nat) "HillSchool$Hill" "strengths" "[I") ∈ zall := zmemG (zmj_1 74 rfl) rfl
theorem zwr_180 : (Jvm.Cond.fieldLink "HillSchool$Hill" (26 : Nat) "HillSchool$Hill" "expelled" "[I") ∈ zall := zmemG (zmj_1 77 rfl) rfl
theorem zwr_182 : (Jvm.Cond.fieldLink "HillSchool$Hill" (29 : Nat) "HillSchool$Hill" "trips" "[I") ∈ zall := zmemG (zmj_1 79 rfl) rfl
theorem zwr_596 : (Jvm.Cond.code ({ cls := "HillSchool$Hill", name := "enroll", desc := "(I)I" } : Jvm.MethodName) prog_4_method_4_code (3 : Nat) (Option.some Jvm.ClassFile.FieldType.int)) ∈ zall := zmemG (zmj_3 13 rfl) rfl
theorem zwr_105 : (Jvm.Cond.initialized "HillSchool$Hill") ∈ zall := zmemG (zmj_1 2 rfl) rfl
theorem zwr_592 : (Jvm.Cond.code ({ cls := "HillSchool", name := "child", desc := "(I)I" } : Jvm.MethodName) prog_1_method_7_code (2 : Nat) (Option.some Jvm.ClassFile.FieldType.int)) ∈ zall := zmemG (zmj_3 9 rfl) rfl
theorem zwr_593 : (Jvm.Cond.methodLink "HillSchool" (146 : Nat) ({ cls := "HillSchool$Hill", name := "enroll", desc := "(I)I" } : Jvm.MethodName)) ∈ zall := zmemG (zmj_3 10 rfl) rfl
theorem zwr_594 : (Jvm.Cond.instanceMethod ({ cls := "HillSchool$Hill", name := "enroll", desc := "(I)I" } : Jvm.MethodName)) ∈ zall := zmemG (zmj_3 11 rfl) rfl
theorem zwr_595 : (Jvm.Cond.selects "HillSchool$Hill" ({ cls := "HillSchool$Hill", name := "enroll", desc := "(I)I" } : Jvm.MethodName) ({ cls := "HillSchool$Hill", name := "enroll", desc := "(I)I" } : Jvm.MethodName)) ∈ zall := zmemG (zmj_3 12 rfl) rfl
theorem zwr_604 : (Jvm.Cond.code ({ cls := "HillSchool$Hill", name := "hasChild", desc := "(I)Z" } : Jvm.MethodName) prog_4_method_2_code (2 : Nat) (Option.some Jvm.ClassFile.FieldType.boolean)) ∈ zall := zmemG (zmj_3 21 rfl) rfl
theorem zwr_600 : (Jvm.Cond.code ({ cls := "HillSchool", name := "expel", desc := "(II)I" } : Jvm.MethodName) prog_1_method_8_code (4 : Nat) (Option.some Jvm.ClassFile.FieldType.int)) ∈ zall := zmemG (zmj_3 17 rfl) rfl
theorem zwr_601 : (Jvm.Cond.methodLink "HillSchool" (149 : Nat) ({ cls := "HillSchool$Hill", name := "hasChild", desc := "(I)Z" } : Jvm.MethodName)) ∈ zall := zmemG (zmj_3 18 rfl) rfl
theorem zwr_602 : (Jvm.Cond.instanceMethod ({ cls := "HillSchool$Hill", name := "hasChild", desc := "(I)Z" } : Jvm.MethodName)) ∈ zall := zmemG (zmj_3 19 rfl) rfl
theorem zwr_603 : (Jvm.Cond.selects "HillSchool$Hill" ({ cls := "HillSchool$Hill", name := "hasChild", desc := "(I)Z" } : Jvm.MethodName) ({ cls := "HillSchool$Hill", name := "hasChild", desc := "(I)Z" } : Jvm.MethodName)) ∈ zall := zmemG (zmj_3 20 rfl) rfl
