theorem zw_127 : (Jvm.Cond.code ({ cls := "HillSchool", name := "<init>", desc := "()V" } : Jvm.MethodName) prog_1_method_1_code (1 : Nat) (Option.none : Option Jvm.ClassFile.FieldType)) ∈ zall := zmemG (zmj_1 24 rfl) rfl
theorem zw_128 : (Jvm.Cond.methodLink "HillSchool" (1 : Nat) ({ cls := "java/lang/Object", name := "<init>", desc := "()V" } : Jvm.MethodName)) ∈ zall := zmemG (zmj_1 25 rfl) rfl
theorem zw_129 : (Jvm.Cond.instanceMethod ({ cls := "java/lang/Object", name := "<init>", desc := "()V" } : Jvm.MethodName)) ∈ zall := zmemG (zmj_1 26 rfl) rfl
theorem zw_130 : (Jvm.Cond.code ({ cls := "java/lang/Object", name := "<init>", desc := "()V" } : Jvm.MethodName) object_method_1_code (1 : Nat) (Option.none : Option Jvm.ClassFile.FieldType)) ∈ zall := zmemG (zmj_1 27 rfl) rfl
theorem zw_131 : (Jvm.Cond.classLink "HillSchool" (7 : Nat) "HillSchool$Hill") ∈ zall := zmemG (zmj_1 28 rfl) rfl
theorem zw_132 : (Jvm.Cond.instantiable "HillSchool$Hill" (14 : Nat)) ∈ zall := zmemG (zmj_1 29 rfl) rfl
theorem zw_133 : (Jvm.Cond.methodLinkNest "HillSchool" (9 : Nat) ({ cls := "HillSchool$Hill", name := "<init>", desc := "()V" } : Jvm.MethodName) "HillSchool") ∈ znest := zmemH (zmj_1 30 rfl) rfl
theorem zw_134 : (Jvm.Cond.instanceMethod ({ cls := "HillSchool$Hill", name := "<init>", desc := "()V" } : Jvm.MethodName)) ∈ zall := zmemG (zmj_1 31 rfl) rfl
theorem zw_135 : (Jvm.Cond.code ({ cls := "HillSchool$Hill", name := "<init>", desc := "()V" } : Jvm.MethodName) prog_4_method_1_code (1 : Nat) (Option.none : Option Jvm.ClassFile.FieldType)) ∈ zall := zmemG (zmj_1 32 rfl) rfl
theorem zw_136 : (Jvm.Cond.methodLink "HillSchool$Hill" (3 : Nat) ({ cls := "java/lang/Object", name := "<init>", desc := "()V" } : Jvm.MethodName)) ∈ zall := zmemG (zmj_1 33 rfl) rfl
theorem zw_137 : (Jvm.Cond.classLink "HillSchool$Hill" (9 : Nat) "HillSchool$Columns") ∈ zall := zmemG (zmj_1 34 rfl) rfl
theorem zw_138 : (Jvm.Cond.instantiable "HillSchool$Columns" (3 : Nat)) ∈ zall := zmemG (zmj_1 35 rfl) rfl
theorem zw_139 : (Jvm.Cond.methodLinkNest "HillSchool$Hill" (11 : Nat) ({ cls := "HillSchool$Columns", name := "<init>", desc := "()V" } : Jvm.MethodName) "HillSchool") ∈ znest := zmemH (zmj_1 36 rfl) rfl
theorem zw_140 : (Jvm.Cond.instanceMethod ({ cls := "HillSchool$Columns", name := "<init>", desc := "()V" } : Jvm.MethodName)) ∈ zall := zmemG (zmj_1 37 rfl) rfl
theorem zw_141 : (Jvm.Cond.code ({ cls := "HillSchool$Columns", name := "<init>", desc := "()V" } : Jvm.MethodName) prog_3_method_1_code (1 : Nat) (Option.none : Option Jvm.ClassFile.FieldType)) ∈ zall := zmemG (zmj_1 38 rfl) rfl
theorem zw_142 : (Jvm.Cond.methodLink "HillSchool$Columns" (3 : Nat) ({ cls := "java/lang/Object", name := "<init>", desc := "()V" } : Jvm.MethodName)) ∈ zall := zmemG (zmj_1 39 rfl) rfl
theorem zw_158 : (Jvm.Cond.arrayClass Jvm.ClassFile.FieldType.int) ∈ zall := zmemG (zmj_1 55 rfl) rfl
theorem zw_159 : (Jvm.Cond.fieldLinkNest "HillSchool$Hill" (38 : Nat) "HillSchool" "FIRST_TERMS" "[I" "HillSchool") ∈ znest := zmemH (zmj_1 56 rfl) rfl
theorem zw_161 : (Jvm.Cond.methodLink "HillSchool$Hill" (41 : Nat) ({ cls := "[I", name := "clone", desc := "()Ljava/lang/Object;" } : Jvm.MethodName)) ∈ zall := zmemG (zmj_1 58 rfl) rfl
theorem zw_162 : (Jvm.Cond.sameMethod "[I" "java/lang/Object" "clone" "()Ljava/lang/Object;") ∈ zall := zmemG (zmj_1 59 rfl) rfl
theorem zw_163 : (Jvm.Cond.native ({ cls := "java/lang/Object", name := "clone", desc := "()Ljava/lang/Object;" } : Jvm.MethodName)) ∈ zall := zmemG (zmj_1 60 rfl) rfl
theorem zw_164 : (Jvm.Cond.instanceMethod ({ cls := "java/lang/Object", name := "clone", desc := "()Ljava/lang/Object;" } : Jvm.MethodName)) ∈ zall := zmemG (zmj_1 61 rfl) rfl
theorem zw_165 : (Jvm.Cond.selects "[I" ({ cls := "[I", name := "clone", desc := "()Ljava/lang/Object;" } : Jvm.MethodName) ({ cls := "java/lang/Object", name := "clone", desc := "()Ljava/lang/Object;" } : Jvm.MethodName)) ∈ zall := zmemG (zmj_1 62 rfl) rfl
theorem zw_166 : (Jvm.Cond.castable "[I" "java/lang/Cloneable") ∈ znest := zmemH (zmj_1 63 rfl) rfl
theorem zw_167 : (Jvm.Cond.classLink "HillSchool$Hill" (42 : Nat) "[I") ∈ zall := zmemG (zmj_1 64 rfl) rfl
theorem zw_206 : (Jvm.Cond.fieldLink "HillSchool$Hill" (66 : Nat) "HillSchool$Hill" "changes" "I") ∈ zall := zmemG (zmj_1 103 rfl) rfl
theorem zw_241 : (Jvm.Cond.arrayOver (Jvm.ClassFile.FieldType.object "HillSchool$Hill")) ∈ znest := zmemH (zmj_1 138 rfl) rfl
theorem zw_242 : (Jvm.Cond.classLink "HillSchool" (44 : Nat) "HillSchool$LawReader") ∈ zall := zmemG (zmj_1 139 rfl) rfl
theorem zw_243 : (Jvm.Cond.instantiable "HillSchool$LawReader" (7 : Nat)) ∈ zall := zmemG (zmj_1 140 rfl) rfl
theorem zw_244 : (Jvm.Cond.methodLinkNest "HillSchool" (46 : Nat) ({ cls := "HillSchool$LawReader", name := "<init>", desc := "()V" } : Jvm.MethodName) "HillSchool") ∈ znest := zmemH (zmj_1 141 rfl) rfl
theorem zw_245 : (Jvm.Cond.instanceMethod ({ cls := "HillSchool$LawReader", name := "<init>", desc := "()V" } : Jvm.MethodName)) ∈ zall := zmemG (zmj_1 142 rfl) rfl
theorem zw_246 : (Jvm.Cond.code ({ cls := "HillSchool$LawReader", name := "<init>", desc := "()V" } : Jvm.MethodName) prog_6_method_1_code (1 : Nat) (Option.none : Option Jvm.ClassFile.FieldType)) ∈ zall := zmemG (zmj_1 143 rfl) rfl
theorem zw_247 : (Jvm.Cond.methodLink "HillSchool$LawReader" (3 : Nat) ({ cls := "java/lang/Object", name := "<init>", desc := "()V" } : Jvm.MethodName)) ∈ zall := zmemG (zmj_1 144 rfl) rfl
theorem zw_272 : (Jvm.Cond.arrayClass Jvm.ClassFile.FieldType.boolean) ∈ zall := zmemG (zmj_1 169 rfl) rfl
theorem zw_273 : (Jvm.Cond.classLink "HillSchool" (51 : Nat) "HillSchool$Judge") ∈ zall := zmemG (zmj_1 170 rfl) rfl
theorem zw_274 : (Jvm.Cond.instantiable "HillSchool$Judge" (6 : Nat)) ∈ zall := zmemG (zmj_1 171 rfl) rfl
theorem zw_275 : (Jvm.Cond.methodLink "HillSchool" (53 : Nat) ({ cls := "HillSchool$Judge", name := "<init>", desc := "(LHillSchool$Hill;)V" } : Jvm.MethodName)) ∈ zall := zmemG (zmj_1 172 rfl) rfl
theorem zw_276 : (Jvm.Cond.instanceMethod ({ cls := "HillSchool$Judge", name := "<init>", desc := "(LHillSchool$Hill;)V" } : Jvm.MethodName)) ∈ zall := zmemG (zmj_1 173 rfl) rfl
theorem zw_277 : (Jvm.Cond.code ({ cls := "HillSchool$Judge", name := "<init>", desc := "(LHillSchool$Hill;)V" } : Jvm.MethodName) prog_5_method_1_code (2 : Nat) (Option.none : Option Jvm.ClassFile.FieldType)) ∈ zall := zmemG (zmj_1 174 rfl) rfl
theorem zw_278 : (Jvm.Cond.methodLink "HillSchool$Judge" (3 : Nat) ({ cls := "java/lang/Object", name := "<init>", desc := "()V" } : Jvm.MethodName)) ∈ zall := zmemG (zmj_1 175 rfl) rfl
theorem zw_298 : (Jvm.Cond.classLink "HillSchool" (60 : Nat) "HillSchool$Carriers") ∈ zall := zmemG (zmj_1 195 rfl) rfl
theorem zw_299 : (Jvm.Cond.instantiable "HillSchool$Carriers" (3 : Nat)) ∈ zall := zmemG (zmj_1 196 rfl) rfl
theorem zw_300 : (Jvm.Cond.methodLink "HillSchool" (62 : Nat) ({ cls := "HillSchool$Carriers", name := "<init>", desc := "(LHillSchool$Hill;LHillSchool$Judge;)V" } : Jvm.MethodName)) ∈ zall := zmemG (zmj_1 197 rfl) rfl
theorem zw_301 : (Jvm.Cond.instanceMethod ({ cls := "HillSchool$Carriers", name := "<init>", desc := "(LHillSchool$Hill;LHillSchool$Judge;)V" } : Jvm.MethodName)) ∈ zall := zmemG (zmj_1 198 rfl) rfl
theorem zw_302 : (Jvm.Cond.code ({ cls := "HillSchool$Carriers", name := "<init>", desc := "(LHillSchool$Hill;LHillSchool$Judge;)V" } : Jvm.MethodName) prog_2_method_1_code (3 : Nat) (Option.none : Option Jvm.ClassFile.FieldType)) ∈ zall := zmemG (zmj_1 199 rfl) rfl
theorem zw_303 : (Jvm.Cond.methodLink "HillSchool$Carriers" (5 : Nat) ({ cls := "java/lang/Object", name := "<init>", desc := "()V" } : Jvm.MethodName)) ∈ zall := zmemG (zmj_1 200 rfl) rfl
theorem zw_304 : (Jvm.Cond.constant "HillSchool$Carriers" (11 : Nat) (48000 : Int32)) ∈ zall := zmemG (zmj_1 201 rfl) rfl
theorem zw_315 : (Jvm.Cond.classLink "HillSchool" (69 : Nat) "HillSchool$Planner") ∈ zall := zmemG (zmj_1 212 rfl) rfl
theorem zw_316 : (Jvm.Cond.instantiable "HillSchool$Planner" (16 : Nat)) ∈ zall := zmemG (zmj_1 213 rfl) rfl
theorem zw_317 : (Jvm.Cond.methodLink "HillSchool" (71 : Nat) ({ cls := "HillSchool$Planner", name := "<init>", desc := "(LHillSchool$Hill;LHillSchool$Carriers;)V" } : Jvm.MethodName)) ∈ zall := zmemG (zmj_1 214 rfl) rfl
theorem zw_318 : (Jvm.Cond.instanceMethod ({ cls := "HillSchool$Planner", name := "<init>", desc := "(LHillSchool$Hill;LHillSchool$Carriers;)V" } : Jvm.MethodName)) ∈ zall := zmemG (zmj_1 215 rfl) rfl
theorem zw_319 : (Jvm.Cond.code ({ cls := "HillSchool$Planner", name := "<init>", desc := "(LHillSchool$Hill;LHillSchool$Carriers;)V" } : Jvm.MethodName) prog_9_method_1_code (3 : Nat) (Option.none : Option Jvm.ClassFile.FieldType)) ∈ zall := zmemG (zmj_1 216 rfl) rfl
theorem zw_320 : (Jvm.Cond.methodLink "HillSchool$Planner" (5 : Nat) ({ cls := "java/lang/Object", name := "<init>", desc := "()V" } : Jvm.MethodName)) ∈ zall := zmemG (zmj_1 217 rfl) rfl
theorem zw_321 : (Jvm.Cond.classLink "HillSchool$Planner" (11 : Nat) "HillSchool$Plan") ∈ zall := zmemG (zmj_1 218 rfl) rfl
theorem zw_322 : (Jvm.Cond.arrayOver (Jvm.ClassFile.FieldType.object "HillSchool$Plan")) ∈ znest := zmemH (zmj_1 219 rfl) rfl
theorem zw_323 : (Jvm.Cond.instantiable "HillSchool$Plan" (4 : Nat)) ∈ zall := zmemG (zmj_1 220 rfl) rfl
theorem zw_324 : (Jvm.Cond.methodLinkNest "HillSchool$Planner" (13 : Nat) ({ cls := "HillSchool$Plan", name := "<init>", desc := "()V" } : Jvm.MethodName) "HillSchool") ∈ znest := zmemH (zmj_1 221 rfl) rfl
theorem zw_325 : (Jvm.Cond.instanceMethod ({ cls := "HillSchool$Plan", name := "<init>", desc := "()V" } : Jvm.MethodName)) ∈ zall := zmemG (zmj_1 222 rfl) rfl
theorem zw_326 : (Jvm.Cond.code ({ cls := "HillSchool$Plan", name := "<init>", desc := "()V" } : Jvm.MethodName) prog_8_method_1_code (1 : Nat) (Option.none : Option Jvm.ClassFile.FieldType)) ∈ zall := zmemG (zmj_1 223 rfl) rfl
theorem zw_327 : (Jvm.Cond.methodLink "HillSchool$Plan" (3 : Nat) ({ cls := "java/lang/Object", name := "<init>", desc := "()V" } : Jvm.MethodName)) ∈ zall := zmemG (zmj_1 224 rfl) rfl
theorem zw_328 : (Jvm.Cond.fieldLink "HillSchool$Plan" (9 : Nat) "HillSchool$Plan" "version" "I") ∈ zall := zmemG (zmj_1 225 rfl) rfl
theorem zw_333 : (Jvm.Cond.fieldLink "HillSchool$Plan" (18 : Nat) "HillSchool$Plan" "tiring" "I") ∈ zall := zmemG (zmj_1 230 rfl) rfl
theorem zw_396 : (Jvm.Cond.arrayClass Jvm.ClassFile.FieldType.long) ∈ zall := zmemG (zmj_2 53 rfl) rfl
theorem zw_397 : (Jvm.Cond.classLink "HillSchool" (78 : Nat) "HillSchool$Schools") ∈ zall := zmemG (zmj_2 54 rfl) rfl
theorem zw_398 : (Jvm.Cond.instantiable "HillSchool$Schools" (9 : Nat)) ∈ zall := zmemG (zmj_2 55 rfl) rfl
theorem zw_399 : (Jvm.Cond.methodLink "HillSchool" (80 : Nat) ({ cls := "HillSchool$Schools", name := "<init>", desc := "(LHillSchool$Hill;LHillSchool$Carriers;)V" } : Jvm.MethodName)) ∈ zall := zmemG (zmj_2 56 rfl) rfl
theorem zw_400 : (Jvm.Cond.instanceMethod ({ cls := "HillSchool$Schools", name := "<init>", desc := "(LHillSchool$Hill;LHillSchool$Carriers;)V" } : Jvm.MethodName)) ∈ zall := zmemG (zmj_2 57 rfl) rfl
theorem zw_401 : (Jvm.Cond.code ({ cls := "HillSchool$Schools", name := "<init>", desc := "(LHillSchool$Hill;LHillSchool$Carriers;)V" } : Jvm.MethodName) prog_11_method_1_code (3 : Nat) (Option.none : Option Jvm.ClassFile.FieldType)) ∈ zall := zmemG (zmj_2 58 rfl) rfl
theorem zw_402 : (Jvm.Cond.methodLink "HillSchool$Schools" (3 : Nat) ({ cls := "java/lang/Object", name := "<init>", desc := "()V" } : Jvm.MethodName)) ∈ zall := zmemG (zmj_2 59 rfl) rfl
theorem zw_403 : (Jvm.Cond.classLink "HillSchool$Schools" (9 : Nat) "HillSchool$Columns") ∈ zall := zmemG (zmj_2 60 rfl) rfl
theorem zw_404 : (Jvm.Cond.methodLinkNest "HillSchool$Schools" (11 : Nat) ({ cls := "HillSchool$Columns", name := "<init>", desc := "()V" } : Jvm.MethodName) "HillSchool") ∈ znest := zmemH (zmj_2 61 rfl) rfl
theorem zw_433 : (Jvm.Cond.classLink "HillSchool" (85 : Nat) "HillSchool$Scales") ∈ zall := zmemG (zmj_2 90 rfl) rfl
theorem zw_434 : (Jvm.Cond.instantiable "HillSchool$Scales" (8 : Nat)) ∈ zall := zmemG (zmj_2 91 rfl) rfl
theorem zw_435 : (Jvm.Cond.methodLink "HillSchool" (87 : Nat) ({ cls := "HillSchool$Scales", name := "<init>", desc := "(LHillSchool$Hill;)V" } : Jvm.MethodName)) ∈ zall := zmemG (zmj_2 92 rfl) rfl
theorem zw_436 : (Jvm.Cond.instanceMethod ({ cls := "HillSchool$Scales", name := "<init>", desc := "(LHillSchool$Hill;)V" } : Jvm.MethodName)) ∈ zall := zmemG (zmj_2 93 rfl) rfl
theorem zw_437 : (Jvm.Cond.code ({ cls := "HillSchool$Scales", name := "<init>", desc := "(LHillSchool$Hill;)V" } : Jvm.MethodName) prog_10_method_1_code (2 : Nat) (Option.none : Option Jvm.ClassFile.FieldType)) ∈ zall := zmemG (zmj_2 94 rfl) rfl
theorem zw_438 : (Jvm.Cond.methodLink "HillSchool$Scales" (3 : Nat) ({ cls := "java/lang/Object", name := "<init>", desc := "()V" } : Jvm.MethodName)) ∈ zall := zmemG (zmj_2 95 rfl) rfl
theorem zw_464 : (Jvm.Cond.classLink "HillSchool" (92 : Nat) "HillSchool$Paper") ∈ zall := zmemG (zmj_2 121 rfl) rfl
theorem zw_465 : (Jvm.Cond.instantiable "HillSchool$Paper" (1 : Nat)) ∈ zall := zmemG (zmj_2 122 rfl) rfl
theorem zw_466 : (Jvm.Cond.methodLinkNest "HillSchool" (94 : Nat) ({ cls := "HillSchool$Paper", name := "<init>", desc := "()V" } : Jvm.MethodName) "HillSchool") ∈ znest := zmemH (zmj_2 123 rfl) rfl
theorem zw_467 : (Jvm.Cond.instanceMethod ({ cls := "HillSchool$Paper", name := "<init>", desc := "()V" } : Jvm.MethodName)) ∈ zall := zmemG (zmj_2 124 rfl) rfl
theorem zw_468 : (Jvm.Cond.code ({ cls := "HillSchool$Paper", name := "<init>", desc := "()V" } : Jvm.MethodName) prog_7_method_1_code (1 : Nat) (Option.none : Option Jvm.ClassFile.FieldType)) ∈ zall := zmemG (zmj_2 125 rfl) rfl
theorem zw_469 : (Jvm.Cond.methodLink "HillSchool$Paper" (1 : Nat) ({ cls := "java/lang/Object", name := "<init>", desc := "()V" } : Jvm.MethodName)) ∈ zall := zmemG (zmj_2 126 rfl) rfl
theorem zw_470 : (Jvm.Cond.classLink "HillSchool$Paper" (7 : Nat) "HillSchool$Columns") ∈ zall := zmemG (zmj_2 127 rfl) rfl
theorem zw_471 : (Jvm.Cond.methodLinkNest "HillSchool$Paper" (9 : Nat) ({ cls := "HillSchool$Columns", name := "<init>", desc := "()V" } : Jvm.MethodName) "HillSchool") ∈ znest := zmemH (zmj_2 128 rfl) rfl
theorem zw_488 : (Jvm.Cond.fieldLink "HillSchool" (65 : Nat) "HillSchool" "carriers" "LHillSchool$Carriers;") ∈ zall := zmemG (zmj_2 145 rfl) rfl
theorem zw_1154 : (Jvm.Cond.code ({ cls := "HillSchoolModel", name := "<init>", desc := "()V" } : Jvm.MethodName) prog_13_method_1_code (1 : Nat) (Option.none : Option Jvm.ClassFile.FieldType)) ∈ zall := zmemG (zmj_5 91 rfl) rfl
theorem zw_1155 : (Jvm.Cond.methodLink "HillSchoolModel" (1 : Nat) ({ cls := "java/lang/Object", name := "<init>", desc := "()V" } : Jvm.MethodName)) ∈ zall := zmemG (zmj_5 92 rfl) rfl
theorem zw_1156 : (Jvm.Cond.constantLong "HillSchoolModel" (45 : Nat) (3417476 : Int64)) ∈ zall := zmemG (zmj_5 93 rfl) rfl
theorem zw_1157 : (Jvm.Cond.constantLong "HillSchoolModel" (47 : Nat) (674919554696 : Int64)) ∈ zall := zmemG (zmj_5 94 rfl) rfl
theorem zw_1158 : (Jvm.Cond.constantLong "HillSchoolModel" (49 : Nat) (777297172 : Int64)) ∈ zall := zmemG (zmj_5 95 rfl) rfl
theorem zw_1159 : (Jvm.Cond.constantLong "HillSchoolModel" (51 : Nat) (215533 : Int64)) ∈ zall := zmemG (zmj_5 96 rfl) rfl
theorem zw_1160 : (Jvm.Cond.constantLong "HillSchoolModel" (53 : Nat) (655 : Int64)) ∈ zall := zmemG (zmj_5 97 rfl) rfl
theorem zw_1161 : (Jvm.Cond.constantLong "HillSchoolModel" (55 : Nat) (271592 : Int64)) ∈ zall := zmemG (zmj_5 98 rfl) rfl
theorem zw_1162 : (Jvm.Cond.constantLong "HillSchoolModel" (57 : Nat) (12791 : Int64)) ∈ zall := zmemG (zmj_5 99 rfl) rfl
theorem zw_1163 : (Jvm.Cond.constantLong "HillSchoolModel" (59 : Nat) (661069 : Int64)) ∈ zall := zmemG (zmj_5 100 rfl) rfl
theorem zw_1164 : (Jvm.Cond.constant "HillSchoolModel" (86 : Nat) (107520 : Int32)) ∈ zall := zmemG (zmj_5 101 rfl) rfl
theorem zdf_X1 : ∀ j, j < 3 → defaultValue (tyX1 j) = vp_V [.int (Int32.ofInt 0), .null, .null] j := by decide +kernel
theorem zdf_X6 : ∀ j, j < 4 → defaultValue (tyX6 j) = vp_V [.int (Int32.ofInt 0), .int (Int32.ofInt 0), .int (Int32.ofInt 0), .null] j := by decide +kernel
theorem zdf_X2 : ∀ j, j < 14 → defaultValue (tyX2 j) = vp_V [.null, .int (Int32.ofInt 0), .null, .null, .null, .int (Int32.ofInt 0), .null, .null, .null, .int (Int32.ofInt 0), .null, .null, .int (Int32.ofInt 0), .int (Int32.ofInt 0)] j := by decide +kernel
theorem zdf_X4 : ∀ j, j < 7 → defaultValue (tyX4 j) = vp_V [.null, .int (Int32.ofInt 0), .null, .null, .null, .int (Int32.ofInt 0), .int (Int32.ofInt 0)] j := by decide +kernel
theorem zdf_X3 : ∀ j, j < 6 → defaultValue (tyX3 j) = vp_V [.null, .null, .null, .int (Int32.ofInt 0), .int (Int32.ofInt 0), .int (Int32.ofInt 0)] j := by decide +kernel
theorem zdf_X0 : ∀ j, j < 3 → defaultValue (tyX0 j) = vp_V [.null, .null, .null] j := by decide +kernel
theorem zdf_X7 : ∀ j, j < 16 → defaultValue (tyX7 j) = vp_V [.null, .null, .null, .null, .null, .null, .null, .null, .null, .null, .null, .null, .null, .int (Int32.ofInt 0), .int (Int32.ofInt 0), .int (Int32.ofInt 0)] j := by decide +kernel
theorem zdf_X9 : ∀ j, j < 9 → defaultValue (tyX9 j) = vp_V [.null, .null, .null, .null, .null, .int (Int32.ofInt 0), .int (Int32.ofInt 0), .int (Int32.ofInt 0), .int (Int32.ofInt 0)] j := by decide +kernel
theorem zdf_X8 : ∀ j, j < 8 → defaultValue (tyX8 j) = vp_V [.null, .null, .int (Int32.ofInt 0), .int (Int32.ofInt 0), .int (Int32.ofInt 0), .int (Int32.ofInt 0), .int (Int32.ofInt 0), .null] j := by decide +kernel
theorem zdf_X5 : ∀ j, j < 1 → defaultValue (tyX5 j) = vp_V [.null] j := by decide +kernel
