theorem dX4_readTest_0 : decode cX4_readTest 0 = .ok (.iconst (-1), 1) := by decide +kernel
theorem dX4_readTest_1 : decode cX4_readTest 1 = .ok (.istore_n 2, 1) := by decide +kernel
theorem dX4_readTest_2 : decode cX4_readTest 2 = .ok (.iconst (-1), 1) := by decide +kernel
theorem dX4_readTest_3 : decode cX4_readTest 3 = .ok (.istore_n 3, 1) := by decide +kernel
theorem dX4_readTest_4 : decode cX4_readTest 4 = .ok (.iconst 0, 1) := by decide +kernel
theorem dX4_readTest_5 : decode cX4_readTest 5 = .ok (.istore 4, 2) := by decide +kernel
theorem dX4_readTest_7 : decode cX4_readTest 7 = .ok (.iload 4, 2) := by decide +kernel
theorem dX4_readTest_9 : decode cX4_readTest 9 = .ok (.sipush 400, 3) := by decide +kernel
theorem dX4_readTest_12 : decode cX4_readTest 12 = .ok (.if_icmp .ge 70, 3) := by decide +kernel
theorem dX4_readTest_15 : decode cX4_readTest 15 = .ok (.aload_n 0, 1) := by decide +kernel
theorem dX4_readTest_16 : decode cX4_readTest 16 = .ok (.iload_n 1, 1) := by decide +kernel
theorem dX4_readTest_17 : decode cX4_readTest 17 = .ok (.invokevirtual 68, 3) := by decide +kernel
theorem dX4_readTest_20 : decode cX4_readTest 20 = .ok (.ifCond .eq 62, 3) := by decide +kernel
theorem dX4_readTest_23 : decode cX4_readTest 23 = .ok (.aload_n 0, 1) := by decide +kernel
theorem dX4_readTest_24 : decode cX4_readTest 24 = .ok (.iload_n 2, 1) := by decide +kernel
theorem dX4_readTest_25 : decode cX4_readTest 25 = .ok (.invokevirtual 64, 3) := by decide +kernel
theorem dX4_readTest_28 : decode cX4_readTest 28 = .ok (.iconst (-1), 1) := by decide +kernel
theorem dX4_readTest_29 : decode cX4_readTest 29 = .ok (.istore_n 2, 1) := by decide +kernel
theorem dX4_readTest_30 : decode cX4_readTest 30 = .ok (.aload_n 0, 1) := by decide +kernel
theorem dX4_readTest_31 : decode cX4_readTest 31 = .ok (.sipush 264, 3) := by decide +kernel
theorem dX4_readTest_34 : decode cX4_readTest 34 = .ok (.invokevirtual 51, 3) := by decide +kernel
theorem dX4_readTest_37 : decode cX4_readTest 37 = .ok (.ifCond .eq 14, 3) := by decide +kernel
theorem dX4_readTest_40 : decode cX4_readTest 40 = .ok (.aload_n 0, 1) := by decide +kernel
theorem dX4_readTest_41 : decode cX4_readTest 41 = .ok (.bipush 11, 2) := by decide +kernel
theorem dX4_readTest_43 : decode cX4_readTest 43 = .ok (.iconst 0, 1) := by decide +kernel
theorem dX4_readTest_44 : decode cX4_readTest 44 = .ok (.invokevirtual 55, 3) := by decide +kernel
theorem dX4_readTest_47 : decode cX4_readTest 47 = .ok (.istore_n 2, 1) := by decide +kernel
theorem dX4_readTest_48 : decode cX4_readTest 48 = .ok (.goto 28, 3) := by decide +kernel
theorem dX4_readTest_51 : decode cX4_readTest 51 = .ok (.aload_n 0, 1) := by decide +kernel
theorem dX4_readTest_52 : decode cX4_readTest 52 = .ok (.iload_n 3, 1) := by decide +kernel
theorem dX4_readTest_53 : decode cX4_readTest 53 = .ok (.invokevirtual 64, 3) := by decide +kernel
theorem dX4_readTest_56 : decode cX4_readTest 56 = .ok (.aload_n 0, 1) := by decide +kernel
theorem dX4_readTest_57 : decode cX4_readTest 57 = .ok (.sipush 263, 3) := by decide +kernel
theorem dX4_readTest_60 : decode cX4_readTest 60 = .ok (.invokevirtual 51, 3) := by decide +kernel
theorem dX4_readTest_63 : decode cX4_readTest 63 = .ok (.ifCond .ne 5, 3) := by decide +kernel
theorem dX4_readTest_66 : decode cX4_readTest 66 = .ok (.iconst 1, 1) := by decide +kernel
theorem dX4_readTest_67 : decode cX4_readTest 67 = .ok (.ireturn, 1) := by decide +kernel
theorem dX4_readTest_68 : decode cX4_readTest 68 = .ok (.aload_n 0, 1) := by decide +kernel
theorem dX4_readTest_69 : decode cX4_readTest 69 = .ok (.bipush 12, 2) := by decide +kernel
theorem dX4_readTest_71 : decode cX4_readTest 71 = .ok (.iconst 0, 1) := by decide +kernel
theorem dX4_readTest_72 : decode cX4_readTest 72 = .ok (.invokevirtual 55, 3) := by decide +kernel
theorem dX4_readTest_75 : decode cX4_readTest 75 = .ok (.istore_n 3, 1) := by decide +kernel
theorem dX4_readTest_76 : decode cX4_readTest 76 = .ok (.iinc 4 1, 3) := by decide +kernel
theorem dX4_readTest_79 : decode cX4_readTest 79 = .ok (.goto (-72), 3) := by decide +kernel
theorem dX4_readTest_82 : decode cX4_readTest 82 = .ok (.iconst 0, 1) := by decide +kernel
theorem dX4_readTest_83 : decode cX4_readTest 83 = .ok (.ireturn, 1) := by decide +kernel
theorem dX4_readPlain_0 : decode cX4_readPlain 0 = .ok (.iconst 0, 1) := by decide +kernel
theorem dX4_readPlain_1 : decode cX4_readPlain 1 = .ok (.istore_n 2, 1) := by decide +kernel
theorem dX4_readPlain_2 : decode cX4_readPlain 2 = .ok (.iconst 0, 1) := by decide +kernel
theorem dX4_readPlain_3 : decode cX4_readPlain 3 = .ok (.istore_n 3, 1) := by decide +kernel
theorem dX4_readPlain_4 : decode cX4_readPlain 4 = .ok (.iload_n 3, 1) := by decide +kernel
theorem dX4_readPlain_5 : decode cX4_readPlain 5 = .ok (.sipush 400, 3) := by decide +kernel
theorem dX4_readPlain_8 : decode cX4_readPlain 8 = .ok (.if_icmp .ge 29, 3) := by decide +kernel
theorem dX4_readPlain_11 : decode cX4_readPlain 11 = .ok (.aload_n 0, 1) := by decide +kernel
theorem dX4_readPlain_12 : decode cX4_readPlain 12 = .ok (.sipush 265, 3) := by decide +kernel
theorem dX4_readPlain_15 : decode cX4_readPlain 15 = .ok (.invokevirtual 51, 3) := by decide +kernel
theorem dX4_readPlain_18 : decode cX4_readPlain 18 = .ok (.ifCond .eq 19, 3) := by decide +kernel
theorem dX4_readPlain_21 : decode cX4_readPlain 21 = .ok (.iload_n 2, 1) := by decide +kernel
theorem dX4_readPlain_22 : decode cX4_readPlain 22 = .ok (.ifCond .ne 7, 3) := by decide +kernel
theorem dX4_readPlain_25 : decode cX4_readPlain 25 = .ok (.iconst 1, 1) := by decide +kernel
theorem dX4_readPlain_26 : decode cX4_readPlain 26 = .ok (.goto 4, 3) := by decide +kernel
theorem dX4_readPlain_29 : decode cX4_readPlain 29 = .ok (.iconst 0, 1) := by decide +kernel
theorem dX4_readPlain_30 : decode cX4_readPlain 30 = .ok (.istore_n 2, 1) := by decide +kernel
theorem dX4_readPlain_31 : decode cX4_readPlain 31 = .ok (.iinc 3 1, 3) := by decide +kernel
theorem dX4_readPlain_34 : decode cX4_readPlain 34 = .ok (.goto (-30), 3) := by decide +kernel
theorem dX4_readPlain_37 : decode cX4_readPlain 37 = .ok (.aload_n 0, 1) := by decide +kernel
theorem dX4_readPlain_38 : decode cX4_readPlain 38 = .ok (.getfield 19, 3) := by decide +kernel
theorem dX4_readPlain_41 : decode cX4_readPlain 41 = .ok (.aload_n 0, 1) := by decide +kernel
theorem dX4_readPlain_42 : decode cX4_readPlain 42 = .ok (.getfield 28, 3) := by decide +kernel
theorem dX4_readPlain_45 : decode cX4_readPlain 45 = .ok (.iaload, 1) := by decide +kernel
theorem dX4_readPlain_46 : decode cX4_readPlain 46 = .ok (.bipush 40, 2) := by decide +kernel
theorem dX4_readPlain_48 : decode cX4_readPlain 48 = .ok (.if_icmp .ne 39, 3) := by decide +kernel
theorem dX4_readPlain_51 : decode cX4_readPlain 51 = .ok (.iload_n 1, 1) := by decide +kernel
theorem dX4_readPlain_52 : decode cX4_readPlain 52 = .ok (.bipush 8, 2) := by decide +kernel
theorem dX4_readPlain_54 : decode cX4_readPlain 54 = .ok (.if_icmp .ge 31, 3) := by decide +kernel
theorem dX4_readPlain_57 : decode cX4_readPlain 57 = .ok (.aload_n 0, 1) := by decide +kernel
theorem dX4_readPlain_58 : decode cX4_readPlain 58 = .ok (.bipush 40, 2) := by decide +kernel
theorem dX4_readPlain_60 : decode cX4_readPlain 60 = .ok (.invokevirtual 51, 3) := by decide +kernel
theorem dX4_readPlain_63 : decode cX4_readPlain 63 = .ok (.ifCond .eq 22, 3) := by decide +kernel
theorem dX4_readPlain_66 : decode cX4_readPlain 66 = .ok (.aload_n 0, 1) := by decide +kernel
theorem dX4_readPlain_67 : decode cX4_readPlain 67 = .ok (.iload_n 1, 1) := by decide +kernel
theorem dX4_readPlain_68 : decode cX4_readPlain 68 = .ok (.iconst 1, 1) := by decide +kernel
theorem dX4_readPlain_69 : decode cX4_readPlain 69 = .ok (.iadd, 1) := by decide +kernel
theorem dX4_readPlain_70 : decode cX4_readPlain 70 = .ok (.invokevirtual 61, 3) := by decide +kernel
theorem dX4_readPlain_73 : decode cX4_readPlain 73 = .ok (.ifCond .eq 12, 3) := by decide +kernel
theorem dX4_readPlain_76 : decode cX4_readPlain 76 = .ok (.aload_n 0, 1) := by decide +kernel
theorem dX4_readPlain_77 : decode cX4_readPlain 77 = .ok (.bipush 41, 2) := by decide +kernel
theorem dX4_readPlain_79 : decode cX4_readPlain 79 = .ok (.invokevirtual 51, 3) := by decide +kernel
theorem dX4_readPlain_82 : decode cX4_readPlain 82 = .ok (.ifCond .ne 66, 3) := by decide +kernel
theorem dX4_readPlain_85 : decode cX4_readPlain 85 = .ok (.iconst 0, 1) := by decide +kernel
theorem dX4_readPlain_86 : decode cX4_readPlain 86 = .ok (.ireturn, 1) := by decide +kernel
theorem dX4_readPlain_87 : decode cX4_readPlain 87 = .ok (.aload_n 0, 1) := by decide +kernel
theorem dX4_readPlain_88 : decode cX4_readPlain 88 = .ok (.iload_n 1, 1) := by decide +kernel
theorem dX4_readPlain_89 : decode cX4_readPlain 89 = .ok (.invokevirtual 58, 3) := by decide +kernel
theorem dX4_readPlain_92 : decode cX4_readPlain 92 = .ok (.ifCond .ne 5, 3) := by decide +kernel
theorem dX4_readPlain_95 : decode cX4_readPlain 95 = .ok (.iconst 0, 1) := by decide +kernel
theorem dX4_readPlain_96 : decode cX4_readPlain 96 = .ok (.ireturn, 1) := by decide +kernel
theorem dX4_readPlain_97 : decode cX4_readPlain 97 = .ok (.aload_n 0, 1) := by decide +kernel
theorem dX4_readPlain_98 : decode cX4_readPlain 98 = .ok (.getfield 19, 3) := by decide +kernel
theorem dX4_readPlain_101 : decode cX4_readPlain 101 = .ok (.aload_n 0, 1) := by decide +kernel
theorem dX4_readPlain_102 : decode cX4_readPlain 102 = .ok (.getfield 28, 3) := by decide +kernel
theorem dX4_readPlain_105 : decode cX4_readPlain 105 = .ok (.iaload, 1) := by decide +kernel
theorem dX4_readPlain_106 : decode cX4_readPlain 106 = .ok (.invokestatic 71, 3) := by decide +kernel
theorem dX4_readPlain_109 : decode cX4_readPlain 109 = .ok (.istore_n 3, 1) := by decide +kernel
theorem dX4_readPlain_110 : decode cX4_readPlain 110 = .ok (.iload_n 3, 1) := by decide +kernel
theorem dX4_readPlain_111 : decode cX4_readPlain 111 = .ok (.iconst (-1), 1) := by decide +kernel
theorem dX4_readPlain_112 : decode cX4_readPlain 112 = .ok (.if_icmp .eq 27, 3) := by decide +kernel
theorem dX4_readPlain_115 : decode cX4_readPlain 115 = .ok (.aload_n 0, 1) := by decide +kernel
theorem dX4_readPlain_116 : decode cX4_readPlain 116 = .ok (.aload_n 0, 1) := by decide +kernel
theorem dX4_readPlain_117 : decode cX4_readPlain 117 = .ok (.getfield 19, 3) := by decide +kernel
theorem dX4_readPlain_120 : decode cX4_readPlain 120 = .ok (.aload_n 0, 1) := by decide +kernel
theorem dX4_readPlain_121 : decode cX4_readPlain 121 = .ok (.getfield 28, 3) := by decide +kernel
theorem dX4_readPlain_124 : decode cX4_readPlain 124 = .ok (.iaload, 1) := by decide +kernel
theorem dX4_readPlain_125 : decode cX4_readPlain 125 = .ok (.invokevirtual 51, 3) := by decide +kernel
theorem dX4_readPlain_128 : decode cX4_readPlain 128 = .ok (.ifCond .eq 11, 3) := by decide +kernel
theorem dX4_readPlain_131 : decode cX4_readPlain 131 = .ok (.aload_n 0, 1) := by decide +kernel
theorem dX4_readPlain_132 : decode cX4_readPlain 132 = .ok (.iload_n 1, 1) := by decide +kernel
theorem dX4_readPlain_133 : decode cX4_readPlain 133 = .ok (.invokevirtual 58, 3) := by decide +kernel
theorem dX4_readPlain_136 : decode cX4_readPlain 136 = .ok (.ifCond .ne 5, 3) := by decide +kernel
theorem dX4_readPlain_139 : decode cX4_readPlain 139 = .ok (.iconst 0, 1) := by decide +kernel
theorem dX4_readPlain_140 : decode cX4_readPlain 140 = .ok (.ireturn, 1) := by decide +kernel
theorem dX4_readPlain_141 : decode cX4_readPlain 141 = .ok (.aload_n 0, 1) := by decide +kernel
theorem dX4_readPlain_142 : decode cX4_readPlain 142 = .ok (.iload_n 3, 1) := by decide +kernel
theorem dX4_readPlain_143 : decode cX4_readPlain 143 = .ok (.iconst 0, 1) := by decide +kernel
theorem dX4_readPlain_144 : decode cX4_readPlain 144 = .ok (.invokevirtual 55, 3) := by decide +kernel
theorem dX4_readPlain_147 : decode cX4_readPlain 147 = .ok (.pop, 1) := by decide +kernel
theorem dX4_readPlain_148 : decode cX4_readPlain 148 = .ok (.iload_n 2, 1) := by decide +kernel
theorem dX4_readPlain_149 : decode cX4_readPlain 149 = .ok (.ifCond .eq 11, 3) := by decide +kernel
theorem dX4_readPlain_152 : decode cX4_readPlain 152 = .ok (.aload_n 0, 1) := by decide +kernel
theorem dX4_readPlain_153 : decode cX4_readPlain 153 = .ok (.bipush 10, 2) := by decide +kernel
theorem dX4_readPlain_155 : decode cX4_readPlain 155 = .ok (.iconst 0, 1) := by decide +kernel
theorem dX4_readPlain_156 : decode cX4_readPlain 156 = .ok (.invokevirtual 55, 3) := by decide +kernel
theorem dX4_readPlain_159 : decode cX4_readPlain 159 = .ok (.pop, 1) := by decide +kernel
theorem dX4_readPlain_160 : decode cX4_readPlain 160 = .ok (.iconst 1, 1) := by decide +kernel
theorem dX4_readPlain_161 : decode cX4_readPlain 161 = .ok (.ireturn, 1) := by decide +kernel
theorem zw_10 : (Jvm.Cond.selects "HillSchool$LawReader" ({ cls := "HillSchool$LawReader", name := "readTest", desc := "(I)Z" } : Jvm.MethodName) ({ cls := "HillSchool$LawReader", name := "readTest", desc := "(I)Z" } : Jvm.MethodName)) ∈ zall := zmemG (zmj_0 10 rfl) rfl
theorem zw_11 : (Jvm.Cond.selects "HillSchool$LawReader" ({ cls := "HillSchool$LawReader", name := "readPlain", desc := "(I)Z" } : Jvm.MethodName) ({ cls := "HillSchool$LawReader", name := "readPlain", desc := "(I)Z" } : Jvm.MethodName)) ∈ zall := zmemG (zmj_0 11 rfl) rfl
theorem zw_12 : (Jvm.Cond.selects "HillSchool$LawReader" ({ cls := "HillSchool$LawReader", name := "aimHere", desc := "(I)V" } : Jvm.MethodName) ({ cls := "HillSchool$LawReader", name := "aimHere", desc := "(I)V" } : Jvm.MethodName)) ∈ zall := zmemG (zmj_0 12 rfl) rfl
theorem zw_764 : (Jvm.Cond.methodLink "HillSchool$LawReader" (61 : Nat) ({ cls := "HillSchool$LawReader", name := "readTest", desc := "(I)Z" } : Jvm.MethodName)) ∈ zall := zmemG (zmj_3 181 rfl) rfl
theorem zw_766 : (Jvm.Cond.instanceMethod ({ cls := "HillSchool$LawReader", name := "readTest", desc := "(I)Z" } : Jvm.MethodName)) ∈ zall := zmemG (zmj_3 183 rfl) rfl
theorem zw_767 : (Jvm.Cond.code ({ cls := "HillSchool$LawReader", name := "readTest", desc := "(I)Z" } : Jvm.MethodName) prog_6_method_4_code (5 : Nat) (Option.some Jvm.ClassFile.FieldType.boolean)) ∈ zall := zmemG (zmj_3 184 rfl) rfl
theorem zw_768 : (Jvm.Cond.methodLink "HillSchool$LawReader" (68 : Nat) ({ cls := "HillSchool$LawReader", name := "readPlain", desc := "(I)Z" } : Jvm.MethodName)) ∈ zall := zmemG (zmj_3 185 rfl) rfl
theorem zw_770 : (Jvm.Cond.instanceMethod ({ cls := "HillSchool$LawReader", name := "readPlain", desc := "(I)Z" } : Jvm.MethodName)) ∈ zall := zmemG (zmj_3 187 rfl) rfl
theorem zw_771 : (Jvm.Cond.code ({ cls := "HillSchool$LawReader", name := "readPlain", desc := "(I)Z" } : Jvm.MethodName) prog_6_method_5_code (4 : Nat) (Option.some Jvm.ClassFile.FieldType.boolean)) ∈ zall := zmemG (zmj_3 188 rfl) rfl
theorem zw_772 : (Jvm.Cond.methodLink "HillSchool$LawReader" (71 : Nat) ({ cls := "HillSchool$LawReader", name := "comparisonOf", desc := "(I)I" } : Jvm.MethodName)) ∈ zall := zmemG (zmj_3 189 rfl) rfl
theorem zw_773 : (Jvm.Cond.static ({ cls := "HillSchool$LawReader", name := "comparisonOf", desc := "(I)I" } : Jvm.MethodName)) ∈ zall := zmemG (zmj_3 190 rfl) rfl
theorem zw_775 : (Jvm.Cond.methodLink "HillSchool$LawReader" (64 : Nat) ({ cls := "HillSchool$LawReader", name := "aimHere", desc := "(I)V" } : Jvm.MethodName)) ∈ zall := zmemG (zmj_3 192 rfl) rfl
theorem zw_777 : (Jvm.Cond.instanceMethod ({ cls := "HillSchool$LawReader", name := "aimHere", desc := "(I)V" } : Jvm.MethodName)) ∈ zall := zmemG (zmj_3 194 rfl) rfl
def rmr_LawReader_readTest (n : Nat) : Room := { frames := 66 + n, cells := 0, slots := 0, locals := 1582 + 24 * n }
abbrev w_LawReader_readTest : List Cond := .code yX4_readTest cX4_readTest 5 (some .boolean) :: zall
abbrev rm_LawReader_readTest : Room := rmr_LawReader_readTest zdp
theorem hd_LawReader_readTest : yX4_readTest.cls = "HillSchool$LawReader" ∧ yX4_readTest.cls ≠ "java/lang/invoke/MethodHandle" ∧ yX4_readTest.cls ≠ "java/lang/invoke/VarHandle" ∧ (parseMethodDescriptor yX4_readTest.desc).map (fun d => d.parameters.length) = some 1 := by decide +kernel
def wd_LawReader_readTest (cA : Nat → ClassId) (q0 q1 q2 q3 q4 : Nat) (i_tokens : Nat → Int) (i_values : Nat → Int) (i_ordered : Int) (i_at : Int) (i_parts : Int) (i_orders : Nat → Int) : va_W := [(q0, .inr (4, [.ref q1, .int (Int32.ofInt i_ordered), .ref q2, .ref q3, .ref q4, .int (Int32.ofInt i_at), .int (Int32.ofInt i_parts)])), (q1, .inl (cA 0, 424, .inl (za i_orders))), (q2, .inl (cA 0, 401, .inl (za i_tokens))), (q4, .inl (cA 0, 401, .inl (za i_values)))]
def wf_LawReader_readTest (cA : Nat → ClassId) (q0 q1 q2 q3 q4 : Nat) (i_tokens : Nat → Int) (i_values : Nat → Int) (o : Int × Int × Int × Int × (Nat → Int)) : va_W := wd_LawReader_readTest cA q0 q1 q2 q3 q4 i_tokens i_values o.2.1 o.2.2.1 o.2.2.2.1 o.2.2.2.2
abbrev w_LawReader_readPlain : List Cond := .code yX4_readPlain cX4_readPlain 4 (some .boolean) :: zall
abbrev rm_LawReader_readPlain : Room := rmr_LawReader_readTest zdp
theorem hd_LawReader_readPlain : yX4_readPlain.cls = "HillSchool$LawReader" ∧ yX4_readPlain.cls ≠ "java/lang/invoke/MethodHandle" ∧ yX4_readPlain.cls ≠ "java/lang/invoke/VarHandle" ∧ (parseMethodDescriptor yX4_readPlain.desc).map (fun d => d.parameters.length) = some 1 := by decide +kernel
def wd_LawReader_readPlain (cA : Nat → ClassId) (q0 q1 q2 q3 q4 : Nat) (i_tokens : Nat → Int) (i_values : Nat → Int) (i_ordered : Int) (i_at : Int) (i_parts : Int) (i_orders : Nat → Int) : va_W := [(q0, .inr (4, [.ref q1, .int (Int32.ofInt i_ordered), .ref q2, .ref q3, .ref q4, .int (Int32.ofInt i_at), .int (Int32.ofInt i_parts)])), (q1, .inl (cA 0, 424, .inl (za i_orders))), (q2, .inl (cA 0, 401, .inl (za i_tokens))), (q4, .inl (cA 0, 401, .inl (za i_values)))]
def wf_LawReader_readPlain (cA : Nat → ClassId) (q0 q1 q2 q3 q4 : Nat) (i_tokens : Nat → Int) (i_values : Nat → Int) (o : Int × Int × Int × Int × (Nat → Int)) : va_W := wd_LawReader_readPlain cA q0 q1 q2 q3 q4 i_tokens i_values o.2.1 o.2.2.1 o.2.2.2.1 o.2.2.2.2
def f_LawReader_readTest_76 (r_LawReader_readTest : Int → (Nat → Int) → (Nat → Int) → Int → Int → Int → (Nat → Int) → Option (Int × Int × Int × Int × (Nat → Int))) (r_LawReader_readPlain : Int → (Nat → Int) → (Nat → Int) → Int → Int → Int → (Nat → Int) → Option (Int × Int × Int × Int × (Nat → Int))) (i_tokens : Nat → Int) (i_values : Nat → Int) (k7 : Int → Int → Int → Int → Int → Int → Int → (Nat → Int) → Option (Int × Int × Int × Int × (Nat → Int))) (x1 : Int) (x2 : Int) (x3 : Int) (x4 : Int) (i_ordered : Int) (i_at : Int) (i_parts : Int) (i_orders : Nat → Int) : Option (Int × Int × Int × Int × (Nat → Int)) :=
  zn (x4 + 1) fun v1 =>
  k7 x1 x2 x3 v1 i_ordered i_at i_parts i_orders
def f_LawReader_readTest_7_b (r_LawReader_readTest : Int → (Nat → Int) → (Nat → Int) → Int → Int → Int → (Nat → Int) → Option (Int × Int × Int × Int × (Nat → Int))) (r_LawReader_readPlain : Int → (Nat → Int) → (Nat → Int) → Int → Int → Int → (Nat → Int) → Option (Int × Int × Int × Int × (Nat → Int))) (i_tokens : Nat → Int) (i_values : Nat → Int) (k7 : Int → Int → Int → Int → Int → Int → Int → (Nat → Int) → Option (Int × Int × Int × Int × (Nat → Int))) (x1 : Int) (x2 : Int) (x3 : Int) (x4 : Int) (i_ordered : Int) (i_at : Int) (i_parts : Int) (i_orders : Nat → Int) : Option (Int × Int × Int × Int × (Nat → Int)) :=
  if zi_w 400 ≤ zi_w x4 then
    some (0, i_ordered, i_at, i_parts, i_orders)
  else
    zd5 (r_LawReader_readPlain x1 i_tokens i_values i_ordered i_at i_parts i_orders) fun v1 v2 v3 v4 a5 =>
    if zi_w v1 = 0 then
      some (0, v2, v3, v4, a5)
    else
      zd1 (f_LawReader_aimHere x2 v2 a5) fun a6 =>
      zd2 (f_LawReader_pass 264 i_tokens v3) fun v7 v8 =>
      if zi_w v7 = 0 then
        zd1 (f_LawReader_aimHere x3 v2 a6) fun a9 =>
        zd2 (f_LawReader_pass 263 i_tokens v8) fun v10 v11 =>
        if zi_w v10 ≠ 0 then
          zd3 (f_LawReader_order 12 0 v2 a9) fun v12 v13 a14 =>
          f_LawReader_readTest_76 r_LawReader_readTest r_LawReader_readPlain i_tokens i_values k7 x1 (-1) v12 x4 v13 v11 v4 a14
        else
          some (1, v2, v11, v4, a9)
      else
        zd3 (f_LawReader_order 11 0 v2 a6) fun v15 v16 a17 =>
        f_LawReader_readTest_76 r_LawReader_readTest r_LawReader_readPlain i_tokens i_values k7 x1 v15 x3 x4 v16 v8 v4 a17
def f_LawReader_readTest_7 (r_LawReader_readTest : Int → (Nat → Int) → (Nat → Int) → Int → Int → Int → (Nat → Int) → Option (Int × Int × Int × Int × (Nat → Int))) (r_LawReader_readPlain : Int → (Nat → Int) → (Nat → Int) → Int → Int → Int → (Nat → Int) → Option (Int × Int × Int × Int × (Nat → Int))) (i_tokens : Nat → Int) (i_values : Nat → Int) : Nat → Int → Int → Int → Int → Int → Int → Int → (Nat → Int) → Option (Int × Int × Int × Int × (Nat → Int))
  | 0 => fun _ _ _ _ _ _ _ _ => none
  | n + 1 => fun y0 y1 y2 y3 y4 y5 y6 y7 => f_LawReader_readTest_7_b r_LawReader_readTest r_LawReader_readPlain i_tokens i_values (f_LawReader_readTest_7 r_LawReader_readTest r_LawReader_readPlain i_tokens i_values n) y0 y1 y2 y3 y4 y5 y6 y7
def fb_LawReader_readTest (r_LawReader_readTest : Int → (Nat → Int) → (Nat → Int) → Int → Int → Int → (Nat → Int) → Option (Int × Int × Int × Int × (Nat → Int))) (r_LawReader_readPlain : Int → (Nat → Int) → (Nat → Int) → Int → Int → Int → (Nat → Int) → Option (Int × Int × Int × Int × (Nat → Int))) (x1 : Int) (i_tokens : Nat → Int) (i_values : Nat → Int) (i_ordered : Int) (i_at : Int) (i_parts : Int) (i_orders : Nat → Int) : Option (Int × Int × Int × Int × (Nat → Int)) :=
  f_LawReader_readTest_7 r_LawReader_readTest r_LawReader_readPlain i_tokens i_values zfu x1 (-1) (-1) 0 i_ordered i_at i_parts i_orders
def f_LawReader_readPlain_148 (r_LawReader_readTest : Int → (Nat → Int) → (Nat → Int) → Int → Int → Int → (Nat → Int) → Option (Int × Int × Int × Int × (Nat → Int))) (r_LawReader_readPlain : Int → (Nat → Int) → (Nat → Int) → Int → Int → Int → (Nat → Int) → Option (Int × Int × Int × Int × (Nat → Int))) (i_tokens : Nat → Int) (i_values : Nat → Int) (x2 : Int) (i_ordered : Int) (i_at : Int) (i_parts : Int) (i_orders : Nat → Int) : Option (Int × Int × Int × Int × (Nat → Int)) :=
  if zi_w x2 = 0 then
    some (1, i_ordered, i_at, i_parts, i_orders)
  else
    zd3 (f_LawReader_order 10 0 i_ordered i_orders) fun v1 v2 a3 =>
    some (1, v2, i_at, i_parts, a3)
def f_LawReader_readPlain_37 (r_LawReader_readTest : Int → (Nat → Int) → (Nat → Int) → Int → Int → Int → (Nat → Int) → Option (Int × Int × Int × Int × (Nat → Int))) (r_LawReader_readPlain : Int → (Nat → Int) → (Nat → Int) → Int → Int → Int → (Nat → Int) → Option (Int × Int × Int × Int × (Nat → Int))) (i_tokens : Nat → Int) (i_values : Nat → Int) (x1 : Int) (x2 : Int) (i_ordered : Int) (i_at : Int) (i_parts : Int) (i_orders : Nat → Int) : Option (Int × Int × Int × Int × (Nat → Int)) :=
  zg 401 i_tokens i_at fun v1 =>
  if zi_w v1 ≠ zi_w 40 then
    zd5 (f_LawReader_readSum x1 i_tokens i_values i_ordered i_at i_parts i_orders) fun v2 v3 v4 v5 a6 =>
    if zi_w v2 ≠ 0 then
      zg 401 i_tokens v4 fun v7 =>
      zd1 (f_LawReader_comparisonOf v7) fun v8 =>
      if zi_w v8 = zi_w (-1) then
        some (0, v3, v4, v5, a6)
      else
        zg 401 i_tokens v4 fun v9 =>
        zd2 (f_LawReader_pass v9 i_tokens v4) fun v10 v11 =>
        if zi_w v10 = 0 then
          some (0, v3, v11, v5, a6)
        else
          zd5 (f_LawReader_readSum x1 i_tokens i_values v3 v11 v5 a6) fun v12 v13 v14 v15 a16 =>
          if zi_w v12 ≠ 0 then
            zd3 (f_LawReader_order v8 0 v13 a16) fun v17 v18 a19 =>
            f_LawReader_readPlain_148 r_LawReader_readTest r_LawReader_readPlain i_tokens i_values x2 v18 v14 v15 a19
          else
            some (0, v13, v14, v15, a16)
    else
      some (0, v3, v4, v5, a6)
  else
    if zi_w 8 ≤ zi_w x1 then
      some (0, i_ordered, i_at, i_parts, i_orders)
    else
      zd2 (f_LawReader_pass 40 i_tokens i_at) fun v20 v21 =>
      if zi_w v20 = 0 then
        some (0, i_ordered, v21, i_parts, i_orders)
      else
        zn (x1 + 1) fun v22 =>
        zd5 (r_LawReader_readTest v22 i_tokens i_values i_ordered v21 i_parts i_orders) fun v23 v24 v25 v26 a27 =>
        if zi_w v23 = 0 then
          some (0, v24, v25, v26, a27)
        else
          zd2 (f_LawReader_pass 41 i_tokens v25) fun v28 v29 =>
          if zi_w v28 ≠ 0 then
            f_LawReader_readPlain_148 r_LawReader_readTest r_LawReader_readPlain i_tokens i_values x2 v24 v29 v26 a27
          else
            some (0, v24, v29, v26, a27)
def f_LawReader_readPlain_30 (r_LawReader_readTest : Int → (Nat → Int) → (Nat → Int) → Int → Int → Int → (Nat → Int) → Option (Int × Int × Int × Int × (Nat → Int))) (r_LawReader_readPlain : Int → (Nat → Int) → (Nat → Int) → Int → Int → Int → (Nat → Int) → Option (Int × Int × Int × Int × (Nat → Int))) (i_tokens : Nat → Int) (i_values : Nat → Int) (k4 : Int → Int → Int → Int → Int → Int → (Nat → Int) → Option (Int × Int × Int × Int × (Nat → Int))) (x1 : Int) (x3 : Int) (s0 : Int) (i_ordered : Int) (i_at : Int) (i_parts : Int) (i_orders : Nat → Int) : Option (Int × Int × Int × Int × (Nat → Int)) :=
  zn (x3 + 1) fun v1 =>
  k4 x1 s0 v1 i_ordered i_at i_parts i_orders
def f_LawReader_readPlain_4_b (r_LawReader_readTest : Int → (Nat → Int) → (Nat → Int) → Int → Int → Int → (Nat → Int) → Option (Int × Int × Int × Int × (Nat → Int))) (r_LawReader_readPlain : Int → (Nat → Int) → (Nat → Int) → Int → Int → Int → (Nat → Int) → Option (Int × Int × Int × Int × (Nat → Int))) (i_tokens : Nat → Int) (i_values : Nat → Int) (k4 : Int → Int → Int → Int → Int → Int → (Nat → Int) → Option (Int × Int × Int × Int × (Nat → Int))) (x1 : Int) (x2 : Int) (x3 : Int) (i_ordered : Int) (i_at : Int) (i_parts : Int) (i_orders : Nat → Int) : Option (Int × Int × Int × Int × (Nat → Int)) :=
  if zi_w 400 ≤ zi_w x3 then
    f_LawReader_readPlain_37 r_LawReader_readTest r_LawReader_readPlain i_tokens i_values x1 x2 i_ordered i_at i_parts i_orders
  else
    zd2 (f_LawReader_pass 265 i_tokens i_at) fun v1 v2 =>
    if zi_w v1 = 0 then
      f_LawReader_readPlain_37 r_LawReader_readTest r_LawReader_readPlain i_tokens i_values x1 x2 i_ordered v2 i_parts i_orders
    else
      if zi_w x2 ≠ 0 then
        f_LawReader_readPlain_30 r_LawReader_readTest r_LawReader_readPlain i_tokens i_values k4 x1 x3 0 i_ordered v2 i_parts i_orders
      else
        f_LawReader_readPlain_30 r_LawReader_readTest r_LawReader_readPlain i_tokens i_values k4 x1 x3 1 i_ordered v2 i_parts i_orders
def f_LawReader_readPlain_4 (r_LawReader_readTest : Int → (Nat → Int) → (Nat → Int) → Int → Int → Int → (Nat → Int) → Option (Int × Int × Int × Int × (Nat → Int))) (r_LawReader_readPlain : Int → (Nat → Int) → (Nat → Int) → Int → Int → Int → (Nat → Int) → Option (Int × Int × Int × Int × (Nat → Int))) (i_tokens : Nat → Int) (i_values : Nat → Int) : Nat → Int → Int → Int → Int → Int → Int → (Nat → Int) → Option (Int × Int × Int × Int × (Nat → Int))
  | 0 => fun _ _ _ _ _ _ _ => none
  | n + 1 => fun y0 y1 y2 y3 y4 y5 y6 => f_LawReader_readPlain_4_b r_LawReader_readTest r_LawReader_readPlain i_tokens i_values (f_LawReader_readPlain_4 r_LawReader_readTest r_LawReader_readPlain i_tokens i_values n) y0 y1 y2 y3 y4 y5 y6
def fb_LawReader_readPlain (r_LawReader_readTest : Int → (Nat → Int) → (Nat → Int) → Int → Int → Int → (Nat → Int) → Option (Int × Int × Int × Int × (Nat → Int))) (r_LawReader_readPlain : Int → (Nat → Int) → (Nat → Int) → Int → Int → Int → (Nat → Int) → Option (Int × Int × Int × Int × (Nat → Int))) (x1 : Int) (i_tokens : Nat → Int) (i_values : Nat → Int) (i_ordered : Int) (i_at : Int) (i_parts : Int) (i_orders : Nat → Int) : Option (Int × Int × Int × Int × (Nat → Int)) :=
  f_LawReader_readPlain_4 r_LawReader_readTest r_LawReader_readPlain i_tokens i_values zfu x1 0 0 i_ordered i_at i_parts i_orders
def g_LawReader_readTest : Nat → (Int → (Nat → Int) → (Nat → Int) → Int → Int → Int → (Nat → Int) → Option (Int × Int × Int × Int × (Nat → Int))) × (Int → (Nat → Int) → (Nat → Int) → Int → Int → Int → (Nat → Int) → Option (Int × Int × Int × Int × (Nat → Int)))
  | 0 => (fun _ _ _ _ _ _ _ => none, fun _ _ _ _ _ _ _ => none)
  | n + 1 => (fb_LawReader_readTest (g_LawReader_readTest n).1 (g_LawReader_readTest n).2, fb_LawReader_readPlain (g_LawReader_readTest n).1 (g_LawReader_readTest n).2)
def f_LawReader_readTest (x1 : Int) (i_tokens : Nat → Int) (i_values : Nat → Int) (i_ordered : Int) (i_at : Int) (i_parts : Int) (i_orders : Nat → Int) : Option (Int × Int × Int × Int × (Nat → Int)) := (g_LawReader_readTest zdp).1 x1 i_tokens i_values i_ordered i_at i_parts i_orders
def f_LawReader_readPlain (x1 : Int) (i_tokens : Nat → Int) (i_values : Nat → Int) (i_ordered : Int) (i_at : Int) (i_parts : Int) (i_orders : Nat → Int) : Option (Int × Int × Int × Int × (Nat → Int)) := (g_LawReader_readTest zdp).2 x1 i_tokens i_values i_ordered i_at i_parts i_orders
set_option maxHeartbeats 4000000 in
set_option maxRecDepth 100000 in
theorem cb_LawReader_readTest (l : Launch) (ev : zEv) (dC : Nat → ClassId) (dI : Nat → Nat → Nat) (cA : Nat → ClassId) (dp : Nat) (r_LawReader_readTest : Int → (Nat → Int) → (Nat → Int) → Int → Int → Int → (Nat → Int) → Option (Int × Int × Int × Int × (Nat → Int))) (r_LawReader_readPlain : Int → (Nat → Int) → (Nat → Int) → Int → Int → Int → (Nat → Int) → Option (Int × Int × Int × Int × (Nat → Int))) (h_LawReader_readTest : ∀ (q0 q1 q2 q3 q4 : Nat) (x1 : Int) (i_tokens : Nat → Int) (i_values : Nat → Int) (i_ordered : Int) (i_at : Int) (i_parts : Int) (i_orders : Nat → Int) (out : Int × Int × Int × Int × (Nat → Int)), r_LawReader_readTest x1 i_tokens i_values i_ordered i_at i_parts i_orders = some out → xc_I l ev (dC, dI) vwCl (tyl cA) yX4_readTest w_LawReader_readTest (rmr_LawReader_readTest dp) [.ref q0, .int (Int32.ofInt x1)] (wd_LawReader_readTest cA q0 q1 q2 q3 q4 i_tokens i_values i_ordered i_at i_parts i_orders) (wf_LawReader_readTest cA q0 q1 q2 q3 q4 i_tokens i_values out) out.1) (h_LawReader_readPlain : ∀ (q0 q1 q2 q3 q4 : Nat) (x1 : Int) (i_tokens : Nat → Int) (i_values : Nat → Int) (i_ordered : Int) (i_at : Int) (i_parts : Int) (i_orders : Nat → Int) (out : Int × Int × Int × Int × (Nat → Int)), r_LawReader_readPlain x1 i_tokens i_values i_ordered i_at i_parts i_orders = some out → xc_I l ev (dC, dI) vwCl (tyl cA) yX4_readPlain w_LawReader_readPlain (rmr_LawReader_readTest dp) [.ref q0, .int (Int32.ofInt x1)] (wd_LawReader_readPlain cA q0 q1 q2 q3 q4 i_tokens i_values i_ordered i_at i_parts i_orders) (wf_LawReader_readPlain cA q0 q1 q2 q3 q4 i_tokens i_values out) out.1) : ∀ (q0 q1 q2 q3 q4 : Nat) (x1 : Int) (i_tokens : Nat → Int) (i_values : Nat → Int) (i_ordered : Int) (i_at : Int) (i_parts : Int) (i_orders : Nat → Int) (out : Int × Int × Int × Int × (Nat → Int)), fb_LawReader_readTest r_LawReader_readTest r_LawReader_readPlain x1 i_tokens i_values i_ordered i_at i_parts i_orders = some out → xc_I l ev (dC, dI) vwCl (tyl cA) yX4_readTest w_LawReader_readTest (rmr_LawReader_readTest (dp + 1)) [.ref q0, .int (Int32.ofInt x1)] (wd_LawReader_readTest cA q0 q1 q2 q3 q4 i_tokens i_values i_ordered i_at i_parts i_orders) (wf_LawReader_readTest cA q0 q1 q2 q3 q4 i_tokens i_values out) out.1 := by
  intro q0 q1 q2 q3 q4 x1 i_tokens i_values i_ordered i_at i_parts i_orders out hf
  refine xv_startI (cc := cX4_readTest) (maxL := 5) (rt := .boolean) (by decide +kernel) rfl (Nat.le_of_ble_eq_true rfl) ?_
  intro p e s m args below meth c A Q H ls hx hb hml hts hown hK hA hP hD hS hl hE hret
  have hown : s.vm.findClass "HillSchool$LawReader" = some m.cls := hown
  have hz : ∀ w ∈ zall, w.before args s = true := fun w h => hts w (List.mem_cons_of_mem _ h)
  have hl : lv_has ls 5 [(0, .ref q0), (1, .int (Int32.ofInt x1))] := hl
  have b_76 : ∀ (k7 : Int → Int → Int → Int → Int → Int → Int → (Nat → Int) → Option (Int × Int × Int × Int × (Nat → Int))) (_ : ∀ (x1 : Int) (x2 : Int) (x3 : Int) (x4 : Int) (i_ordered : Int) (i_at : Int) (i_parts : Int) (i_orders : Nat → Int) (H : Heap) (locs : List Loc) (ls : Array Slot), k7 x1 x2 x3 x4 i_ordered i_at i_parts i_orders = some out → va_P (dC, dI) vwCl (wd_LawReader_readTest cA q0 q1 q2 q3 q4 i_tokens i_values i_ordered i_at i_parts i_orders) H → va_D A (wd_LawReader_readTest cA q0 q1 q2 q3 q4 i_tokens i_values i_ordered i_at i_parts i_orders) → va_S A s.heap H locs → lv_has ls 5 [(0, .ref q0), (1, .int (Int32.ofInt x1)), (2, .int (Int32.ofInt x2)), (3, .int (Int32.ofInt x3)), (4, .int (Int32.ofInt x4))] → W p l e (rmr_LawReader_readTest (dp + 1)) s m args below meth c H locs 0 0 Q (F0 m 7 ls [])), ∀ (x1 : Int) (x2 : Int) (x3 : Int) (x4 : Int) (i_ordered : Int) (i_at : Int) (i_parts : Int) (i_orders : Nat → Int) (H : Heap) (locs : List Loc) (ls : Array Slot), f_LawReader_readTest_76 r_LawReader_readTest r_LawReader_readPlain i_tokens i_values k7 x1 x2 x3 x4 i_ordered i_at i_parts i_orders = some out → va_P (dC, dI) vwCl (wd_LawReader_readTest cA q0 q1 q2 q3 q4 i_tokens i_values i_ordered i_at i_parts i_orders) H → va_D A (wd_LawReader_readTest cA q0 q1 q2 q3 q4 i_tokens i_values i_ordered i_at i_parts i_orders) → va_S A s.heap H locs → lv_has ls 5 [(0, .ref q0), (1, .int (Int32.ofInt x1)), (2, .int (Int32.ofInt x2)), (3, .int (Int32.ofInt x3)), (4, .int (Int32.ofInt x4))] → W p l e (rmr_LawReader_readTest (dp + 1)) s m args below meth c H locs 0 0 Q (F0 m 76 ls []) := by
    intro k7 ih7 x1 x2 x3 x4 i_ordered i_at i_parts i_orders H locs ls hf hP hD hS hl
    unfold f_LawReader_readTest_76 at hf
    refine xi_iinc hx hb dX4_readTest_76 hl (k := 4) rfl (by decide) hf (fun v1 ls hl hf => ?_)
    have hl : lv_has ls 5 [(4, .int (Int32.ofInt v1)), (0, .ref q0), (1, .int (Int32.ofInt x1)), (2, .int (Int32.ofInt x2)), (3, .int (Int32.ofInt x3))] := hl
    refine lv_goto (tgt := 7) hx hb dX4_readTest_79 (by decide) ?_
    exact ih7 _ _ _ _ _ _ _ _ _ _ _ hf hP hD hS (lv_sub hl [1, 2, 3, 4, 0] rfl)
  have b_7 : ∀ (k7 : Int → Int → Int → Int → Int → Int → Int → (Nat → Int) → Option (Int × Int × Int × Int × (Nat → Int))) (_ : ∀ (x1 : Int) (x2 : Int) (x3 : Int) (x4 : Int) (i_ordered : Int) (i_at : Int) (i_parts : Int) (i_orders : Nat → Int) (H : Heap) (locs : List Loc) (ls : Array Slot), k7 x1 x2 x3 x4 i_ordered i_at i_parts i_orders = some out → va_P (dC, dI) vwCl (wd_LawReader_readTest cA q0 q1 q2 q3 q4 i_tokens i_values i_ordered i_at i_parts i_orders) H → va_D A (wd_LawReader_readTest cA q0 q1 q2 q3 q4 i_tokens i_values i_ordered i_at i_parts i_orders) → va_S A s.heap H locs → lv_has ls 5 [(0, .ref q0), (1, .int (Int32.ofInt x1)), (2, .int (Int32.ofInt x2)), (3, .int (Int32.ofInt x3)), (4, .int (Int32.ofInt x4))] → W p l e (rmr_LawReader_readTest (dp + 1)) s m args below meth c H locs 0 0 Q (F0 m 7 ls [])), ∀ (x1 : Int) (x2 : Int) (x3 : Int) (x4 : Int) (i_ordered : Int) (i_at : Int) (i_parts : Int) (i_orders : Nat → Int) (H : Heap) (locs : List Loc) (ls : Array Slot), f_LawReader_readTest_7_b r_LawReader_readTest r_LawReader_readPlain i_tokens i_values k7 x1 x2 x3 x4 i_ordered i_at i_parts i_orders = some out → va_P (dC, dI) vwCl (wd_LawReader_readTest cA q0 q1 q2 q3 q4 i_tokens i_values i_ordered i_at i_parts i_orders) H → va_D A (wd_LawReader_readTest cA q0 q1 q2 q3 q4 i_tokens i_values i_ordered i_at i_parts i_orders) → va_S A s.heap H locs → lv_has ls 5 [(0, .ref q0), (1, .int (Int32.ofInt x1)), (2, .int (Int32.ofInt x2)), (3, .int (Int32.ofInt x3)), (4, .int (Int32.ofInt x4))] → W p l e (rmr_LawReader_readTest (dp + 1)) s m args below meth c H locs 0 0 Q (F0 m 7 ls []) := by
    intro k7 ih7 x1 x2 x3 x4 i_ordered i_at i_parts i_orders H locs ls hf hP hD hS hl
    unfold f_LawReader_readTest_7_b at hf
    refine lv_iload hx hb dX4_readTest_7 (lv_at hl 4 rfl) ?_
    refine lv_sipush (v := Int32.ofInt 400) hx hb dX4_readTest_9 (by decide) ?_
    refine xi_icmp_ge (tgt := 82) hx hb dX4_readTest_12 (by decide) hf (fun hf => ?_) (fun hf => ?_)
    · refine lv_iconst (v := Int32.ofInt 0) hx hb dX4_readTest_82 rfl ?_
      obtain rfl := Option.some.inj hf
      exact hret _ _ _ _ zz_b0 dX4_readTest_83 hP hD hS
    · refine lv_aload_n hx hb dX4_readTest_15 rfl (lv_at hl 0 rfl) ?_
      refine lv_iload_n hx hb dX4_readTest_16 rfl (lv_at hl 1 rfl) ?_
      refine xe_d5 hf (fun v1 v2 v3 v4 a5 hg hf => ?_)
      have hC : ([0, 1, 2, 3] : List Nat).map (fun i => (wd_LawReader_readTest cA q0 q1 q2 q3 q4 i_tokens i_values i_ordered i_at i_parts i_orders)[i]?) = (wd_LawReader_readPlain cA q0 q1 q2 q3 q4 i_tokens i_values i_ordered i_at i_parts i_orders).map some := rfl
      refine xv_afterI (ws' := (wd_LawReader_readTest cA q0 q1 q2 q3 q4 i_tokens i_values v2 v3 v4 a5)) (isC := [0, 1, 2, 3]) (ps := [some 0, some 1, some 2, some 3]) (va_runV (As := [.int (Int32.ofInt x1)]) (rest := []) ⟨hx, hb, hml, hown, hts⟩ (h_LawReader_readPlain q0 q1 q2 q3 q4 _ _ _ _ _ _ _ _ hg H.size) (cwV 1 hts (zgV zw_768 zw_770 zw_11 zw_107 zw_771) rfl rfl rfl hd_LawReader_readPlain ⟨(by show 66 + dp + 1 ≤ 66 + (dp + 1); omega), (by show 8 + (4 + 11) + (1582 + 24 * dp) ≤ 1582 + 24 * (dp + 1); omega)⟩) (xv_preV (T := TX4) (N := 7) hE hA hS hK hP hD (isC := [0, 1, 2, 3]) (by decide +kernel) hC (q0 := 0) (ci := 4) rfl rfl) rfl rfl hl.1 rfl (lv_room (Nat.le_of_ble_eq_true rfl)) dX4_readTest_17 ⟨Nat.le_refl _, Nat.le_refl _⟩) hP hD hS hA (by decide +kernel) rfl hC rfl rfl (fun H locs hP hD hS => ?_)
      refine xi_if_eq (tgt := 82) hx hb dX4_readTest_20 (by decide) hf (fun hf => ?_) (fun hf => ?_)
      · refine lv_iconst (v := Int32.ofInt 0) hx hb dX4_readTest_82 rfl ?_
        obtain rfl := Option.some.inj hf
        exact hret _ _ _ _ zz_b0 dX4_readTest_83 hP hD hS
      · refine lv_aload_n hx hb dX4_readTest_23 rfl (lv_at hl 0 rfl) ?_
        refine lv_iload_n hx hb dX4_readTest_24 rfl (lv_at hl 2 rfl) ?_
        refine xe_d1 hf (fun a6 hg hf => ?_)
        have hC : ([0, 1] : List Nat).map (fun i => (wd_LawReader_readTest cA q0 q1 q2 q3 q4 i_tokens i_values v2 v3 v4 a5)[i]?) = (wd_LawReader_aimHere cA q0 q1 q2 q3 q4 v3 v4 v2 a5).map some := rfl
        refine xv_afterV (ws' := (wd_LawReader_readTest cA q0 q1 q2 q3 q4 i_tokens i_values v2 v3 v4 a6)) (isC := [0, 1]) (ps := [some 0, some 1, none, none]) (va_runV (As := [.int (Int32.ofInt x2)]) (rest := []) ⟨hx, hb, hml, hown, hts⟩ (c_LawReader_aimHere l ev dC dI cA q0 q1 q2 q3 q4 v3 v4 hg H.size) (cwV 1 hts (zgV zw_775 zw_777 zw_12 zw_107 zw_778) rfl rfl rfl hd_LawReader_aimHere ⟨(by show 0 + 1 ≤ 66 + (dp + 1); omega), (by show 8 + (2 + 11) + (0) ≤ 1582 + 24 * (dp + 1); omega)⟩) (xv_preV (T := TX4) (N := 7) hE hA hS hK hP hD (isC := [0, 1]) (by decide +kernel) hC (q0 := 0) (ci := 4) rfl rfl) rfl rfl hl.1 rfl (lv_room (Nat.le_of_ble_eq_true rfl)) dX4_readTest_25 ⟨Nat.le_refl _, Nat.le_refl _⟩) hP hD hS hA (by decide +kernel) rfl hC rfl rfl (fun H locs hP hD hS => ?_)
        refine lv_iconst (v := Int32.ofInt (-1)) hx hb dX4_readTest_28 rfl ?_
        refine lv_istore_n (lv' := [(2, .int (Int32.ofInt (-1))), (0, .ref q0), (1, .int (Int32.ofInt x1)), (3, .int (Int32.ofInt x3)), (4, .int (Int32.ofInt x4))]) hx hb dX4_readTest_29 rfl hl (by decide) rfl (fun ls hl => ?_)
        refine lv_aload_n hx hb dX4_readTest_30 rfl (lv_at hl 1 rfl) ?_
        refine lv_sipush (v := Int32.ofInt 264) hx hb dX4_readTest_31 (by decide) ?_
        refine xe_d2 hf (fun v7 v8 hg hf => ?_)
        have hC : ([0, 2] : List Nat).map (fun i => (wd_LawReader_readTest cA q0 q1 q2 q3 q4 i_tokens i_values v2 v3 v4 a6)[i]?) = (wd_LawReader_pass cA q0 q1 q2 q3 q4 v2 v4 i_tokens v3).map some := rfl
        refine xv_afterI (ws' := (wd_LawReader_readTest cA q0 q1 q2 q3 q4 i_tokens i_values v2 v8 v4 a6)) (isC := [0, 2]) (ps := [some 0, none, some 1, none]) (va_runV (As := [.int (Int32.ofInt 264)]) (rest := []) ⟨hx, hb, hml, hown, hts⟩ (c_LawReader_pass l ev dC dI cA q0 q1 q2 q3 q4 v2 v4 hg H.size) (cwV 1 hts (zgV zw_752 zw_754 zw_7 zw_107 zw_755) rfl rfl rfl hd_LawReader_pass ⟨(by show 0 + 1 ≤ 66 + (dp + 1); omega), (by show 8 + (2 + 11) + (0) ≤ 1582 + 24 * (dp + 1); omega)⟩) (xv_preV (T := TX4) (N := 7) hE hA hS hK hP hD (isC := [0, 2]) (by decide +kernel) hC (q0 := 0) (ci := 4) rfl rfl) rfl rfl hl.1 rfl (lv_room (Nat.le_of_ble_eq_true rfl)) dX4_readTest_34 ⟨Nat.le_refl _, Nat.le_refl _⟩) hP hD hS hA (by decide +kernel) rfl hC rfl rfl (fun H locs hP hD hS => ?_)
        refine xi_if_eq (tgt := 51) hx hb dX4_readTest_37 (by decide) hf (fun hf => ?_) (fun hf => ?_)
        · refine lv_aload_n hx hb dX4_readTest_51 rfl (lv_at hl 1 rfl) ?_
          refine lv_iload_n hx hb dX4_readTest_52 rfl (lv_at hl 3 rfl) ?_
          refine xe_d1 hf (fun a9 hg hf => ?_)
          have hC : ([0, 1] : List Nat).map (fun i => (wd_LawReader_readTest cA q0 q1 q2 q3 q4 i_tokens i_values v2 v8 v4 a6)[i]?) = (wd_LawReader_aimHere cA q0 q1 q2 q3 q4 v8 v4 v2 a6).map some := rfl
          refine xv_afterV (ws' := (wd_LawReader_readTest cA q0 q1 q2 q3 q4 i_tokens i_values v2 v8 v4 a9)) (isC := [0, 1]) (ps := [some 0, some 1, none, none]) (va_runV (As := [.int (Int32.ofInt x3)]) (rest := []) ⟨hx, hb, hml, hown, hts⟩ (c_LawReader_aimHere l ev dC dI cA q0 q1 q2 q3 q4 v8 v4 hg H.size) (cwV 1 hts (zgV zw_775 zw_777 zw_12 zw_107 zw_778) rfl rfl rfl hd_LawReader_aimHere ⟨(by show 0 + 1 ≤ 66 + (dp + 1); omega), (by show 8 + (2 + 11) + (0) ≤ 1582 + 24 * (dp + 1); omega)⟩) (xv_preV (T := TX4) (N := 7) hE hA hS hK hP hD (isC := [0, 1]) (by decide +kernel) hC (q0 := 0) (ci := 4) rfl rfl) rfl rfl hl.1 rfl (lv_room (Nat.le_of_ble_eq_true rfl)) dX4_readTest_53 ⟨Nat.le_refl _, Nat.le_refl _⟩) hP hD hS hA (by decide +kernel) rfl hC rfl rfl (fun H locs hP hD hS => ?_)
          refine lv_aload_n hx hb dX4_readTest_56 rfl (lv_at hl 1 rfl) ?_
          refine lv_sipush (v := Int32.ofInt 263) hx hb dX4_readTest_57 (by decide) ?_
          refine xe_d2 hf (fun v10 v11 hg hf => ?_)
          have hC : ([0, 2] : List Nat).map (fun i => (wd_LawReader_readTest cA q0 q1 q2 q3 q4 i_tokens i_values v2 v8 v4 a9)[i]?) = (wd_LawReader_pass cA q0 q1 q2 q3 q4 v2 v4 i_tokens v8).map some := rfl
          refine xv_afterI (ws' := (wd_LawReader_readTest cA q0 q1 q2 q3 q4 i_tokens i_values v2 v11 v4 a9)) (isC := [0, 2]) (ps := [some 0, none, some 1, none]) (va_runV (As := [.int (Int32.ofInt 263)]) (rest := []) ⟨hx, hb, hml, hown, hts⟩ (c_LawReader_pass l ev dC dI cA q0 q1 q2 q3 q4 v2 v4 hg H.size) (cwV 1 hts (zgV zw_752 zw_754 zw_7 zw_107 zw_755) rfl rfl rfl hd_LawReader_pass ⟨(by show 0 + 1 ≤ 66 + (dp + 1); omega), (by show 8 + (2 + 11) + (0) ≤ 1582 + 24 * (dp + 1); omega)⟩) (xv_preV (T := TX4) (N := 7) hE hA hS hK hP hD (isC := [0, 2]) (by decide +kernel) hC (q0 := 0) (ci := 4) rfl rfl) rfl rfl hl.1 rfl (lv_room (Nat.le_of_ble_eq_true rfl)) dX4_readTest_60 ⟨Nat.le_refl _, Nat.le_refl _⟩) hP hD hS hA (by decide +kernel) rfl hC rfl rfl (fun H locs hP hD hS => ?_)
          refine xi_if_ne (tgt := 68) hx hb dX4_readTest_63 (by decide) hf (fun hf => ?_) (fun hf => ?_)
          · refine lv_aload_n hx hb dX4_readTest_68 rfl (lv_at hl 1 rfl) ?_
            refine lv_bipush (v := Int32.ofInt 12) hx hb dX4_readTest_69 (by decide) ?_
            refine lv_iconst (v := Int32.ofInt 0) hx hb dX4_readTest_71 rfl ?_
            refine xe_d3 hf (fun v12 v13 a14 hg hf => ?_)
            have hC : ([0, 1] : List Nat).map (fun i => (wd_LawReader_readTest cA q0 q1 q2 q3 q4 i_tokens i_values v2 v11 v4 a9)[i]?) = (wd_LawReader_order cA q0 q1 q2 q3 q4 v11 v4 v2 a9).map some := rfl
            refine xv_afterI (ws' := (wd_LawReader_readTest cA q0 q1 q2 q3 q4 i_tokens i_values v13 v11 v4 a14)) (isC := [0, 1]) (ps := [some 0, some 1, none, none]) (va_runV (As := [.int (Int32.ofInt 12), .int (Int32.ofInt 0)]) (rest := []) ⟨hx, hb, hml, hown, hts⟩ (c_LawReader_order l ev dC dI cA q0 q1 q2 q3 q4 v11 v4 hg H.size) (cwV 2 hts (zgV zw_748 zw_750 zw_6 zw_107 zw_751) rfl rfl rfl hd_LawReader_order ⟨(by show 0 + 1 ≤ 66 + (dp + 1); omega), (by show 8 + (3 + 11) + (0) ≤ 1582 + 24 * (dp + 1); omega)⟩) (xv_preV (T := TX4) (N := 7) hE hA hS hK hP hD (isC := [0, 1]) (by decide +kernel) hC (q0 := 0) (ci := 4) rfl rfl) rfl rfl hl.1 rfl (lv_room (Nat.le_of_ble_eq_true rfl)) dX4_readTest_72 ⟨Nat.le_refl _, Nat.le_refl _⟩) hP hD hS hA (by decide +kernel) rfl hC rfl rfl (fun H locs hP hD hS => ?_)
            refine lv_istore_n (lv' := [(3, .int (Int32.ofInt v12)), (2, .int (Int32.ofInt (-1))), (0, .ref q0), (1, .int (Int32.ofInt x1)), (4, .int (Int32.ofInt x4))]) hx hb dX4_readTest_75 rfl hl (by decide) rfl (fun ls hl => ?_)
            exact b_76 _ ih7 _ _ _ _ _ _ _ _ _ _ _ hf hP hD hS (lv_sub hl [2, 3, 1, 0, 4] rfl)
          · refine lv_iconst (v := Int32.ofInt 1) hx hb dX4_readTest_66 rfl ?_
            obtain rfl := Option.some.inj hf
            exact hret _ _ _ _ zz_b1 dX4_readTest_67 hP hD hS
        · refine lv_aload_n hx hb dX4_readTest_40 rfl (lv_at hl 1 rfl) ?_
          refine lv_bipush (v := Int32.ofInt 11) hx hb dX4_readTest_41 (by decide) ?_
          refine lv_iconst (v := Int32.ofInt 0) hx hb dX4_readTest_43 rfl ?_
          refine xe_d3 hf (fun v15 v16 a17 hg hf => ?_)
          have hC : ([0, 1] : List Nat).map (fun i => (wd_LawReader_readTest cA q0 q1 q2 q3 q4 i_tokens i_values v2 v8 v4 a6)[i]?) = (wd_LawReader_order cA q0 q1 q2 q3 q4 v8 v4 v2 a6).map some := rfl
          refine xv_afterI (ws' := (wd_LawReader_readTest cA q0 q1 q2 q3 q4 i_tokens i_values v16 v8 v4 a17)) (isC := [0, 1]) (ps := [some 0, some 1, none, none]) (va_runV (As := [.int (Int32.ofInt 11), .int (Int32.ofInt 0)]) (rest := []) ⟨hx, hb, hml, hown, hts⟩ (c_LawReader_order l ev dC dI cA q0 q1 q2 q3 q4 v8 v4 hg H.size) (cwV 2 hts (zgV zw_748 zw_750 zw_6 zw_107 zw_751) rfl rfl rfl hd_LawReader_order ⟨(by show 0 + 1 ≤ 66 + (dp + 1); omega), (by show 8 + (3 + 11) + (0) ≤ 1582 + 24 * (dp + 1); omega)⟩) (xv_preV (T := TX4) (N := 7) hE hA hS hK hP hD (isC := [0, 1]) (by decide +kernel) hC (q0 := 0) (ci := 4) rfl rfl) rfl rfl hl.1 rfl (lv_room (Nat.le_of_ble_eq_true rfl)) dX4_readTest_44 ⟨Nat.le_refl _, Nat.le_refl _⟩) hP hD hS hA (by decide +kernel) rfl hC rfl rfl (fun H locs hP hD hS => ?_)
          refine lv_istore_n (lv' := [(2, .int (Int32.ofInt v15)), (0, .ref q0), (1, .int (Int32.ofInt x1)), (3, .int (Int32.ofInt x3)), (4, .int (Int32.ofInt x4))]) hx hb dX4_readTest_47 rfl hl (by decide) rfl (fun ls hl => ?_)
          refine lv_goto (tgt := 76) hx hb dX4_readTest_48 (by decide) ?_
          exact b_76 _ ih7 _ _ _ _ _ _ _ _ _ _ _ hf hP hD hS (lv_sub hl [1, 2, 0, 3, 4] rfl)
  have l_7 : ∀ (n : Nat), ∀ (x1 : Int) (x2 : Int) (x3 : Int) (x4 : Int) (i_ordered : Int) (i_at : Int) (i_parts : Int) (i_orders : Nat → Int) (H : Heap) (locs : List Loc) (ls : Array Slot), f_LawReader_readTest_7 r_LawReader_readTest r_LawReader_readPlain i_tokens i_values n x1 x2 x3 x4 i_ordered i_at i_parts i_orders = some out → va_P (dC, dI) vwCl (wd_LawReader_readTest cA q0 q1 q2 q3 q4 i_tokens i_values i_ordered i_at i_parts i_orders) H → va_D A (wd_LawReader_readTest cA q0 q1 q2 q3 q4 i_tokens i_values i_ordered i_at i_parts i_orders) → va_S A s.heap H locs → lv_has ls 5 [(0, .ref q0), (1, .int (Int32.ofInt x1)), (2, .int (Int32.ofInt x2)), (3, .int (Int32.ofInt x3)), (4, .int (Int32.ofInt x4))] → W p l e (rmr_LawReader_readTest (dp + 1)) s m args below meth c H locs 0 0 Q (F0 m 7 ls []) := by
    intro n
    induction n with
    | zero => intro x1 x2 x3 x4 i_ordered i_at i_parts i_orders H locs ls hf hP hD hS hl; exact nomatch hf
    | succ n ih => intro x1 x2 x3 x4 i_ordered i_at i_parts i_orders H locs ls hf hP hD hS hl; exact b_7 (f_LawReader_readTest_7 r_LawReader_readTest r_LawReader_readPlain i_tokens i_values n) ih x1 x2 x3 x4 i_ordered i_at i_parts i_orders H locs ls hf hP hD hS hl
  unfold fb_LawReader_readTest at hf
  refine lv_iconst (v := Int32.ofInt (-1)) hx hb dX4_readTest_0 rfl ?_
  refine lv_istore_n (lv' := [(2, .int (Int32.ofInt (-1))), (0, .ref q0), (1, .int (Int32.ofInt x1))]) hx hb dX4_readTest_1 rfl hl (by decide) rfl (fun ls hl => ?_)
  refine lv_iconst (v := Int32.ofInt (-1)) hx hb dX4_readTest_2 rfl ?_
  refine lv_istore_n (lv' := [(3, .int (Int32.ofInt (-1))), (2, .int (Int32.ofInt (-1))), (0, .ref q0), (1, .int (Int32.ofInt x1))]) hx hb dX4_readTest_3 rfl hl (by decide) rfl (fun ls hl => ?_)
  refine lv_iconst (v := Int32.ofInt 0) hx hb dX4_readTest_4 rfl ?_
  refine lv_istore (lv' := [(4, .int (Int32.ofInt 0)), (3, .int (Int32.ofInt (-1))), (2, .int (Int32.ofInt (-1))), (0, .ref q0), (1, .int (Int32.ofInt x1))]) hx hb dX4_readTest_5 hl (by decide) rfl (fun ls hl => ?_)
  exact l_7  _ _ _ _ _ _ _ _ _ _ _ _ hf hP hD hS (lv_sub hl [3, 4, 2, 1, 0] rfl)
set_option maxHeartbeats 4000000 in
set_option maxRecDepth 100000 in
theorem cb_LawReader_readPlain (l : Launch) (ev : zEv) (dC : Nat → ClassId) (dI : Nat → Nat → Nat) (cA : Nat → ClassId) (dp : Nat) (r_LawReader_readTest : Int → (Nat → Int) → (Nat → Int) → Int → Int → Int → (Nat → Int) → Option (Int × Int × Int × Int × (Nat → Int))) (r_LawReader_readPlain : Int → (Nat → Int) → (Nat → Int) → Int → Int → Int → (Nat → Int) → Option (Int × Int × Int × Int × (Nat → Int))) (h_LawReader_readTest : ∀ (q0 q1 q2 q3 q4 : Nat) (x1 : Int) (i_tokens : Nat → Int) (i_values : Nat → Int) (i_ordered : Int) (i_at : Int) (i_parts : Int) (i_orders : Nat → Int) (out : Int × Int × Int × Int × (Nat → Int)), r_LawReader_readTest x1 i_tokens i_values i_ordered i_at i_parts i_orders = some out → xc_I l ev (dC, dI) vwCl (tyl cA) yX4_readTest w_LawReader_readTest (rmr_LawReader_readTest dp) [.ref q0, .int (Int32.ofInt x1)] (wd_LawReader_readTest cA q0 q1 q2 q3 q4 i_tokens i_values i_ordered i_at i_parts i_orders) (wf_LawReader_readTest cA q0 q1 q2 q3 q4 i_tokens i_values out) out.1) (h_LawReader_readPlain : ∀ (q0 q1 q2 q3 q4 : Nat) (x1 : Int) (i_tokens : Nat → Int) (i_values : Nat → Int) (i_ordered : Int) (i_at : Int) (i_parts : Int) (i_orders : Nat → Int) (out : Int × Int × Int × Int × (Nat → Int)), r_LawReader_readPlain x1 i_tokens i_values i_ordered i_at i_parts i_orders = some out → xc_I l ev (dC, dI) vwCl (tyl cA) yX4_readPlain w_LawReader_readPlain (rmr_LawReader_readTest dp) [.ref q0, .int (Int32.ofInt x1)] (wd_LawReader_readPlain cA q0 q1 q2 q3 q4 i_tokens i_values i_ordered i_at i_parts i_orders) (wf_LawReader_readPlain cA q0 q1 q2 q3 q4 i_tokens i_values out) out.1) : ∀ (q0 q1 q2 q3 q4 : Nat) (x1 : Int) (i_tokens : Nat → Int) (i_values : Nat → Int) (i_ordered : Int) (i_at : Int) (i_parts : Int) (i_orders : Nat → Int) (out : Int × Int × Int × Int × (Nat → Int)), fb_LawReader_readPlain r_LawReader_readTest r_LawReader_readPlain x1 i_tokens i_values i_ordered i_at i_parts i_orders = some out → xc_I l ev (dC, dI) vwCl (tyl cA) yX4_readPlain w_LawReader_readPlain (rmr_LawReader_readTest (dp + 1)) [.ref q0, .int (Int32.ofInt x1)] (wd_LawReader_readPlain cA q0 q1 q2 q3 q4 i_tokens i_values i_ordered i_at i_parts i_orders) (wf_LawReader_readPlain cA q0 q1 q2 q3 q4 i_tokens i_values out) out.1 := by
  intro q0 q1 q2 q3 q4 x1 i_tokens i_values i_ordered i_at i_parts i_orders out hf
  refine xv_startI (cc := cX4_readPlain) (maxL := 4) (rt := .boolean) (by decide +kernel) rfl (Nat.le_of_ble_eq_true rfl) ?_
  intro p e s m args below meth c A Q H ls hx hb hml hts hown hK hA hP hD hS hl hE hret
  have hown : s.vm.findClass "HillSchool$LawReader" = some m.cls := hown
  have hz : ∀ w ∈ zall, w.before args s = true := fun w h => hts w (List.mem_cons_of_mem _ h)
  have hl : lv_has ls 4 [(0, .ref q0), (1, .int (Int32.ofInt x1))] := hl
  have b_148 : ∀ (x2 : Int) (i_ordered : Int) (i_at : Int) (i_parts : Int) (i_orders : Nat → Int) (H : Heap) (locs : List Loc) (ls : Array Slot), f_LawReader_readPlain_148 r_LawReader_readTest r_LawReader_readPlain i_tokens i_values x2 i_ordered i_at i_parts i_orders = some out → va_P (dC, dI) vwCl (wd_LawReader_readPlain cA q0 q1 q2 q3 q4 i_tokens i_values i_ordered i_at i_parts i_orders) H → va_D A (wd_LawReader_readPlain cA q0 q1 q2 q3 q4 i_tokens i_values i_ordered i_at i_parts i_orders) → va_S A s.heap H locs → lv_has ls 4 [(0, .ref q0), (2, .int (Int32.ofInt x2))] → W p l e (rmr_LawReader_readTest (dp + 1)) s m args below meth c H locs 0 0 Q (F0 m 148 ls []) := by
    intro x2 i_ordered i_at i_parts i_orders H locs ls hf hP hD hS hl
    unfold f_LawReader_readPlain_148 at hf
    refine lv_iload_n hx hb dX4_readPlain_148 rfl (lv_at hl 1 rfl) ?_
    refine xi_if_eq (tgt := 160) hx hb dX4_readPlain_149 (by decide) hf (fun hf => ?_) (fun hf => ?_)
    · refine lv_iconst (v := Int32.ofInt 1) hx hb dX4_readPlain_160 rfl ?_
      obtain rfl := Option.some.inj hf
      exact hret _ _ _ _ zz_b1 dX4_readPlain_161 hP hD hS
    · refine lv_aload_n hx hb dX4_readPlain_152 rfl (lv_at hl 0 rfl) ?_
      refine lv_bipush (v := Int32.ofInt 10) hx hb dX4_readPlain_153 (by decide) ?_
      refine lv_iconst (v := Int32.ofInt 0) hx hb dX4_readPlain_155 rfl ?_
      refine xe_d3 hf (fun v1 v2 a3 hg hf => ?_)
      have hC : ([0, 1] : List Nat).map (fun i => (wd_LawReader_readPlain cA q0 q1 q2 q3 q4 i_tokens i_values i_ordered i_at i_parts i_orders)[i]?) = (wd_LawReader_order cA q0 q1 q2 q3 q4 i_at i_parts i_ordered i_orders).map some := rfl
      refine xv_afterI (ws' := (wd_LawReader_readPlain cA q0 q1 q2 q3 q4 i_tokens i_values v2 i_at i_parts a3)) (isC := [0, 1]) (ps := [some 0, some 1, none, none]) (va_runV (As := [.int (Int32.ofInt 10), .int (Int32.ofInt 0)]) (rest := []) ⟨hx, hb, hml, hown, hts⟩ (c_LawReader_order l ev dC dI cA q0 q1 q2 q3 q4 i_at i_parts hg H.size) (cwV 2 hts (zgV zw_748 zw_750 zw_6 zw_107 zw_751) rfl rfl rfl hd_LawReader_order ⟨(by show 0 + 1 ≤ 66 + (dp + 1); omega), (by show 8 + (3 + 11) + (0) ≤ 1582 + 24 * (dp + 1); omega)⟩) (xv_preV (T := TX4) (N := 7) hE hA hS hK hP hD (isC := [0, 1]) (by decide +kernel) hC (q0 := 0) (ci := 4) rfl rfl) rfl rfl hl.1 rfl (lv_room (Nat.le_of_ble_eq_true rfl)) dX4_readPlain_156 ⟨Nat.le_refl _, Nat.le_refl _⟩) hP hD hS hA (by decide +kernel) rfl hC rfl rfl (fun H locs hP hD hS => ?_)
      refine lv_pop hx hb dX4_readPlain_159 rfl ?_
      refine lv_iconst (v := Int32.ofInt 1) hx hb dX4_readPlain_160 rfl ?_
      obtain rfl := Option.some.inj hf
      exact hret _ _ _ _ zz_b1 dX4_readPlain_161 hP hD hS
  have b_37 : ∀ (x1 : Int) (x2 : Int) (i_ordered : Int) (i_at : Int) (i_parts : Int) (i_orders : Nat → Int) (H : Heap) (locs : List Loc) (ls : Array Slot), f_LawReader_readPlain_37 r_LawReader_readTest r_LawReader_readPlain i_tokens i_values x1 x2 i_ordered i_at i_parts i_orders = some out → va_P (dC, dI) vwCl (wd_LawReader_readPlain cA q0 q1 q2 q3 q4 i_tokens i_values i_ordered i_at i_parts i_orders) H → va_D A (wd_LawReader_readPlain cA q0 q1 q2 q3 q4 i_tokens i_values i_ordered i_at i_parts i_orders) → va_S A s.heap H locs → lv_has ls 4 [(0, .ref q0), (1, .int (Int32.ofInt x1)), (2, .int (Int32.ofInt x2))] → W p l e (rmr_LawReader_readTest (dp + 1)) s m args below meth c H locs 0 0 Q (F0 m 37 ls []) := by
    intro x1 x2 i_ordered i_at i_parts i_orders H locs ls hf hP hD hS hl
    unfold f_LawReader_readPlain_37 at hf
    refine lv_aload_n hx hb dX4_readPlain_37 rfl (lv_at hl 0 rfl) ?_
    refine va_get (D := (dC, dI)) (ci := 4) (v := .ref q2) (C := RX4) (T := TX4) (N := 7) hx hb hz zi_X4 hown hK hP 0 rfl rfl 2 (by decide) (hz _ zw_252) (fun _ h9 => h9) rfl dX4_readPlain_38 ?_
    refine lv_aload_n hx hb dX4_readPlain_41 rfl (lv_at hl 0 rfl) ?_
    refine va_get (D := (dC, dI)) (ci := 4) (v := .int (Int32.ofInt i_at)) (C := RX4) (T := TX4) (N := 7) hx hb hz zi_X4 hown hK hP 0 rfl rfl 5 (by decide) (hz _ zw_255) (fun _ h9 => h9) rfl dX4_readPlain_42 ?_
    refine xi_iald hx hb hK hP 2 0 rfl rfl dX4_readPlain_45 hf (fun v1 hf => ?_)
    refine lv_bipush (v := Int32.ofInt 40) hx hb dX4_readPlain_46 (by decide) ?_
    refine xi_icmp_ne (tgt := 87) hx hb dX4_readPlain_48 (by decide) hf (fun hf => ?_) (fun hf => ?_)
    · refine lv_aload_n hx hb dX4_readPlain_87 rfl (lv_at hl 0 rfl) ?_
      refine lv_iload_n hx hb dX4_readPlain_88 rfl (lv_at hl 1 rfl) ?_
      refine xe_d5 hf (fun v2 v3 v4 v5 a6 hg hf => ?_)
      have hC : ([0, 1, 2, 3] : List Nat).map (fun i => (wd_LawReader_readPlain cA q0 q1 q2 q3 q4 i_tokens i_values i_ordered i_at i_parts i_orders)[i]?) = (wd_LawReader_readSum cA q0 q1 q2 q3 q4 i_tokens i_values i_ordered i_at i_parts i_orders).map some := rfl
      refine xv_afterI (ws' := (wd_LawReader_readPlain cA q0 q1 q2 q3 q4 i_tokens i_values v3 v4 v5 a6)) (isC := [0, 1, 2, 3]) (ps := [some 0, some 1, some 2, some 3]) (va_runV (As := [.int (Int32.ofInt x1)]) (rest := []) ⟨hx, hb, hml, hown, hts⟩ (c_LawReader_readSum l ev dC dI cA q0 q1 q2 q3 q4 hg H.size) (cwV 1 hts (zgV zw_756 zw_758 zw_8 zw_107 zw_759) rfl rfl rfl hd_LawReader_readSum ⟨(by show 65 + 1 ≤ 66 + (dp + 1); omega), (by show 8 + (5 + 11) + (1558) ≤ 1582 + 24 * (dp + 1); omega)⟩) (xv_preV (T := TX4) (N := 7) hE hA hS hK hP hD (isC := [0, 1, 2, 3]) (by decide +kernel) hC (q0 := 0) (ci := 4) rfl rfl) rfl rfl hl.1 rfl (lv_room (Nat.le_of_ble_eq_true rfl)) dX4_readPlain_89 ⟨Nat.le_refl _, Nat.le_refl _⟩) hP hD hS hA (by decide +kernel) rfl hC rfl rfl (fun H locs hP hD hS => ?_)
      refine xi_if_ne (tgt := 97) hx hb dX4_readPlain_92 (by decide) hf (fun hf => ?_) (fun hf => ?_)
      · refine lv_aload_n hx hb dX4_readPlain_97 rfl (lv_at hl 0 rfl) ?_
        refine va_get (D := (dC, dI)) (ci := 4) (v := .ref q2) (C := RX4) (T := TX4) (N := 7) hx hb hz zi_X4 hown hK hP 0 rfl rfl 2 (by decide) (hz _ zw_252) (fun _ h9 => h9) rfl dX4_readPlain_98 ?_
        refine lv_aload_n hx hb dX4_readPlain_101 rfl (lv_at hl 0 rfl) ?_
        refine va_get (D := (dC, dI)) (ci := 4) (v := .int (Int32.ofInt v4)) (C := RX4) (T := TX4) (N := 7) hx hb hz zi_X4 hown hK hP 0 rfl rfl 5 (by decide) (hz _ zw_255) (fun _ h9 => h9) rfl dX4_readPlain_102 ?_
        refine xi_iald hx hb hK hP 2 0 rfl rfl dX4_readPlain_105 hf (fun v7 hf => ?_)
        refine xe_d1 hf (fun v8 hg hf => ?_)
        have hC : ([] : List Nat).map (fun i => (wd_LawReader_readPlain cA q0 q1 q2 q3 q4 i_tokens i_values v3 v4 v5 a6)[i]?) = (wd_LawReader_comparisonOf cA).map some := rfl
        refine xv_afterI (ws' := (wd_LawReader_readPlain cA q0 q1 q2 q3 q4 i_tokens i_values v3 v4 v5 a6)) (isC := []) (ps := [none, none, none, none]) (va_runS (As := [.int (Int32.ofInt v7)]) (rest := []) ⟨hx, hb, hml, hown, hts⟩ (c_LawReader_comparisonOf l ev dC dI cA hg H.size) (va_cwS 1 hts (zgS zw_772 zw_773 zw_107 zw_774) rfl rfl rfl hd_LawReader_comparisonOf.2 ⟨(by show 0 + 1 ≤ 66 + (dp + 1); omega), (by show 8 + (1 + 11) + (0) ≤ 1582 + 24 * (dp + 1); omega)⟩) (xv_preS hE hA hS hK hP hD (isC := []) (by decide +kernel) hC) rfl rfl hl.1 rfl (lv_room (Nat.le_of_ble_eq_true rfl)) dX4_readPlain_106 ⟨Nat.le_refl _, Nat.le_refl _⟩) hP hD hS hA (by decide +kernel) rfl hC rfl rfl (fun H locs hP hD hS => ?_)
        refine lv_istore_n (lv' := [(3, .int (Int32.ofInt v8)), (0, .ref q0), (1, .int (Int32.ofInt x1)), (2, .int (Int32.ofInt x2))]) hx hb dX4_readPlain_109 rfl hl (by decide) rfl (fun ls hl => ?_)
        refine lv_iload_n hx hb dX4_readPlain_110 rfl (lv_at hl 0 rfl) ?_
        refine lv_iconst (v := Int32.ofInt (-1)) hx hb dX4_readPlain_111 rfl ?_
        refine xi_icmp_eq (tgt := 139) hx hb dX4_readPlain_112 (by decide) hf (fun hf => ?_) (fun hf => ?_)
        · refine lv_iconst (v := Int32.ofInt 0) hx hb dX4_readPlain_139 rfl ?_
          obtain rfl := Option.some.inj hf
          exact hret _ _ _ _ zz_b0 dX4_readPlain_140 hP hD hS
        · refine lv_aload_n hx hb dX4_readPlain_115 rfl (lv_at hl 1 rfl) ?_
          refine lv_aload_n hx hb dX4_readPlain_116 rfl (lv_at hl 1 rfl) ?_
          refine va_get (D := (dC, dI)) (ci := 4) (v := .ref q2) (C := RX4) (T := TX4) (N := 7) hx hb hz zi_X4 hown hK hP 0 rfl rfl 2 (by decide) (hz _ zw_252) (fun _ h9 => h9) rfl dX4_readPlain_117 ?_
          refine lv_aload_n hx hb dX4_readPlain_120 rfl (lv_at hl 1 rfl) ?_
          refine va_get (D := (dC, dI)) (ci := 4) (v := .int (Int32.ofInt v4)) (C := RX4) (T := TX4) (N := 7) hx hb hz zi_X4 hown hK hP 0 rfl rfl 5 (by decide) (hz _ zw_255) (fun _ h9 => h9) rfl dX4_readPlain_121 ?_
          refine xi_iald hx hb hK hP 2 0 rfl rfl dX4_readPlain_124 hf (fun v9 hf => ?_)
          refine xe_d2 hf (fun v10 v11 hg hf => ?_)
          have hC : ([0, 2] : List Nat).map (fun i => (wd_LawReader_readPlain cA q0 q1 q2 q3 q4 i_tokens i_values v3 v4 v5 a6)[i]?) = (wd_LawReader_pass cA q0 q1 q2 q3 q4 v3 v5 i_tokens v4).map some := rfl
          refine xv_afterI (ws' := (wd_LawReader_readPlain cA q0 q1 q2 q3 q4 i_tokens i_values v3 v11 v5 a6)) (isC := [0, 2]) (ps := [some 0, none, some 1, none]) (va_runV (As := [.int (Int32.ofInt v9)]) (rest := []) ⟨hx, hb, hml, hown, hts⟩ (c_LawReader_pass l ev dC dI cA q0 q1 q2 q3 q4 v3 v5 hg H.size) (cwV 1 hts (zgV zw_752 zw_754 zw_7 zw_107 zw_755) rfl rfl rfl hd_LawReader_pass ⟨(by show 0 + 1 ≤ 66 + (dp + 1); omega), (by show 8 + (2 + 11) + (0) ≤ 1582 + 24 * (dp + 1); omega)⟩) (xv_preV (T := TX4) (N := 7) hE hA hS hK hP hD (isC := [0, 2]) (by decide +kernel) hC (q0 := 0) (ci := 4) rfl rfl) rfl rfl hl.1 rfl (lv_room (Nat.le_of_ble_eq_true rfl)) dX4_readPlain_125 ⟨Nat.le_refl _, Nat.le_refl _⟩) hP hD hS hA (by decide +kernel) rfl hC rfl rfl (fun H locs hP hD hS => ?_)
          refine xi_if_eq (tgt := 139) hx hb dX4_readPlain_128 (by decide) hf (fun hf => ?_) (fun hf => ?_)
          · refine lv_iconst (v := Int32.ofInt 0) hx hb dX4_readPlain_139 rfl ?_
            obtain rfl := Option.some.inj hf
            exact hret _ _ _ _ zz_b0 dX4_readPlain_140 hP hD hS
          · refine lv_aload_n hx hb dX4_readPlain_131 rfl (lv_at hl 1 rfl) ?_
            refine lv_iload_n hx hb dX4_readPlain_132 rfl (lv_at hl 2 rfl) ?_
            refine xe_d5 hf (fun v12 v13 v14 v15 a16 hg hf => ?_)
            have hC : ([0, 1, 2, 3] : List Nat).map (fun i => (wd_LawReader_readPlain cA q0 q1 q2 q3 q4 i_tokens i_values v3 v11 v5 a6)[i]?) = (wd_LawReader_readSum cA q0 q1 q2 q3 q4 i_tokens i_values v3 v11 v5 a6).map some := rfl
            refine xv_afterI (ws' := (wd_LawReader_readPlain cA q0 q1 q2 q3 q4 i_tokens i_values v13 v14 v15 a16)) (isC := [0, 1, 2, 3]) (ps := [some 0, some 1, some 2, some 3]) (va_runV (As := [.int (Int32.ofInt x1)]) (rest := []) ⟨hx, hb, hml, hown, hts⟩ (c_LawReader_readSum l ev dC dI cA q0 q1 q2 q3 q4 hg H.size) (cwV 1 hts (zgV zw_756 zw_758 zw_8 zw_107 zw_759) rfl rfl rfl hd_LawReader_readSum ⟨(by show 65 + 1 ≤ 66 + (dp + 1); omega), (by show 8 + (5 + 11) + (1558) ≤ 1582 + 24 * (dp + 1); omega)⟩) (xv_preV (T := TX4) (N := 7) hE hA hS hK hP hD (isC := [0, 1, 2, 3]) (by decide +kernel) hC (q0 := 0) (ci := 4) rfl rfl) rfl rfl hl.1 rfl (lv_room (Nat.le_of_ble_eq_true rfl)) dX4_readPlain_133 ⟨Nat.le_refl _, Nat.le_refl _⟩) hP hD hS hA (by decide +kernel) rfl hC rfl rfl (fun H locs hP hD hS => ?_)
            refine xi_if_ne (tgt := 141) hx hb dX4_readPlain_136 (by decide) hf (fun hf => ?_) (fun hf => ?_)
            · refine lv_aload_n hx hb dX4_readPlain_141 rfl (lv_at hl 1 rfl) ?_
              refine lv_iload_n hx hb dX4_readPlain_142 rfl (lv_at hl 0 rfl) ?_
              refine lv_iconst (v := Int32.ofInt 0) hx hb dX4_readPlain_143 rfl ?_
              refine xe_d3 hf (fun v17 v18 a19 hg hf => ?_)
              have hC : ([0, 1] : List Nat).map (fun i => (wd_LawReader_readPlain cA q0 q1 q2 q3 q4 i_tokens i_values v13 v14 v15 a16)[i]?) = (wd_LawReader_order cA q0 q1 q2 q3 q4 v14 v15 v13 a16).map some := rfl
              refine xv_afterI (ws' := (wd_LawReader_readPlain cA q0 q1 q2 q3 q4 i_tokens i_values v18 v14 v15 a19)) (isC := [0, 1]) (ps := [some 0, some 1, none, none]) (va_runV (As := [.int (Int32.ofInt v8), .int (Int32.ofInt 0)]) (rest := []) ⟨hx, hb, hml, hown, hts⟩ (c_LawReader_order l ev dC dI cA q0 q1 q2 q3 q4 v14 v15 hg H.size) (cwV 2 hts (zgV zw_748 zw_750 zw_6 zw_107 zw_751) rfl rfl rfl hd_LawReader_order ⟨(by show 0 + 1 ≤ 66 + (dp + 1); omega), (by show 8 + (3 + 11) + (0) ≤ 1582 + 24 * (dp + 1); omega)⟩) (xv_preV (T := TX4) (N := 7) hE hA hS hK hP hD (isC := [0, 1]) (by decide +kernel) hC (q0 := 0) (ci := 4) rfl rfl) rfl rfl hl.1 rfl (lv_room (Nat.le_of_ble_eq_true rfl)) dX4_readPlain_144 ⟨Nat.le_refl _, Nat.le_refl _⟩) hP hD hS hA (by decide +kernel) rfl hC rfl rfl (fun H locs hP hD hS => ?_)
              refine lv_pop hx hb dX4_readPlain_147 rfl ?_
              exact b_148  _ _ _ _ _ _ _ _ hf hP hD hS (lv_sub hl [1, 3] rfl)
            · refine lv_iconst (v := Int32.ofInt 0) hx hb dX4_readPlain_139 rfl ?_
              obtain rfl := Option.some.inj hf
              exact hret _ _ _ _ zz_b0 dX4_readPlain_140 hP hD hS
      · refine lv_iconst (v := Int32.ofInt 0) hx hb dX4_readPlain_95 rfl ?_
        obtain rfl := Option.some.inj hf
        exact hret _ _ _ _ zz_b0 dX4_readPlain_96 hP hD hS
    · refine lv_iload_n hx hb dX4_readPlain_51 rfl (lv_at hl 1 rfl) ?_
      refine lv_bipush (v := Int32.ofInt 8) hx hb dX4_readPlain_52 (by decide) ?_
      refine xi_icmp_ge (tgt := 85) hx hb dX4_readPlain_54 (by decide) hf (fun hf => ?_) (fun hf => ?_)
      · refine lv_iconst (v := Int32.ofInt 0) hx hb dX4_readPlain_85 rfl ?_
        obtain rfl := Option.some.inj hf
        exact hret _ _ _ _ zz_b0 dX4_readPlain_86 hP hD hS
      · refine lv_aload_n hx hb dX4_readPlain_57 rfl (lv_at hl 0 rfl) ?_
        refine lv_bipush (v := Int32.ofInt 40) hx hb dX4_readPlain_58 (by decide) ?_
        refine xe_d2 hf (fun v20 v21 hg hf => ?_)
        have hC : ([0, 2] : List Nat).map (fun i => (wd_LawReader_readPlain cA q0 q1 q2 q3 q4 i_tokens i_values i_ordered i_at i_parts i_orders)[i]?) = (wd_LawReader_pass cA q0 q1 q2 q3 q4 i_ordered i_parts i_tokens i_at).map some := rfl
        refine xv_afterI (ws' := (wd_LawReader_readPlain cA q0 q1 q2 q3 q4 i_tokens i_values i_ordered v21 i_parts i_orders)) (isC := [0, 2]) (ps := [some 0, none, some 1, none]) (va_runV (As := [.int (Int32.ofInt 40)]) (rest := []) ⟨hx, hb, hml, hown, hts⟩ (c_LawReader_pass l ev dC dI cA q0 q1 q2 q3 q4 i_ordered i_parts hg H.size) (cwV 1 hts (zgV zw_752 zw_754 zw_7 zw_107 zw_755) rfl rfl rfl hd_LawReader_pass ⟨(by show 0 + 1 ≤ 66 + (dp + 1); omega), (by show 8 + (2 + 11) + (0) ≤ 1582 + 24 * (dp + 1); omega)⟩) (xv_preV (T := TX4) (N := 7) hE hA hS hK hP hD (isC := [0, 2]) (by decide +kernel) hC (q0 := 0) (ci := 4) rfl rfl) rfl rfl hl.1 rfl (lv_room (Nat.le_of_ble_eq_true rfl)) dX4_readPlain_60 ⟨Nat.le_refl _, Nat.le_refl _⟩) hP hD hS hA (by decide +kernel) rfl hC rfl rfl (fun H locs hP hD hS => ?_)
        refine xi_if_eq (tgt := 85) hx hb dX4_readPlain_63 (by decide) hf (fun hf => ?_) (fun hf => ?_)
        · refine lv_iconst (v := Int32.ofInt 0) hx hb dX4_readPlain_85 rfl ?_
          obtain rfl := Option.some.inj hf
          exact hret _ _ _ _ zz_b0 dX4_readPlain_86 hP hD hS
        · refine lv_aload_n hx hb dX4_readPlain_66 rfl (lv_at hl 0 rfl) ?_
          refine lv_iload_n hx hb dX4_readPlain_67 rfl (lv_at hl 1 rfl) ?_
          refine lv_iconst (v := Int32.ofInt 1) hx hb dX4_readPlain_68 rfl ?_
          refine xi_iadd hx hb dX4_readPlain_69 hf (fun v22 hf => ?_)
          refine xe_d5 hf (fun v23 v24 v25 v26 a27 hg hf => ?_)
          have hC : ([0, 1, 2, 3] : List Nat).map (fun i => (wd_LawReader_readPlain cA q0 q1 q2 q3 q4 i_tokens i_values i_ordered v21 i_parts i_orders)[i]?) = (wd_LawReader_readTest cA q0 q1 q2 q3 q4 i_tokens i_values i_ordered v21 i_parts i_orders).map some := rfl
          refine xv_afterI (ws' := (wd_LawReader_readPlain cA q0 q1 q2 q3 q4 i_tokens i_values v24 v25 v26 a27)) (isC := [0, 1, 2, 3]) (ps := [some 0, some 1, some 2, some 3]) (va_runV (As := [.int (Int32.ofInt v22)]) (rest := []) ⟨hx, hb, hml, hown, hts⟩ (h_LawReader_readTest q0 q1 q2 q3 q4 _ _ _ _ _ _ _ _ hg H.size) (cwV 1 hts (zgV zw_764 zw_766 zw_10 zw_107 zw_767) rfl rfl rfl hd_LawReader_readTest ⟨(by show 66 + dp + 1 ≤ 66 + (dp + 1); omega), (by show 8 + (5 + 11) + (1582 + 24 * dp) ≤ 1582 + 24 * (dp + 1); omega)⟩) (xv_preV (T := TX4) (N := 7) hE hA hS hK hP hD (isC := [0, 1, 2, 3]) (by decide +kernel) hC (q0 := 0) (ci := 4) rfl rfl) rfl rfl hl.1 rfl (lv_room (Nat.le_of_ble_eq_true rfl)) dX4_readPlain_70 ⟨Nat.le_refl _, Nat.le_refl _⟩) hP hD hS hA (by decide +kernel) rfl hC rfl rfl (fun H locs hP hD hS => ?_)
          refine xi_if_eq (tgt := 85) hx hb dX4_readPlain_73 (by decide) hf (fun hf => ?_) (fun hf => ?_)
          · refine lv_iconst (v := Int32.ofInt 0) hx hb dX4_readPlain_85 rfl ?_
            obtain rfl := Option.some.inj hf
            exact hret _ _ _ _ zz_b0 dX4_readPlain_86 hP hD hS
          · refine lv_aload_n hx hb dX4_readPlain_76 rfl (lv_at hl 0 rfl) ?_
            refine lv_bipush (v := Int32.ofInt 41) hx hb dX4_readPlain_77 (by decide) ?_
            refine xe_d2 hf (fun v28 v29 hg hf => ?_)
            have hC : ([0, 2] : List Nat).map (fun i => (wd_LawReader_readPlain cA q0 q1 q2 q3 q4 i_tokens i_values v24 v25 v26 a27)[i]?) = (wd_LawReader_pass cA q0 q1 q2 q3 q4 v24 v26 i_tokens v25).map some := rfl
            refine xv_afterI (ws' := (wd_LawReader_readPlain cA q0 q1 q2 q3 q4 i_tokens i_values v24 v29 v26 a27)) (isC := [0, 2]) (ps := [some 0, none, some 1, none]) (va_runV (As := [.int (Int32.ofInt 41)]) (rest := []) ⟨hx, hb, hml, hown, hts⟩ (c_LawReader_pass l ev dC dI cA q0 q1 q2 q3 q4 v24 v26 hg H.size) (cwV 1 hts (zgV zw_752 zw_754 zw_7 zw_107 zw_755) rfl rfl rfl hd_LawReader_pass ⟨(by show 0 + 1 ≤ 66 + (dp + 1); omega), (by show 8 + (2 + 11) + (0) ≤ 1582 + 24 * (dp + 1); omega)⟩) (xv_preV (T := TX4) (N := 7) hE hA hS hK hP hD (isC := [0, 2]) (by decide +kernel) hC (q0 := 0) (ci := 4) rfl rfl) rfl rfl hl.1 rfl (lv_room (Nat.le_of_ble_eq_true rfl)) dX4_readPlain_79 ⟨Nat.le_refl _, Nat.le_refl _⟩) hP hD hS hA (by decide +kernel) rfl hC rfl rfl (fun H locs hP hD hS => ?_)
            refine xi_if_ne (tgt := 148) hx hb dX4_readPlain_82 (by decide) hf (fun hf => ?_) (fun hf => ?_)
            · exact b_148  _ _ _ _ _ _ _ _ hf hP hD hS (lv_sub hl [0, 2] rfl)
            · refine lv_iconst (v := Int32.ofInt 0) hx hb dX4_readPlain_85 rfl ?_
              obtain rfl := Option.some.inj hf
              exact hret _ _ _ _ zz_b0 dX4_readPlain_86 hP hD hS
  have b_30 : ∀ (k4 : Int → Int → Int → Int → Int → Int → (Nat → Int) → Option (Int × Int × Int × Int × (Nat → Int))) (_ : ∀ (x1 : Int) (x2 : Int) (x3 : Int) (i_ordered : Int) (i_at : Int) (i_parts : Int) (i_orders : Nat → Int) (H : Heap) (locs : List Loc) (ls : Array Slot), k4 x1 x2 x3 i_ordered i_at i_parts i_orders = some out → va_P (dC, dI) vwCl (wd_LawReader_readPlain cA q0 q1 q2 q3 q4 i_tokens i_values i_ordered i_at i_parts i_orders) H → va_D A (wd_LawReader_readPlain cA q0 q1 q2 q3 q4 i_tokens i_values i_ordered i_at i_parts i_orders) → va_S A s.heap H locs → lv_has ls 4 [(0, .ref q0), (1, .int (Int32.ofInt x1)), (2, .int (Int32.ofInt x2)), (3, .int (Int32.ofInt x3))] → W p l e (rmr_LawReader_readTest (dp + 1)) s m args below meth c H locs 0 0 Q (F0 m 4 ls [])), ∀ (x1 : Int) (x3 : Int) (s0 : Int) (i_ordered : Int) (i_at : Int) (i_parts : Int) (i_orders : Nat → Int) (H : Heap) (locs : List Loc) (ls : Array Slot), f_LawReader_readPlain_30 r_LawReader_readTest r_LawReader_readPlain i_tokens i_values k4 x1 x3 s0 i_ordered i_at i_parts i_orders = some out → va_P (dC, dI) vwCl (wd_LawReader_readPlain cA q0 q1 q2 q3 q4 i_tokens i_values i_ordered i_at i_parts i_orders) H → va_D A (wd_LawReader_readPlain cA q0 q1 q2 q3 q4 i_tokens i_values i_ordered i_at i_parts i_orders) → va_S A s.heap H locs → lv_has ls 4 [(0, .ref q0), (1, .int (Int32.ofInt x1)), (3, .int (Int32.ofInt x3))] → W p l e (rmr_LawReader_readTest (dp + 1)) s m args below meth c H locs 0 0 Q (F0 m 30 ls [.int (Int32.ofInt s0)]) := by
    intro k4 ih4 x1 x3 s0 i_ordered i_at i_parts i_orders H locs ls hf hP hD hS hl
    unfold f_LawReader_readPlain_30 at hf
    refine lv_istore_n (lv' := [(2, .int (Int32.ofInt s0)), (0, .ref q0), (1, .int (Int32.ofInt x1)), (3, .int (Int32.ofInt x3))]) hx hb dX4_readPlain_30 rfl hl (by decide) rfl (fun ls hl => ?_)
    refine xi_iinc hx hb dX4_readPlain_31 hl (k := 3) rfl (by decide) hf (fun v1 ls hl hf => ?_)
    have hl : lv_has ls 4 [(3, .int (Int32.ofInt v1)), (2, .int (Int32.ofInt s0)), (0, .ref q0), (1, .int (Int32.ofInt x1))] := hl
    refine lv_goto (tgt := 4) hx hb dX4_readPlain_34 (by decide) ?_
    exact ih4 _ _ _ _ _ _ _ _ _ _ hf hP hD hS (lv_sub hl [2, 3, 1, 0] rfl)
  have b_4 : ∀ (k4 : Int → Int → Int → Int → Int → Int → (Nat → Int) → Option (Int × Int × Int × Int × (Nat → Int))) (_ : ∀ (x1 : Int) (x2 : Int) (x3 : Int) (i_ordered : Int) (i_at : Int) (i_parts : Int) (i_orders : Nat → Int) (H : Heap) (locs : List Loc) (ls : Array Slot), k4 x1 x2 x3 i_ordered i_at i_parts i_orders = some out → va_P (dC, dI) vwCl (wd_LawReader_readPlain cA q0 q1 q2 q3 q4 i_tokens i_values i_ordered i_at i_parts i_orders) H → va_D A (wd_LawReader_readPlain cA q0 q1 q2 q3 q4 i_tokens i_values i_ordered i_at i_parts i_orders) → va_S A s.heap H locs → lv_has ls 4 [(0, .ref q0), (1, .int (Int32.ofInt x1)), (2, .int (Int32.ofInt x2)), (3, .int (Int32.ofInt x3))] → W p l e (rmr_LawReader_readTest (dp + 1)) s m args below meth c H locs 0 0 Q (F0 m 4 ls [])), ∀ (x1 : Int) (x2 : Int) (x3 : Int) (i_ordered : Int) (i_at : Int) (i_parts : Int) (i_orders : Nat → Int) (H : Heap) (locs : List Loc) (ls : Array Slot), f_LawReader_readPlain_4_b r_LawReader_readTest r_LawReader_readPlain i_tokens i_values k4 x1 x2 x3 i_ordered i_at i_parts i_orders = some out → va_P (dC, dI) vwCl (wd_LawReader_readPlain cA q0 q1 q2 q3 q4 i_tokens i_values i_ordered i_at i_parts i_orders) H → va_D A (wd_LawReader_readPlain cA q0 q1 q2 q3 q4 i_tokens i_values i_ordered i_at i_parts i_orders) → va_S A s.heap H locs → lv_has ls 4 [(0, .ref q0), (1, .int (Int32.ofInt x1)), (2, .int (Int32.ofInt x2)), (3, .int (Int32.ofInt x3))] → W p l e (rmr_LawReader_readTest (dp + 1)) s m args below meth c H locs 0 0 Q (F0 m 4 ls []) := by
    intro k4 ih4 x1 x2 x3 i_ordered i_at i_parts i_orders H locs ls hf hP hD hS hl
    unfold f_LawReader_readPlain_4_b at hf
    refine lv_iload_n hx hb dX4_readPlain_4 rfl (lv_at hl 3 rfl) ?_
    refine lv_sipush (v := Int32.ofInt 400) hx hb dX4_readPlain_5 (by decide) ?_
    refine xi_icmp_ge (tgt := 37) hx hb dX4_readPlain_8 (by decide) hf (fun hf => ?_) (fun hf => ?_)
    · exact b_37  _ _ _ _ _ _ _ _ _ hf hP hD hS (lv_sub hl [0, 1, 2] rfl)
    · refine lv_aload_n hx hb dX4_readPlain_11 rfl (lv_at hl 0 rfl) ?_
      refine lv_sipush (v := Int32.ofInt 265) hx hb dX4_readPlain_12 (by decide) ?_
      refine xe_d2 hf (fun v1 v2 hg hf => ?_)
      have hC : ([0, 2] : List Nat).map (fun i => (wd_LawReader_readPlain cA q0 q1 q2 q3 q4 i_tokens i_values i_ordered i_at i_parts i_orders)[i]?) = (wd_LawReader_pass cA q0 q1 q2 q3 q4 i_ordered i_parts i_tokens i_at).map some := rfl
      refine xv_afterI (ws' := (wd_LawReader_readPlain cA q0 q1 q2 q3 q4 i_tokens i_values i_ordered v2 i_parts i_orders)) (isC := [0, 2]) (ps := [some 0, none, some 1, none]) (va_runV (As := [.int (Int32.ofInt 265)]) (rest := []) ⟨hx, hb, hml, hown, hts⟩ (c_LawReader_pass l ev dC dI cA q0 q1 q2 q3 q4 i_ordered i_parts hg H.size) (cwV 1 hts (zgV zw_752 zw_754 zw_7 zw_107 zw_755) rfl rfl rfl hd_LawReader_pass ⟨(by show 0 + 1 ≤ 66 + (dp + 1); omega), (by show 8 + (2 + 11) + (0) ≤ 1582 + 24 * (dp + 1); omega)⟩) (xv_preV (T := TX4) (N := 7) hE hA hS hK hP hD (isC := [0, 2]) (by decide +kernel) hC (q0 := 0) (ci := 4) rfl rfl) rfl rfl hl.1 rfl (lv_room (Nat.le_of_ble_eq_true rfl)) dX4_readPlain_15 ⟨Nat.le_refl _, Nat.le_refl _⟩) hP hD hS hA (by decide +kernel) rfl hC rfl rfl (fun H locs hP hD hS => ?_)
      refine xi_if_eq (tgt := 37) hx hb dX4_readPlain_18 (by decide) hf (fun hf => ?_) (fun hf => ?_)
      · exact b_37  _ _ _ _ _ _ _ _ _ hf hP hD hS (lv_sub hl [0, 1, 2] rfl)
      · refine lv_iload_n hx hb dX4_readPlain_21 rfl (lv_at hl 2 rfl) ?_
        refine xi_if_ne (tgt := 29) hx hb dX4_readPlain_22 (by decide) hf (fun hf => ?_) (fun hf => ?_)
        · refine lv_iconst (v := Int32.ofInt 0) hx hb dX4_readPlain_29 rfl ?_
          exact b_30 _ ih4 _ _ _ _ _ _ _ _ _ _ hf hP hD hS (lv_sub hl [0, 1, 3] rfl)
        · refine lv_iconst (v := Int32.ofInt 1) hx hb dX4_readPlain_25 rfl ?_
          refine lv_goto (tgt := 30) hx hb dX4_readPlain_26 (by decide) ?_
          exact b_30 _ ih4 _ _ _ _ _ _ _ _ _ _ hf hP hD hS (lv_sub hl [0, 1, 3] rfl)
  have l_4 : ∀ (n : Nat), ∀ (x1 : Int) (x2 : Int) (x3 : Int) (i_ordered : Int) (i_at : Int) (i_parts : Int) (i_orders : Nat → Int) (H : Heap) (locs : List Loc) (ls : Array Slot), f_LawReader_readPlain_4 r_LawReader_readTest r_LawReader_readPlain i_tokens i_values n x1 x2 x3 i_ordered i_at i_parts i_orders = some out → va_P (dC, dI) vwCl (wd_LawReader_readPlain cA q0 q1 q2 q3 q4 i_tokens i_values i_ordered i_at i_parts i_orders) H → va_D A (wd_LawReader_readPlain cA q0 q1 q2 q3 q4 i_tokens i_values i_ordered i_at i_parts i_orders) → va_S A s.heap H locs → lv_has ls 4 [(0, .ref q0), (1, .int (Int32.ofInt x1)), (2, .int (Int32.ofInt x2)), (3, .int (Int32.ofInt x3))] → W p l e (rmr_LawReader_readTest (dp + 1)) s m args below meth c H locs 0 0 Q (F0 m 4 ls []) := by
    intro n
    induction n with
    | zero => intro x1 x2 x3 i_ordered i_at i_parts i_orders H locs ls hf hP hD hS hl; exact nomatch hf
    | succ n ih => intro x1 x2 x3 i_ordered i_at i_parts i_orders H locs ls hf hP hD hS hl; exact b_4 (f_LawReader_readPlain_4 r_LawReader_readTest r_LawReader_readPlain i_tokens i_values n) ih x1 x2 x3 i_ordered i_at i_parts i_orders H locs ls hf hP hD hS hl
  unfold fb_LawReader_readPlain at hf
  refine lv_iconst (v := Int32.ofInt 0) hx hb dX4_readPlain_0 rfl ?_
  refine lv_istore_n (lv' := [(2, .int (Int32.ofInt 0)), (0, .ref q0), (1, .int (Int32.ofInt x1))]) hx hb dX4_readPlain_1 rfl hl (by decide) rfl (fun ls hl => ?_)
  refine lv_iconst (v := Int32.ofInt 0) hx hb dX4_readPlain_2 rfl ?_
  refine lv_istore_n (lv' := [(3, .int (Int32.ofInt 0)), (2, .int (Int32.ofInt 0)), (0, .ref q0), (1, .int (Int32.ofInt x1))]) hx hb dX4_readPlain_3 rfl hl (by decide) rfl (fun ls hl => ?_)
  exact l_4  _ _ _ _ _ _ _ _ _ _ _ hf hP hD hS (lv_sub hl [2, 3, 1, 0] rfl)
theorem cg_LawReader_readTest (l : Launch) (ev : zEv) (dC : Nat → ClassId) (dI : Nat → Nat → Nat) (cA : Nat → ClassId) : ∀ n : Nat, (∀ (q0 q1 q2 q3 q4 : Nat) (x1 : Int) (i_tokens : Nat → Int) (i_values : Nat → Int) (i_ordered : Int) (i_at : Int) (i_parts : Int) (i_orders : Nat → Int) (out : Int × Int × Int × Int × (Nat → Int)), (g_LawReader_readTest n).1 x1 i_tokens i_values i_ordered i_at i_parts i_orders = some out → xc_I l ev (dC, dI) vwCl (tyl cA) yX4_readTest w_LawReader_readTest (rmr_LawReader_readTest n) [.ref q0, .int (Int32.ofInt x1)] (wd_LawReader_readTest cA q0 q1 q2 q3 q4 i_tokens i_values i_ordered i_at i_parts i_orders) (wf_LawReader_readTest cA q0 q1 q2 q3 q4 i_tokens i_values out) out.1) ∧ (∀ (q0 q1 q2 q3 q4 : Nat) (x1 : Int) (i_tokens : Nat → Int) (i_values : Nat → Int) (i_ordered : Int) (i_at : Int) (i_parts : Int) (i_orders : Nat → Int) (out : Int × Int × Int × Int × (Nat → Int)), (g_LawReader_readTest n).2 x1 i_tokens i_values i_ordered i_at i_parts i_orders = some out → xc_I l ev (dC, dI) vwCl (tyl cA) yX4_readPlain w_LawReader_readPlain (rmr_LawReader_readTest n) [.ref q0, .int (Int32.ofInt x1)] (wd_LawReader_readPlain cA q0 q1 q2 q3 q4 i_tokens i_values i_ordered i_at i_parts i_orders) (wf_LawReader_readPlain cA q0 q1 q2 q3 q4 i_tokens i_values out) out.1) := by
  intro n
  induction n with
  | zero => exact ⟨fun _ _ _ _ _ _ _ _ _ _ _ _ _ hf => (nomatch hf), fun _ _ _ _ _ _ _ _ _ _ _ _ _ hf => (nomatch hf)⟩
  | succ n ih => exact ⟨cb_LawReader_readTest l ev dC dI cA n _ _ ih.1 ih.2, cb_LawReader_readPlain l ev dC dI cA n _ _ ih.1 ih.2⟩
theorem c_LawReader_readTest (l : Launch) (ev : zEv) (dC : Nat → ClassId) (dI : Nat → Nat → Nat) (cA : Nat → ClassId) (q0 q1 q2 q3 q4 : Nat) {x1 : Int} {i_tokens : Nat → Int} {i_values : Nat → Int} {i_ordered : Int} {i_at : Int} {i_parts : Int} {i_orders : Nat → Int} {out : Int × Int × Int × Int × (Nat → Int)} (hf : f_LawReader_readTest x1 i_tokens i_values i_ordered i_at i_parts i_orders = some out) : xc_I l ev (dC, dI) vwCl (tyl cA) yX4_readTest w_LawReader_readTest rm_LawReader_readTest [.ref q0, .int (Int32.ofInt x1)] (wd_LawReader_readTest cA q0 q1 q2 q3 q4 i_tokens i_values i_ordered i_at i_parts i_orders) (wf_LawReader_readTest cA q0 q1 q2 q3 q4 i_tokens i_values out) out.1 :=
  (cg_LawReader_readTest l ev dC dI cA zdp).1 q0 q1 q2 q3 q4 x1 i_tokens i_values i_ordered i_at i_parts i_orders out hf
theorem c_LawReader_readPlain (l : Launch) (ev : zEv) (dC : Nat → ClassId) (dI : Nat → Nat → Nat) (cA : Nat → ClassId) (q0 q1 q2 q3 q4 : Nat) {x1 : Int} {i_tokens : Nat → Int} {i_values : Nat → Int} {i_ordered : Int} {i_at : Int} {i_parts : Int} {i_orders : Nat → Int} {out : Int × Int × Int × Int × (Nat → Int)} (hf : f_LawReader_readPlain x1 i_tokens i_values i_ordered i_at i_parts i_orders = some out) : xc_I l ev (dC, dI) vwCl (tyl cA) yX4_readPlain w_LawReader_readPlain rm_LawReader_readPlain [.ref q0, .int (Int32.ofInt x1)] (wd_LawReader_readPlain cA q0 q1 q2 q3 q4 i_tokens i_values i_ordered i_at i_parts i_orders) (wf_LawReader_readPlain cA q0 q1 q2 q3 q4 i_tokens i_values out) out.1 :=
  (cg_LawReader_readTest l ev dC dI cA zdp).2 q0 q1 q2 q3 q4 x1 i_tokens i_values i_ordered i_at i_parts i_orders out hf
theorem dX4_readClause_0 : decode cX4_readClause 0 = .ok (.aload_n 0, 1) := by decide +kernel
theorem dX4_readClause_1 : decode cX4_readClause 1 = .ok (.iconst 0, 1) := by decide +kernel
theorem dX4_readClause_2 : decode cX4_readClause 2 = .ok (.iconst 0, 1) := by decide +kernel
theorem dX4_readClause_3 : decode cX4_readClause 3 = .ok (.invokevirtual 55, 3) := by decide +kernel
theorem dX4_readClause_6 : decode cX4_readClause 6 = .ok (.istore_n 1, 1) := by decide +kernel
theorem dX4_readClause_7 : decode cX4_readClause 7 = .ok (.aload_n 0, 1) := by decide +kernel
theorem dX4_readClause_8 : decode cX4_readClause 8 = .ok (.sipush 260, 3) := by decide +kernel
theorem dX4_readClause_11 : decode cX4_readClause 11 = .ok (.invokevirtual 51, 3) := by decide +kernel
theorem dX4_readClause_14 : decode cX4_readClause 14 = .ok (.istore_n 2, 1) := by decide +kernel
theorem dX4_readClause_15 : decode cX4_readClause 15 = .ok (.iload_n 2, 1) := by decide +kernel
theorem dX4_readClause_16 : decode cX4_readClause 16 = .ok (.ifCond .eq 14, 3) := by decide +kernel
theorem dX4_readClause_19 : decode cX4_readClause 19 = .ok (.aload_n 0, 1) := by decide +kernel
theorem dX4_readClause_20 : decode cX4_readClause 20 = .ok (.iconst 0, 1) := by decide +kernel
theorem dX4_readClause_21 : decode cX4_readClause 21 = .ok (.invokevirtual 58, 3) := by decide +kernel
theorem dX4_readClause_24 : decode cX4_readClause 24 = .ok (.ifCond .ne 18, 3) := by decide +kernel
theorem dX4_readClause_27 : decode cX4_readClause 27 = .ok (.goto 13, 3) := by decide +kernel
theorem dX4_readClause_30 : decode cX4_readClause 30 = .ok (.aload_n 0, 1) := by decide +kernel
theorem dX4_readClause_31 : decode cX4_readClause 31 = .ok (.sipush 261, 3) := by decide +kernel
theorem dX4_readClause_34 : decode cX4_readClause 34 = .ok (.invokevirtual 51, 3) := by decide +kernel
theorem dX4_readClause_37 : decode cX4_readClause 37 = .ok (.ifCond .ne 5, 3) := by decide +kernel
theorem dX4_readClause_40 : decode cX4_readClause 40 = .ok (.iconst 0, 1) := by decide +kernel
theorem dX4_readClause_41 : decode cX4_readClause 41 = .ok (.ireturn, 1) := by decide +kernel
theorem dX4_readClause_42 : decode cX4_readClause 42 = .ok (.aload_n 0, 1) := by decide +kernel
theorem dX4_readClause_43 : decode cX4_readClause 43 = .ok (.sipush 262, 3) := by decide +kernel
theorem dX4_readClause_46 : decode cX4_readClause 46 = .ok (.invokevirtual 51, 3) := by decide +kernel
theorem dX4_readClause_49 : decode cX4_readClause 49 = .ok (.ifCond .ne 13, 3) := by decide +kernel
theorem dX4_readClause_52 : decode cX4_readClause 52 = .ok (.aload_n 0, 1) := by decide +kernel
theorem dX4_readClause_53 : decode cX4_readClause 53 = .ok (.iconst 1, 1) := by decide +kernel
theorem dX4_readClause_54 : decode cX4_readClause 54 = .ok (.iconst 1, 1) := by decide +kernel
theorem dX4_readClause_55 : decode cX4_readClause 55 = .ok (.invokevirtual 55, 3) := by decide +kernel
theorem dX4_readClause_58 : decode cX4_readClause 58 = .ok (.pop, 1) := by decide +kernel
theorem dX4_readClause_59 : decode cX4_readClause 59 = .ok (.goto 13, 3) := by decide +kernel
theorem dX4_readClause_62 : decode cX4_readClause 62 = .ok (.aload_n 0, 1) := by decide +kernel
theorem dX4_readClause_63 : decode cX4_readClause 63 = .ok (.iconst 0, 1) := by decide +kernel
theorem dX4_readClause_64 : decode cX4_readClause 64 = .ok (.invokevirtual 61, 3) := by decide +kernel
theorem dX4_readClause_67 : decode cX4_readClause 67 = .ok (.ifCond .ne 5, 3) := by decide +kernel
theorem dX4_readClause_70 : decode cX4_readClause 70 = .ok (.iconst 0, 1) := by decide +kernel
theorem dX4_readClause_71 : decode cX4_readClause 71 = .ok (.ireturn, 1) := by decide +kernel
theorem dX4_readClause_72 : decode cX4_readClause 72 = .ok (.aload_n 0, 1) := by decide +kernel
theorem dX4_readClause_73 : decode cX4_readClause 73 = .ok (.iload_n 2, 1) := by decide +kernel
theorem dX4_readClause_74 : decode cX4_readClause 74 = .ok (.ifCond .eq 8, 3) := by decide +kernel
theorem dX4_readClause_77 : decode cX4_readClause 77 = .ok (.bipush 13, 2) := by decide +kernel
theorem dX4_readClause_79 : decode cX4_readClause 79 = .ok (.goto 5, 3) := by decide +kernel
theorem dX4_readClause_82 : decode cX4_readClause 82 = .ok (.bipush 14, 2) := by decide +kernel
theorem dX4_readClause_84 : decode cX4_readClause 84 = .ok (.iconst 0, 1) := by decide +kernel
theorem dX4_readClause_85 : decode cX4_readClause 85 = .ok (.invokevirtual 55, 3) := by decide +kernel
theorem dX4_readClause_88 : decode cX4_readClause 88 = .ok (.pop, 1) := by decide +kernel
theorem dX4_readClause_89 : decode cX4_readClause 89 = .ok (.aload_n 0, 1) := by decide +kernel
theorem dX4_readClause_90 : decode cX4_readClause 90 = .ok (.iload_n 1, 1) := by decide +kernel
theorem dX4_readClause_91 : decode cX4_readClause 91 = .ok (.invokevirtual 64, 3) := by decide +kernel
theorem dX4_readClause_94 : decode cX4_readClause 94 = .ok (.iconst 1, 1) := by decide +kernel
theorem dX4_readClause_95 : decode cX4_readClause 95 = .ok (.ireturn, 1) := by decide +kernel
theorem zw_747 : (Jvm.Cond.code ({ cls := "HillSchool$LawReader", name := "readClause", desc := "()Z" } : Jvm.MethodName) prog_6_method_3_code (3 : Nat) (Option.some Jvm.ClassFile.FieldType.boolean)) ∈ zall := zmemG (zmj_3 164 rfl) rfl
abbrev w_LawReader_readClause : List Cond := .code yX4_readClause cX4_readClause 3 (some .boolean) :: zall
abbrev rm_LawReader_readClause : Room := { frames := 131, cells := 0, slots := 0, locals := 3142 }
theorem hd_LawReader_readClause : yX4_readClause.cls = "HillSchool$LawReader" ∧ yX4_readClause.cls ≠ "java/lang/invoke/MethodHandle" ∧ yX4_readClause.cls ≠ "java/lang/invoke/VarHandle" ∧ (parseMethodDescriptor yX4_readClause.desc).map (fun d => d.parameters.length) = some 0 := by decide +kernel
def wd_LawReader_readClause (cA : Nat → ClassId) (q0 q1 q2 q3 q4 : Nat) (i_tokens : Nat → Int) (i_values : Nat → Int) (i_ordered : Int) (i_at : Int) (i_parts : Int) (i_orders : Nat → Int) : va_W := [(q0, .inr (4, [.ref q1, .int (Int32.ofInt i_ordered), .ref q2, .ref q3, .ref q4, .int (Int32.ofInt i_at), .int (Int32.ofInt i_parts)])), (q1, .inl (cA 0, 424, .inl (za i_orders))), (q2, .inl (cA 0, 401, .inl (za i_tokens))), (q4, .inl (cA 0, 401, .inl (za i_values)))]
def wf_LawReader_readClause (cA : Nat → ClassId) (q0 q1 q2 q3 q4 : Nat) (i_tokens : Nat → Int) (i_values : Nat → Int) (o : Int × Int × Int × Int × (Nat → Int)) : va_W := wd_LawReader_readClause cA q0 q1 q2 q3 q4 i_tokens i_values o.2.1 o.2.2.1 o.2.2.2.1 o.2.2.2.2
def f_LawReader_readClause_84 (i_tokens : Nat → Int) (i_values : Nat → Int) (x1 : Int) (s1 : Int) (i_ordered : Int) (i_at : Int) (i_parts : Int) (i_orders : Nat → Int) : Option (Int × Int × Int × Int × (Nat → Int)) :=
  zd3 (f_LawReader_order s1 0 i_ordered i_orders) fun v1 v2 a3 =>
  zd1 (f_LawReader_aimHere x1 v2 a3) fun a4 =>
  some (1, v2, i_at, i_parts, a4)
def f_LawReader_readClause_72 (i_tokens : Nat → Int) (i_values : Nat → Int) (x1 : Int) (x2 : Int) (i_ordered : Int) (i_at : Int) (i_parts : Int) (i_orders : Nat → Int) : Option (Int × Int × Int × Int × (Nat → Int)) :=
  if zi_w x2 = 0 then
    f_LawReader_readClause_84 i_tokens i_values x1 14 i_ordered i_at i_parts i_orders
  else
    f_LawReader_readClause_84 i_tokens i_values x1 13 i_ordered i_at i_parts i_orders
def f_LawReader_readClause_42 (i_tokens : Nat → Int) (i_values : Nat → Int) (x1 : Int) (x2 : Int) (i_ordered : Int) (i_at : Int) (i_parts : Int) (i_orders : Nat → Int) : Option (Int × Int × Int × Int × (Nat → Int)) :=
  zd2 (f_LawReader_pass 262 i_tokens i_at) fun v1 v2 =>
  if zi_w v1 ≠ 0 then
    zd5 (f_LawReader_readTest 0 i_tokens i_values i_ordered v2 i_parts i_orders) fun v3 v4 v5 v6 a7 =>
    if zi_w v3 ≠ 0 then
      f_LawReader_readClause_72 i_tokens i_values x1 x2 v4 v5 v6 a7
    else
      some (0, v4, v5, v6, a7)
  else
    zd3 (f_LawReader_order 1 1 i_ordered i_orders) fun v8 v9 a10 =>
    f_LawReader_readClause_72 i_tokens i_values x1 x2 v9 v2 i_parts a10
def f_LawReader_readClause (i_tokens : Nat → Int) (i_values : Nat → Int) (i_ordered : Int) (i_at : Int) (i_parts : Int) (i_orders : Nat → Int) : Option (Int × Int × Int × Int × (Nat → Int)) :=
  zd3 (f_LawReader_order 0 0 i_ordered i_orders) fun v1 v2 a3 =>
  zd2 (f_LawReader_pass 260 i_tokens i_at) fun v4 v5 =>
  if zi_w v4 = 0 then
    zd2 (f_LawReader_pass 261 i_tokens v5) fun v6 v7 =>
    if zi_w v6 ≠ 0 then
      f_LawReader_readClause_42 i_tokens i_values v1 v4 v2 v7 i_parts a3
    else
      some (0, v2, v7, i_parts, a3)
  else
    zd5 (f_LawReader_readSum 0 i_tokens i_values v2 v5 i_parts a3) fun v8 v9 v10 v11 a12 =>
    if zi_w v8 ≠ 0 then
      f_LawReader_readClause_42 i_tokens i_values v1 v4 v9 v10 v11 a12
    else
      some (0, v9, v10, v11, a12)
set_option maxHeartbeats 4000000 in
set_option maxRecDepth 100000 in
theorem c_LawReader_readClause (l : Launch) (ev : zEv) (dC : Nat → ClassId) (dI : Nat → Nat → Nat) (cA : Nat → ClassId) (q0 q1 q2 q3 q4 : Nat) {i_tokens : Nat → Int} {i_values : Nat → Int} {i_ordered : Int} {i_at : Int} {i_parts : Int} {i_orders : Nat → Int} {out : Int × Int × Int × Int × (Nat → Int)} (hf : f_LawReader_readClause i_tokens i_values i_ordered i_at i_parts i_orders = some out) : xc_I l ev (dC, dI) vwCl (tyl cA) yX4_readClause w_LawReader_readClause rm_LawReader_readClause [.ref q0] (wd_LawReader_readClause cA q0 q1 q2 q3 q4 i_tokens i_values i_ordered i_at i_parts i_orders) (wf_LawReader_readClause cA q0 q1 q2 q3 q4 i_tokens i_values out) out.1 := by
  refine xv_startI (cc := cX4_readClause) (maxL := 3) (rt := .boolean) (by decide +kernel) rfl (Nat.le_of_ble_eq_true rfl) ?_
  intro p e s m args below meth c A Q H ls hx hb hml hts hown hK hA hP hD hS hl hE hret
  have hown : s.vm.findClass "HillSchool$LawReader" = some m.cls := hown
  have hz : ∀ w ∈ zall, w.before args s = true := fun w h => hts w (List.mem_cons_of_mem _ h)
  have hl : lv_has ls 3 [(0, .ref q0)] := hl
  have b_84 : ∀ (x1 : Int) (s1 : Int) (i_ordered : Int) (i_at : Int) (i_parts : Int) (i_orders : Nat → Int) (H : Heap) (locs : List Loc) (ls : Array Slot), f_LawReader_readClause_84 i_tokens i_values x1 s1 i_ordered i_at i_parts i_orders = some out → va_P (dC, dI) vwCl (wd_LawReader_readClause cA q0 q1 q2 q3 q4 i_tokens i_values i_ordered i_at i_parts i_orders) H → va_D A (wd_LawReader_readClause cA q0 q1 q2 q3 q4 i_tokens i_values i_ordered i_at i_parts i_orders) → va_S A s.heap H locs → lv_has ls 3 [(0, .ref q0), (1, .int (Int32.ofInt x1))] → W p l e rm_LawReader_readClause s m args below meth c H locs 0 0 Q (F0 m 84 ls [.int (Int32.ofInt s1), .ref q0]) := by
    intro x1 s1 i_ordered i_at i_parts i_orders H locs ls hf hP hD hS hl
    unfold f_LawReader_readClause_84 at hf
    refine lv_iconst (v := Int32.ofInt 0) hx hb dX4_readClause_84 rfl ?_
    refine xe_d3 hf (fun v1 v2 a3 hg hf => ?_)
    have hC : ([0, 1] : List Nat).map (fun i => (wd_LawReader_readClause cA q0 q1 q2 q3 q4 i_tokens i_values i_ordered i_at i_parts i_orders)[i]?) = (wd_LawReader_order cA q0 q1 q2 q3 q4 i_at i_parts i_ordered i_orders).map some := rfl
    refine xv_afterI (ws' := (wd_LawReader_readClause cA q0 q1 q2 q3 q4 i_tokens i_values v2 i_at i_parts a3)) (isC := [0, 1]) (ps := [some 0, some 1, none, none]) (va_runV (As := [.int (Int32.ofInt s1), .int (Int32.ofInt 0)]) (rest := []) ⟨hx, hb, hml, hown, hts⟩ (c_LawReader_order l ev dC dI cA q0 q1 q2 q3 q4 i_at i_parts hg H.size) (cwV 2 hts (zgV zw_748 zw_750 zw_6 zw_107 zw_751) rfl rfl rfl hd_LawReader_order ⟨Nat.le_of_ble_eq_true rfl, Nat.le_of_ble_eq_true rfl⟩) (xv_preV (T := TX4) (N := 7) hE hA hS hK hP hD (isC := [0, 1]) (by decide +kernel) hC (q0 := 0) (ci := 4) rfl rfl) rfl rfl hl.1 rfl (lv_room (Nat.le_of_ble_eq_true rfl)) dX4_readClause_85 ⟨Nat.le_refl _, Nat.le_refl _⟩) hP hD hS hA (by decide +kernel) rfl hC rfl rfl (fun H locs hP hD hS => ?_)
    refine lv_pop hx hb dX4_readClause_88 rfl ?_
    refine lv_aload_n hx hb dX4_readClause_89 rfl (lv_at hl 0 rfl) ?_
    refine lv_iload_n hx hb dX4_readClause_90 rfl (lv_at hl 1 rfl) ?_
    refine xe_d1 hf (fun a4 hg hf => ?_)
    have hC : ([0, 1] : List Nat).map (fun i => (wd_LawReader_readClause cA q0 q1 q2 q3 q4 i_tokens i_values v2 i_at i_parts a3)[i]?) = (wd_LawReader_aimHere cA q0 q1 q2 q3 q4 i_at i_parts v2 a3).map some := rfl
    refine xv_afterV (ws' := (wd_LawReader_readClause cA q0 q1 q2 q3 q4 i_tokens i_values v2 i_at i_parts a4)) (isC := [0, 1]) (ps := [some 0, some 1, none, none]) (va_runV (As := [.int (Int32.ofInt x1)]) (rest := []) ⟨hx, hb, hml, hown, hts⟩ (c_LawReader_aimHere l ev dC dI cA q0 q1 q2 q3 q4 i_at i_parts hg H.size) (cwV 1 hts (zgV zw_775 zw_777 zw_12 zw_107 zw_778) rfl rfl rfl hd_LawReader_aimHere ⟨Nat.le_of_ble_eq_true rfl, Nat.le_of_ble_eq_true rfl⟩) (xv_preV (T := TX4) (N := 7) hE hA hS hK hP hD (isC := [0, 1]) (by decide +kernel) hC (q0 := 0) (ci := 4) rfl rfl) rfl rfl hl.1 rfl (lv_room (Nat.le_of_ble_eq_true rfl)) dX4_readClause_91 ⟨Nat.le_refl _, Nat.le_refl _⟩) hP hD hS hA (by decide +kernel) rfl hC rfl rfl (fun H locs hP hD hS => ?_)
    refine lv_iconst (v := Int32.ofInt 1) hx hb dX4_readClause_94 rfl ?_
    obtain rfl := Option.some.inj hf
    exact hret _ _ _ _ zz_b1 dX4_readClause_95 hP hD hS
  have b_72 : ∀ (x1 : Int) (x2 : Int) (i_ordered : Int) (i_at : Int) (i_parts : Int) (i_orders : Nat → Int) (H : Heap) (locs : List Loc) (ls : Array Slot), f_LawReader_readClause_72 i_tokens i_values x1 x2 i_ordered i_at i_parts i_orders = some out → va_P (dC, dI) vwCl (wd_LawReader_readClause cA q0 q1 q2 q3 q4 i_tokens i_values i_ordered i_at i_parts i_orders) H → va_D A (wd_LawReader_readClause cA q0 q1 q2 q3 q4 i_tokens i_values i_ordered i_at i_parts i_orders) → va_S A s.heap H locs → lv_has ls 3 [(0, .ref q0), (1, .int (Int32.ofInt x1)), (2, .int (Int32.ofInt x2))] → W p l e rm_LawReader_readClause s m args below meth c H locs 0 0 Q (F0 m 72 ls []) := by
    intro x1 x2 i_ordered i_at i_parts i_orders H locs ls hf hP hD hS hl
    unfold f_LawReader_readClause_72 at hf
    refine lv_aload_n hx hb dX4_readClause_72 rfl (lv_at hl 0 rfl) ?_
    refine lv_iload_n hx hb dX4_readClause_73 rfl (lv_at hl 2 rfl) ?_
    refine xi_if_eq (tgt := 82) hx hb dX4_readClause_74 (by decide) hf (fun hf => ?_) (fun hf => ?_)
    · refine lv_bipush (v := Int32.ofInt 14) hx hb dX4_readClause_82 (by decide) ?_
      exact b_84  _ _ _ _ _ _ _ _ _ hf hP hD hS (lv_sub hl [0, 1] rfl)
    · refine lv_bipush (v := Int32.ofInt 13) hx hb dX4_readClause_77 (by decide) ?_
      refine lv_goto (tgt := 84) hx hb dX4_readClause_79 (by decide) ?_
      exact b_84  _ _ _ _ _ _ _ _ _ hf hP hD hS (lv_sub hl [0, 1] rfl)
  have b_42 : ∀ (x1 : Int) (x2 : Int) (i_ordered : Int) (i_at : Int) (i_parts : Int) (i_orders : Nat → Int) (H : Heap) (locs : List Loc) (ls : Array Slot), f_LawReader_readClause_42 i_tokens i_values x1 x2 i_ordered i_at i_parts i_orders = some out → va_P (dC, dI) vwCl (wd_LawReader_readClause cA q0 q1 q2 q3 q4 i_tokens i_values i_ordered i_at i_parts i_orders) H → va_D A (wd_LawReader_readClause cA q0 q1 q2 q3 q4 i_tokens i_values i_ordered i_at i_parts i_orders) → va_S A s.heap H locs → lv_has ls 3 [(0, .ref q0), (1, .int (Int32.ofInt x1)), (2, .int (Int32.ofInt x2))] → W p l e rm_LawReader_readClause s m args below meth c H locs 0 0 Q (F0 m 42 ls []) := by
    intro x1 x2 i_ordered i_at i_parts i_orders H locs ls hf hP hD hS hl
    unfold f_LawReader_readClause_42 at hf
    refine lv_aload_n hx hb dX4_readClause_42 rfl (lv_at hl 0 rfl) ?_
    refine lv_sipush (v := Int32.ofInt 262) hx hb dX4_readClause_43 (by decide) ?_
    refine xe_d2 hf (fun v1 v2 hg hf => ?_)
    have hC : ([0, 2] : List Nat).map (fun i => (wd_LawReader_readClause cA q0 q1 q2 q3 q4 i_tokens i_values i_ordered i_at i_parts i_orders)[i]?) = (wd_LawReader_pass cA q0 q1 q2 q3 q4 i_ordered i_parts i_tokens i_at).map some := rfl
    refine xv_afterI (ws' := (wd_LawReader_readClause cA q0 q1 q2 q3 q4 i_tokens i_values i_ordered v2 i_parts i_orders)) (isC := [0, 2]) (ps := [some 0, none, some 1, none]) (va_runV (As := [.int (Int32.ofInt 262)]) (rest := []) ⟨hx, hb, hml, hown, hts⟩ (c_LawReader_pass l ev dC dI cA q0 q1 q2 q3 q4 i_ordered i_parts hg H.size) (cwV 1 hts (zgV zw_752 zw_754 zw_7 zw_107 zw_755) rfl rfl rfl hd_LawReader_pass ⟨Nat.le_of_ble_eq_true rfl, Nat.le_of_ble_eq_true rfl⟩) (xv_preV (T := TX4) (N := 7) hE hA hS hK hP hD (isC := [0, 2]) (by decide +kernel) hC (q0 := 0) (ci := 4) rfl rfl) rfl rfl hl.1 rfl (lv_room (Nat.le_of_ble_eq_true rfl)) dX4_readClause_46 ⟨Nat.le_refl _, Nat.le_refl _⟩) hP hD hS hA (by decide +kernel) rfl hC rfl rfl (fun H locs hP hD hS => ?_)
    refine xi_if_ne (tgt := 62) hx hb dX4_readClause_49 (by decide) hf (fun hf => ?_) (fun hf => ?_)
    · refine lv_aload_n hx hb dX4_readClause_62 rfl (lv_at hl 0 rfl) ?_
      refine lv_iconst (v := Int32.ofInt 0) hx hb dX4_readClause_63 rfl ?_
      refine xe_d5 hf (fun v3 v4 v5 v6 a7 hg hf => ?_)
      have hC : ([0, 1, 2, 3] : List Nat).map (fun i => (wd_LawReader_readClause cA q0 q1 q2 q3 q4 i_tokens i_values i_ordered v2 i_parts i_orders)[i]?) = (wd_LawReader_readTest cA q0 q1 q2 q3 q4 i_tokens i_values i_ordered v2 i_parts i_orders).map some := rfl
      refine xv_afterI (ws' := (wd_LawReader_readClause cA q0 q1 q2 q3 q4 i_tokens i_values v4 v5 v6 a7)) (isC := [0, 1, 2, 3]) (ps := [some 0, some 1, some 2, some 3]) (va_runV (As := [.int (Int32.ofInt 0)]) (rest := []) ⟨hx, hb, hml, hown, hts⟩ (c_LawReader_readTest l ev dC dI cA q0 q1 q2 q3 q4 hg H.size) (cwV 1 hts (zgV zw_764 zw_766 zw_10 zw_107 zw_767) rfl rfl rfl hd_LawReader_readTest ⟨Nat.le_of_ble_eq_true rfl, Nat.le_of_ble_eq_true rfl⟩) (xv_preV (T := TX4) (N := 7) hE hA hS hK hP hD (isC := [0, 1, 2, 3]) (by decide +kernel) hC (q0 := 0) (ci := 4) rfl rfl) rfl rfl hl.1 rfl (lv_room (Nat.le_of_ble_eq_true rfl)) dX4_readClause_64 ⟨Nat.le_refl _, Nat.le_refl _⟩) hP hD hS hA (by decide +kernel) rfl hC rfl rfl (fun H locs hP hD hS => ?_)
      refine xi_if_ne (tgt := 72) hx hb dX4_readClause_67 (by decide) hf (fun hf => ?_) (fun hf => ?_)
      · exact b_72  _ _ _ _ _ _ _ _ _ hf hP hD hS (lv_sub hl [0, 1, 2] rfl)
      · refine lv_iconst (v := Int32.ofInt 0) hx hb dX4_readClause_70 rfl ?_
        obtain rfl := Option.some.inj hf
        exact hret _ _ _ _ zz_b0 dX4_readClause_71 hP hD hS
    · refine lv_aload_n hx hb dX4_readClause_52 rfl (lv_at hl 0 rfl) ?_
      refine lv_iconst (v := Int32.ofInt 1) hx hb dX4_readClause_53 rfl ?_
      refine lv_iconst (v := Int32.ofInt 1) hx hb dX4_readClause_54 rfl ?_
      refine xe_d3 hf (fun v8 v9 a10 hg hf => ?_)
      have hC : ([0, 1] : List Nat).map (fun i => (wd_LawReader_readClause cA q0 q1 q2 q3 q4 i_tokens i_values i_ordered v2 i_parts i_orders)[i]?) = (wd_LawReader_order cA q0 q1 q2 q3 q4 v2 i_parts i_ordered i_orders).map some := rfl
      refine xv_afterI (ws' := (wd_LawReader_readClause cA q0 q1 q2 q3 q4 i_tokens i_values v9 v2 i_parts a10)) (isC := [0, 1]) (ps := [some 0, some 1, none, none]) (va_runV (As := [.int (Int32.ofInt 1), .int (Int32.ofInt 1)]) (rest := []) ⟨hx, hb, hml, hown, hts⟩ (c_LawReader_order l ev dC dI cA q0 q1 q2 q3 q4 v2 i_parts hg H.size) (cwV 2 hts (zgV zw_748 zw_750 zw_6 zw_107 zw_751) rfl rfl rfl hd_LawReader_order ⟨Nat.le_of_ble_eq_true rfl, Nat.le_of_ble_eq_true rfl⟩) (xv_preV (T := TX4) (N := 7) hE hA hS hK hP hD (isC := [0, 1]) (by decide +kernel) hC (q0 := 0) (ci := 4) rfl rfl) rfl rfl hl.1 rfl (lv_room (Nat.le_of_ble_eq_true rfl)) dX4_readClause_55 ⟨Nat.le_refl _, Nat.le_refl _⟩) hP hD hS hA (by decide +kernel) rfl hC rfl rfl (fun H locs hP hD hS => ?_)
      refine lv_pop hx hb dX4_readClause_58 rfl ?_
      refine lv_goto (tgt := 72) hx hb dX4_readClause_59 (by decide) ?_
      exact b_72  _ _ _ _ _ _ _ _ _ hf hP hD hS (lv_sub hl [0, 1, 2] rfl)
  unfold f_LawReader_readClause at hf
  refine lv_aload_n hx hb dX4_readClause_0 rfl (lv_at hl 0 rfl) ?_
  refine lv_iconst (v := Int32.ofInt 0) hx hb dX4_readClause_1 rfl ?_
  refine lv_iconst (v := Int32.ofInt 0) hx hb dX4_readClause_2 rfl ?_
  refine xe_d3 hf (fun v1 v2 a3 hg hf => ?_)
  have hC : ([0, 1] : List Nat).map (fun i => (wd_LawReader_readClause cA q0 q1 q2 q3 q4 i_tokens i_values i_ordered i_at i_parts i_orders)[i]?) = (wd_LawReader_order cA q0 q1 q2 q3 q4 i_at i_parts i_ordered i_orders).map some := rfl
  refine xv_afterI (ws' := (wd_LawReader_readClause cA q0 q1 q2 q3 q4 i_tokens i_values v2 i_at i_parts a3)) (isC := [0, 1]) (ps := [some 0, some 1, none, none]) (va_runV (As := [.int (Int32.ofInt 0), .int (Int32.ofInt 0)]) (rest := []) ⟨hx, hb, hml, hown, hts⟩ (c_LawReader_order l ev dC dI cA q0 q1 q2 q3 q4 i_at i_parts hg H.size) (cwV 2 hts (zgV zw_748 zw_750 zw_6 zw_107 zw_751) rfl rfl rfl hd_LawReader_order ⟨Nat.le_of_ble_eq_true rfl, Nat.le_of_ble_eq_true rfl⟩) (xv_preV (T := TX4) (N := 7) hE hA hS hK hP hD (isC := [0, 1]) (by decide +kernel) hC (q0 := 0) (ci := 4) rfl rfl) rfl rfl hl.1 rfl (lv_room (Nat.le_of_ble_eq_true rfl)) dX4_readClause_3 ⟨Nat.le_refl _, Nat.le_refl _⟩) hP hD hS hA (by decide +kernel) rfl hC rfl rfl (fun H locs hP hD hS => ?_)
  refine lv_istore_n (lv' := [(1, .int (Int32.ofInt v1)), (0, .ref q0)]) hx hb dX4_readClause_6 rfl hl (by decide) rfl (fun ls hl => ?_)
  refine lv_aload_n hx hb dX4_readClause_7 rfl (lv_at hl 1 rfl) ?_
  refine lv_sipush (v := Int32.ofInt 260) hx hb dX4_readClause_8 (by decide) ?_
  refine xe_d2 hf (fun v4 v5 hg hf => ?_)
  have hC : ([0, 2] : List Nat).map (fun i => (wd_LawReader_readClause cA q0 q1 q2 q3 q4 i_tokens i_values v2 i_at i_parts a3)[i]?) = (wd_LawReader_pass cA q0 q1 q2 q3 q4 v2 i_parts i_tokens i_at).map some := rfl
  refine xv_afterI (ws' := (wd_LawReader_readClause cA q0 q1 q2 q3 q4 i_tokens i_values v2 v5 i_parts a3)) (isC := [0, 2]) (ps := [some 0, none, some 1, none]) (va_runV (As := [.int (Int32.ofInt 260)]) (rest := []) ⟨hx, hb, hml, hown, hts⟩ (c_LawReader_pass l ev dC dI cA q0 q1 q2 q3 q4 v2 i_parts hg H.size) (cwV 1 hts (zgV zw_752 zw_754 zw_7 zw_107 zw_755) rfl rfl rfl hd_LawReader_pass ⟨Nat.le_of_ble_eq_true rfl, Nat.le_of_ble_eq_true rfl⟩) (xv_preV (T := TX4) (N := 7) hE hA hS hK hP hD (isC := [0, 2]) (by decide +kernel) hC (q0 := 0) (ci := 4) rfl rfl) rfl rfl hl.1 rfl (lv_room (Nat.le_of_ble_eq_true rfl)) dX4_readClause_11 ⟨Nat.le_refl _, Nat.le_refl _⟩) hP hD hS hA (by decide +kernel) rfl hC rfl rfl (fun H locs hP hD hS => ?_)
  refine lv_istore_n (lv' := [(2, .int (Int32.ofInt v4)), (1, .int (Int32.ofInt v1)), (0, .ref q0)]) hx hb dX4_readClause_14 rfl hl (by decide) rfl (fun ls hl => ?_)
  refine lv_iload_n hx hb dX4_readClause_15 rfl (lv_at hl 0 rfl) ?_
  refine xi_if_eq (tgt := 30) hx hb dX4_readClause_16 (by decide) hf (fun hf => ?_) (fun hf => ?_)
  · refine lv_aload_n hx hb dX4_readClause_30 rfl (lv_at hl 2 rfl) ?_
    refine lv_sipush (v := Int32.ofInt 261) hx hb dX4_readClause_31 (by decide) ?_
    refine xe_d2 hf (fun v6 v7 hg hf => ?_)
    have hC : ([0, 2] : List Nat).map (fun i => (wd_LawReader_readClause cA q0 q1 q2 q3 q4 i_tokens i_values v2 v5 i_parts a3)[i]?) = (wd_LawReader_pass cA q0 q1 q2 q3 q4 v2 i_parts i_tokens v5).map some := rfl
    refine xv_afterI (ws' := (wd_LawReader_readClause cA q0 q1 q2 q3 q4 i_tokens i_values v2 v7 i_parts a3)) (isC := [0, 2]) (ps := [some 0, none, some 1, none]) (va_runV (As := [.int (Int32.ofInt 261)]) (rest := []) ⟨hx, hb, hml, hown, hts⟩ (c_LawReader_pass l ev dC dI cA q0 q1 q2 q3 q4 v2 i_parts hg H.size) (cwV 1 hts (zgV zw_752 zw_754 zw_7 zw_107 zw_755) rfl rfl rfl hd_LawReader_pass ⟨Nat.le_of_ble_eq_true rfl, Nat.le_of_ble_eq_true rfl⟩) (xv_preV (T := TX4) (N := 7) hE hA hS hK hP hD (isC := [0, 2]) (by decide +kernel) hC (q0 := 0) (ci := 4) rfl rfl) rfl rfl hl.1 rfl (lv_room (Nat.le_of_ble_eq_true rfl)) dX4_readClause_34 ⟨Nat.le_refl _, Nat.le_refl _⟩) hP hD hS hA (by decide +kernel) rfl hC rfl rfl (fun H locs hP hD hS => ?_)
    refine xi_if_ne (tgt := 42) hx hb dX4_readClause_37 (by decide) hf (fun hf => ?_) (fun hf => ?_)
    · exact b_42  _ _ _ _ _ _ _ _ _ hf hP hD hS (lv_sub hl [2, 1, 0] rfl)
    · refine lv_iconst (v := Int32.ofInt 0) hx hb dX4_readClause_40 rfl ?_
      obtain rfl := Option.some.inj hf
      exact hret _ _ _ _ zz_b0 dX4_readClause_41 hP hD hS
  · refine lv_aload_n hx hb dX4_readClause_19 rfl (lv_at hl 2 rfl) ?_
    refine lv_iconst (v := Int32.ofInt 0) hx hb dX4_readClause_20 rfl ?_
    refine xe_d5 hf (fun v8 v9 v10 v11 a12 hg hf => ?_)
    have hC : ([0, 1, 2, 3] : List Nat).map (fun i => (wd_LawReader_readClause cA q0 q1 q2 q3 q4 i_tokens i_values v2 v5 i_parts a3)[i]?) = (wd_LawReader_readSum cA q0 q1 q2 q3 q4 i_tokens i_values v2 v5 i_parts a3).map some := rfl
    refine xv_afterI (ws' := (wd_LawReader_readClause cA q0 q1 q2 q3 q4 i_tokens i_values v9 v10 v11 a12)) (isC := [0, 1, 2, 3]) (ps := [some 0, some 1, some 2, some 3]) (va_runV (As := [.int (Int32.ofInt 0)]) (rest := []) ⟨hx, hb, hml, hown, hts⟩ (c_LawReader_readSum l ev dC dI cA q0 q1 q2 q3 q4 hg H.size) (cwV 1 hts (zgV zw_756 zw_758 zw_8 zw_107 zw_759) rfl rfl rfl hd_LawReader_readSum ⟨Nat.le_of_ble_eq_true rfl, Nat.le_of_ble_eq_true rfl⟩) (xv_preV (T := TX4) (N := 7) hE hA hS hK hP hD (isC := [0, 1, 2, 3]) (by decide +kernel) hC (q0 := 0) (ci := 4) rfl rfl) rfl rfl hl.1 rfl (lv_room (Nat.le_of_ble_eq_true rfl)) dX4_readClause_21 ⟨Nat.le_refl _, Nat.le_refl _⟩) hP hD hS hA (by decide +kernel) rfl hC rfl rfl (fun H locs hP hD hS => ?_)
    refine xi_if_ne (tgt := 42) hx hb dX4_readClause_24 (by decide) hf (fun hf => ?_) (fun hf => ?_)
    · exact b_42  _ _ _ _ _ _ _ _ _ hf hP hD hS (lv_sub hl [2, 1, 0] rfl)
    · refine lv_goto (tgt := 40) hx hb dX4_readClause_27 (by decide) ?_
      refine lv_iconst (v := Int32.ofInt 0) hx hb dX4_readClause_40 rfl ?_
      obtain rfl := Option.some.inj hf
      exact hret _ _ _ _ zz_b0 dX4_readClause_41 hP hD hS
theorem dX4_isLetter_0 : decode cX4_isLetter 0 = .ok (.iload_n 0, 1) := by decide +kernel
theorem dX4_isLetter_1 : decode cX4_isLetter 1 = .ok (.bipush 97, 2) := by decide +kernel
theorem dX4_isLetter_3 : decode cX4_isLetter 3 = .ok (.if_icmp .lt 13, 3) := by decide +kernel
theorem dX4_isLetter_6 : decode cX4_isLetter 6 = .ok (.iload_n 0, 1) := by decide +kernel
theorem dX4_isLetter_7 : decode cX4_isLetter 7 = .ok (.bipush 122, 2) := by decide +kernel
theorem dX4_isLetter_9 : decode cX4_isLetter 9 = .ok (.if_icmp .gt 7, 3) := by decide +kernel
theorem dX4_isLetter_12 : decode cX4_isLetter 12 = .ok (.iconst 1, 1) := by decide +kernel
theorem dX4_isLetter_13 : decode cX4_isLetter 13 = .ok (.goto 4, 3) := by decide +kernel
theorem dX4_isLetter_16 : decode cX4_isLetter 16 = .ok (.iconst 0, 1) := by decide +kernel
theorem dX4_isLetter_17 : decode cX4_isLetter 17 = .ok (.ireturn, 1) := by decide +kernel
theorem zw_662 : (Jvm.Cond.code ({ cls := "HillSchool$LawReader", name := "isLetter", desc := "(I)Z" } : Jvm.MethodName) prog_6_method_14_code (1 : Nat) (Option.some Jvm.ClassFile.FieldType.boolean)) ∈ zall := zmemG (zmj_3 79 rfl) rfl
abbrev w_LawReader_isLetter : List Cond := .code yX4_isLetter cX4_isLetter 1 (some .boolean) :: zall
abbrev rm_LawReader_isLetter : Room := { frames := 0, cells := 0, slots := 0, locals := 0 }
theorem hd_LawReader_isLetter : yX4_isLetter.cls = yX4_isLetter.cls ∧ yX4_isLetter.cls ≠ "java/lang/invoke/MethodHandle" ∧ yX4_isLetter.cls ≠ "java/lang/invoke/VarHandle" ∧ (parseMethodDescriptor yX4_isLetter.desc).map (fun d => d.parameters.length) = some 1 := by decide +kernel
def wd_LawReader_isLetter (cA : Nat → ClassId)   : va_W := []
def wf_LawReader_isLetter (cA : Nat → ClassId)  (o : Int) : va_W := wd_LawReader_isLetter cA
def f_LawReader_isLetter (x0 : Int) : Option (Int) :=
  if zi_w x0 < zi_w 97 then
    some 0
  else
    if zi_w 122 < zi_w x0 then
      some 0
    else
      some 1
set_option maxHeartbeats 4000000 in
set_option maxRecDepth 100000 in
theorem c_LawReader_isLetter (l : Launch) (ev : zEv) (dC : Nat → ClassId) (dI : Nat → Nat → Nat) (cA : Nat → ClassId) {x0 : Int} {out : Int} (hf : f_LawReader_isLetter x0 = some out) : xc_I l ev (dC, dI) vwCl (tyl cA) yX4_isLetter w_LawReader_isLetter rm_LawReader_isLetter [.int (Int32.ofInt x0)] (wd_LawReader_isLetter cA) (wf_LawReader_isLetter cA out) out := by
  refine xv_startI (cc := cX4_isLetter) (maxL := 1) (rt := .boolean) (by decide +kernel) rfl (Nat.le_of_ble_eq_true rfl) ?_
  intro p e s m args below meth c A Q H ls hx hb hml hts hown hK hA hP hD hS hl hE hret
  have hown : s.vm.findClass "HillSchool$LawReader" = some m.cls := hown
  have hz : ∀ w ∈ zall, w.before args s = true := fun w h => hts w (List.mem_cons_of_mem _ h)
  have hl : lv_has ls 1 [(0, .int (Int32.ofInt x0))] := hl
  unfold f_LawReader_isLetter at hf
  refine lv_iload_n hx hb dX4_isLetter_0 rfl (lv_at hl 0 rfl) ?_
  refine lv_bipush (v := Int32.ofInt 97) hx hb dX4_isLetter_1 (by decide) ?_
  refine xi_icmp_lt (tgt := 16) hx hb dX4_isLetter_3 (by decide) hf (fun hf => ?_) (fun hf => ?_)
  · refine lv_iconst (v := Int32.ofInt 0) hx hb dX4_isLetter_16 rfl ?_
    obtain rfl := Option.some.inj hf
    exact hret _ _ _ _ zz_b0 dX4_isLetter_17 hP hD hS
  · refine lv_iload_n hx hb dX4_isLetter_6 rfl (lv_at hl 0 rfl) ?_
    refine lv_bipush (v := Int32.ofInt 122) hx hb dX4_isLetter_7 (by decide) ?_
    refine xi_icmp_gt (tgt := 16) hx hb dX4_isLetter_9 (by decide) hf (fun hf => ?_) (fun hf => ?_)
    · refine lv_iconst (v := Int32.ofInt 0) hx hb dX4_isLetter_16 rfl ?_
      obtain rfl := Option.some.inj hf
      exact hret _ _ _ _ zz_b0 dX4_isLetter_17 hP hD hS
    · refine lv_iconst (v := Int32.ofInt 1) hx hb dX4_isLetter_12 rfl ?_
      refine lv_goto (tgt := 17) hx hb dX4_isLetter_13 (by decide) ?_
      obtain rfl := Option.some.inj hf
      exact hret _ _ _ _ zz_b1 dX4_isLetter_17 hP hD hS
theorem dJ0_coder_7d493_0 : decode cJ0_coder_7d493 0 = .ok (.getstatic 38, 3) := by decide +kernel
theorem dJ0_coder_7d493_3 : decode cJ0_coder_7d493 3 = .ok (.ifCond .eq 10, 3) := by decide +kernel
theorem dJ0_coder_7d493_6 : decode cJ0_coder_7d493 6 = .ok (.aload_n 0, 1) := by decide +kernel
theorem dJ0_coder_7d493_7 : decode cJ0_coder_7d493 7 = .ok (.getfield 15, 3) := by decide +kernel
theorem dJ0_coder_7d493_10 : decode cJ0_coder_7d493 10 = .ok (.goto 4, 3) := by decide +kernel
theorem dJ0_coder_7d493_13 : decode cJ0_coder_7d493 13 = .ok (.iconst 1, 1) := by decide +kernel
theorem dJ0_coder_7d493_14 : decode cJ0_coder_7d493 14 = .ok (.ireturn, 1) := by decide +kernel
theorem zw_687 : (Jvm.Cond.code ({ cls := "java/lang/String", name := "coder", desc := "()B" } : Jvm.MethodName) prog_16_method_152_code (1 : Nat) (Option.some Jvm.ClassFile.FieldType.byte)) ∈ zall := zmemG (zmj_3 104 rfl) rfl
theorem zw_688 : (Jvm.Cond.fieldLink "java/lang/String" (38 : Nat) "java/lang/String" "COMPACT_STRINGS" "Z") ∈ zall := zmemG (zmj_3 105 rfl) rfl
theorem zw_1789 : (Jvm.Cond.fieldLink "java/lang/String" (15 : Nat) "java/lang/String" "coder" "B") ∈ zall := zmemG (zmj_8 6 rfl) rfl
abbrev w_String_coder : List Cond := .code yJ0_coder_7d493 cJ0_coder_7d493 1 (some .byte) :: zall
abbrev rm_String_coder : Room := { frames := 0, cells := 0, slots := 0, locals := 0 }
theorem hd_String_coder : yJ0_coder_7d493.cls = "java/lang/String" ∧ yJ0_coder_7d493.cls ≠ "java/lang/invoke/MethodHandle" ∧ yJ0_coder_7d493.cls ≠ "java/lang/invoke/VarHandle" ∧ (parseMethodDescriptor yJ0_coder_7d493.desc).map (fun d => d.parameters.length) = some 0 := by decide +kernel
def wd_String_coder (cA : Nat → ClassId)   : va_W := []
def wf_String_coder (cA : Nat → ClassId)  (o : Int) : va_W := wd_String_coder cA
def f_String_coder (w0 : Nat) : Option (Int) :=
  if zi_w 1 = 0 then
    some 1
  else
    some 0
set_option maxHeartbeats 4000000 in
set_option maxRecDepth 100000 in
theorem c_String_coder (l : Launch) (ev : zEv) (dC : Nat → ClassId) (dI : Nat → Nat → Nat) (cA : Nat → ClassId) (w0 : Nat) (hw0 : w0 < 14) {out : Int} (hf : f_String_coder w0 = some out) : xc_I l ev (dC, dI) vwCl (tyl cA) yJ0_coder_7d493 w_String_coder rm_String_coder [.ref (ev.2.1 w0)] (wd_String_coder cA) (wf_String_coder cA out) out := by
  refine xv_startI (cc := cJ0_coder_7d493) (maxL := 1) (rt := .byte) (by decide +kernel) rfl (Nat.le_of_ble_eq_true rfl) ?_
  intro p e s m args below meth c A Q H ls hx hb hml hts hown hK hA hP hD hS hl hE hret
  have hown : s.vm.findClass "java/lang/String" = some m.cls := hown
  have hz : ∀ w ∈ zall, w.before args s = true := fun w h => hts w (List.mem_cons_of_mem _ h)
  have hl : lv_has ls 1 [(0, .ref (ev.2.1 w0))] := hl
  unfold f_String_coder at hf
  refine va_gets (v := .int (Int32.ofInt 1)) hx hb hE.2.2.1 hS hown (hz _ zw_688) (fun _ h9 => h9) dJ0_coder_7d493_0 ?_
  refine xi_if_eq (tgt := 13) hx hb dJ0_coder_7d493_3 (by decide) hf (fun hf => ?_) (fun hf => ?_)
  · refine lv_iconst (v := Int32.ofInt 1) hx hb dJ0_coder_7d493_13 rfl ?_
    obtain rfl := Option.some.inj hf
    exact hret _ _ _ _ (by decide +kernel) dJ0_coder_7d493_14 hP hD hS
  · refine lv_aload_n hx hb dJ0_coder_7d493_6 rfl (lv_at hl 0 rfl) ?_
    refine vk_getf (v := .int (Int32.ofInt 0)) hx hb (hE.2.2.2.2.1 w0 hw0).2.1 hS hown (hz _ zw_1789) (fun _ h9 => h9) dJ0_coder_7d493_7 ?_
    refine lv_goto (tgt := 14) hx hb dJ0_coder_7d493_10 (by decide) ?_
    obtain rfl := Option.some.inj hf
    exact hret _ _ _ _ (by decide +kernel) dJ0_coder_7d493_14 hP hD hS
theorem dJ0_length_8abf5_0 : decode cJ0_length_8abf5 0 = .ok (.aload_n 0, 1) := by decide +kernel
theorem dJ0_length_8abf5_1 : decode cJ0_length_8abf5 1 = .ok (.getfield 9, 3) := by decide +kernel
theorem dJ0_length_8abf5_4 : decode cJ0_length_8abf5 4 = .ok (.arraylength, 1) := by decide +kernel
theorem dJ0_length_8abf5_5 : decode cJ0_length_8abf5 5 = .ok (.aload_n 0, 1) := by decide +kernel
theorem dJ0_length_8abf5_6 : decode cJ0_length_8abf5 6 = .ok (.invokevirtual 335, 3) := by decide +kernel
theorem dJ0_length_8abf5_9 : decode cJ0_length_8abf5 9 = .ok (.ishr, 1) := by decide +kernel
theorem dJ0_length_8abf5_10 : decode cJ0_length_8abf5 10 = .ok (.ireturn, 1) := by decide +kernel
theorem zw_117 : (Jvm.Cond.initialized "java/lang/String") ∈ zall := zmemG (zmj_1 14 rfl) rfl
theorem zw_683 : (Jvm.Cond.code ({ cls := "java/lang/String", name := "length", desc := "()I" } : Jvm.MethodName) prog_16_method_54_code (1 : Nat) (Option.some Jvm.ClassFile.FieldType.int)) ∈ zall := zmemG (zmj_3 100 rfl) rfl
theorem zw_684 : (Jvm.Cond.methodLink "java/lang/String" (335 : Nat) ({ cls := "java/lang/String", name := "coder", desc := "()B" } : Jvm.MethodName)) ∈ zall := zmemG (zmj_3 101 rfl) rfl
theorem zw_685 : (Jvm.Cond.instanceMethod ({ cls := "java/lang/String", name := "coder", desc := "()B" } : Jvm.MethodName)) ∈ zall := zmemG (zmj_3 102 rfl) rfl
theorem zw_686 : (Jvm.Cond.selects "java/lang/String" ({ cls := "java/lang/String", name := "coder", desc := "()B" } : Jvm.MethodName) ({ cls := "java/lang/String", name := "coder", desc := "()B" } : Jvm.MethodName)) ∈ zall := zmemG (zmj_3 103 rfl) rfl
theorem zw_1788 : (Jvm.Cond.fieldLink "java/lang/String" (9 : Nat) "java/lang/String" "value" "[B") ∈ zall := zmemG (zmj_8 5 rfl) rfl
abbrev w_String_length : List Cond := .code yJ0_length_8abf5 cJ0_length_8abf5 1 (some .int) :: zall
abbrev rm_String_length : Room := { frames := 1, cells := 0, slots := 0, locals := 20 }
theorem hd_String_length : yJ0_length_8abf5.cls = "java/lang/String" ∧ yJ0_length_8abf5.cls ≠ "java/lang/invoke/MethodHandle" ∧ yJ0_length_8abf5.cls ≠ "java/lang/invoke/VarHandle" ∧ (parseMethodDescriptor yJ0_length_8abf5.desc).map (fun d => d.parameters.length) = some 0 := by decide +kernel
def wd_String_length (cA : Nat → ClassId)   : va_W := []
def wf_String_length (cA : Nat → ClassId)  (o : Int) : va_W := wd_String_length cA
def f_String_length (w0 : Nat) : Option (Int) :=
  zn (zsl w0) fun v1 =>
  zd1 (f_String_coder w0) fun v2 =>
  zn (zi_shr v1 v2) fun v3 =>
  some v3
set_option maxHeartbeats 4000000 in
set_option maxRecDepth 100000 in
theorem c_String_length (l : Launch) (ev : zEv) (dC : Nat → ClassId) (dI : Nat → Nat → Nat) (cA : Nat → ClassId) (w0 : Nat) (hw0 : w0 < 14) {out : Int} (hf : f_String_length w0 = some out) : xc_I l ev (dC, dI) vwCl (tyl cA) yJ0_length_8abf5 w_String_length rm_String_length [.ref (ev.2.1 w0)] (wd_String_length cA) (wf_String_length cA out) out := by
  refine xv_startI (cc := cJ0_length_8abf5) (maxL := 1) (rt := .int) (by decide +kernel) rfl (Nat.le_of_ble_eq_true rfl) ?_
  intro p e s m args below meth c A Q H ls hx hb hml hts hown hK hA hP hD hS hl hE hret
  have hown : s.vm.findClass "java/lang/String" = some m.cls := hown
  have hz : ∀ w ∈ zall, w.before args s = true := fun w h => hts w (List.mem_cons_of_mem _ h)
  have hl : lv_has ls 1 [(0, .ref (ev.2.1 w0))] := hl
  unfold f_String_length at hf
  refine lv_aload_n hx hb dJ0_length_8abf5_0 rfl (lv_at hl 0 rfl) ?_
  refine vk_getf (v := .ref (ev.2.2 w0)) hx hb (hE.2.2.2.2.1 w0 hw0).2.2.1 hS hown (hz _ zw_1788) (fun _ h9 => h9) dJ0_length_8abf5_1 ?_
  refine xi_slen hx hb (hE.2.2.2.2.1 w0 hw0).2.2.2 hS dJ0_length_8abf5_4 hf (fun v1 hf => ?_)
  refine lv_aload_n hx hb dJ0_length_8abf5_5 rfl (lv_at hl 0 rfl) ?_
  refine xe_d1 hf (fun v2 hg hf => ?_)
  have hC : ([] : List Nat).map (fun i => (wd_String_length cA)[i]?) = (wd_String_coder cA).map some := rfl
  refine xv_afterI (ws' := (wd_String_length cA)) (isC := []) (ps := []) (va_runV (As := []) (rest := [.int (Int32.ofInt v1)]) ⟨hx, hb, hml, hown, hts⟩ (c_String_coder l ev dC dI cA w0 hw0 hg H.size) (cwV 0 hts (zgV zw_684 zw_685 zw_686 zw_117 zw_687) rfl rfl rfl hd_String_coder ⟨Nat.le_of_ble_eq_true rfl, Nat.le_of_ble_eq_true rfl⟩) (xv_preK (vk_recv hE.2.2.2.2 hw0 hS) hE hA hS hK hP hD (isC := []) (by decide +kernel) hC) rfl rfl hl.1 rfl (lv_room (Nat.le_of_ble_eq_true rfl)) dJ0_length_8abf5_6 ⟨Nat.le_refl _, Nat.le_refl _⟩) hP hD hS hA (by decide +kernel) rfl hC rfl rfl (fun H locs hP hD hS => ?_)
  refine xi_ishr hx hb dJ0_length_8abf5_9 hf (fun v3 hf => ?_)
  obtain rfl := Option.some.inj hf
  exact hret _ _ _ _ rfl dJ0_length_8abf5_10 hP hD hS
theorem dJ3_checkIndex_8e157_0 : decode cJ3_checkIndex_8e157 0 = .ok (.iload_n 0, 1) := by decide +kernel
theorem dJ3_checkIndex_8e157_1 : decode cJ3_checkIndex_8e157 1 = .ok (.ifCond .lt 8, 3) := by decide +kernel
theorem dJ3_checkIndex_8e157_4 : decode cJ3_checkIndex_8e157 4 = .ok (.iload_n 0, 1) := by decide +kernel
theorem dJ3_checkIndex_8e157_5 : decode cJ3_checkIndex_8e157 5 = .ok (.iload_n 1, 1) := by decide +kernel
theorem dJ3_checkIndex_8e157_6 : decode cJ3_checkIndex_8e157 6 = .ok (.if_icmp .lt 10, 3) := by decide +kernel
theorem dJ3_checkIndex_8e157_9 : decode cJ3_checkIndex_8e157 9 = .ok (.aload_n 2, 1) := by decide +kernel
theorem dJ3_checkIndex_8e157_10 : decode cJ3_checkIndex_8e157 10 = .ok (.iload_n 0, 1) := by decide +kernel
theorem dJ3_checkIndex_8e157_11 : decode cJ3_checkIndex_8e157 11 = .ok (.iload_n 1, 1) := by decide +kernel
theorem dJ3_checkIndex_8e157_12 : decode cJ3_checkIndex_8e157 12 = .ok (.invokestatic 95, 3) := by decide +kernel
theorem dJ3_checkIndex_8e157_16 : decode cJ3_checkIndex_8e157 16 = .ok (.iload_n 0, 1) := by decide +kernel
theorem dJ3_checkIndex_8e157_17 : decode cJ3_checkIndex_8e157 17 = .ok (.ireturn, 1) := by decide +kernel
theorem zw_708 : (Jvm.Cond.code ({ cls := "jdk/internal/util/Preconditions", name := "checkIndex", desc := "(IILjava/util/function/BiFunction;)I" } : Jvm.MethodName) prog_21_method_11_code (3 : Nat) (Option.some Jvm.ClassFile.FieldType.int)) ∈ zall := zmemG (zmj_3 125 rfl) rfl
abbrev w_Preconditions_checkIndex_nN : List Cond := .code yJ3_checkIndex_8e157 cJ3_checkIndex_8e157 3 (some .int) :: zall
abbrev rm_Preconditions_checkIndex_nN : Room := { frames := 0, cells := 0, slots := 0, locals := 0 }
theorem hd_Preconditions_checkIndex_nN : yJ3_checkIndex_8e157.cls = yJ3_checkIndex_8e157.cls ∧ yJ3_checkIndex_8e157.cls ≠ "java/lang/invoke/MethodHandle" ∧ yJ3_checkIndex_8e157.cls ≠ "java/lang/invoke/VarHandle" ∧ (parseMethodDescriptor yJ3_checkIndex_8e157.desc).map (fun d => d.parameters.length) = some 3 := by decide +kernel
def wd_Preconditions_checkIndex_nN (cA : Nat → ClassId)   : va_W := []
def wf_Preconditions_checkIndex_nN (cA : Nat → ClassId)  (o : Int) : va_W := wd_Preconditions_checkIndex_nN cA
def f_Preconditions_checkIndex_nN_9  (x0 : Int) (x1 : Int) : Option (Int) :=
  none
def f_Preconditions_checkIndex_nN (x0 : Int) (x1 : Int) : Option (Int) :=
  if zi_w x0 < 0 then
    f_Preconditions_checkIndex_nN_9 x0 x1
  else
    if zi_w x0 < zi_w x1 then
      some x0
    else
      f_Preconditions_checkIndex_nN_9 x0 x1
set_option maxHeartbeats 4000000 in
set_option maxRecDepth 100000 in
theorem c_Preconditions_checkIndex_nN (l : Launch) (ev : zEv) (dC : Nat → ClassId) (dI : Nat → Nat → Nat) (cA : Nat → ClassId) {x0 x1 : Int} {out : Int} (hf : f_Preconditions_checkIndex_nN x0 x1 = some out) : xc_I l ev (dC, dI) vwCl (tyl cA) yJ3_checkIndex_8e157 w_Preconditions_checkIndex_nN rm_Preconditions_checkIndex_nN [.int (Int32.ofInt x0), .int (Int32.ofInt x1), .null] (wd_Preconditions_checkIndex_nN cA) (wf_Preconditions_checkIndex_nN cA out) out := by
  refine xv_startI (cc := cJ3_checkIndex_8e157) (maxL := 3) (rt := .int) (by decide +kernel) rfl (Nat.le_of_ble_eq_true rfl) ?_
  intro p e s m args below meth c A Q H ls hx hb hml hts hown hK hA hP hD hS hl hE hret
  have hown : s.vm.findClass "jdk/internal/util/Preconditions" = some m.cls := hown
  have hz : ∀ w ∈ zall, w.before args s = true := fun w h => hts w (List.mem_cons_of_mem _ h)
  have hl : lv_has ls 3 [(0, .int (Int32.ofInt x0)), (1, .int (Int32.ofInt x1)), (2, .null)] := hl
  have b_9 : ∀ (x0 : Int) (x1 : Int) (H : Heap) (locs : List Loc) (ls : Array Slot), f_Preconditions_checkIndex_nN_9 x0 x1 = some out → va_P (dC, dI) vwCl (wd_Preconditions_checkIndex_nN cA) H → va_D A (wd_Preconditions_checkIndex_nN cA) → va_S A s.heap H locs → lv_has ls 3 [(0, .int (Int32.ofInt x0)), (1, .int (Int32.ofInt x1)), (2, .null)] → W p l e rm_Preconditions_checkIndex_nN s m args below meth c H locs 0 0 Q (F0 m 9 ls []) := by
    intro x0 x1 H locs ls hf hP hD hS hl
    unfold f_Preconditions_checkIndex_nN_9 at hf
    exact nomatch hf
  unfold f_Preconditions_checkIndex_nN at hf
  refine lv_iload_n hx hb dJ3_checkIndex_8e157_0 rfl (lv_at hl 0 rfl) ?_
  refine xi_if_lt (tgt := 9) hx hb dJ3_checkIndex_8e157_1 (by decide) hf (fun hf => ?_) (fun hf => ?_)
  · exact b_9  _ _ _ _ _ hf hP hD hS (lv_sub hl [0, 1, 2] rfl)
  · refine lv_iload_n hx hb dJ3_checkIndex_8e157_4 rfl (lv_at hl 0 rfl) ?_
    refine lv_iload_n hx hb dJ3_checkIndex_8e157_5 rfl (lv_at hl 1 rfl) ?_
    refine xi_icmp_lt (tgt := 16) hx hb dJ3_checkIndex_8e157_6 (by decide) hf (fun hf => ?_) (fun hf => ?_)
    · refine lv_iload_n hx hb dJ3_checkIndex_8e157_16 rfl (lv_at hl 0 rfl) ?_
      obtain rfl := Option.some.inj hf
      exact hret _ _ _ _ rfl dJ3_checkIndex_8e157_17 hP hD hS
    · exact b_9  _ _ _ _ _ hf hP hD hS (lv_sub hl [0, 1, 2] rfl)
abbrev w_Preconditions_checkIndex_nt : List Cond := .code yJ3_checkIndex_8e157 cJ3_checkIndex_8e157 3 (some .int) :: zall
abbrev rm_Preconditions_checkIndex_nt : Room := { frames := 0, cells := 0, slots := 0, locals := 0 }
theorem hd_Preconditions_checkIndex_nt : yJ3_checkIndex_8e157.cls = yJ3_checkIndex_8e157.cls ∧ yJ3_checkIndex_8e157.cls ≠ "java/lang/invoke/MethodHandle" ∧ yJ3_checkIndex_8e157.cls ≠ "java/lang/invoke/VarHandle" ∧ (parseMethodDescriptor yJ3_checkIndex_8e157.desc).map (fun d => d.parameters.length) = some 3 := by decide +kernel
def wd_Preconditions_checkIndex_nt (cA : Nat → ClassId)   : va_W := []
def wf_Preconditions_checkIndex_nt (cA : Nat → ClassId)  (o : Int) : va_W := wd_Preconditions_checkIndex_nt cA
def f_Preconditions_checkIndex_nt_9  (x0 : Int) (x1 : Int) : Option (Int) :=
  none
def f_Preconditions_checkIndex_nt (x0 : Int) (x1 : Int) : Option (Int) :=
  if zi_w x0 < 0 then
    f_Preconditions_checkIndex_nt_9 x0 x1
  else
    if zi_w x0 < zi_w x1 then
      some x0
    else
      f_Preconditions_checkIndex_nt_9 x0 x1
set_option maxHeartbeats 4000000 in
set_option maxRecDepth 100000 in
theorem c_Preconditions_checkIndex_nt (l : Launch) (ev : zEv) (dC : Nat → ClassId) (dI : Nat → Nat → Nat) (cA : Nat → ClassId) (t2 : Nat) {x0 x1 : Int} {out : Int} (hf : f_Preconditions_checkIndex_nt x0 x1 = some out) : xc_I l ev (dC, dI) vwCl (tyl cA) yJ3_checkIndex_8e157 w_Preconditions_checkIndex_nt rm_Preconditions_checkIndex_nt [.int (Int32.ofInt x0), .int (Int32.ofInt x1), .ref t2] (wd_Preconditions_checkIndex_nt cA) (wf_Preconditions_checkIndex_nt cA out) out := by
  refine xv_startI (cc := cJ3_checkIndex_8e157) (maxL := 3) (rt := .int) (by decide +kernel) rfl (Nat.le_of_ble_eq_true rfl) ?_
  intro p e s m args below meth c A Q H ls hx hb hml hts hown hK hA hP hD hS hl hE hret
  have hown : s.vm.findClass "jdk/internal/util/Preconditions" = some m.cls := hown
  have hz : ∀ w ∈ zall, w.before args s = true := fun w h => hts w (List.mem_cons_of_mem _ h)
  have hl : lv_has ls 3 [(0, .int (Int32.ofInt x0)), (1, .int (Int32.ofInt x1)), (2, .ref t2)] := hl
  have b_9 : ∀ (x0 : Int) (x1 : Int) (H : Heap) (locs : List Loc) (ls : Array Slot), f_Preconditions_checkIndex_nt_9 x0 x1 = some out → va_P (dC, dI) vwCl (wd_Preconditions_checkIndex_nt cA) H → va_D A (wd_Preconditions_checkIndex_nt cA) → va_S A s.heap H locs → lv_has ls 3 [(0, .int (Int32.ofInt x0)), (1, .int (Int32.ofInt x1)), (2, .ref t2)] → W p l e rm_Preconditions_checkIndex_nt s m args below meth c H locs 0 0 Q (F0 m 9 ls []) := by
    intro x0 x1 H locs ls hf hP hD hS hl
    unfold f_Preconditions_checkIndex_nt_9 at hf
    exact nomatch hf
  unfold f_Preconditions_checkIndex_nt at hf
  refine lv_iload_n hx hb dJ3_checkIndex_8e157_0 rfl (lv_at hl 0 rfl) ?_
  refine xi_if_lt (tgt := 9) hx hb dJ3_checkIndex_8e157_1 (by decide) hf (fun hf => ?_) (fun hf => ?_)
  · exact b_9  _ _ _ _ _ hf hP hD hS (lv_sub hl [0, 1, 2] rfl)
  · refine lv_iload_n hx hb dJ3_checkIndex_8e157_4 rfl (lv_at hl 0 rfl) ?_
    refine lv_iload_n hx hb dJ3_checkIndex_8e157_5 rfl (lv_at hl 1 rfl) ?_
    refine xi_icmp_lt (tgt := 16) hx hb dJ3_checkIndex_8e157_6 (by decide) hf (fun hf => ?_) (fun hf => ?_)
    · refine lv_iload_n hx hb dJ3_checkIndex_8e157_16 rfl (lv_at hl 0 rfl) ?_
      obtain rfl := Option.some.inj hf
      exact hret _ _ _ _ rfl dJ3_checkIndex_8e157_17 hP hD hS
    · exact b_9  _ _ _ _ _ hf hP hD hS (lv_sub hl [0, 1, 2] rfl)
theorem dJ0_checkIndex_df160_0 : decode cJ0_checkIndex_df160 0 = .ok (.iload_n 0, 1) := by decide +kernel
theorem dJ0_checkIndex_df160_1 : decode cJ0_checkIndex_df160 1 = .ok (.iload_n 1, 1) := by decide +kernel
theorem dJ0_checkIndex_df160_2 : decode cJ0_checkIndex_df160 2 = .ok (.getstatic 1053, 3) := by decide +kernel
theorem dJ0_checkIndex_df160_5 : decode cJ0_checkIndex_df160 5 = .ok (.invokestatic 1059, 3) := by decide +kernel
theorem dJ0_checkIndex_df160_8 : decode cJ0_checkIndex_df160 8 = .ok (.pop, 1) := by decide +kernel
theorem dJ0_checkIndex_df160_9 : decode cJ0_checkIndex_df160 9 = .ok (.return_, 1) := by decide +kernel
theorem zw_119 : (Jvm.Cond.initialized "jdk/internal/util/Preconditions") ∈ zall := zmemG (zmj_1 16 rfl) rfl
theorem zw_703 : (Jvm.Cond.code ({ cls := "java/lang/String", name := "checkIndex", desc := "(II)V" } : Jvm.MethodName) prog_16_method_155_code (2 : Nat) (Option.none : Option Jvm.ClassFile.FieldType)) ∈ zall := zmemG (zmj_3 120 rfl) rfl
theorem zw_704 : (Jvm.Cond.fieldLink "java/lang/String" (1053 : Nat) "jdk/internal/util/Preconditions" "SIOOBE_FORMATTER" "Ljava/util/function/BiFunction;") ∈ zall := zmemG (zmj_3 121 rfl) rfl
theorem zw_706 : (Jvm.Cond.methodLink "java/lang/String" (1059 : Nat) ({ cls := "jdk/internal/util/Preconditions", name := "checkIndex", desc := "(IILjava/util/function/BiFunction;)I" } : Jvm.MethodName)) ∈ zall := zmemG (zmj_3 123 rfl) rfl
theorem zw_707 : (Jvm.Cond.static ({ cls := "jdk/internal/util/Preconditions", name := "checkIndex", desc := "(IILjava/util/function/BiFunction;)I" } : Jvm.MethodName)) ∈ zall := zmemG (zmj_3 124 rfl) rfl
abbrev w_String_checkIndex : List Cond := .code yJ0_checkIndex_df160 cJ0_checkIndex_df160 2 none :: zall
abbrev rm_String_checkIndex : Room := { frames := 1, cells := 0, slots := 0, locals := 22 }
theorem hd_String_checkIndex : yJ0_checkIndex_df160.cls = yJ0_checkIndex_df160.cls ∧ yJ0_checkIndex_df160.cls ≠ "java/lang/invoke/MethodHandle" ∧ yJ0_checkIndex_df160.cls ≠ "java/lang/invoke/VarHandle" ∧ (parseMethodDescriptor yJ0_checkIndex_df160.desc).map (fun d => d.parameters.length) = some 2 := by decide +kernel
def wd_String_checkIndex (cA : Nat → ClassId)   : va_W := []
def wf_String_checkIndex (cA : Nat → ClassId)  (o : Unit) : va_W := wd_String_checkIndex cA
def f_String_checkIndex (x0 : Int) (x1 : Int) : Option (Unit) :=
  zd1 (f_Preconditions_checkIndex_nN x0 x1) fun v1 =>
  some ()
set_option maxHeartbeats 4000000 in
set_option maxRecDepth 100000 in
theorem c_String_checkIndex (l : Launch) (ev : zEv) (dC : Nat → ClassId) (dI : Nat → Nat → Nat) (cA : Nat → ClassId) {x0 x1 : Int} {out : Unit} (hf : f_String_checkIndex x0 x1 = some out) : xc_V l ev (dC, dI) vwCl (tyl cA) yJ0_checkIndex_df160 w_String_checkIndex rm_String_checkIndex [.int (Int32.ofInt x0), .int (Int32.ofInt x1)] (wd_String_checkIndex cA) (wf_String_checkIndex cA out) := by
  refine xv_startV (cc := cJ0_checkIndex_df160) (maxL := 2) (by decide +kernel) rfl (Nat.le_of_ble_eq_true rfl) ?_
  intro p e s m args below meth c A Q H ls hx hb hml hts hown hK hA hP hD hS hl hE hret
  have hown : s.vm.findClass "java/lang/String" = some m.cls := hown
  have hz : ∀ w ∈ zall, w.before args s = true := fun w h => hts w (List.mem_cons_of_mem _ h)
  have hl : lv_has ls 2 [(0, .int (Int32.ofInt x0)), (1, .int (Int32.ofInt x1))] := hl
  unfold f_String_checkIndex at hf
  refine lv_iload_n hx hb dJ0_checkIndex_df160_0 rfl (lv_at hl 0 rfl) ?_
  refine lv_iload_n hx hb dJ0_checkIndex_df160_1 rfl (lv_at hl 1 rfl) ?_
  rcases hE.2.2.2.1 with hZ9 | ⟨t9, hZ9⟩
  · refine va_gets (v := .null) hx hb hZ9 hS hown (hz _ zw_704) (fun _ h9 => h9) dJ0_checkIndex_df160_2 ?_
    refine xe_d1 hf (fun v1 hg hf => ?_)
    have hC : ([] : List Nat).map (fun i => (wd_String_checkIndex cA)[i]?) = (wd_Preconditions_checkIndex_nN cA).map some := rfl
    refine xv_afterI (ws' := (wd_String_checkIndex cA)) (isC := []) (ps := []) (va_runS (As := [.int (Int32.ofInt x0), .int (Int32.ofInt x1), .null]) (rest := []) ⟨hx, hb, hml, hown, hts⟩ (c_Preconditions_checkIndex_nN l ev dC dI cA hg H.size) (va_cwS 3 hts (zgS zw_706 zw_707 zw_119 zw_708) rfl rfl rfl hd_Preconditions_checkIndex_nN.2 ⟨Nat.le_of_ble_eq_true rfl, Nat.le_of_ble_eq_true rfl⟩) (xv_preS hE hA hS hK hP hD (isC := []) (by decide +kernel) hC) rfl rfl hl.1 rfl (lv_room (Nat.le_of_ble_eq_true rfl)) dJ0_checkIndex_df160_5 ⟨Nat.le_refl _, Nat.le_refl _⟩) hP hD hS hA (by decide +kernel) rfl hC rfl rfl (fun H locs hP hD hS => ?_)
    refine lv_pop hx hb dJ0_checkIndex_df160_8 rfl ?_
    obtain rfl := Option.some.inj hf
    exact hret _ _ _ _ dJ0_checkIndex_df160_9 hP hD hS
  · refine va_gets (v := .ref t9) hx hb hZ9 hS hown (hz _ zw_704) (fun _ h9 => h9) dJ0_checkIndex_df160_2 ?_
    refine xe_d1 hf (fun v1 hg hf => ?_)
    have hC : ([] : List Nat).map (fun i => (wd_String_checkIndex cA)[i]?) = (wd_Preconditions_checkIndex_nt cA).map some := rfl
    refine xv_afterI (ws' := (wd_String_checkIndex cA)) (isC := []) (ps := []) (va_runS (As := [.int (Int32.ofInt x0), .int (Int32.ofInt x1), .ref t9]) (rest := []) ⟨hx, hb, hml, hown, hts⟩ (c_Preconditions_checkIndex_nt l ev dC dI cA t9 hg H.size) (va_cwS 3 hts (zgS zw_706 zw_707 zw_119 zw_708) rfl rfl rfl hd_Preconditions_checkIndex_nt.2 ⟨Nat.le_of_ble_eq_true rfl, Nat.le_of_ble_eq_true rfl⟩) (xv_preS hE hA hS hK hP hD (isC := []) (by decide +kernel) hC) rfl rfl hl.1 rfl (lv_room (Nat.le_of_ble_eq_true rfl)) dJ0_checkIndex_df160_5 ⟨Nat.le_refl _, Nat.le_refl _⟩) hP hD hS hA (by decide +kernel) rfl hC rfl rfl (fun H locs hP hD hS => ?_)
    refine lv_pop hx hb dJ0_checkIndex_df160_8 rfl ?_
    obtain rfl := Option.some.inj hf
    exact hret _ _ _ _ dJ0_checkIndex_df160_9 hP hD hS
theorem dJ1_charAt_3b067_0 : decode cJ1_charAt_3b067 0 = .ok (.iload_n 1, 1) := by decide +kernel
theorem dJ1_charAt_3b067_1 : decode cJ1_charAt_3b067 1 = .ok (.aload_n 0, 1) := by decide +kernel
theorem dJ1_charAt_3b067_2 : decode cJ1_charAt_3b067 2 = .ok (.arraylength, 1) := by decide +kernel
theorem dJ1_charAt_3b067_3 : decode cJ1_charAt_3b067 3 = .ok (.invokestatic 9, 3) := by decide +kernel
theorem dJ1_charAt_3b067_6 : decode cJ1_charAt_3b067 6 = .ok (.aload_n 0, 1) := by decide +kernel
theorem dJ1_charAt_3b067_7 : decode cJ1_charAt_3b067 7 = .ok (.iload_n 1, 1) := by decide +kernel
theorem dJ1_charAt_3b067_8 : decode cJ1_charAt_3b067 8 = .ok (.baload, 1) := by decide +kernel
theorem dJ1_charAt_3b067_9 : decode cJ1_charAt_3b067 9 = .ok (.sipush 255, 3) := by decide +kernel
theorem dJ1_charAt_3b067_12 : decode cJ1_charAt_3b067 12 = .ok (.iand, 1) := by decide +kernel
theorem dJ1_charAt_3b067_13 : decode cJ1_charAt_3b067 13 = .ok (.i2c, 1) := by decide +kernel
theorem dJ1_charAt_3b067_14 : decode cJ1_charAt_3b067 14 = .ok (.ireturn, 1) := by decide +kernel
theorem zw_700 : (Jvm.Cond.code ({ cls := "java/lang/StringLatin1", name := "charAt", desc := "([BI)C" } : Jvm.MethodName) prog_17_method_2_code (2 : Nat) (Option.some Jvm.ClassFile.FieldType.char)) ∈ zall := zmemG (zmj_3 117 rfl) rfl
theorem zw_701 : (Jvm.Cond.methodLink "java/lang/StringLatin1" (9 : Nat) ({ cls := "java/lang/String", name := "checkIndex", desc := "(II)V" } : Jvm.MethodName)) ∈ zall := zmemG (zmj_3 118 rfl) rfl
theorem zw_702 : (Jvm.Cond.static ({ cls := "java/lang/String", name := "checkIndex", desc := "(II)V" } : Jvm.MethodName)) ∈ zall := zmemG (zmj_3 119 rfl) rfl
abbrev w_StringLatin1_charAt : List Cond := .code yJ1_charAt_3b067 cJ1_charAt_3b067 2 (some .char) :: zall
abbrev rm_StringLatin1_charAt : Room := { frames := 2, cells := 0, slots := 0, locals := 43 }
theorem hd_StringLatin1_charAt : yJ1_charAt_3b067.cls = yJ1_charAt_3b067.cls ∧ yJ1_charAt_3b067.cls ≠ "java/lang/invoke/MethodHandle" ∧ yJ1_charAt_3b067.cls ≠ "java/lang/invoke/VarHandle" ∧ (parseMethodDescriptor yJ1_charAt_3b067.desc).map (fun d => d.parameters.length) = some 2 := by decide +kernel
def wd_StringLatin1_charAt (cA : Nat → ClassId)   : va_W := []
def wf_StringLatin1_charAt (cA : Nat → ClassId)  (o : Int) : va_W := wd_StringLatin1_charAt cA
def f_StringLatin1_charAt (x1 : Int) (w0 : Nat) : Option (Int) :=
  zn (zsl w0) fun v1 =>
  zd1 (f_String_checkIndex x1 v1) fun _ =>
  zg (zlen.getD w0 0) (zch w0) x1 fun v2 =>
  zn (zi_and v2 255) fun v3 =>
  zn (zi_chr v3) fun v4 =>
  if ¬ (0 ≤ zi_w v4 ∧ zi_w v4 < 128) then none else
  some v4
set_option maxHeartbeats 4000000 in
set_option maxRecDepth 100000 in
theorem c_StringLatin1_charAt (l : Launch) (ev : zEv) (dC : Nat → ClassId) (dI : Nat → Nat → Nat) (cA : Nat → ClassId) (w0 : Nat) (hw0 : w0 < 14) {x1 : Int} {out : Int} (hf : f_StringLatin1_charAt x1 w0 = some out) : xc_I l ev (dC, dI) vwCl (tyl cA) yJ1_charAt_3b067 w_StringLatin1_charAt rm_StringLatin1_charAt [.ref (ev.2.2 w0), .int (Int32.ofInt x1)] (wd_StringLatin1_charAt cA) (wf_StringLatin1_charAt cA out) out := by
  refine xv_startI (cc := cJ1_charAt_3b067) (maxL := 2) (rt := .char) (by decide +kernel) rfl (Nat.le_of_ble_eq_true rfl) ?_
  intro p e s m args below meth c A Q H ls hx hb hml hts hown hK hA hP hD hS hl hE hret
  have hown : s.vm.findClass "java/lang/StringLatin1" = some m.cls := hown
  have hz : ∀ w ∈ zall, w.before args s = true := fun w h => hts w (List.mem_cons_of_mem _ h)
  have hl : lv_has ls 2 [(0, .ref (ev.2.2 w0)), (1, .int (Int32.ofInt x1))] := hl
  unfold f_StringLatin1_charAt at hf
  refine lv_iload_n hx hb dJ1_charAt_3b067_0 rfl (lv_at hl 1 rfl) ?_
  refine lv_aload_n hx hb dJ1_charAt_3b067_1 rfl (lv_at hl 0 rfl) ?_
  refine xi_slen hx hb (hE.2.2.2.2.1 w0 hw0).2.2.2 hS dJ1_charAt_3b067_2 hf (fun v1 hf => ?_)
  refine xe_d1 hf (fun _ hg hf => ?_)
  have hC : ([] : List Nat).map (fun i => (wd_StringLatin1_charAt cA)[i]?) = (wd_String_checkIndex cA).map some := rfl
  refine xv_afterV (ws' := (wd_StringLatin1_charAt cA)) (isC := []) (ps := []) (va_runS (As := [.int (Int32.ofInt x1), .int (Int32.ofInt v1)]) (rest := []) ⟨hx, hb, hml, hown, hts⟩ (c_String_checkIndex l ev dC dI cA hg H.size) (va_cwS 2 hts (zgS zw_701 zw_702 zw_117 zw_703) rfl rfl rfl hd_String_checkIndex.2 ⟨Nat.le_of_ble_eq_true rfl, Nat.le_of_ble_eq_true rfl⟩) (xv_preS hE hA hS hK hP hD (isC := []) (by decide +kernel) hC) rfl rfl hl.1 rfl (lv_room (Nat.le_of_ble_eq_true rfl)) dJ1_charAt_3b067_3 ⟨Nat.le_refl _, Nat.le_refl _⟩) hP hD hS hA (by decide +kernel) rfl hC rfl rfl (fun H locs hP hD hS => ?_)
  refine lv_aload_n hx hb dJ1_charAt_3b067_6 rfl (lv_at hl 0 rfl) ?_
  refine lv_iload_n hx hb dJ1_charAt_3b067_7 rfl (lv_at hl 1 rfl) ?_
  refine xi_sbald hw0 hx hb (hE.2.2.2.2.1 w0 hw0).2.2.2 hS dJ1_charAt_3b067_8 hf (fun v2 hf => ?_)
  refine lv_sipush (v := Int32.ofInt 255) hx hb dJ1_charAt_3b067_9 (by decide) ?_
  refine xi_iand hx hb dJ1_charAt_3b067_12 hf (fun v3 hf => ?_)
  refine xi_i2c hx hb dJ1_charAt_3b067_13 hf (fun v4 hf => ?_)
  obtain ⟨hzb, hf⟩ := xz_q hf
  obtain rfl := Option.some.inj hf
  exact hret _ _ _ _ (zz_chr hzb) dJ1_charAt_3b067_14 hP hD hS
theorem dJ0_isLatin1_aae02_0 : decode cJ0_isLatin1_aae02 0 = .ok (.getstatic 38, 3) := by decide +kernel
theorem dJ0_isLatin1_aae02_3 : decode cJ0_isLatin1_aae02 3 = .ok (.ifCond .eq 14, 3) := by decide +kernel
theorem dJ0_isLatin1_aae02_6 : decode cJ0_isLatin1_aae02 6 = .ok (.aload_n 0, 1) := by decide +kernel
theorem dJ0_isLatin1_aae02_7 : decode cJ0_isLatin1_aae02 7 = .ok (.getfield 15, 3) := by decide +kernel
theorem dJ0_isLatin1_aae02_10 : decode cJ0_isLatin1_aae02 10 = .ok (.ifCond .ne 7, 3) := by decide +kernel
theorem dJ0_isLatin1_aae02_13 : decode cJ0_isLatin1_aae02 13 = .ok (.iconst 1, 1) := by decide +kernel
theorem dJ0_isLatin1_aae02_14 : decode cJ0_isLatin1_aae02 14 = .ok (.goto 4, 3) := by decide +kernel
theorem dJ0_isLatin1_aae02_17 : decode cJ0_isLatin1_aae02 17 = .ok (.iconst 0, 1) := by decide +kernel
theorem dJ0_isLatin1_aae02_18 : decode cJ0_isLatin1_aae02 18 = .ok (.ireturn, 1) := by decide +kernel
theorem zw_697 : (Jvm.Cond.code ({ cls := "java/lang/String", name := "isLatin1", desc := "()Z" } : Jvm.MethodName) prog_16_method_154_code (1 : Nat) (Option.some Jvm.ClassFile.FieldType.boolean)) ∈ zall := zmemG (zmj_3 114 rfl) rfl
abbrev w_String_isLatin1 : List Cond := .code yJ0_isLatin1_aae02 cJ0_isLatin1_aae02 1 (some .boolean) :: zall
abbrev rm_String_isLatin1 : Room := { frames := 0, cells := 0, slots := 0, locals := 0 }
theorem hd_String_isLatin1 : yJ0_isLatin1_aae02.cls = "java/lang/String" ∧ yJ0_isLatin1_aae02.cls ≠ "java/lang/invoke/MethodHandle" ∧ yJ0_isLatin1_aae02.cls ≠ "java/lang/invoke/VarHandle" ∧ (parseMethodDescriptor yJ0_isLatin1_aae02.desc).map (fun d => d.parameters.length) = some 0 := by decide +kernel
def wd_String_isLatin1 (cA : Nat → ClassId)   : va_W := []
def wf_String_isLatin1 (cA : Nat → ClassId)  (o : Int) : va_W := wd_String_isLatin1 cA
def f_String_isLatin1 (w0 : Nat) : Option (Int) :=
  if zi_w 1 = 0 then
    some 0
  else
    if zi_w 0 ≠ 0 then
      some 0
    else
      some 1
set_option maxHeartbeats 4000000 in
set_option maxRecDepth 100000 in
theorem c_String_isLatin1 (l : Launch) (ev : zEv) (dC : Nat → ClassId) (dI : Nat → Nat → Nat) (cA : Nat → ClassId) (w0 : Nat) (hw0 : w0 < 14) {out : Int} (hf : f_String_isLatin1 w0 = some out) : xc_I l ev (dC, dI) vwCl (tyl cA) yJ0_isLatin1_aae02 w_String_isLatin1 rm_String_isLatin1 [.ref (ev.2.1 w0)] (wd_String_isLatin1 cA) (wf_String_isLatin1 cA out) out := by
  refine xv_startI (cc := cJ0_isLatin1_aae02) (maxL := 1) (rt := .boolean) (by decide +kernel) rfl (Nat.le_of_ble_eq_true rfl) ?_
  intro p e s m args below meth c A Q H ls hx hb hml hts hown hK hA hP hD hS hl hE hret
  have hown : s.vm.findClass "java/lang/String" = some m.cls := hown
  have hz : ∀ w ∈ zall, w.before args s = true := fun w h => hts w (List.mem_cons_of_mem _ h)
  have hl : lv_has ls 1 [(0, .ref (ev.2.1 w0))] := hl
  unfold f_String_isLatin1 at hf
  refine va_gets (v := .int (Int32.ofInt 1)) hx hb hE.2.2.1 hS hown (hz _ zw_688) (fun _ h9 => h9) dJ0_isLatin1_aae02_0 ?_
  refine xi_if_eq (tgt := 17) hx hb dJ0_isLatin1_aae02_3 (by decide) hf (fun hf => ?_) (fun hf => ?_)
  · refine lv_iconst (v := Int32.ofInt 0) hx hb dJ0_isLatin1_aae02_17 rfl ?_
    obtain rfl := Option.some.inj hf
    exact hret _ _ _ _ zz_b0 dJ0_isLatin1_aae02_18 hP hD hS
  · refine lv_aload_n hx hb dJ0_isLatin1_aae02_6 rfl (lv_at hl 0 rfl) ?_
    refine vk_getf (v := .int (Int32.ofInt 0)) hx hb (hE.2.2.2.2.1 w0 hw0).2.1 hS hown (hz _ zw_1789) (fun _ h9 => h9) dJ0_isLatin1_aae02_7 ?_
    refine xi_if_ne (tgt := 17) hx hb dJ0_isLatin1_aae02_10 (by decide) hf (fun hf => ?_) (fun hf => ?_)
    · refine lv_iconst (v := Int32.ofInt 0) hx hb dJ0_isLatin1_aae02_17 rfl ?_
      obtain rfl := Option.some.inj hf
      exact hret _ _ _ _ zz_b0 dJ0_isLatin1_aae02_18 hP hD hS
    · refine lv_iconst (v := Int32.ofInt 1) hx hb dJ0_isLatin1_aae02_13 rfl ?_
      refine lv_goto (tgt := 18) hx hb dJ0_isLatin1_aae02_14 (by decide) ?_
      obtain rfl := Option.some.inj hf
      exact hret _ _ _ _ zz_b1 dJ0_isLatin1_aae02_18 hP hD hS
theorem dJ0_charAt_5068e_0 : decode cJ0_charAt_5068e 0 = .ok (.aload_n 0, 1) := by decide +kernel
theorem dJ0_charAt_5068e_1 : decode cJ0_charAt_5068e 1 = .ok (.invokevirtual 492, 3) := by decide +kernel
theorem dJ0_charAt_5068e_4 : decode cJ0_charAt_5068e 4 = .ok (.ifCond .eq 12, 3) := by decide +kernel
theorem dJ0_charAt_5068e_7 : decode cJ0_charAt_5068e 7 = .ok (.aload_n 0, 1) := by decide +kernel
theorem dJ0_charAt_5068e_8 : decode cJ0_charAt_5068e 8 = .ok (.getfield 9, 3) := by decide +kernel
theorem dJ0_charAt_5068e_11 : decode cJ0_charAt_5068e 11 = .ok (.iload_n 1, 1) := by decide +kernel
theorem dJ0_charAt_5068e_12 : decode cJ0_charAt_5068e 12 = .ok (.invokestatic 495, 3) := by decide +kernel
theorem dJ0_charAt_5068e_15 : decode cJ0_charAt_5068e 15 = .ok (.ireturn, 1) := by decide +kernel
theorem dJ0_charAt_5068e_16 : decode cJ0_charAt_5068e 16 = .ok (.aload_n 0, 1) := by decide +kernel
theorem dJ0_charAt_5068e_17 : decode cJ0_charAt_5068e 17 = .ok (.getfield 9, 3) := by decide +kernel
theorem dJ0_charAt_5068e_20 : decode cJ0_charAt_5068e 20 = .ok (.iload_n 1, 1) := by decide +kernel
theorem dJ0_charAt_5068e_21 : decode cJ0_charAt_5068e 21 = .ok (.invokestatic 498, 3) := by decide +kernel
theorem zw_118 : (Jvm.Cond.initialized "java/lang/StringLatin1") ∈ zall := zmemG (zmj_1 15 rfl) rfl
theorem zw_693 : (Jvm.Cond.code ({ cls := "java/lang/String", name := "charAt", desc := "(I)C" } : Jvm.MethodName) prog_16_method_56_code (2 : Nat) (Option.some Jvm.ClassFile.FieldType.char)) ∈ zall := zmemG (zmj_3 110 rfl) rfl
theorem zw_694 : (Jvm.Cond.methodLink "java/lang/String" (492 : Nat) ({ cls := "java/lang/String", name := "isLatin1", desc := "()Z" } : Jvm.MethodName)) ∈ zall := zmemG (zmj_3 111 rfl) rfl
theorem zw_695 : (Jvm.Cond.instanceMethod ({ cls := "java/lang/String", name := "isLatin1", desc := "()Z" } : Jvm.MethodName)) ∈ zall := zmemG (zmj_3 112 rfl) rfl
theorem zw_696 : (Jvm.Cond.selects "java/lang/String" ({ cls := "java/lang/String", name := "isLatin1", desc := "()Z" } : Jvm.MethodName) ({ cls := "java/lang/String", name := "isLatin1", desc := "()Z" } : Jvm.MethodName)) ∈ zall := zmemG (zmj_3 113 rfl) rfl
theorem zw_698 : (Jvm.Cond.methodLink "java/lang/String" (495 : Nat) ({ cls := "java/lang/StringLatin1", name := "charAt", desc := "([BI)C" } : Jvm.MethodName)) ∈ zall := zmemG (zmj_3 115 rfl) rfl
theorem zw_699 : (Jvm.Cond.static ({ cls := "java/lang/StringLatin1", name := "charAt", desc := "([BI)C" } : Jvm.MethodName)) ∈ zall := zmemG (zmj_3 116 rfl) rfl
abbrev w_String_charAt : List Cond := .code yJ0_charAt_5068e cJ0_charAt_5068e 2 (some .char) :: zall
abbrev rm_String_charAt : Room := { frames := 3, cells := 0, slots := 0, locals := 64 }
theorem hd_String_charAt : yJ0_charAt_5068e.cls = "java/lang/String" ∧ yJ0_charAt_5068e.cls ≠ "java/lang/invoke/MethodHandle" ∧ yJ0_charAt_5068e.cls ≠ "java/lang/invoke/VarHandle" ∧ (parseMethodDescriptor yJ0_charAt_5068e.desc).map (fun d => d.parameters.length) = some 1 := by decide +kernel
def wd_String_charAt (cA : Nat → ClassId)   : va_W := []
def wf_String_charAt (cA : Nat → ClassId)  (o : Int) : va_W := wd_String_charAt cA
def f_String_charAt (x1 : Int) (w0 : Nat) : Option (Int) :=
  zd1 (f_String_isLatin1 w0) fun v1 =>
  if zi_w v1 = 0 then
    none
  else
    zd1 (f_StringLatin1_charAt x1 w0) fun v2 =>
    if ¬ (0 ≤ zi_w v2 ∧ zi_w v2 < 128) then none else
    some v2
set_option maxHeartbeats 4000000 in
set_option maxRecDepth 100000 in
theorem c_String_charAt (l : Launch) (ev : zEv) (dC : Nat → ClassId) (dI : Nat → Nat → Nat) (cA : Nat → ClassId) (w0 : Nat) (hw0 : w0 < 14) {x1 : Int} {out : Int} (hf : f_String_charAt x1 w0 = some out) : xc_I l ev (dC, dI) vwCl (tyl cA) yJ0_charAt_5068e w_String_charAt rm_String_charAt [.ref (ev.2.1 w0), .int (Int32.ofInt x1)] (wd_String_charAt cA) (wf_String_charAt cA out) out := by
  refine xv_startI (cc := cJ0_charAt_5068e) (maxL := 2) (rt := .char) (by decide +kernel) rfl (Nat.le_of_ble_eq_true rfl) ?_
  intro p e s m args below meth c A Q H ls hx hb hml hts hown hK hA hP hD hS hl hE hret
  have hown : s.vm.findClass "java/lang/String" = some m.cls := hown
  have hz : ∀ w ∈ zall, w.before args s = true := fun w h => hts w (List.mem_cons_of_mem _ h)
  have hl : lv_has ls 2 [(0, .ref (ev.2.1 w0)), (1, .int (Int32.ofInt x1))] := hl
  unfold f_String_charAt at hf
  refine lv_aload_n hx hb dJ0_charAt_5068e_0 rfl (lv_at hl 0 rfl) ?_
  refine xe_d1 hf (fun v1 hg hf => ?_)
  have hC : ([] : List Nat).map (fun i => (wd_String_charAt cA)[i]?) = (wd_String_isLatin1 cA).map some := rfl
  refine xv_afterI (ws' := (wd_String_charAt cA)) (isC := []) (ps := []) (va_runV (As := []) (rest := []) ⟨hx, hb, hml, hown, hts⟩ (c_String_isLatin1 l ev dC dI cA w0 hw0 hg H.size) (cwV 0 hts (zgV zw_694 zw_695 zw_696 zw_117 zw_697) rfl rfl rfl hd_String_isLatin1 ⟨Nat.le_of_ble_eq_true rfl, Nat.le_of_ble_eq_true rfl⟩) (xv_preK (vk_recv hE.2.2.2.2 hw0 hS) hE hA hS hK hP hD (isC := []) (by decide +kernel) hC) rfl rfl hl.1 rfl (lv_room (Nat.le_of_ble_eq_true rfl)) dJ0_charAt_5068e_1 ⟨Nat.le_refl _, Nat.le_refl _⟩) hP hD hS hA (by decide +kernel) rfl hC rfl rfl (fun H locs hP hD hS => ?_)
  refine xi_if_eq (tgt := 16) hx hb dJ0_charAt_5068e_4 (by decide) hf (fun hf => ?_) (fun hf => ?_)
  · exact nomatch hf
  · refine lv_aload_n hx hb dJ0_charAt_5068e_7 rfl (lv_at hl 0 rfl) ?_
    refine vk_getf (v := .ref (ev.2.2 w0)) hx hb (hE.2.2.2.2.1 w0 hw0).2.2.1 hS hown (hz _ zw_1788) (fun _ h9 => h9) dJ0_charAt_5068e_8 ?_
    refine lv_iload_n hx hb dJ0_charAt_5068e_11 rfl (lv_at hl 1 rfl) ?_
    refine xe_d1 hf (fun v2 hg hf => ?_)
    have hC : ([] : List Nat).map (fun i => (wd_String_charAt cA)[i]?) = (wd_StringLatin1_charAt cA).map some := rfl
    refine xv_afterI (ws' := (wd_String_charAt cA)) (isC := []) (ps := []) (va_runS (As := [.ref (ev.2.2 w0), .int (Int32.ofInt x1)]) (rest := []) ⟨hx, hb, hml, hown, hts⟩ (c_StringLatin1_charAt l ev dC dI cA w0 hw0 hg H.size) (va_cwS 2 hts (zgS zw_698 zw_699 zw_118 zw_700) rfl rfl rfl hd_StringLatin1_charAt.2 ⟨Nat.le_of_ble_eq_true rfl, Nat.le_of_ble_eq_true rfl⟩) (xv_preS hE hA hS hK hP hD (isC := []) (by decide +kernel) hC) rfl rfl hl.1 rfl (lv_room (Nat.le_of_ble_eq_true rfl)) dJ0_charAt_5068e_12 ⟨Nat.le_refl _, Nat.le_refl _⟩) hP hD hS hA (by decide +kernel) rfl hC rfl rfl (fun H locs hP hD hS => ?_)
    obtain ⟨hzb, hf⟩ := xz_q hf
    obtain rfl := Option.some.inj hf
    exact hret _ _ _ _ (zz_chr hzb) dJ0_charAt_5068e_15 hP hD hS
theorem dX4_isWord_0 : decode cX4_isWord 0 = .ok (.iload_n 3, 1) := by decide +kernel
theorem dX4_isWord_1 : decode cX4_isWord 1 = .ok (.iload_n 2, 1) := by decide +kernel
theorem dX4_isWord_2 : decode cX4_isWord 2 = .ok (.isub, 1) := by decide +kernel
theorem dX4_isWord_3 : decode cX4_isWord 3 = .ok (.aload_n 0, 1) := by decide +kernel
theorem dX4_isWord_4 : decode cX4_isWord 4 = .ok (.invokevirtual 132, 3) := by decide +kernel
theorem dX4_isWord_7 : decode cX4_isWord 7 = .ok (.if_icmp .eq 5, 3) := by decide +kernel
theorem dX4_isWord_10 : decode cX4_isWord 10 = .ok (.iconst 0, 1) := by decide +kernel
theorem dX4_isWord_11 : decode cX4_isWord 11 = .ok (.ireturn, 1) := by decide +kernel
theorem dX4_isWord_12 : decode cX4_isWord 12 = .ok (.iconst 0, 1) := by decide +kernel
theorem dX4_isWord_13 : decode cX4_isWord 13 = .ok (.istore 4, 2) := by decide +kernel
theorem dX4_isWord_15 : decode cX4_isWord 15 = .ok (.iload 4, 2) := by decide +kernel
theorem dX4_isWord_17 : decode cX4_isWord 17 = .ok (.aload_n 0, 1) := by decide +kernel
theorem dX4_isWord_18 : decode cX4_isWord 18 = .ok (.invokevirtual 132, 3) := by decide +kernel
theorem dX4_isWord_21 : decode cX4_isWord 21 = .ok (.if_icmp .ge 26, 3) := by decide +kernel
theorem dX4_isWord_24 : decode cX4_isWord 24 = .ok (.aload_n 1, 1) := by decide +kernel
theorem dX4_isWord_25 : decode cX4_isWord 25 = .ok (.iload_n 2, 1) := by decide +kernel
theorem dX4_isWord_26 : decode cX4_isWord 26 = .ok (.iload 4, 2) := by decide +kernel
theorem dX4_isWord_28 : decode cX4_isWord 28 = .ok (.iadd, 1) := by decide +kernel
theorem dX4_isWord_29 : decode cX4_isWord 29 = .ok (.iaload, 1) := by decide +kernel
theorem dX4_isWord_30 : decode cX4_isWord 30 = .ok (.aload_n 0, 1) := by decide +kernel
theorem dX4_isWord_31 : decode cX4_isWord 31 = .ok (.iload 4, 2) := by decide +kernel
theorem dX4_isWord_33 : decode cX4_isWord 33 = .ok (.invokevirtual 138, 3) := by decide +kernel
theorem dX4_isWord_36 : decode cX4_isWord 36 = .ok (.if_icmp .eq 5, 3) := by decide +kernel
theorem dX4_isWord_39 : decode cX4_isWord 39 = .ok (.iconst 0, 1) := by decide +kernel
theorem dX4_isWord_40 : decode cX4_isWord 40 = .ok (.ireturn, 1) := by decide +kernel
theorem dX4_isWord_41 : decode cX4_isWord 41 = .ok (.iinc 4 1, 3) := by decide +kernel
theorem dX4_isWord_44 : decode cX4_isWord 44 = .ok (.goto (-29), 3) := by decide +kernel
theorem dX4_isWord_47 : decode cX4_isWord 47 = .ok (.iconst 1, 1) := by decide +kernel
theorem dX4_isWord_48 : decode cX4_isWord 48 = .ok (.ireturn, 1) := by decide +kernel
theorem zw_679 : (Jvm.Cond.code ({ cls := "HillSchool$LawReader", name := "isWord", desc := "(Ljava/lang/String;[III)Z" } : Jvm.MethodName) prog_6_method_19_code (5 : Nat) (Option.some Jvm.ClassFile.FieldType.boolean)) ∈ zall := zmemG (zmj_3 96 rfl) rfl
theorem zw_680 : (Jvm.Cond.methodLink "HillSchool$LawReader" (132 : Nat) ({ cls := "java/lang/String", name := "length", desc := "()I" } : Jvm.MethodName)) ∈ zall := zmemG (zmj_3 97 rfl) rfl
theorem zw_681 : (Jvm.Cond.instanceMethod ({ cls := "java/lang/String", name := "length", desc := "()I" } : Jvm.MethodName)) ∈ zall := zmemG (zmj_3 98 rfl) rfl
theorem zw_682 : (Jvm.Cond.selects "java/lang/String" ({ cls := "java/lang/String", name := "length", desc := "()I" } : Jvm.MethodName) ({ cls := "java/lang/String", name := "length", desc := "()I" } : Jvm.MethodName)) ∈ zall := zmemG (zmj_3 99 rfl) rfl
theorem zw_690 : (Jvm.Cond.methodLink "HillSchool$LawReader" (138 : Nat) ({ cls := "java/lang/String", name := "charAt", desc := "(I)C" } : Jvm.MethodName)) ∈ zall := zmemG (zmj_3 107 rfl) rfl
theorem zw_691 : (Jvm.Cond.instanceMethod ({ cls := "java/lang/String", name := "charAt", desc := "(I)C" } : Jvm.MethodName)) ∈ zall := zmemG (zmj_3 108 rfl) rfl
theorem zw_692 : (Jvm.Cond.selects "java/lang/String" ({ cls := "java/lang/String", name := "charAt", desc := "(I)C" } : Jvm.MethodName) ({ cls := "java/lang/String", name := "charAt", desc := "(I)C" } : Jvm.MethodName)) ∈ zall := zmemG (zmj_3 109 rfl) rfl
abbrev w_LawReader_isWord : List Cond := .code yX4_isWord cX4_isWord 5 (some .boolean) :: zall
abbrev rm_LawReader_isWord : Room := { frames := 4, cells := 0, slots := 0, locals := 85 }
theorem hd_LawReader_isWord : yX4_isWord.cls = yX4_isWord.cls ∧ yX4_isWord.cls ≠ "java/lang/invoke/MethodHandle" ∧ yX4_isWord.cls ≠ "java/lang/invoke/VarHandle" ∧ (parseMethodDescriptor yX4_isWord.desc).map (fun d => d.parameters.length) = some 4 := by decide +kernel
def wd_LawReader_isWord (cA : Nat → ClassId) (q0 : Nat) (i_a1 : Nat → Int)  : va_W := [(q0, .inl (cA 0, 400, .inl (za i_a1)))]
def wf_LawReader_isWord (cA : Nat → ClassId) (q0 : Nat) (i_a1 : Nat → Int) (o : Int) : va_W := wd_LawReader_isWord cA q0 i_a1
def f_LawReader_isWord_15_b (w0 : Nat) (i_a1 : Nat → Int) (k15 : Int → Int → Option (Int)) (x2 : Int) (x4 : Int) : Option (Int) :=
  zd1 (f_String_length w0) fun v1 =>
  if zi_w v1 ≤ zi_w x4 then
    some 1
  else
    zn (x2 + x4) fun v2 =>
    zg 400 i_a1 v2 fun v3 =>
    zd1 (f_String_charAt x4 w0) fun v4 =>
    if zi_w v3 = zi_w v4 then
      zn (x4 + 1) fun v5 =>
      k15 x2 v5
    else
      some 0
def f_LawReader_isWord_15 (w0 : Nat) (i_a1 : Nat → Int) : Nat → Int → Int → Option (Int)
  | 0 => fun _ _ => none
  | n + 1 => fun y0 y1 => f_LawReader_isWord_15_b w0 i_a1 (f_LawReader_isWord_15 w0 i_a1 n) y0 y1
def f_LawReader_isWord (x2 : Int) (x3 : Int) (w0 : Nat) (i_a1 : Nat → Int) : Option (Int) :=
  zn (x3 - x2) fun v1 =>
  zd1 (f_String_length w0) fun v2 =>
  if zi_w v1 = zi_w v2 then
    f_LawReader_isWord_15 w0 i_a1 zfu x2 0
  else
    some 0
set_option maxHeartbeats 4000000 in
set_option maxRecDepth 100000 in
theorem c_LawReader_isWord (l : Launch) (ev : zEv) (dC : Nat → ClassId) (dI : Nat → Nat → Nat) (cA : Nat → ClassId) (q0 : Nat) (w0 : Nat) (hw0 : w0 < 14) {x2 x3 : Int} {i_a1 : Nat → Int} {out : Int} (hf : f_LawReader_isWord x2 x3 w0 i_a1 = some out) : xc_I l ev (dC, dI) vwCl (tyl cA) yX4_isWord w_LawReader_isWord rm_LawReader_isWord [.ref (ev.2.1 w0), .ref q0, .int (Int32.ofInt x2), .int (Int32.ofInt x3)] (wd_LawReader_isWord cA q0 i_a1) (wf_LawReader_isWord cA q0 i_a1 out) out := by
  refine xv_startI (cc := cX4_isWord) (maxL := 5) (rt := .boolean) (by decide +kernel) rfl (Nat.le_of_ble_eq_true rfl) ?_
  intro p e s m args below meth c A Q H ls hx hb hml hts hown hK hA hP hD hS hl hE hret
  have hown : s.vm.findClass "HillSchool$LawReader" = some m.cls := hown
  have hz : ∀ w ∈ zall, w.before args s = true := fun w h => hts w (List.mem_cons_of_mem _ h)
  have hl : lv_has ls 5 [(0, .ref (ev.2.1 w0)), (1, .ref q0), (2, .int (Int32.ofInt x2)), (3, .int (Int32.ofInt x3))] := hl
  have b_15 : ∀ (k15 : Int → Int → Option (Int)) (_ : ∀ (x2 : Int) (x4 : Int) (H : Heap) (locs : List Loc) (ls : Array Slot), k15 x2 x4 = some out → va_P (dC, dI) vwCl (wd_LawReader_isWord cA q0 i_a1) H → va_D A (wd_LawReader_isWord cA q0 i_a1) → va_S A s.heap H locs → lv_has ls 5 [(0, .ref (ev.2.1 w0)), (1, .ref q0), (2, .int (Int32.ofInt x2)), (4, .int (Int32.ofInt x4))] → W p l e rm_LawReader_isWord s m args below meth c H locs 0 0 Q (F0 m 15 ls [])), ∀ (x2 : Int) (x4 : Int) (H : Heap) (locs : List Loc) (ls : Array Slot), f_LawReader_isWord_15_b w0 i_a1 k15 x2 x4 = some out → va_P (dC, dI) vwCl (wd_LawReader_isWord cA q0 i_a1) H → va_D A (wd_LawReader_isWord cA q0 i_a1) → va_S A s.heap H locs → lv_has ls 5 [(0, .ref (ev.2.1 w0)), (1, .ref q0), (2, .int (Int32.ofInt x2)), (4, .int (Int32.ofInt x4))] → W p l e rm_LawReader_isWord s m args below meth c H locs 0 0 Q (F0 m 15 ls []) := by
    intro k15 ih15 x2 x4 H locs ls hf hP hD hS hl
    unfold f_LawReader_isWord_15_b at hf
    refine lv_iload hx hb dX4_isWord_15 (lv_at hl 3 rfl) ?_
    refine lv_aload_n hx hb dX4_isWord_17 rfl (lv_at hl 0 rfl) ?_
    refine xe_d1 hf (fun v1 hg hf => ?_)
    have hC : ([] : List Nat).map (fun i => (wd_LawReader_isWord cA q0 i_a1)[i]?) = (wd_String_length cA).map some := rfl
    refine xv_afterI (ws' := (wd_LawReader_isWord cA q0 i_a1)) (isC := []) (ps := [none]) (va_runV (As := []) (rest := [.int (Int32.ofInt x4)]) ⟨hx, hb, hml, hown, hts⟩ (c_String_length l ev dC dI cA w0 hw0 hg H.size) (cwV 0 hts (zgV zw_680 zw_681 zw_682 zw_117 zw_683) rfl rfl rfl hd_String_length ⟨Nat.le_of_ble_eq_true rfl, Nat.le_of_ble_eq_true rfl⟩) (xv_preK (vk_recv hE.2.2.2.2 hw0 hS) hE hA hS hK hP hD (isC := []) (by decide +kernel) hC) rfl rfl hl.1 rfl (lv_room (Nat.le_of_ble_eq_true rfl)) dX4_isWord_18 ⟨Nat.le_refl _, Nat.le_refl _⟩) hP hD hS hA (by decide +kernel) rfl hC rfl rfl (fun H locs hP hD hS => ?_)
    refine xi_icmp_ge (tgt := 47) hx hb dX4_isWord_21 (by decide) hf (fun hf => ?_) (fun hf => ?_)
    · refine lv_iconst (v := Int32.ofInt 1) hx hb dX4_isWord_47 rfl ?_
      obtain rfl := Option.some.inj hf
      exact hret _ _ _ _ zz_b1 dX4_isWord_48 hP hD hS
    · refine lv_aload_n hx hb dX4_isWord_24 rfl (lv_at hl 1 rfl) ?_
      refine lv_iload_n hx hb dX4_isWord_25 rfl (lv_at hl 2 rfl) ?_
      refine lv_iload hx hb dX4_isWord_26 (lv_at hl 3 rfl) ?_
      refine xi_iadd hx hb dX4_isWord_28 hf (fun v2 hf => ?_)
      refine xi_iald hx hb hK hP 0 0 rfl rfl dX4_isWord_29 hf (fun v3 hf => ?_)
      refine lv_aload_n hx hb dX4_isWord_30 rfl (lv_at hl 0 rfl) ?_
      refine lv_iload hx hb dX4_isWord_31 (lv_at hl 3 rfl) ?_
      refine xe_d1 hf (fun v4 hg hf => ?_)
      have hC : ([] : List Nat).map (fun i => (wd_LawReader_isWord cA q0 i_a1)[i]?) = (wd_String_charAt cA).map some := rfl
      refine xv_afterI (ws' := (wd_LawReader_isWord cA q0 i_a1)) (isC := []) (ps := [none]) (va_runV (As := [.int (Int32.ofInt x4)]) (rest := [.int (Int32.ofInt v3)]) ⟨hx, hb, hml, hown, hts⟩ (c_String_charAt l ev dC dI cA w0 hw0 hg H.size) (cwV 1 hts (zgV zw_690 zw_691 zw_692 zw_117 zw_693) rfl rfl rfl hd_String_charAt ⟨Nat.le_of_ble_eq_true rfl, Nat.le_of_ble_eq_true rfl⟩) (xv_preK (vk_recv hE.2.2.2.2 hw0 hS) hE hA hS hK hP hD (isC := []) (by decide +kernel) hC) rfl rfl hl.1 rfl (lv_room (Nat.le_of_ble_eq_true rfl)) dX4_isWord_33 ⟨Nat.le_refl _, Nat.le_refl _⟩) hP hD hS hA (by decide +kernel) rfl hC rfl rfl (fun H locs hP hD hS => ?_)
      refine xi_icmp_eq (tgt := 41) hx hb dX4_isWord_36 (by decide) hf (fun hf => ?_) (fun hf => ?_)
      · refine xi_iinc hx hb dX4_isWord_41 hl (k := 3) rfl (by decide) hf (fun v5 ls hl hf => ?_)
        have hl : lv_has ls 5 [(4, .int (Int32.ofInt v5)), (0, .ref (ev.2.1 w0)), (1, .ref q0), (2, .int (Int32.ofInt x2))] := hl
        refine lv_goto (tgt := 15) hx hb dX4_isWord_44 (by decide) ?_
        exact ih15 _ _ _ _ _ hf hP hD hS (lv_sub hl [1, 2, 3, 0] rfl)
      · refine lv_iconst (v := Int32.ofInt 0) hx hb dX4_isWord_39 rfl ?_
        obtain rfl := Option.some.inj hf
        exact hret _ _ _ _ zz_b0 dX4_isWord_40 hP hD hS
  have l_15 : ∀ (n : Nat), ∀ (x2 : Int) (x4 : Int) (H : Heap) (locs : List Loc) (ls : Array Slot), f_LawReader_isWord_15 w0 i_a1 n x2 x4 = some out → va_P (dC, dI) vwCl (wd_LawReader_isWord cA q0 i_a1) H → va_D A (wd_LawReader_isWord cA q0 i_a1) → va_S A s.heap H locs → lv_has ls 5 [(0, .ref (ev.2.1 w0)), (1, .ref q0), (2, .int (Int32.ofInt x2)), (4, .int (Int32.ofInt x4))] → W p l e rm_LawReader_isWord s m args below meth c H locs 0 0 Q (F0 m 15 ls []) := by
    intro n
    induction n with
    | zero => intro x2 x4 H locs ls hf hP hD hS hl; exact nomatch hf
    | succ n ih => intro x2 x4 H locs ls hf hP hD hS hl; exact b_15 (f_LawReader_isWord_15 w0 i_a1 n) ih x2 x4 H locs ls hf hP hD hS hl
  unfold f_LawReader_isWord at hf
  refine lv_iload_n hx hb dX4_isWord_0 rfl (lv_at hl 3 rfl) ?_
  refine lv_iload_n hx hb dX4_isWord_1 rfl (lv_at hl 2 rfl) ?_
  refine xi_isub hx hb dX4_isWord_2 hf (fun v1 hf => ?_)
  refine lv_aload_n hx hb dX4_isWord_3 rfl (lv_at hl 0 rfl) ?_
  refine xe_d1 hf (fun v2 hg hf => ?_)
  have hC : ([] : List Nat).map (fun i => (wd_LawReader_isWord cA q0 i_a1)[i]?) = (wd_String_length cA).map some := rfl
  refine xv_afterI (ws' := (wd_LawReader_isWord cA q0 i_a1)) (isC := []) (ps := [none]) (va_runV (As := []) (rest := [.int (Int32.ofInt v1)]) ⟨hx, hb, hml, hown, hts⟩ (c_String_length l ev dC dI cA w0 hw0 hg H.size) (cwV 0 hts (zgV zw_680 zw_681 zw_682 zw_117 zw_683) rfl rfl rfl hd_String_length ⟨Nat.le_of_ble_eq_true rfl, Nat.le_of_ble_eq_true rfl⟩) (xv_preK (vk_recv hE.2.2.2.2 hw0 hS) hE hA hS hK hP hD (isC := []) (by decide +kernel) hC) rfl rfl hl.1 rfl (lv_room (Nat.le_of_ble_eq_true rfl)) dX4_isWord_4 ⟨Nat.le_refl _, Nat.le_refl _⟩) hP hD hS hA (by decide +kernel) rfl hC rfl rfl (fun H locs hP hD hS => ?_)
  refine xi_icmp_eq (tgt := 12) hx hb dX4_isWord_7 (by decide) hf (fun hf => ?_) (fun hf => ?_)
  · refine lv_iconst (v := Int32.ofInt 0) hx hb dX4_isWord_12 rfl ?_
    refine lv_istore (lv' := [(4, .int (Int32.ofInt 0)), (0, .ref (ev.2.1 w0)), (1, .ref q0), (2, .int (Int32.ofInt x2)), (3, .int (Int32.ofInt x3))]) hx hb dX4_isWord_13 hl (by decide) rfl (fun ls hl => ?_)
    exact l_15  _ _ _ _ _ _ hf hP hD hS (lv_sub hl [1, 2, 3, 0] rfl)
  · refine lv_iconst (v := Int32.ofInt 0) hx hb dX4_isWord_10 rfl ?_
    obtain rfl := Option.some.inj hf
    exact hret _ _ _ _ zz_b0 dX4_isWord_11 hP hD hS
theorem dX4_ruleWordOf_0 : decode cX4_ruleWordOf 0 = .ok (.ldc 120, 2) := by decide +kernel
theorem dX4_ruleWordOf_2 : decode cX4_ruleWordOf 2 = .ok (.aload_n 0, 1) := by decide +kernel
theorem dX4_ruleWordOf_3 : decode cX4_ruleWordOf 3 = .ok (.iload_n 1, 1) := by decide +kernel
theorem dX4_ruleWordOf_4 : decode cX4_ruleWordOf 4 = .ok (.iload_n 2, 1) := by decide +kernel
theorem dX4_ruleWordOf_5 : decode cX4_ruleWordOf 5 = .ok (.invokestatic 100, 3) := by decide +kernel
theorem dX4_ruleWordOf_8 : decode cX4_ruleWordOf 8 = .ok (.ifCond .eq 7, 3) := by decide +kernel
theorem dX4_ruleWordOf_11 : decode cX4_ruleWordOf 11 = .ok (.sipush 260, 3) := by decide +kernel
theorem dX4_ruleWordOf_14 : decode cX4_ruleWordOf 14 = .ok (.ireturn, 1) := by decide +kernel
theorem dX4_ruleWordOf_15 : decode cX4_ruleWordOf 15 = .ok (.ldc 122, 2) := by decide +kernel
theorem dX4_ruleWordOf_17 : decode cX4_ruleWordOf 17 = .ok (.aload_n 0, 1) := by decide +kernel
theorem dX4_ruleWordOf_18 : decode cX4_ruleWordOf 18 = .ok (.iload_n 1, 1) := by decide +kernel
theorem dX4_ruleWordOf_19 : decode cX4_ruleWordOf 19 = .ok (.iload_n 2, 1) := by decide +kernel
theorem dX4_ruleWordOf_20 : decode cX4_ruleWordOf 20 = .ok (.invokestatic 100, 3) := by decide +kernel
theorem dX4_ruleWordOf_23 : decode cX4_ruleWordOf 23 = .ok (.ifCond .eq 7, 3) := by decide +kernel
theorem dX4_ruleWordOf_26 : decode cX4_ruleWordOf 26 = .ok (.sipush 261, 3) := by decide +kernel
theorem dX4_ruleWordOf_29 : decode cX4_ruleWordOf 29 = .ok (.ireturn, 1) := by decide +kernel
theorem dX4_ruleWordOf_30 : decode cX4_ruleWordOf 30 = .ok (.ldc 124, 2) := by decide +kernel
theorem dX4_ruleWordOf_32 : decode cX4_ruleWordOf 32 = .ok (.aload_n 0, 1) := by decide +kernel
theorem dX4_ruleWordOf_33 : decode cX4_ruleWordOf 33 = .ok (.iload_n 1, 1) := by decide +kernel
theorem dX4_ruleWordOf_34 : decode cX4_ruleWordOf 34 = .ok (.iload_n 2, 1) := by decide +kernel
theorem dX4_ruleWordOf_35 : decode cX4_ruleWordOf 35 = .ok (.invokestatic 100, 3) := by decide +kernel
theorem dX4_ruleWordOf_38 : decode cX4_ruleWordOf 38 = .ok (.ifCond .eq 7, 3) := by decide +kernel
theorem dX4_ruleWordOf_41 : decode cX4_ruleWordOf 41 = .ok (.sipush 262, 3) := by decide +kernel
theorem dX4_ruleWordOf_44 : decode cX4_ruleWordOf 44 = .ok (.ireturn, 1) := by decide +kernel
theorem dX4_ruleWordOf_45 : decode cX4_ruleWordOf 45 = .ok (.ldc 126, 2) := by decide +kernel
theorem dX4_ruleWordOf_47 : decode cX4_ruleWordOf 47 = .ok (.aload_n 0, 1) := by decide +kernel
theorem dX4_ruleWordOf_48 : decode cX4_ruleWordOf 48 = .ok (.iload_n 1, 1) := by decide +kernel
theorem dX4_ruleWordOf_49 : decode cX4_ruleWordOf 49 = .ok (.iload_n 2, 1) := by decide +kernel
theorem dX4_ruleWordOf_50 : decode cX4_ruleWordOf 50 = .ok (.invokestatic 100, 3) := by decide +kernel
theorem dX4_ruleWordOf_53 : decode cX4_ruleWordOf 53 = .ok (.ifCond .eq 7, 3) := by decide +kernel
theorem dX4_ruleWordOf_56 : decode cX4_ruleWordOf 56 = .ok (.sipush 263, 3) := by decide +kernel
theorem dX4_ruleWordOf_59 : decode cX4_ruleWordOf 59 = .ok (.ireturn, 1) := by decide +kernel
theorem dX4_ruleWordOf_60 : decode cX4_ruleWordOf 60 = .ok (.ldc 128, 2) := by decide +kernel
theorem dX4_ruleWordOf_62 : decode cX4_ruleWordOf 62 = .ok (.aload_n 0, 1) := by decide +kernel
theorem dX4_ruleWordOf_63 : decode cX4_ruleWordOf 63 = .ok (.iload_n 1, 1) := by decide +kernel
theorem dX4_ruleWordOf_64 : decode cX4_ruleWordOf 64 = .ok (.iload_n 2, 1) := by decide +kernel
theorem dX4_ruleWordOf_65 : decode cX4_ruleWordOf 65 = .ok (.invokestatic 100, 3) := by decide +kernel
theorem dX4_ruleWordOf_68 : decode cX4_ruleWordOf 68 = .ok (.ifCond .eq 7, 3) := by decide +kernel
theorem dX4_ruleWordOf_71 : decode cX4_ruleWordOf 71 = .ok (.sipush 264, 3) := by decide +kernel
theorem dX4_ruleWordOf_74 : decode cX4_ruleWordOf 74 = .ok (.ireturn, 1) := by decide +kernel
theorem dX4_ruleWordOf_75 : decode cX4_ruleWordOf 75 = .ok (.ldc 130, 2) := by decide +kernel
theorem dX4_ruleWordOf_77 : decode cX4_ruleWordOf 77 = .ok (.aload_n 0, 1) := by decide +kernel
theorem dX4_ruleWordOf_78 : decode cX4_ruleWordOf 78 = .ok (.iload_n 1, 1) := by decide +kernel
theorem dX4_ruleWordOf_79 : decode cX4_ruleWordOf 79 = .ok (.iload_n 2, 1) := by decide +kernel
theorem dX4_ruleWordOf_80 : decode cX4_ruleWordOf 80 = .ok (.invokestatic 100, 3) := by decide +kernel
theorem dX4_ruleWordOf_83 : decode cX4_ruleWordOf 83 = .ok (.ifCond .eq 9, 3) := by decide +kernel
theorem dX4_ruleWordOf_86 : decode cX4_ruleWordOf 86 = .ok (.sipush 265, 3) := by decide +kernel
theorem dX4_ruleWordOf_89 : decode cX4_ruleWordOf 89 = .ok (.goto 6, 3) := by decide +kernel
theorem dX4_ruleWordOf_92 : decode cX4_ruleWordOf 92 = .ok (.sipush 256, 3) := by decide +kernel
theorem dX4_ruleWordOf_95 : decode cX4_ruleWordOf 95 = .ok (.ireturn, 1) := by decide +kernel
theorem zw_677 : (Jvm.Cond.methodLink "HillSchool$LawReader" (100 : Nat) ({ cls := "HillSchool$LawReader", name := "isWord", desc := "(Ljava/lang/String;[III)Z" } : Jvm.MethodName)) ∈ zall := zmemG (zmj_3 94 rfl) rfl
theorem zw_678 : (Jvm.Cond.static ({ cls := "HillSchool$LawReader", name := "isWord", desc := "(Ljava/lang/String;[III)Z" } : Jvm.MethodName)) ∈ zall := zmemG (zmj_3 95 rfl) rfl
theorem zw_737 : (Jvm.Cond.code ({ cls := "HillSchool$LawReader", name := "ruleWordOf", desc := "([III)I" } : Jvm.MethodName) prog_6_method_18_code (3 : Nat) (Option.some Jvm.ClassFile.FieldType.int)) ∈ zall := zmemG (zmj_3 154 rfl) rfl
abbrev w_LawReader_ruleWordOf : List Cond := .code yX4_ruleWordOf cX4_ruleWordOf 3 (some .int) :: zall
abbrev rm_LawReader_ruleWordOf : Room := { frames := 5, cells := 0, slots := 0, locals := 109 }
theorem hd_LawReader_ruleWordOf : yX4_ruleWordOf.cls = yX4_ruleWordOf.cls ∧ yX4_ruleWordOf.cls ≠ "java/lang/invoke/MethodHandle" ∧ yX4_ruleWordOf.cls ≠ "java/lang/invoke/VarHandle" ∧ (parseMethodDescriptor yX4_ruleWordOf.desc).map (fun d => d.parameters.length) = some 3 := by decide +kernel
def wd_LawReader_ruleWordOf (cA : Nat → ClassId) (q0 : Nat) (i_a0 : Nat → Int)  : va_W := [(q0, .inl (cA 0, 400, .inl (za i_a0)))]
def wf_LawReader_ruleWordOf (cA : Nat → ClassId) (q0 : Nat) (i_a0 : Nat → Int) (o : Int) : va_W := wd_LawReader_ruleWordOf cA q0 i_a0
def f_LawReader_ruleWordOf (x1 : Int) (x2 : Int) (i_a0 : Nat → Int) : Option (Int) :=
  zd1 (f_LawReader_isWord x1 x2 8 i_a0) fun v1 =>
  if zi_w v1 = 0 then
    zd1 (f_LawReader_isWord x1 x2 9 i_a0) fun v2 =>
    if zi_w v2 = 0 then
      zd1 (f_LawReader_isWord x1 x2 10 i_a0) fun v3 =>
      if zi_w v3 = 0 then
        zd1 (f_LawReader_isWord x1 x2 11 i_a0) fun v4 =>
        if zi_w v4 = 0 then
          zd1 (f_LawReader_isWord x1 x2 12 i_a0) fun v5 =>
          if zi_w v5 = 0 then
            zd1 (f_LawReader_isWord x1 x2 13 i_a0) fun v6 =>
            if zi_w v6 = 0 then
              some 256
            else
              some 265
          else
            some 264
        else
          some 263
      else
        some 262
    else
      some 261
  else
    some 260
set_option maxHeartbeats 4000000 in
set_option maxRecDepth 100000 in
theorem c_LawReader_ruleWordOf (l : Launch) (ev : zEv) (dC : Nat → ClassId) (dI : Nat → Nat → Nat) (cA : Nat → ClassId) (q0 : Nat) {x1 x2 : Int} {i_a0 : Nat → Int} {out : Int} (hf : f_LawReader_ruleWordOf x1 x2 i_a0 = some out) : xc_I l ev (dC, dI) vwCl (tyl cA) yX4_ruleWordOf w_LawReader_ruleWordOf rm_LawReader_ruleWordOf [.ref q0, .int (Int32.ofInt x1), .int (Int32.ofInt x2)] (wd_LawReader_ruleWordOf cA q0 i_a0) (wf_LawReader_ruleWordOf cA q0 i_a0 out) out := by
  refine xv_startI (cc := cX4_ruleWordOf) (maxL := 3) (rt := .int) (by decide +kernel) rfl (Nat.le_of_ble_eq_true rfl) ?_
  intro p e s m args below meth c A Q H ls hx hb hml hts hown hK hA hP hD hS hl hE hret
  have hown : s.vm.findClass "HillSchool$LawReader" = some m.cls := hown
  have hz : ∀ w ∈ zall, w.before args s = true := fun w h => hts w (List.mem_cons_of_mem _ h)
  have hl : lv_has ls 3 [(0, .ref q0), (1, .int (Int32.ofInt x1)), (2, .int (Int32.ofInt x2))] := hl
  unfold f_LawReader_ruleWordOf at hf
  refine va_ldcS hx hb hown (hE.1.2 8 (by decide)) dX4_ruleWordOf_0 ?_
  refine lv_aload_n hx hb dX4_ruleWordOf_2 rfl (lv_at hl 0 rfl) ?_
  refine lv_iload_n hx hb dX4_ruleWordOf_3 rfl (lv_at hl 1 rfl) ?_
  refine lv_iload_n hx hb dX4_ruleWordOf_4 rfl (lv_at hl 2 rfl) ?_
  refine xe_d1 hf (fun v1 hg hf => ?_)
  have hC : ([0] : List Nat).map (fun i => (wd_LawReader_ruleWordOf cA q0 i_a0)[i]?) = (wd_LawReader_isWord cA q0 i_a0).map some := rfl
  refine xv_afterI (ws' := (wd_LawReader_ruleWordOf cA q0 i_a0)) (isC := [0]) (ps := [some 0]) (va_runS (As := [.ref (ev.2.1 8), .ref q0, .int (Int32.ofInt x1), .int (Int32.ofInt x2)]) (rest := []) ⟨hx, hb, hml, hown, hts⟩ (c_LawReader_isWord l ev dC dI cA q0 8 (by decide) hg H.size) (va_cwS 4 hts (zgS zw_677 zw_678 zw_107 zw_679) rfl rfl rfl hd_LawReader_isWord.2 ⟨Nat.le_of_ble_eq_true rfl, Nat.le_of_ble_eq_true rfl⟩) (xv_preS hE hA hS hK hP hD (isC := [0]) (by decide +kernel) hC) rfl rfl hl.1 rfl (lv_room (Nat.le_of_ble_eq_true rfl)) dX4_ruleWordOf_5 ⟨Nat.le_refl _, Nat.le_refl _⟩) hP hD hS hA (by decide +kernel) rfl hC rfl rfl (fun H locs hP hD hS => ?_)
  refine xi_if_eq (tgt := 15) hx hb dX4_ruleWordOf_8 (by decide) hf (fun hf => ?_) (fun hf => ?_)
  · refine va_ldcS hx hb hown (hE.1.2 9 (by decide)) dX4_ruleWordOf_15 ?_
    refine lv_aload_n hx hb dX4_ruleWordOf_17 rfl (lv_at hl 0 rfl) ?_
    refine lv_iload_n hx hb dX4_ruleWordOf_18 rfl (lv_at hl 1 rfl) ?_
    refine lv_iload_n hx hb dX4_ruleWordOf_19 rfl (lv_at hl 2 rfl) ?_
    refine xe_d1 hf (fun v2 hg hf => ?_)
    have hC : ([0] : List Nat).map (fun i => (wd_LawReader_ruleWordOf cA q0 i_a0)[i]?) = (wd_LawReader_isWord cA q0 i_a0).map some := rfl
    refine xv_afterI (ws' := (wd_LawReader_ruleWordOf cA q0 i_a0)) (isC := [0]) (ps := [some 0]) (va_runS (As := [.ref (ev.2.1 9), .ref q0, .int (Int32.ofInt x1), .int (Int32.ofInt x2)]) (rest := []) ⟨hx, hb, hml, hown, hts⟩ (c_LawReader_isWord l ev dC dI cA q0 9 (by decide) hg H.size) (va_cwS 4 hts (zgS zw_677 zw_678 zw_107 zw_679) rfl rfl rfl hd_LawReader_isWord.2 ⟨Nat.le_of_ble_eq_true rfl, Nat.le_of_ble_eq_true rfl⟩) (xv_preS hE hA hS hK hP hD (isC := [0]) (by decide +kernel) hC) rfl rfl hl.1 rfl (lv_room (Nat.le_of_ble_eq_true rfl)) dX4_ruleWordOf_20 ⟨Nat.le_refl _, Nat.le_refl _⟩) hP hD hS hA (by decide +kernel) rfl hC rfl rfl (fun H locs hP hD hS => ?_)
    refine xi_if_eq (tgt := 30) hx hb dX4_ruleWordOf_23 (by decide) hf (fun hf => ?_) (fun hf => ?_)
    · refine va_ldcS hx hb hown (hE.1.2 10 (by decide)) dX4_ruleWordOf_30 ?_
      refine lv_aload_n hx hb dX4_ruleWordOf_32 rfl (lv_at hl 0 rfl) ?_
      refine lv_iload_n hx hb dX4_ruleWordOf_33 rfl (lv_at hl 1 rfl) ?_
      refine lv_iload_n hx hb dX4_ruleWordOf_34 rfl (lv_at hl 2 rfl) ?_
      refine xe_d1 hf (fun v3 hg hf => ?_)
      have hC : ([0] : List Nat).map (fun i => (wd_LawReader_ruleWordOf cA q0 i_a0)[i]?) = (wd_LawReader_isWord cA q0 i_a0).map some := rfl
      refine xv_afterI (ws' := (wd_LawReader_ruleWordOf cA q0 i_a0)) (isC := [0]) (ps := [some 0]) (va_runS (As := [.ref (ev.2.1 10), .ref q0, .int (Int32.ofInt x1), .int (Int32.ofInt x2)]) (rest := []) ⟨hx, hb, hml, hown, hts⟩ (c_LawReader_isWord l ev dC dI cA q0 10 (by decide) hg H.size) (va_cwS 4 hts (zgS zw_677 zw_678 zw_107 zw_679) rfl rfl rfl hd_LawReader_isWord.2 ⟨Nat.le_of_ble_eq_true rfl, Nat.le_of_ble_eq_true rfl⟩) (xv_preS hE hA hS hK hP hD (isC := [0]) (by decide +kernel) hC) rfl rfl hl.1 rfl (lv_room (Nat.le_of_ble_eq_true rfl)) dX4_ruleWordOf_35 ⟨Nat.le_refl _, Nat.le_refl _⟩) hP hD hS hA (by decide +kernel) rfl hC rfl rfl (fun H locs hP hD hS => ?_)
      refine xi_if_eq (tgt := 45) hx hb dX4_ruleWordOf_38 (by decide) hf (fun hf => ?_) (fun hf => ?_)
      · refine va_ldcS hx hb hown (hE.1.2 11 (by decide)) dX4_ruleWordOf_45 ?_
        refine lv_aload_n hx hb dX4_ruleWordOf_47 rfl (lv_at hl 0 rfl) ?_
        refine lv_iload_n hx hb dX4_ruleWordOf_48 rfl (lv_at hl 1 rfl) ?_
        refine lv_iload_n hx hb dX4_ruleWordOf_49 rfl (lv_at hl 2 rfl) ?_
        refine xe_d1 hf (fun v4 hg hf => ?_)
        have hC : ([0] : List Nat).map (fun i => (wd_LawReader_ruleWordOf cA q0 i_a0)[i]?) = (wd_LawReader_isWord cA q0 i_a0).map some := rfl
        refine xv_afterI (ws' := (wd_LawReader_ruleWordOf cA q0 i_a0)) (isC := [0]) (ps := [some 0]) (va_runS (As := [.ref (ev.2.1 11), .ref q0, .int (Int32.ofInt x1), .int (Int32.ofInt x2)]) (rest := []) ⟨hx, hb, hml, hown, hts⟩ (c_LawReader_isWord l ev dC dI cA q0 11 (by decide) hg H.size) (va_cwS 4 hts (zgS zw_677 zw_678 zw_107 zw_679) rfl rfl rfl hd_LawReader_isWord.2 ⟨Nat.le_of_ble_eq_true rfl, Nat.le_of_ble_eq_true rfl⟩) (xv_preS hE hA hS hK hP hD (isC := [0]) (by decide +kernel) hC) rfl rfl hl.1 rfl (lv_room (Nat.le_of_ble_eq_true rfl)) dX4_ruleWordOf_50 ⟨Nat.le_refl _, Nat.le_refl _⟩) hP hD hS hA (by decide +kernel) rfl hC rfl rfl (fun H locs hP hD hS => ?_)
        refine xi_if_eq (tgt := 60) hx hb dX4_ruleWordOf_53 (by decide) hf (fun hf => ?_) (fun hf => ?_)
        · refine va_ldcS hx hb hown (hE.1.2 12 (by decide)) dX4_ruleWordOf_60 ?_
          refine lv_aload_n hx hb dX4_ruleWordOf_62 rfl (lv_at hl 0 rfl) ?_
          refine lv_iload_n hx hb dX4_ruleWordOf_63 rfl (lv_at hl 1 rfl) ?_
          refine lv_iload_n hx hb dX4_ruleWordOf_64 rfl (lv_at hl 2 rfl) ?_
          refine xe_d1 hf (fun v5 hg hf => ?_)
          have hC : ([0] : List Nat).map (fun i => (wd_LawReader_ruleWordOf cA q0 i_a0)[i]?) = (wd_LawReader_isWord cA q0 i_a0).map some := rfl
          refine xv_afterI (ws' := (wd_LawReader_ruleWordOf cA q0 i_a0)) (isC := [0]) (ps := [some 0]) (va_runS (As := [.ref (ev.2.1 12), .ref q0, .int (Int32.ofInt x1), .int (Int32.ofInt x2)]) (rest := []) ⟨hx, hb, hml, hown, hts⟩ (c_LawReader_isWord l ev dC dI cA q0 12 (by decide) hg H.size) (va_cwS 4 hts (zgS zw_677 zw_678 zw_107 zw_679) rfl rfl rfl hd_LawReader_isWord.2 ⟨Nat.le_of_ble_eq_true rfl, Nat.le_of_ble_eq_true rfl⟩) (xv_preS hE hA hS hK hP hD (isC := [0]) (by decide +kernel) hC) rfl rfl hl.1 rfl (lv_room (Nat.le_of_ble_eq_true rfl)) dX4_ruleWordOf_65 ⟨Nat.le_refl _, Nat.le_refl _⟩) hP hD hS hA (by decide +kernel) rfl hC rfl rfl (fun H locs hP hD hS => ?_)
          refine xi_if_eq (tgt := 75) hx hb dX4_ruleWordOf_68 (by decide) hf (fun hf => ?_) (fun hf => ?_)
          · refine va_ldcS hx hb hown (hE.1.2 13 (by decide)) dX4_ruleWordOf_75 ?_
            refine lv_aload_n hx hb dX4_ruleWordOf_77 rfl (lv_at hl 0 rfl) ?_
            refine lv_iload_n hx hb dX4_ruleWordOf_78 rfl (lv_at hl 1 rfl) ?_
            refine lv_iload_n hx hb dX4_ruleWordOf_79 rfl (lv_at hl 2 rfl) ?_
            refine xe_d1 hf (fun v6 hg hf => ?_)
            have hC : ([0] : List Nat).map (fun i => (wd_LawReader_ruleWordOf cA q0 i_a0)[i]?) = (wd_LawReader_isWord cA q0 i_a0).map some := rfl
            refine xv_afterI (ws' := (wd_LawReader_ruleWordOf cA q0 i_a0)) (isC := [0]) (ps := [some 0]) (va_runS (As := [.ref (ev.2.1 13), .ref q0, .int (Int32.ofInt x1), .int (Int32.ofInt x2)]) (rest := []) ⟨hx, hb, hml, hown, hts⟩ (c_LawReader_isWord l ev dC dI cA q0 13 (by decide) hg H.size) (va_cwS 4 hts (zgS zw_677 zw_678 zw_107 zw_679) rfl rfl rfl hd_LawReader_isWord.2 ⟨Nat.le_of_ble_eq_true rfl, Nat.le_of_ble_eq_true rfl⟩) (xv_preS hE hA hS hK hP hD (isC := [0]) (by decide +kernel) hC) rfl rfl hl.1 rfl (lv_room (Nat.le_of_ble_eq_true rfl)) dX4_ruleWordOf_80 ⟨Nat.le_refl _, Nat.le_refl _⟩) hP hD hS hA (by decide +kernel) rfl hC rfl rfl (fun H locs hP hD hS => ?_)
            refine xi_if_eq (tgt := 92) hx hb dX4_ruleWordOf_83 (by decide) hf (fun hf => ?_) (fun hf => ?_)
            · refine lv_sipush (v := Int32.ofInt 256) hx hb dX4_ruleWordOf_92 (by decide) ?_
              obtain rfl := Option.some.inj hf
              exact hret _ _ _ _ rfl dX4_ruleWordOf_95 hP hD hS
            · refine lv_sipush (v := Int32.ofInt 265) hx hb dX4_ruleWordOf_86 (by decide) ?_
              refine lv_goto (tgt := 95) hx hb dX4_ruleWordOf_89 (by decide) ?_
              obtain rfl := Option.some.inj hf
              exact hret _ _ _ _ rfl dX4_ruleWordOf_95 hP hD hS
          · refine lv_sipush (v := Int32.ofInt 264) hx hb dX4_ruleWordOf_71 (by decide) ?_
            obtain rfl := Option.some.inj hf
            exact hret _ _ _ _ rfl dX4_ruleWordOf_74 hP hD hS
        · refine lv_sipush (v := Int32.ofInt 263) hx hb dX4_ruleWordOf_56 (by decide) ?_
          obtain rfl := Option.some.inj hf
          exact hret _ _ _ _ rfl dX4_ruleWordOf_59 hP hD hS
      · refine lv_sipush (v := Int32.ofInt 262) hx hb dX4_ruleWordOf_41 (by decide) ?_
        obtain rfl := Option.some.inj hf
        exact hret _ _ _ _ rfl dX4_ruleWordOf_44 hP hD hS
    · refine lv_sipush (v := Int32.ofInt 261) hx hb dX4_ruleWordOf_26 (by decide) ?_
      obtain rfl := Option.some.inj hf
      exact hret _ _ _ _ rfl dX4_ruleWordOf_29 hP hD hS
  · refine lv_sipush (v := Int32.ofInt 260) hx hb dX4_ruleWordOf_11 (by decide) ?_
    obtain rfl := Option.some.inj hf
    exact hret _ _ _ _ rfl dX4_ruleWordOf_14 hP hD hS
theorem dX4_wordOf_0 : decode cX4_wordOf 0 = .ok (.ldc 98, 2) := by decide +kernel
theorem dX4_wordOf_2 : decode cX4_wordOf 2 = .ok (.aload_n 0, 1) := by decide +kernel
theorem dX4_wordOf_3 : decode cX4_wordOf 3 = .ok (.iload_n 1, 1) := by decide +kernel
theorem dX4_wordOf_4 : decode cX4_wordOf 4 = .ok (.iload_n 2, 1) := by decide +kernel
theorem dX4_wordOf_5 : decode cX4_wordOf 5 = .ok (.invokestatic 100, 3) := by decide +kernel
theorem dX4_wordOf_8 : decode cX4_wordOf 8 = .ok (.ifCond .eq 5, 3) := by decide +kernel
theorem dX4_wordOf_11 : decode cX4_wordOf 11 = .ok (.iconst 0, 1) := by decide +kernel
theorem dX4_wordOf_12 : decode cX4_wordOf 12 = .ok (.ireturn, 1) := by decide +kernel
theorem dX4_wordOf_13 : decode cX4_wordOf 13 = .ok (.ldc 106, 2) := by decide +kernel
theorem dX4_wordOf_15 : decode cX4_wordOf 15 = .ok (.aload_n 0, 1) := by decide +kernel
theorem dX4_wordOf_16 : decode cX4_wordOf 16 = .ok (.iload_n 1, 1) := by decide +kernel
theorem dX4_wordOf_17 : decode cX4_wordOf 17 = .ok (.iload_n 2, 1) := by decide +kernel
theorem dX4_wordOf_18 : decode cX4_wordOf 18 = .ok (.invokestatic 100, 3) := by decide +kernel
theorem dX4_wordOf_21 : decode cX4_wordOf 21 = .ok (.ifCond .eq 5, 3) := by decide +kernel
theorem dX4_wordOf_24 : decode cX4_wordOf 24 = .ok (.iconst 1, 1) := by decide +kernel
theorem dX4_wordOf_25 : decode cX4_wordOf 25 = .ok (.ireturn, 1) := by decide +kernel
theorem dX4_wordOf_26 : decode cX4_wordOf 26 = .ok (.ldc 108, 2) := by decide +kernel
theorem dX4_wordOf_28 : decode cX4_wordOf 28 = .ok (.aload_n 0, 1) := by decide +kernel
theorem dX4_wordOf_29 : decode cX4_wordOf 29 = .ok (.iload_n 1, 1) := by decide +kernel
theorem dX4_wordOf_30 : decode cX4_wordOf 30 = .ok (.iload_n 2, 1) := by decide +kernel
theorem dX4_wordOf_31 : decode cX4_wordOf 31 = .ok (.invokestatic 100, 3) := by decide +kernel
theorem dX4_wordOf_34 : decode cX4_wordOf 34 = .ok (.ifCond .eq 5, 3) := by decide +kernel
theorem dX4_wordOf_37 : decode cX4_wordOf 37 = .ok (.iconst 2, 1) := by decide +kernel
theorem dX4_wordOf_38 : decode cX4_wordOf 38 = .ok (.ireturn, 1) := by decide +kernel
theorem dX4_wordOf_39 : decode cX4_wordOf 39 = .ok (.ldc 110, 2) := by decide +kernel
theorem dX4_wordOf_41 : decode cX4_wordOf 41 = .ok (.aload_n 0, 1) := by decide +kernel
theorem dX4_wordOf_42 : decode cX4_wordOf 42 = .ok (.iload_n 1, 1) := by decide +kernel
theorem dX4_wordOf_43 : decode cX4_wordOf 43 = .ok (.iload_n 2, 1) := by decide +kernel
theorem dX4_wordOf_44 : decode cX4_wordOf 44 = .ok (.invokestatic 100, 3) := by decide +kernel
theorem dX4_wordOf_47 : decode cX4_wordOf 47 = .ok (.ifCond .eq 5, 3) := by decide +kernel
theorem dX4_wordOf_50 : decode cX4_wordOf 50 = .ok (.iconst 3, 1) := by decide +kernel
theorem dX4_wordOf_51 : decode cX4_wordOf 51 = .ok (.ireturn, 1) := by decide +kernel
theorem dX4_wordOf_52 : decode cX4_wordOf 52 = .ok (.ldc 112, 2) := by decide +kernel
theorem dX4_wordOf_54 : decode cX4_wordOf 54 = .ok (.aload_n 0, 1) := by decide +kernel
theorem dX4_wordOf_55 : decode cX4_wordOf 55 = .ok (.iload_n 1, 1) := by decide +kernel
theorem dX4_wordOf_56 : decode cX4_wordOf 56 = .ok (.iload_n 2, 1) := by decide +kernel
theorem dX4_wordOf_57 : decode cX4_wordOf 57 = .ok (.invokestatic 100, 3) := by decide +kernel
theorem dX4_wordOf_60 : decode cX4_wordOf 60 = .ok (.ifCond .eq 5, 3) := by decide +kernel
theorem dX4_wordOf_63 : decode cX4_wordOf 63 = .ok (.iconst 4, 1) := by decide +kernel
theorem dX4_wordOf_64 : decode cX4_wordOf 64 = .ok (.ireturn, 1) := by decide +kernel
theorem dX4_wordOf_65 : decode cX4_wordOf 65 = .ok (.ldc 114, 2) := by decide +kernel
theorem dX4_wordOf_67 : decode cX4_wordOf 67 = .ok (.aload_n 0, 1) := by decide +kernel
theorem dX4_wordOf_68 : decode cX4_wordOf 68 = .ok (.iload_n 1, 1) := by decide +kernel
theorem dX4_wordOf_69 : decode cX4_wordOf 69 = .ok (.iload_n 2, 1) := by decide +kernel
theorem dX4_wordOf_70 : decode cX4_wordOf 70 = .ok (.invokestatic 100, 3) := by decide +kernel
theorem dX4_wordOf_73 : decode cX4_wordOf 73 = .ok (.ifCond .eq 5, 3) := by decide +kernel
theorem dX4_wordOf_76 : decode cX4_wordOf 76 = .ok (.iconst 5, 1) := by decide +kernel
theorem dX4_wordOf_77 : decode cX4_wordOf 77 = .ok (.ireturn, 1) := by decide +kernel
theorem dX4_wordOf_78 : decode cX4_wordOf 78 = .ok (.ldc 116, 2) := by decide +kernel
theorem dX4_wordOf_80 : decode cX4_wordOf 80 = .ok (.aload_n 0, 1) := by decide +kernel
theorem dX4_wordOf_81 : decode cX4_wordOf 81 = .ok (.iload_n 1, 1) := by decide +kernel
theorem dX4_wordOf_82 : decode cX4_wordOf 82 = .ok (.iload_n 2, 1) := by decide +kernel
theorem dX4_wordOf_83 : decode cX4_wordOf 83 = .ok (.invokestatic 100, 3) := by decide +kernel
theorem dX4_wordOf_86 : decode cX4_wordOf 86 = .ok (.ifCond .eq 6, 3) := by decide +kernel
theorem dX4_wordOf_89 : decode cX4_wordOf 89 = .ok (.bipush 6, 2) := by decide +kernel
theorem dX4_wordOf_91 : decode cX4_wordOf 91 = .ok (.ireturn, 1) := by decide +kernel
theorem dX4_wordOf_92 : decode cX4_wordOf 92 = .ok (.ldc 118, 2) := by decide +kernel
theorem dX4_wordOf_94 : decode cX4_wordOf 94 = .ok (.aload_n 0, 1) := by decide +kernel
theorem dX4_wordOf_95 : decode cX4_wordOf 95 = .ok (.iload_n 1, 1) := by decide +kernel
theorem dX4_wordOf_96 : decode cX4_wordOf 96 = .ok (.iload_n 2, 1) := by decide +kernel
theorem dX4_wordOf_97 : decode cX4_wordOf 97 = .ok (.invokestatic 100, 3) := by decide +kernel
theorem dX4_wordOf_100 : decode cX4_wordOf 100 = .ok (.ifCond .eq 8, 3) := by decide +kernel
theorem dX4_wordOf_103 : decode cX4_wordOf 103 = .ok (.bipush 7, 2) := by decide +kernel
theorem dX4_wordOf_105 : decode cX4_wordOf 105 = .ok (.goto 4, 3) := by decide +kernel
theorem dX4_wordOf_108 : decode cX4_wordOf 108 = .ok (.iconst (-1), 1) := by decide +kernel
theorem dX4_wordOf_109 : decode cX4_wordOf 109 = .ok (.ireturn, 1) := by decide +kernel
theorem zw_675 : (Jvm.Cond.code ({ cls := "HillSchool$LawReader", name := "wordOf", desc := "([III)I" } : Jvm.MethodName) prog_6_method_17_code (3 : Nat) (Option.some Jvm.ClassFile.FieldType.int)) ∈ zall := zmemG (zmj_3 92 rfl) rfl
abbrev w_LawReader_wordOf : List Cond := .code yX4_wordOf cX4_wordOf 3 (some .int) :: zall
abbrev rm_LawReader_wordOf : Room := { frames := 5, cells := 0, slots := 0, locals := 109 }
theorem hd_LawReader_wordOf : yX4_wordOf.cls = yX4_wordOf.cls ∧ yX4_wordOf.cls ≠ "java/lang/invoke/MethodHandle" ∧ yX4_wordOf.cls ≠ "java/lang/invoke/VarHandle" ∧ (parseMethodDescriptor yX4_wordOf.desc).map (fun d => d.parameters.length) = some 3 := by decide +kernel
def wd_LawReader_wordOf (cA : Nat → ClassId) (q0 : Nat) (i_a0 : Nat → Int)  : va_W := [(q0, .inl (cA 0, 400, .inl (za i_a0)))]
def wf_LawReader_wordOf (cA : Nat → ClassId) (q0 : Nat) (i_a0 : Nat → Int) (o : Int) : va_W := wd_LawReader_wordOf cA q0 i_a0
def f_LawReader_wordOf (x1 : Int) (x2 : Int) (i_a0 : Nat → Int) : Option (Int) :=
  zd1 (f_LawReader_isWord x1 x2 0 i_a0) fun v1 =>
  if zi_w v1 = 0 then
    zd1 (f_LawReader_isWord x1 x2 1 i_a0) fun v2 =>
    if zi_w v2 = 0 then
      zd1 (f_LawReader_isWord x1 x2 2 i_a0) fun v3 =>
      if zi_w v3 = 0 then
        zd1 (f_LawReader_isWord x1 x2 3 i_a0) fun v4 =>
        if zi_w v4 = 0 then
          zd1 (f_LawReader_isWord x1 x2 4 i_a0) fun v5 =>
          if zi_w v5 = 0 then
            zd1 (f_LawReader_isWord x1 x2 5 i_a0) fun v6 =>
            if zi_w v6 = 0 then
              zd1 (f_LawReader_isWord x1 x2 6 i_a0) fun v7 =>
              if zi_w v7 = 0 then
                zd1 (f_LawReader_isWord x1 x2 7 i_a0) fun v8 =>
                if zi_w v8 = 0 then
                  some (-1)
                else
                  some 7
              else
                some 6
            else
              some 5
          else
            some 4
        else
          some 3
      else
        some 2
    else
      some 1
  else
    some 0
set_option maxHeartbeats 4000000 in
set_option maxRecDepth 100000 in
theorem c_LawReader_wordOf (l : Launch) (ev : zEv) (dC : Nat → ClassId) (dI : Nat → Nat → Nat) (cA : Nat → ClassId) (q0 : Nat) {x1 x2 : Int} {i_a0 : Nat → Int} {out : Int} (hf : f_LawReader_wordOf x1 x2 i_a0 = some out) : xc_I l ev (dC, dI) vwCl (tyl cA) yX4_wordOf w_LawReader_wordOf rm_LawReader_wordOf [.ref q0, .int (Int32.ofInt x1), .int (Int32.ofInt x2)] (wd_LawReader_wordOf cA q0 i_a0) (wf_LawReader_wordOf cA q0 i_a0 out) out := by
  refine xv_startI (cc := cX4_wordOf) (maxL := 3) (rt := .int) (by decide +kernel) rfl (Nat.le_of_ble_eq_true rfl) ?_
  intro p e s m args below meth c A Q H ls hx hb hml hts hown hK hA hP hD hS hl hE hret
  have hown : s.vm.findClass "HillSchool$LawReader" = some m.cls := hown
  have hz : ∀ w ∈ zall, w.before args s = true := fun w h => hts w (List.mem_cons_of_mem _ h)
  have hl : lv_has ls 3 [(0, .ref q0), (1, .int (Int32.ofInt x1)), (2, .int (Int32.ofInt x2))] := hl
  unfold f_LawReader_wordOf at hf
  refine va_ldcS hx hb hown (hE.1.2 0 (by decide)) dX4_wordOf_0 ?_
  refine lv_aload_n hx hb dX4_wordOf_2 rfl (lv_at hl 0 rfl) ?_
  refine lv_iload_n hx hb dX4_wordOf_3 rfl (lv_at hl 1 rfl) ?_
  refine lv_iload_n hx hb dX4_wordOf_4 rfl (lv_at hl 2 rfl) ?_
  refine xe_d1 hf (fun v1 hg hf => ?_)
  have hC : ([0] : List Nat).map (fun i => (wd_LawReader_wordOf cA q0 i_a0)[i]?) = (wd_LawReader_isWord cA q0 i_a0).map some := rfl
  refine xv_afterI (ws' := (wd_LawReader_wordOf cA q0 i_a0)) (isC := [0]) (ps := [some 0]) (va_runS (As := [.ref (ev.2.1 0), .ref q0, .int (Int32.ofInt x1), .int (Int32.ofInt x2)]) (rest := []) ⟨hx, hb, hml, hown, hts⟩ (c_LawReader_isWord l ev dC dI cA q0 0 (by decide) hg H.size) (va_cwS 4 hts (zgS zw_677 zw_678 zw_107 zw_679) rfl rfl rfl hd_LawReader_isWord.2 ⟨Nat.le_of_ble_eq_true rfl, Nat.le_of_ble_eq_true rfl⟩) (xv_preS hE hA hS hK hP hD (isC := [0]) (by decide +kernel) hC) rfl rfl hl.1 rfl (lv_room (Nat.le_of_ble_eq_true rfl)) dX4_wordOf_5 ⟨Nat.le_refl _, Nat.le_refl _⟩) hP hD hS hA (by decide +kernel) rfl hC rfl rfl (fun H locs hP hD hS => ?_)
  refine xi_if_eq (tgt := 13) hx hb dX4_wordOf_8 (by decide) hf (fun hf => ?_) (fun hf => ?_)
  · refine va_ldcS hx hb hown (hE.1.2 1 (by decide)) dX4_wordOf_13 ?_
    refine lv_aload_n hx hb dX4_wordOf_15 rfl (lv_at hl 0 rfl) ?_
    refine lv_iload_n hx hb dX4_wordOf_16 rfl (lv_at hl 1 rfl) ?_
    refine lv_iload_n hx hb dX4_wordOf_17 rfl (lv_at hl 2 rfl) ?_
    refine xe_d1 hf (fun v2 hg hf => ?_)
    have hC : ([0] : List Nat).map (fun i => (wd_LawReader_wordOf cA q0 i_a0)[i]?) = (wd_LawReader_isWord cA q0 i_a0).map some := rfl
    refine xv_afterI (ws' := (wd_LawReader_wordOf cA q0 i_a0)) (isC := [0]) (ps := [some 0]) (va_runS (As := [.ref (ev.2.1 1), .ref q0, .int (Int32.ofInt x1), .int (Int32.ofInt x2)]) (rest := []) ⟨hx, hb, hml, hown, hts⟩ (c_LawReader_isWord l ev dC dI cA q0 1 (by decide) hg H.size) (va_cwS 4 hts (zgS zw_677 zw_678 zw_107 zw_679) rfl rfl rfl hd_LawReader_isWord.2 ⟨Nat.le_of_ble_eq_true rfl, Nat.le_of_ble_eq_true rfl⟩) (xv_preS hE hA hS hK hP hD (isC := [0]) (by decide +kernel) hC) rfl rfl hl.1 rfl (lv_room (Nat.le_of_ble_eq_true rfl)) dX4_wordOf_18 ⟨Nat.le_refl _, Nat.le_refl _⟩) hP hD hS hA (by decide +kernel) rfl hC rfl rfl (fun H locs hP hD hS => ?_)
    refine xi_if_eq (tgt := 26) hx hb dX4_wordOf_21 (by decide) hf (fun hf => ?_) (fun hf => ?_)
    · refine va_ldcS hx hb hown (hE.1.2 2 (by decide)) dX4_wordOf_26 ?_
      refine lv_aload_n hx hb dX4_wordOf_28 rfl (lv_at hl 0 rfl) ?_
      refine lv_iload_n hx hb dX4_wordOf_29 rfl (lv_at hl 1 rfl) ?_
      refine lv_iload_n hx hb dX4_wordOf_30 rfl (lv_at hl 2 rfl) ?_
      refine xe_d1 hf (fun v3 hg hf => ?_)
      have hC : ([0] : List Nat).map (fun i => (wd_LawReader_wordOf cA q0 i_a0)[i]?) = (wd_LawReader_isWord cA q0 i_a0).map some := rfl
      refine xv_afterI (ws' := (wd_LawReader_wordOf cA q0 i_a0)) (isC := [0]) (ps := [some 0]) (va_runS (As := [.ref (ev.2.1 2), .ref q0, .int (Int32.ofInt x1), .int (Int32.ofInt x2)]) (rest := []) ⟨hx, hb, hml, hown, hts⟩ (c_LawReader_isWord l ev dC dI cA q0 2 (by decide) hg H.size) (va_cwS 4 hts (zgS zw_677 zw_678 zw_107 zw_679) rfl rfl rfl hd_LawReader_isWord.2 ⟨Nat.le_of_ble_eq_true rfl, Nat.le_of_ble_eq_true rfl⟩) (xv_preS hE hA hS hK hP hD (isC := [0]) (by decide +kernel) hC) rfl rfl hl.1 rfl (lv_room (Nat.le_of_ble_eq_true rfl)) dX4_wordOf_31 ⟨Nat.le_refl _, Nat.le_refl _⟩) hP hD hS hA (by decide +kernel) rfl hC rfl rfl (fun H locs hP hD hS => ?_)
      refine xi_if_eq (tgt := 39) hx hb dX4_wordOf_34 (by decide) hf (fun hf => ?_) (fun hf => ?_)
      · refine va_ldcS hx hb hown (hE.1.2 3 (by decide)) dX4_wordOf_39 ?_
        refine lv_aload_n hx hb dX4_wordOf_41 rfl (lv_at hl 0 rfl) ?_
        refine lv_iload_n hx hb dX4_wordOf_42 rfl (lv_at hl 1 rfl) ?_
        refine lv_iload_n hx hb dX4_wordOf_43 rfl (lv_at hl 2 rfl) ?_
        refine xe_d1 hf (fun v4 hg hf => ?_)
        have hC : ([0] : List Nat).map (fun i => (wd_LawReader_wordOf cA q0 i_a0)[i]?) = (wd_LawReader_isWord cA q0 i_a0).map some := rfl
        refine xv_afterI (ws' := (wd_LawReader_wordOf cA q0 i_a0)) (isC := [0]) (ps := [some 0]) (va_runS (As := [.ref (ev.2.1 3), .ref q0, .int (Int32.ofInt x1), .int (Int32.ofInt x2)]) (rest := []) ⟨hx, hb, hml, hown, hts⟩ (c_LawReader_isWord l ev dC dI cA q0 3 (by decide) hg H.size) (va_cwS 4 hts (zgS zw_677 zw_678 zw_107 zw_679) rfl rfl rfl hd_LawReader_isWord.2 ⟨Nat.le_of_ble_eq_true rfl, Nat.le_of_ble_eq_true rfl⟩) (xv_preS hE hA hS hK hP hD (isC := [0]) (by decide +kernel) hC) rfl rfl hl.1 rfl (lv_room (Nat.le_of_ble_eq_true rfl)) dX4_wordOf_44 ⟨Nat.le_refl _, Nat.le_refl _⟩) hP hD hS hA (by decide +kernel) rfl hC rfl rfl (fun H locs hP hD hS => ?_)
        refine xi_if_eq (tgt := 52) hx hb dX4_wordOf_47 (by decide) hf (fun hf => ?_) (fun hf => ?_)
        · refine va_ldcS hx hb hown (hE.1.2 4 (by decide)) dX4_wordOf_52 ?_
          refine lv_aload_n hx hb dX4_wordOf_54 rfl (lv_at hl 0 rfl) ?_
          refine lv_iload_n hx hb dX4_wordOf_55 rfl (lv_at hl 1 rfl) ?_
          refine lv_iload_n hx hb dX4_wordOf_56 rfl (lv_at hl 2 rfl) ?_
          refine xe_d1 hf (fun v5 hg hf => ?_)
          have hC : ([0] : List Nat).map (fun i => (wd_LawReader_wordOf cA q0 i_a0)[i]?) = (wd_LawReader_isWord cA q0 i_a0).map some := rfl
          refine xv_afterI (ws' := (wd_LawReader_wordOf cA q0 i_a0)) (isC := [0]) (ps := [some 0]) (va_runS (As := [.ref (ev.2.1 4), .ref q0, .int (Int32.ofInt x1), .int (Int32.ofInt x2)]) (rest := []) ⟨hx, hb, hml, hown, hts⟩ (c_LawReader_isWord l ev dC dI cA q0 4 (by decide) hg H.size) (va_cwS 4 hts (zgS zw_677 zw_678 zw_107 zw_679) rfl rfl rfl hd_LawReader_isWord.2 ⟨Nat.le_of_ble_eq_true rfl, Nat.le_of_ble_eq_true rfl⟩) (xv_preS hE hA hS hK hP hD (isC := [0]) (by decide +kernel) hC) rfl rfl hl.1 rfl (lv_room (Nat.le_of_ble_eq_true rfl)) dX4_wordOf_57 ⟨Nat.le_refl _, Nat.le_refl _⟩) hP hD hS hA (by decide +kernel) rfl hC rfl rfl (fun H locs hP hD hS => ?_)
          refine xi_if_eq (tgt := 65) hx hb dX4_wordOf_60 (by decide) hf (fun hf => ?_) (fun hf => ?_)
          · refine va_ldcS hx hb hown (hE.1.2 5 (by decide)) dX4_wordOf_65 ?_
            refine lv_aload_n hx hb dX4_wordOf_67 rfl (lv_at hl 0 rfl) ?_
            refine lv_iload_n hx hb dX4_wordOf_68 rfl (lv_at hl 1 rfl) ?_
            refine lv_iload_n hx hb dX4_wordOf_69 rfl (lv_at hl 2 rfl) ?_
            refine xe_d1 hf (fun v6 hg hf => ?_)
            have hC : ([0] : List Nat).map (fun i => (wd_LawReader_wordOf cA q0 i_a0)[i]?) = (wd_LawReader_isWord cA q0 i_a0).map some := rfl
            refine xv_afterI (ws' := (wd_LawReader_wordOf cA q0 i_a0)) (isC := [0]) (ps := [some 0]) (va_runS (As := [.ref (ev.2.1 5), .ref q0, .int (Int32.ofInt x1), .int (Int32.ofInt x2)]) (rest := []) ⟨hx, hb, hml, hown, hts⟩ (c_LawReader_isWord l ev dC dI cA q0 5 (by decide) hg H.size) (va_cwS 4 hts (zgS zw_677 zw_678 zw_107 zw_679) rfl rfl rfl hd_LawReader_isWord.2 ⟨Nat.le_of_ble_eq_true rfl, Nat.le_of_ble_eq_true rfl⟩) (xv_preS hE hA hS hK hP hD (isC := [0]) (by decide +kernel) hC) rfl rfl hl.1 rfl (lv_room (Nat.le_of_ble_eq_true rfl)) dX4_wordOf_70 ⟨Nat.le_refl _, Nat.le_refl _⟩) hP hD hS hA (by decide +kernel) rfl hC rfl rfl (fun H locs hP hD hS => ?_)
            refine xi_if_eq (tgt := 78) hx hb dX4_wordOf_73 (by decide) hf (fun hf => ?_) (fun hf => ?_)
            · refine va_ldcS hx hb hown (hE.1.2 6 (by decide)) dX4_wordOf_78 ?_
              refine lv_aload_n hx hb dX4_wordOf_80 rfl (lv_at hl 0 rfl) ?_
              refine lv_iload_n hx hb dX4_wordOf_81 rfl (lv_at hl 1 rfl) ?_
              refine lv_iload_n hx hb dX4_wordOf_82 rfl (lv_at hl 2 rfl) ?_
              refine xe_d1 hf (fun v7 hg hf => ?_)
              have hC : ([0] : List Nat).map (fun i => (wd_LawReader_wordOf cA q0 i_a0)[i]?) = (wd_LawReader_isWord cA q0 i_a0).map some := rfl
              refine xv_afterI (ws' := (wd_LawReader_wordOf cA q0 i_a0)) (isC := [0]) (ps := [some 0]) (va_runS (As := [.ref (ev.2.1 6), .ref q0, .int (Int32.ofInt x1), .int (Int32.ofInt x2)]) (rest := []) ⟨hx, hb, hml, hown, hts⟩ (c_LawReader_isWord l ev dC dI cA q0 6 (by decide) hg H.size) (va_cwS 4 hts (zgS zw_677 zw_678 zw_107 zw_679) rfl rfl rfl hd_LawReader_isWord.2 ⟨Nat.le_of_ble_eq_true rfl, Nat.le_of_ble_eq_true rfl⟩) (xv_preS hE hA hS hK hP hD (isC := [0]) (by decide +kernel) hC) rfl rfl hl.1 rfl (lv_room (Nat.le_of_ble_eq_true rfl)) dX4_wordOf_83 ⟨Nat.le_refl _, Nat.le_refl _⟩) hP hD hS hA (by decide +kernel) rfl hC rfl rfl (fun H locs hP hD hS => ?_)
              refine xi_if_eq (tgt := 92) hx hb dX4_wordOf_86 (by decide) hf (fun hf => ?_) (fun hf => ?_)
              · refine va_ldcS hx hb hown (hE.1.2 7 (by decide)) dX4_wordOf_92 ?_
                refine lv_aload_n hx hb dX4_wordOf_94 rfl (lv_at hl 0 rfl) ?_
                refine lv_iload_n hx hb dX4_wordOf_95 rfl (lv_at hl 1 rfl) ?_
                refine lv_iload_n hx hb dX4_wordOf_96 rfl (lv_at hl 2 rfl) ?_
                refine xe_d1 hf (fun v8 hg hf => ?_)
                have hC : ([0] : List Nat).map (fun i => (wd_LawReader_wordOf cA q0 i_a0)[i]?) = (wd_LawReader_isWord cA q0 i_a0).map some := rfl
                refine xv_afterI (ws' := (wd_LawReader_wordOf cA q0 i_a0)) (isC := [0]) (ps := [some 0]) (va_runS (As := [.ref (ev.2.1 7), .ref q0, .int (Int32.ofInt x1), .int (Int32.ofInt x2)]) (rest := []) ⟨hx, hb, hml, hown, hts⟩ (c_LawReader_isWord l ev dC dI cA q0 7 (by decide) hg H.size) (va_cwS 4 hts (zgS zw_677 zw_678 zw_107 zw_679) rfl rfl rfl hd_LawReader_isWord.2 ⟨Nat.le_of_ble_eq_true rfl, Nat.le_of_ble_eq_true rfl⟩) (xv_preS hE hA hS hK hP hD (isC := [0]) (by decide +kernel) hC) rfl rfl hl.1 rfl (lv_room (Nat.le_of_ble_eq_true rfl)) dX4_wordOf_97 ⟨Nat.le_refl _, Nat.le_refl _⟩) hP hD hS hA (by decide +kernel) rfl hC rfl rfl (fun H locs hP hD hS => ?_)
                refine xi_if_eq (tgt := 108) hx hb dX4_wordOf_100 (by decide) hf (fun hf => ?_) (fun hf => ?_)
                · refine lv_iconst (v := Int32.ofInt (-1)) hx hb dX4_wordOf_108 rfl ?_
                  obtain rfl := Option.some.inj hf
                  exact hret _ _ _ _ rfl dX4_wordOf_109 hP hD hS
                · refine lv_bipush (v := Int32.ofInt 7) hx hb dX4_wordOf_103 (by decide) ?_
                  refine lv_goto (tgt := 109) hx hb dX4_wordOf_105 (by decide) ?_
                  obtain rfl := Option.some.inj hf
                  exact hret _ _ _ _ rfl dX4_wordOf_109 hP hD hS
              · refine lv_bipush (v := Int32.ofInt 6) hx hb dX4_wordOf_89 (by decide) ?_
                obtain rfl := Option.some.inj hf
                exact hret _ _ _ _ rfl dX4_wordOf_91 hP hD hS
            · refine lv_iconst (v := Int32.ofInt 5) hx hb dX4_wordOf_76 rfl ?_
              obtain rfl := Option.some.inj hf
              exact hret _ _ _ _ rfl dX4_wordOf_77 hP hD hS
          · refine lv_iconst (v := Int32.ofInt 4) hx hb dX4_wordOf_63 rfl ?_
            obtain rfl := Option.some.inj hf
            exact hret _ _ _ _ rfl dX4_wordOf_64 hP hD hS
        · refine lv_iconst (v := Int32.ofInt 3) hx hb dX4_wordOf_50 rfl ?_
          obtain rfl := Option.some.inj hf
          exact hret _ _ _ _ rfl dX4_wordOf_51 hP hD hS
      · refine lv_iconst (v := Int32.ofInt 2) hx hb dX4_wordOf_37 rfl ?_
        obtain rfl := Option.some.inj hf
        exact hret _ _ _ _ rfl dX4_wordOf_38 hP hD hS
    · refine lv_iconst (v := Int32.ofInt 1) hx hb dX4_wordOf_24 rfl ?_
      obtain rfl := Option.some.inj hf
      exact hret _ _ _ _ rfl dX4_wordOf_25 hP hD hS
  · refine lv_iconst (v := Int32.ofInt 0) hx hb dX4_wordOf_11 rfl ?_
    obtain rfl := Option.some.inj hf
    exact hret _ _ _ _ rfl dX4_wordOf_12 hP hD hS
theorem dX4_numberOf_0 : decode cX4_numberOf 0 = .ok (.iconst 0, 1) := by decide +kernel
theorem dX4_numberOf_1 : decode cX4_numberOf 1 = .ok (.istore_n 3, 1) := by decide +kernel
theorem dX4_numberOf_2 : decode cX4_numberOf 2 = .ok (.iload_n 1, 1) := by decide +kernel
theorem dX4_numberOf_3 : decode cX4_numberOf 3 = .ok (.istore 4, 2) := by decide +kernel
theorem dX4_numberOf_5 : decode cX4_numberOf 5 = .ok (.iload 4, 2) := by decide +kernel
theorem dX4_numberOf_7 : decode cX4_numberOf 7 = .ok (.iload_n 2, 1) := by decide +kernel
theorem dX4_numberOf_8 : decode cX4_numberOf 8 = .ok (.if_icmp .ge 31, 3) := by decide +kernel
theorem dX4_numberOf_11 : decode cX4_numberOf 11 = .ok (.iload_n 3, 1) := by decide +kernel
theorem dX4_numberOf_12 : decode cX4_numberOf 12 = .ok (.bipush 10, 2) := by decide +kernel
theorem dX4_numberOf_14 : decode cX4_numberOf 14 = .ok (.imul, 1) := by decide +kernel
theorem dX4_numberOf_15 : decode cX4_numberOf 15 = .ok (.aload_n 0, 1) := by decide +kernel
theorem dX4_numberOf_16 : decode cX4_numberOf 16 = .ok (.iload 4, 2) := by decide +kernel
theorem dX4_numberOf_18 : decode cX4_numberOf 18 = .ok (.iaload, 1) := by decide +kernel
theorem dX4_numberOf_19 : decode cX4_numberOf 19 = .ok (.iadd, 1) := by decide +kernel
theorem dX4_numberOf_20 : decode cX4_numberOf 20 = .ok (.bipush 48, 2) := by decide +kernel
theorem dX4_numberOf_22 : decode cX4_numberOf 22 = .ok (.isub, 1) := by decide +kernel
theorem dX4_numberOf_23 : decode cX4_numberOf 23 = .ok (.istore_n 3, 1) := by decide +kernel
theorem dX4_numberOf_24 : decode cX4_numberOf 24 = .ok (.iload_n 3, 1) := by decide +kernel
theorem dX4_numberOf_25 : decode cX4_numberOf 25 = .ok (.sipush 1000, 3) := by decide +kernel
theorem dX4_numberOf_28 : decode cX4_numberOf 28 = .ok (.if_icmp .le 5, 3) := by decide +kernel
theorem dX4_numberOf_31 : decode cX4_numberOf 31 = .ok (.iconst (-1), 1) := by decide +kernel
theorem dX4_numberOf_32 : decode cX4_numberOf 32 = .ok (.ireturn, 1) := by decide +kernel
theorem dX4_numberOf_33 : decode cX4_numberOf 33 = .ok (.iinc 4 1, 3) := by decide +kernel
theorem dX4_numberOf_36 : decode cX4_numberOf 36 = .ok (.goto (-31), 3) := by decide +kernel
theorem dX4_numberOf_39 : decode cX4_numberOf 39 = .ok (.iload_n 3, 1) := by decide +kernel
theorem dX4_numberOf_40 : decode cX4_numberOf 40 = .ok (.ireturn, 1) := by decide +kernel
theorem zw_672 : (Jvm.Cond.code ({ cls := "HillSchool$LawReader", name := "numberOf", desc := "([III)I" } : Jvm.MethodName) prog_6_method_16_code (5 : Nat) (Option.some Jvm.ClassFile.FieldType.int)) ∈ zall := zmemG (zmj_3 89 rfl) rfl
abbrev w_LawReader_numberOf : List Cond := .code yX4_numberOf cX4_numberOf 5 (some .int) :: zall
abbrev rm_LawReader_numberOf : Room := { frames := 0, cells := 0, slots := 0, locals := 0 }
theorem hd_LawReader_numberOf : yX4_numberOf.cls = yX4_numberOf.cls ∧ yX4_numberOf.cls ≠ "java/lang/invoke/MethodHandle" ∧ yX4_numberOf.cls ≠ "java/lang/invoke/VarHandle" ∧ (parseMethodDescriptor yX4_numberOf.desc).map (fun d => d.parameters.length) = some 3 := by decide +kernel
def wd_LawReader_numberOf (cA : Nat → ClassId) (q0 : Nat) (i_a0 : Nat → Int)  : va_W := [(q0, .inl (cA 0, 400, .inl (za i_a0)))]
def wf_LawReader_numberOf (cA : Nat → ClassId) (q0 : Nat) (i_a0 : Nat → Int) (o : Int) : va_W := wd_LawReader_numberOf cA q0 i_a0
def f_LawReader_numberOf_5_b (i_a0 : Nat → Int) (k5 : Int → Int → Int → Option (Int)) (x2 : Int) (x3 : Int) (x4 : Int) : Option (Int) :=
  if zi_w x2 ≤ zi_w x4 then
    some x3
  else
    zn (x3 * 10) fun v1 =>
    zg 400 i_a0 x4 fun v2 =>
    zn (v1 + v2) fun v3 =>
    zn (v3 - 48) fun v4 =>
    if zi_w v4 ≤ zi_w 1000 then
      zn (x4 + 1) fun v5 =>
      k5 x2 v4 v5
    else
      some (-1)
def f_LawReader_numberOf_5 (i_a0 : Nat → Int) : Nat → Int → Int → Int → Option (Int)
  | 0 => fun _ _ _ => none
  | n + 1 => fun y0 y1 y2 => f_LawReader_numberOf_5_b i_a0 (f_LawReader_numberOf_5 i_a0 n) y0 y1 y2
def f_LawReader_numberOf (x1 : Int) (x2 : Int) (i_a0 : Nat → Int) : Option (Int) :=
  f_LawReader_numberOf_5 i_a0 zfu x2 0 x1
set_option maxHeartbeats 4000000 in
set_option maxRecDepth 100000 in
theorem c_LawReader_numberOf (l : Launch) (ev : zEv) (dC : Nat → ClassId) (dI : Nat → Nat → Nat) (cA : Nat → ClassId) (q0 : Nat) {x1 x2 : Int} {i_a0 : Nat → Int} {out : Int} (hf : f_LawReader_numberOf x1 x2 i_a0 = some out) : xc_I l ev (dC, dI) vwCl (tyl cA) yX4_numberOf w_LawReader_numberOf rm_LawReader_numberOf [.ref q0, .int (Int32.ofInt x1), .int (Int32.ofInt x2)] (wd_LawReader_numberOf cA q0 i_a0) (wf_LawReader_numberOf cA q0 i_a0 out) out := by
  refine xv_startI (cc := cX4_numberOf) (maxL := 5) (rt := .int) (by decide +kernel) rfl (Nat.le_of_ble_eq_true rfl) ?_
  intro p e s m args below meth c A Q H ls hx hb hml hts hown hK hA hP hD hS hl hE hret
  have hown : s.vm.findClass "HillSchool$LawReader" = some m.cls := hown
  have hz : ∀ w ∈ zall, w.before args s = true := fun w h => hts w (List.mem_cons_of_mem _ h)
  have hl : lv_has ls 5 [(0, .ref q0), (1, .int (Int32.ofInt x1)), (2, .int (Int32.ofInt x2))] := hl
  have b_5 : ∀ (k5 : Int → Int → Int → Option (Int)) (_ : ∀ (x2 : Int) (x3 : Int) (x4 : Int) (H : Heap) (locs : List Loc) (ls : Array Slot), k5 x2 x3 x4 = some out → va_P (dC, dI) vwCl (wd_LawReader_numberOf cA q0 i_a0) H → va_D A (wd_LawReader_numberOf cA q0 i_a0) → va_S A s.heap H locs → lv_has ls 5 [(0, .ref q0), (2, .int (Int32.ofInt x2)), (3, .int (Int32.ofInt x3)), (4, .int (Int32.ofInt x4))] → W p l e rm_LawReader_numberOf s m args below meth c H locs 0 0 Q (F0 m 5 ls [])), ∀ (x2 : Int) (x3 : Int) (x4 : Int) (H : Heap) (locs : List Loc) (ls : Array Slot), f_LawReader_numberOf_5_b i_a0 k5 x2 x3 x4 = some out → va_P (dC, dI) vwCl (wd_LawReader_numberOf cA q0 i_a0) H → va_D A (wd_LawReader_numberOf cA q0 i_a0) → va_S A s.heap H locs → lv_has ls 5 [(0, .ref q0), (2, .int (Int32.ofInt x2)), (3, .int (Int32.ofInt x3)), (4, .int (Int32.ofInt x4))] → W p l e rm_LawReader_numberOf s m args below meth c H locs 0 0 Q (F0 m 5 ls []) := by
    intro k5 ih5 x2 x3 x4 H locs ls hf hP hD hS hl
    unfold f_LawReader_numberOf_5_b at hf
    refine lv_iload hx hb dX4_numberOf_5 (lv_at hl 3 rfl) ?_
    refine lv_iload_n hx hb dX4_numberOf_7 rfl (lv_at hl 1 rfl) ?_
    refine xi_icmp_ge (tgt := 39) hx hb dX4_numberOf_8 (by decide) hf (fun hf => ?_) (fun hf => ?_)
    · refine lv_iload_n hx hb dX4_numberOf_39 rfl (lv_at hl 2 rfl) ?_
      obtain rfl := Option.some.inj hf
      exact hret _ _ _ _ rfl dX4_numberOf_40 hP hD hS
    · refine lv_iload_n hx hb dX4_numberOf_11 rfl (lv_at hl 2 rfl) ?_
      refine lv_bipush (v := Int32.ofInt 10) hx hb dX4_numberOf_12 (by decide) ?_
      refine xi_imul hx hb dX4_numberOf_14 hf (fun v1 hf => ?_)
      refine lv_aload_n hx hb dX4_numberOf_15 rfl (lv_at hl 0 rfl) ?_
      refine lv_iload hx hb dX4_numberOf_16 (lv_at hl 3 rfl) ?_
      refine xi_iald hx hb hK hP 0 0 rfl rfl dX4_numberOf_18 hf (fun v2 hf => ?_)
      refine xi_iadd hx hb dX4_numberOf_19 hf (fun v3 hf => ?_)
      refine lv_bipush (v := Int32.ofInt 48) hx hb dX4_numberOf_20 (by decide) ?_
      refine xi_isub hx hb dX4_numberOf_22 hf (fun v4 hf => ?_)
      refine lv_istore_n (lv' := [(3, .int (Int32.ofInt v4)), (0, .ref q0), (2, .int (Int32.ofInt x2)), (4, .int (Int32.ofInt x4))]) hx hb dX4_numberOf_23 rfl hl (by decide) rfl (fun ls hl => ?_)
      refine lv_iload_n hx hb dX4_numberOf_24 rfl (lv_at hl 0 rfl) ?_
      refine lv_sipush (v := Int32.ofInt 1000) hx hb dX4_numberOf_25 (by decide) ?_
      refine xi_icmp_le (tgt := 33) hx hb dX4_numberOf_28 (by decide) hf (fun hf => ?_) (fun hf => ?_)
      · refine xi_iinc hx hb dX4_numberOf_33 hl (k := 3) rfl (by decide) hf (fun v5 ls hl hf => ?_)
        have hl : lv_has ls 5 [(4, .int (Int32.ofInt v5)), (3, .int (Int32.ofInt v4)), (0, .ref q0), (2, .int (Int32.ofInt x2))] := hl
        refine lv_goto (tgt := 5) hx hb dX4_numberOf_36 (by decide) ?_
        exact ih5 _ _ _ _ _ _ hf hP hD hS (lv_sub hl [2, 3, 1, 0] rfl)
      · refine lv_iconst (v := Int32.ofInt (-1)) hx hb dX4_numberOf_31 rfl ?_
        obtain rfl := Option.some.inj hf
        exact hret _ _ _ _ rfl dX4_numberOf_32 hP hD hS
  have l_5 : ∀ (n : Nat), ∀ (x2 : Int) (x3 : Int) (x4 : Int) (H : Heap) (locs : List Loc) (ls : Array Slot), f_LawReader_numberOf_5 i_a0 n x2 x3 x4 = some out → va_P (dC, dI) vwCl (wd_LawReader_numberOf cA q0 i_a0) H → va_D A (wd_LawReader_numberOf cA q0 i_a0) → va_S A s.heap H locs → lv_has ls 5 [(0, .ref q0), (2, .int (Int32.ofInt x2)), (3, .int (Int32.ofInt x3)), (4, .int (Int32.ofInt x4))] → W p l e rm_LawReader_numberOf s m args below meth c H locs 0 0 Q (F0 m 5 ls []) := by
    intro n
    induction n with
    | zero => intro x2 x3 x4 H locs ls hf hP hD hS hl; exact nomatch hf
    | succ n ih => intro x2 x3 x4 H locs ls hf hP hD hS hl; exact b_5 (f_LawReader_numberOf_5 i_a0 n) ih x2 x3 x4 H locs ls hf hP hD hS hl
  unfold f_LawReader_numberOf at hf
  refine lv_iconst (v := Int32.ofInt 0) hx hb dX4_numberOf_0 rfl ?_
  refine lv_istore_n (lv' := [(3, .int (Int32.ofInt 0)), (0, .ref q0), (1, .int (Int32.ofInt x1)), (2, .int (Int32.ofInt x2))]) hx hb dX4_numberOf_1 rfl hl (by decide) rfl (fun ls hl => ?_)
  refine lv_iload_n hx hb dX4_numberOf_2 rfl (lv_at hl 2 rfl) ?_
  refine lv_istore (lv' := [(4, .int (Int32.ofInt x1)), (3, .int (Int32.ofInt 0)), (0, .ref q0), (1, .int (Int32.ofInt x1)), (2, .int (Int32.ofInt x2))]) hx hb dX4_numberOf_3 hl (by decide) rfl (fun ls hl => ?_)
  exact l_5  _ _ _ _ _ _ _ hf hP hD hS (lv_sub hl [2, 4, 1, 0] rfl)
theorem dX4_isDigit_0 : decode cX4_isDigit 0 = .ok (.iload_n 0, 1) := by decide +kernel
theorem dX4_isDigit_1 : decode cX4_isDigit 1 = .ok (.bipush 48, 2) := by decide +kernel
theorem dX4_isDigit_3 : decode cX4_isDigit 3 = .ok (.if_icmp .lt 13, 3) := by decide +kernel
theorem dX4_isDigit_6 : decode cX4_isDigit 6 = .ok (.iload_n 0, 1) := by decide +kernel
theorem dX4_isDigit_7 : decode cX4_isDigit 7 = .ok (.bipush 57, 2) := by decide +kernel
theorem dX4_isDigit_9 : decode cX4_isDigit 9 = .ok (.if_icmp .gt 7, 3) := by decide +kernel
theorem dX4_isDigit_12 : decode cX4_isDigit 12 = .ok (.iconst 1, 1) := by decide +kernel
theorem dX4_isDigit_13 : decode cX4_isDigit 13 = .ok (.goto 4, 3) := by decide +kernel
theorem dX4_isDigit_16 : decode cX4_isDigit 16 = .ok (.iconst 0, 1) := by decide +kernel
theorem dX4_isDigit_17 : decode cX4_isDigit 17 = .ok (.ireturn, 1) := by decide +kernel
theorem zw_665 : (Jvm.Cond.code ({ cls := "HillSchool$LawReader", name := "isDigit", desc := "(I)Z" } : Jvm.MethodName) prog_6_method_15_code (1 : Nat) (Option.some Jvm.ClassFile.FieldType.boolean)) ∈ zall := zmemG (zmj_3 82 rfl) rfl
abbrev w_LawReader_isDigit : List Cond := .code yX4_isDigit cX4_isDigit 1 (some .boolean) :: zall
abbrev rm_LawReader_isDigit : Room := { frames := 0, cells := 0, slots := 0, locals := 0 }
theorem hd_LawReader_isDigit : yX4_isDigit.cls = yX4_isDigit.cls ∧ yX4_isDigit.cls ≠ "java/lang/invoke/MethodHandle" ∧ yX4_isDigit.cls ≠ "java/lang/invoke/VarHandle" ∧ (parseMethodDescriptor yX4_isDigit.desc).map (fun d => d.parameters.length) = some 1 := by decide +kernel
def wd_LawReader_isDigit (cA : Nat → ClassId)   : va_W := []
def wf_LawReader_isDigit (cA : Nat → ClassId)  (o : Int) : va_W := wd_LawReader_isDigit cA
def f_LawReader_isDigit (x0 : Int) : Option (Int) :=
  if zi_w x0 < zi_w 48 then
    some 0
  else
    if zi_w 57 < zi_w x0 then
      some 0
    else
      some 1
set_option maxHeartbeats 4000000 in
set_option maxRecDepth 100000 in
theorem c_LawReader_isDigit (l : Launch) (ev : zEv) (dC : Nat → ClassId) (dI : Nat → Nat → Nat) (cA : Nat → ClassId) {x0 : Int} {out : Int} (hf : f_LawReader_isDigit x0 = some out) : xc_I l ev (dC, dI) vwCl (tyl cA) yX4_isDigit w_LawReader_isDigit rm_LawReader_isDigit [.int (Int32.ofInt x0)] (wd_LawReader_isDigit cA) (wf_LawReader_isDigit cA out) out := by
  refine xv_startI (cc := cX4_isDigit) (maxL := 1) (rt := .boolean) (by decide +kernel) rfl (Nat.le_of_ble_eq_true rfl) ?_
  intro p e s m args below meth c A Q H ls hx hb hml hts hown hK hA hP hD hS hl hE hret
  have hown : s.vm.findClass "HillSchool$LawReader" = some m.cls := hown
  have hz : ∀ w ∈ zall, w.before args s = true := fun w h => hts w (List.mem_cons_of_mem _ h)
  have hl : lv_has ls 1 [(0, .int (Int32.ofInt x0))] := hl
  unfold f_LawReader_isDigit at hf
  refine lv_iload_n hx hb dX4_isDigit_0 rfl (lv_at hl 0 rfl) ?_
  refine lv_bipush (v := Int32.ofInt 48) hx hb dX4_isDigit_1 (by decide) ?_
  refine xi_icmp_lt (tgt := 16) hx hb dX4_isDigit_3 (by decide) hf (fun hf => ?_) (fun hf => ?_)
  · refine lv_iconst (v := Int32.ofInt 0) hx hb dX4_isDigit_16 rfl ?_
    obtain rfl := Option.some.inj hf
    exact hret _ _ _ _ zz_b0 dX4_isDigit_17 hP hD hS
  · refine lv_iload_n hx hb dX4_isDigit_6 rfl (lv_at hl 0 rfl) ?_
    refine lv_bipush (v := Int32.ofInt 57) hx hb dX4_isDigit_7 (by decide) ?_
    refine xi_icmp_gt (tgt := 16) hx hb dX4_isDigit_9 (by decide) hf (fun hf => ?_) (fun hf => ?_)
    · refine lv_iconst (v := Int32.ofInt 0) hx hb dX4_isDigit_16 rfl ?_
      obtain rfl := Option.some.inj hf
      exact hret _ _ _ _ zz_b0 dX4_isDigit_17 hP hD hS
    · refine lv_iconst (v := Int32.ofInt 1) hx hb dX4_isDigit_12 rfl ?_
      refine lv_goto (tgt := 17) hx hb dX4_isDigit_13 (by decide) ?_
      obtain rfl := Option.some.inj hf
      exact hret _ _ _ _ zz_b1 dX4_isDigit_17 hP hD hS
theorem dX4_note_0 : decode cX4_note 0 = .ok (.aload_n 0, 1) := by decide +kernel
theorem dX4_note_1 : decode cX4_note 1 = .ok (.getfield 25, 3) := by decide +kernel
theorem dX4_note_4 : decode cX4_note 4 = .ok (.iload 4, 2) := by decide +kernel
theorem dX4_note_6 : decode cX4_note 6 = .ok (.iconst (-1), 1) := by decide +kernel
theorem dX4_note_7 : decode cX4_note 7 = .ok (.iastore, 1) := by decide +kernel
theorem dX4_note_8 : decode cX4_note 8 = .ok (.aload_n 1, 1) := by decide +kernel
theorem dX4_note_9 : decode cX4_note 9 = .ok (.iload_n 2, 1) := by decide +kernel
theorem dX4_note_10 : decode cX4_note 10 = .ok (.iaload, 1) := by decide +kernel
theorem dX4_note_11 : decode cX4_note 11 = .ok (.invokestatic 81, 3) := by decide +kernel
theorem dX4_note_14 : decode cX4_note 14 = .ok (.ifCond .eq 46, 3) := by decide +kernel
theorem dX4_note_17 : decode cX4_note 17 = .ok (.aload_n 0, 1) := by decide +kernel
theorem dX4_note_18 : decode cX4_note 18 = .ok (.getfield 25, 3) := by decide +kernel
theorem dX4_note_21 : decode cX4_note 21 = .ok (.iload 4, 2) := by decide +kernel
theorem dX4_note_23 : decode cX4_note 23 = .ok (.aload_n 1, 1) := by decide +kernel
theorem dX4_note_24 : decode cX4_note 24 = .ok (.iload_n 2, 1) := by decide +kernel
theorem dX4_note_25 : decode cX4_note 25 = .ok (.iload_n 3, 1) := by decide +kernel
theorem dX4_note_26 : decode cX4_note 26 = .ok (.invokestatic 88, 3) := by decide +kernel
theorem dX4_note_29 : decode cX4_note 29 = .ok (.iastore, 1) := by decide +kernel
theorem dX4_note_30 : decode cX4_note 30 = .ok (.aload_n 0, 1) := by decide +kernel
theorem dX4_note_31 : decode cX4_note 31 = .ok (.getfield 19, 3) := by decide +kernel
theorem dX4_note_34 : decode cX4_note 34 = .ok (.iload 4, 2) := by decide +kernel
theorem dX4_note_36 : decode cX4_note 36 = .ok (.aload_n 0, 1) := by decide +kernel
theorem dX4_note_37 : decode cX4_note 37 = .ok (.getfield 25, 3) := by decide +kernel
theorem dX4_note_40 : decode cX4_note 40 = .ok (.iload 4, 2) := by decide +kernel
theorem dX4_note_42 : decode cX4_note 42 = .ok (.iaload, 1) := by decide +kernel
theorem dX4_note_43 : decode cX4_note 43 = .ok (.iconst (-1), 1) := by decide +kernel
theorem dX4_note_44 : decode cX4_note 44 = .ok (.if_icmp .ne 9, 3) := by decide +kernel
theorem dX4_note_47 : decode cX4_note 47 = .ok (.sipush 256, 3) := by decide +kernel
theorem dX4_note_50 : decode cX4_note 50 = .ok (.goto 6, 3) := by decide +kernel
theorem dX4_note_53 : decode cX4_note 53 = .ok (.sipush 258, 3) := by decide +kernel
theorem dX4_note_56 : decode cX4_note 56 = .ok (.iastore, 1) := by decide +kernel
theorem dX4_note_57 : decode cX4_note 57 = .ok (.goto 72, 3) := by decide +kernel
theorem dX4_note_60 : decode cX4_note 60 = .ok (.aload_n 1, 1) := by decide +kernel
theorem dX4_note_61 : decode cX4_note 61 = .ok (.iload_n 2, 1) := by decide +kernel
theorem dX4_note_62 : decode cX4_note 62 = .ok (.iaload, 1) := by decide +kernel
theorem dX4_note_63 : decode cX4_note 63 = .ok (.invokestatic 78, 3) := by decide +kernel
theorem dX4_note_66 : decode cX4_note 66 = .ok (.ifCond .eq 49, 3) := by decide +kernel
theorem dX4_note_69 : decode cX4_note 69 = .ok (.aload_n 0, 1) := by decide +kernel
theorem dX4_note_70 : decode cX4_note 70 = .ok (.getfield 25, 3) := by decide +kernel
theorem dX4_note_73 : decode cX4_note 73 = .ok (.iload 4, 2) := by decide +kernel
theorem dX4_note_75 : decode cX4_note 75 = .ok (.aload_n 1, 1) := by decide +kernel
theorem dX4_note_76 : decode cX4_note 76 = .ok (.iload_n 2, 1) := by decide +kernel
theorem dX4_note_77 : decode cX4_note 77 = .ok (.iload_n 3, 1) := by decide +kernel
theorem dX4_note_78 : decode cX4_note 78 = .ok (.invokestatic 92, 3) := by decide +kernel
theorem dX4_note_81 : decode cX4_note 81 = .ok (.iastore, 1) := by decide +kernel
theorem dX4_note_82 : decode cX4_note 82 = .ok (.aload_n 0, 1) := by decide +kernel
theorem dX4_note_83 : decode cX4_note 83 = .ok (.getfield 19, 3) := by decide +kernel
theorem dX4_note_86 : decode cX4_note 86 = .ok (.iload 4, 2) := by decide +kernel
theorem dX4_note_88 : decode cX4_note 88 = .ok (.aload_n 0, 1) := by decide +kernel
theorem dX4_note_89 : decode cX4_note 89 = .ok (.getfield 25, 3) := by decide +kernel
theorem dX4_note_92 : decode cX4_note 92 = .ok (.iload 4, 2) := by decide +kernel
theorem dX4_note_94 : decode cX4_note 94 = .ok (.iaload, 1) := by decide +kernel
theorem dX4_note_95 : decode cX4_note 95 = .ok (.iconst (-1), 1) := by decide +kernel
theorem dX4_note_96 : decode cX4_note 96 = .ok (.if_icmp .ne 12, 3) := by decide +kernel
theorem dX4_note_99 : decode cX4_note 99 = .ok (.aload_n 1, 1) := by decide +kernel
theorem dX4_note_100 : decode cX4_note 100 = .ok (.iload_n 2, 1) := by decide +kernel
theorem dX4_note_101 : decode cX4_note 101 = .ok (.iload_n 3, 1) := by decide +kernel
theorem dX4_note_102 : decode cX4_note 102 = .ok (.invokestatic 95, 3) := by decide +kernel
theorem dX4_note_105 : decode cX4_note 105 = .ok (.goto 6, 3) := by decide +kernel
theorem dX4_note_108 : decode cX4_note 108 = .ok (.sipush 259, 3) := by decide +kernel
theorem dX4_note_111 : decode cX4_note 111 = .ok (.iastore, 1) := by decide +kernel
theorem dX4_note_112 : decode cX4_note 112 = .ok (.goto 17, 3) := by decide +kernel
theorem dX4_note_115 : decode cX4_note 115 = .ok (.aload_n 0, 1) := by decide +kernel
theorem dX4_note_116 : decode cX4_note 116 = .ok (.getfield 19, 3) := by decide +kernel
theorem dX4_note_119 : decode cX4_note 119 = .ok (.iload 4, 2) := by decide +kernel
theorem dX4_note_121 : decode cX4_note 121 = .ok (.aload_n 1, 1) := by decide +kernel
theorem dX4_note_122 : decode cX4_note 122 = .ok (.iload_n 2, 1) := by decide +kernel
theorem dX4_note_123 : decode cX4_note 123 = .ok (.iaload, 1) := by decide +kernel
theorem dX4_note_124 : decode cX4_note 124 = .ok (.sipush 255, 3) := by decide +kernel
theorem dX4_note_127 : decode cX4_note 127 = .ok (.iand, 1) := by decide +kernel
theorem dX4_note_128 : decode cX4_note 128 = .ok (.iastore, 1) := by decide +kernel
theorem dX4_note_129 : decode cX4_note 129 = .ok (.return_, 1) := by decide +kernel
theorem zw_660 : (Jvm.Cond.methodLink "HillSchool$LawReader" (78 : Nat) ({ cls := "HillSchool$LawReader", name := "isLetter", desc := "(I)Z" } : Jvm.MethodName)) ∈ zall := zmemG (zmj_3 77 rfl) rfl
theorem zw_661 : (Jvm.Cond.static ({ cls := "HillSchool$LawReader", name := "isLetter", desc := "(I)Z" } : Jvm.MethodName)) ∈ zall := zmemG (zmj_3 78 rfl) rfl
theorem zw_663 : (Jvm.Cond.methodLink "HillSchool$LawReader" (81 : Nat) ({ cls := "HillSchool$LawReader", name := "isDigit", desc := "(I)Z" } : Jvm.MethodName)) ∈ zall := zmemG (zmj_3 80 rfl) rfl
theorem zw_664 : (Jvm.Cond.static ({ cls := "HillSchool$LawReader", name := "isDigit", desc := "(I)Z" } : Jvm.MethodName)) ∈ zall := zmemG (zmj_3 81 rfl) rfl
theorem zw_669 : (Jvm.Cond.code ({ cls := "HillSchool$LawReader", name := "note", desc := "([IIII)V" } : Jvm.MethodName) prog_6_method_13_code (5 : Nat) (Option.none : Option Jvm.ClassFile.FieldType)) ∈ zall := zmemG (zmj_3 86 rfl) rfl
theorem zw_670 : (Jvm.Cond.methodLink "HillSchool$LawReader" (88 : Nat) ({ cls := "HillSchool$LawReader", name := "numberOf", desc := "([III)I" } : Jvm.MethodName)) ∈ zall := zmemG (zmj_3 87 rfl) rfl
theorem zw_671 : (Jvm.Cond.static ({ cls := "HillSchool$LawReader", name := "numberOf", desc := "([III)I" } : Jvm.MethodName)) ∈ zall := zmemG (zmj_3 88 rfl) rfl
theorem zw_673 : (Jvm.Cond.methodLink "HillSchool$LawReader" (92 : Nat) ({ cls := "HillSchool$LawReader", name := "wordOf", desc := "([III)I" } : Jvm.MethodName)) ∈ zall := zmemG (zmj_3 90 rfl) rfl
theorem zw_674 : (Jvm.Cond.static ({ cls := "HillSchool$LawReader", name := "wordOf", desc := "([III)I" } : Jvm.MethodName)) ∈ zall := zmemG (zmj_3 91 rfl) rfl
theorem zw_735 : (Jvm.Cond.methodLink "HillSchool$LawReader" (95 : Nat) ({ cls := "HillSchool$LawReader", name := "ruleWordOf", desc := "([III)I" } : Jvm.MethodName)) ∈ zall := zmemG (zmj_3 152 rfl) rfl
theorem zw_736 : (Jvm.Cond.static ({ cls := "HillSchool$LawReader", name := "ruleWordOf", desc := "([III)I" } : Jvm.MethodName)) ∈ zall := zmemG (zmj_3 153 rfl) rfl
abbrev w_LawReader_note : List Cond := .code yX4_note cX4_note 5 none :: zall
abbrev rm_LawReader_note : Room := { frames := 6, cells := 0, slots := 0, locals := 131 }
theorem hd_LawReader_note : yX4_note.cls = "HillSchool$LawReader" ∧ yX4_note.cls ≠ "java/lang/invoke/MethodHandle" ∧ yX4_note.cls ≠ "java/lang/invoke/VarHandle" ∧ (parseMethodDescriptor yX4_note.desc).map (fun d => d.parameters.length) = some 4 := by decide +kernel
def wd_LawReader_note (cA : Nat → ClassId) (q0 q1 q2 q3 q4 q5 : Nat) (u0 u1 u2 : Int) (i_a1 : Nat → Int) (i_tokens : Nat → Int) (i_values : Nat → Int) : va_W := [(q0, .inr (4, [.ref q1, .int (Int32.ofInt u0), .ref q2, .ref q3, .ref q4, .int (Int32.ofInt u1), .int (Int32.ofInt u2)])), (q5, .inl (cA 0, 400, .inl (za i_a1))), (q2, .inl (cA 0, 401, .inl (za i_tokens))), (q4, .inl (cA 0, 401, .inl (za i_values)))]
def wf_LawReader_note (cA : Nat → ClassId) (q0 q1 q2 q3 q4 q5 : Nat) (u0 u1 u2 : Int) (i_a1 : Nat → Int) (o : (Nat → Int) × (Nat → Int)) : va_W := wd_LawReader_note cA q0 q1 q2 q3 q4 q5 u0 u1 u2 i_a1 o.1 o.2
def f_LawReader_note (x2 : Int) (x3 : Int) (x4 : Int) (i_a1 : Nat → Int) (i_tokens : Nat → Int) (i_values : Nat → Int) : Option ((Nat → Int) × (Nat → Int)) :=
  zs 401 i_values x4 (-1) fun a1 =>
  zg 400 i_a1 x2 fun v2 =>
  zd1 (f_LawReader_isDigit v2) fun v3 =>
  if zi_w v3 = 0 then
    zg 400 i_a1 x2 fun v4 =>
    zd1 (f_LawReader_isLetter v4) fun v5 =>
    if zi_w v5 = 0 then
      zg 400 i_a1 x2 fun v6 =>
      zn (zi_and v6 255) fun v7 =>
      zs 401 i_tokens x4 v7 fun a8 =>
      some (a8, a1)
    else
      zd1 (f_LawReader_wordOf x2 x3 i_a1) fun v9 =>
      zs 401 a1 x4 v9 fun a10 =>
      zg 401 a10 x4 fun v11 =>
      if zi_w v11 ≠ zi_w (-1) then
        zs 401 i_tokens x4 259 fun a12 =>
        some (a12, a10)
      else
        zd1 (f_LawReader_ruleWordOf x2 x3 i_a1) fun v13 =>
        zs 401 i_tokens x4 v13 fun a14 =>
        some (a14, a10)
  else
    zd1 (f_LawReader_numberOf x2 x3 i_a1) fun v15 =>
    zs 401 a1 x4 v15 fun a16 =>
    zg 401 a16 x4 fun v17 =>
    if zi_w v17 ≠ zi_w (-1) then
      zs 401 i_tokens x4 258 fun a18 =>
      some (a18, a16)
    else
      zs 401 i_tokens x4 256 fun a19 =>
      some (a19, a16)
set_option maxHeartbeats 4000000 in
set_option maxRecDepth 100000 in
theorem c_LawReader_note (l : Launch) (ev : zEv) (dC : Nat → ClassId) (dI : Nat → Nat → Nat) (cA : Nat → ClassId) (q0 q1 q2 q3 q4 q5 : Nat) (u0 u1 u2 : Int) {x2 x3 x4 : Int} {i_a1 : Nat → Int} {i_tokens : Nat → Int} {i_values : Nat → Int} {out : (Nat → Int) × (Nat → Int)} (hf : f_LawReader_note x2 x3 x4 i_a1 i_tokens i_values = some out) : xc_V l ev (dC, dI) vwCl (tyl cA) yX4_note w_LawReader_note rm_LawReader_note [.ref q0, .ref q5, .int (Int32.ofInt x2), .int (Int32.ofInt x3), .int (Int32.ofInt x4)] (wd_LawReader_note cA q0 q1 q2 q3 q4 q5 u0 u1 u2 i_a1 i_tokens i_values) (wf_LawReader_note cA q0 q1 q2 q3 q4 q5 u0 u1 u2 i_a1 out) := by
  refine xv_startV (cc := cX4_note) (maxL := 5) (by decide +kernel) rfl (Nat.le_of_ble_eq_true rfl) ?_
  intro p e s m args below meth c A Q H ls hx hb hml hts hown hK hA hP hD hS hl hE hret
  have hown : s.vm.findClass "HillSchool$LawReader" = some m.cls := hown
  have hz : ∀ w ∈ zall, w.before args s = true := fun w h => hts w (List.mem_cons_of_mem _ h)
  have hl : lv_has ls 5 [(0, .ref q0), (1, .ref q5), (2, .int (Int32.ofInt x2)), (3, .int (Int32.ofInt x3)), (4, .int (Int32.ofInt x4))] := hl
  unfold f_LawReader_note at hf
  refine lv_aload_n hx hb dX4_note_0 rfl (lv_at hl 0 rfl) ?_
  refine va_get (D := (dC, dI)) (ci := 4) (v := .ref q4) (C := RX4) (T := TX4) (N := 7) hx hb hz zi_X4 hown hK hP 0 rfl rfl 4 (by decide) (hz _ zw_254) (fun _ h9 => h9) rfl dX4_note_1 ?_
  refine lv_iload hx hb dX4_note_4 (lv_at hl 4 rfl) ?_
  refine lv_iconst (v := Int32.ofInt (-1)) hx hb dX4_note_6 rfl ?_
  refine xi_iast hx hb hK hP hD hS 3 0 rfl rfl dX4_note_7 hf (fun a1 H locs hP hD hS hf => ?_)
  have hP : va_P (dC, dI) vwCl (wd_LawReader_note cA q0 q1 q2 q3 q4 q5 u0 u1 u2 i_a1 i_tokens a1) H := hP
  have hD : va_D A (wd_LawReader_note cA q0 q1 q2 q3 q4 q5 u0 u1 u2 i_a1 i_tokens a1) := hD
  refine lv_aload_n hx hb dX4_note_8 rfl (lv_at hl 1 rfl) ?_
  refine lv_iload_n hx hb dX4_note_9 rfl (lv_at hl 2 rfl) ?_
  refine xi_iald hx hb hK hP 1 0 rfl rfl dX4_note_10 hf (fun v2 hf => ?_)
  refine xe_d1 hf (fun v3 hg hf => ?_)
  have hC : ([] : List Nat).map (fun i => (wd_LawReader_note cA q0 q1 q2 q3 q4 q5 u0 u1 u2 i_a1 i_tokens a1)[i]?) = (wd_LawReader_isDigit cA).map some := rfl
  refine xv_afterI (ws' := (wd_LawReader_note cA q0 q1 q2 q3 q4 q5 u0 u1 u2 i_a1 i_tokens a1)) (isC := []) (ps := [none, none, none, none]) (va_runS (As := [.int (Int32.ofInt v2)]) (rest := []) ⟨hx, hb, hml, hown, hts⟩ (c_LawReader_isDigit l ev dC dI cA hg H.size) (va_cwS 1 hts (zgS zw_663 zw_664 zw_107 zw_665) rfl rfl rfl hd_LawReader_isDigit.2 ⟨Nat.le_of_ble_eq_true rfl, Nat.le_of_ble_eq_true rfl⟩) (xv_preS hE hA hS hK hP hD (isC := []) (by decide +kernel) hC) rfl rfl hl.1 rfl (lv_room (Nat.le_of_ble_eq_true rfl)) dX4_note_11 ⟨Nat.le_refl _, Nat.le_refl _⟩) hP hD hS hA (by decide +kernel) rfl hC rfl rfl (fun H locs hP hD hS => ?_)
  refine xi_if_eq (tgt := 60) hx hb dX4_note_14 (by decide) hf (fun hf => ?_) (fun hf => ?_)
  · refine lv_aload_n hx hb dX4_note_60 rfl (lv_at hl 1 rfl) ?_
    refine lv_iload_n hx hb dX4_note_61 rfl (lv_at hl 2 rfl) ?_
    refine xi_iald hx hb hK hP 1 0 rfl rfl dX4_note_62 hf (fun v4 hf => ?_)
    refine xe_d1 hf (fun v5 hg hf => ?_)
    have hC : ([] : List Nat).map (fun i => (wd_LawReader_note cA q0 q1 q2 q3 q4 q5 u0 u1 u2 i_a1 i_tokens a1)[i]?) = (wd_LawReader_isLetter cA).map some := rfl
    refine xv_afterI (ws' := (wd_LawReader_note cA q0 q1 q2 q3 q4 q5 u0 u1 u2 i_a1 i_tokens a1)) (isC := []) (ps := [none, none, none, none]) (va_runS (As := [.int (Int32.ofInt v4)]) (rest := []) ⟨hx, hb, hml, hown, hts⟩ (c_LawReader_isLetter l ev dC dI cA hg H.size) (va_cwS 1 hts (zgS zw_660 zw_661 zw_107 zw_662) rfl rfl rfl hd_LawReader_isLetter.2 ⟨Nat.le_of_ble_eq_true rfl, Nat.le_of_ble_eq_true rfl⟩) (xv_preS hE hA hS hK hP hD (isC := []) (by decide +kernel) hC) rfl rfl hl.1 rfl (lv_room (Nat.le_of_ble_eq_true rfl)) dX4_note_63 ⟨Nat.le_refl _, Nat.le_refl _⟩) hP hD hS hA (by decide +kernel) rfl hC rfl rfl (fun H locs hP hD hS => ?_)
    refine xi_if_eq (tgt := 115) hx hb dX4_note_66 (by decide) hf (fun hf => ?_) (fun hf => ?_)
    · refine lv_aload_n hx hb dX4_note_115 rfl (lv_at hl 0 rfl) ?_
      refine va_get (D := (dC, dI)) (ci := 4) (v := .ref q2) (C := RX4) (T := TX4) (N := 7) hx hb hz zi_X4 hown hK hP 0 rfl rfl 2 (by decide) (hz _ zw_252) (fun _ h9 => h9) rfl dX4_note_116 ?_
      refine lv_iload hx hb dX4_note_119 (lv_at hl 4 rfl) ?_
      refine lv_aload_n hx hb dX4_note_121 rfl (lv_at hl 1 rfl) ?_
      refine lv_iload_n hx hb dX4_note_122 rfl (lv_at hl 2 rfl) ?_
      refine xi_iald hx hb hK hP 1 0 rfl rfl dX4_note_123 hf (fun v6 hf => ?_)
      refine lv_sipush (v := Int32.ofInt 255) hx hb dX4_note_124 (by decide) ?_
      refine xi_iand hx hb dX4_note_127 hf (fun v7 hf => ?_)
      refine xi_iast hx hb hK hP hD hS 2 0 rfl rfl dX4_note_128 hf (fun a8 H locs hP hD hS hf => ?_)
      have hP : va_P (dC, dI) vwCl (wd_LawReader_note cA q0 q1 q2 q3 q4 q5 u0 u1 u2 i_a1 a8 a1) H := hP
      have hD : va_D A (wd_LawReader_note cA q0 q1 q2 q3 q4 q5 u0 u1 u2 i_a1 a8 a1) := hD
      obtain rfl := Option.some.inj hf
      exact hret _ _ _ _ dX4_note_129 hP hD hS
    · refine lv_aload_n hx hb dX4_note_69 rfl (lv_at hl 0 rfl) ?_
      refine va_get (D := (dC, dI)) (ci := 4) (v := .ref q4) (C := RX4) (T := TX4) (N := 7) hx hb hz zi_X4 hown hK hP 0 rfl rfl 4 (by decide) (hz _ zw_254) (fun _ h9 => h9) rfl dX4_note_70 ?_
      refine lv_iload hx hb dX4_note_73 (lv_at hl 4 rfl) ?_
      refine lv_aload_n hx hb dX4_note_75 rfl (lv_at hl 1 rfl) ?_
      refine lv_iload_n hx hb dX4_note_76 rfl (lv_at hl 2 rfl) ?_
      refine lv_iload_n hx hb dX4_note_77 rfl (lv_at hl 3 rfl) ?_
      refine xe_d1 hf (fun v9 hg hf => ?_)
      have hC : ([1] : List Nat).map (fun i => (wd_LawReader_note cA q0 q1 q2 q3 q4 q5 u0 u1 u2 i_a1 i_tokens a1)[i]?) = (wd_LawReader_wordOf cA q5 i_a1).map some := rfl
      refine xv_afterI (ws' := (wd_LawReader_note cA q0 q1 q2 q3 q4 q5 u0 u1 u2 i_a1 i_tokens a1)) (isC := [1]) (ps := [none, some 0, none, none]) (va_runS (As := [.ref q5, .int (Int32.ofInt x2), .int (Int32.ofInt x3)]) (rest := [.int (Int32.ofInt x4), .ref q4]) ⟨hx, hb, hml, hown, hts⟩ (c_LawReader_wordOf l ev dC dI cA q5 hg H.size) (va_cwS 3 hts (zgS zw_673 zw_674 zw_107 zw_675) rfl rfl rfl hd_LawReader_wordOf.2 ⟨Nat.le_of_ble_eq_true rfl, Nat.le_of_ble_eq_true rfl⟩) (xv_preS hE hA hS hK hP hD (isC := [1]) (by decide +kernel) hC) rfl rfl hl.1 rfl (lv_room (Nat.le_of_ble_eq_true rfl)) dX4_note_78 ⟨Nat.le_refl _, Nat.le_refl _⟩) hP hD hS hA (by decide +kernel) rfl hC rfl rfl (fun H locs hP hD hS => ?_)
      refine xi_iast hx hb hK hP hD hS 3 0 rfl rfl dX4_note_81 hf (fun a10 H locs hP hD hS hf => ?_)
      have hP : va_P (dC, dI) vwCl (wd_LawReader_note cA q0 q1 q2 q3 q4 q5 u0 u1 u2 i_a1 i_tokens a10) H := hP
      have hD : va_D A (wd_LawReader_note cA q0 q1 q2 q3 q4 q5 u0 u1 u2 i_a1 i_tokens a10) := hD
      refine lv_aload_n hx hb dX4_note_82 rfl (lv_at hl 0 rfl) ?_
      refine va_get (D := (dC, dI)) (ci := 4) (v := .ref q2) (C := RX4) (T := TX4) (N := 7) hx hb hz zi_X4 hown hK hP 0 rfl rfl 2 (by decide) (hz _ zw_252) (fun _ h9 => h9) rfl dX4_note_83 ?_
      refine lv_iload hx hb dX4_note_86 (lv_at hl 4 rfl) ?_
      refine lv_aload_n hx hb dX4_note_88 rfl (lv_at hl 0 rfl) ?_
      refine va_get (D := (dC, dI)) (ci := 4) (v := .ref q4) (C := RX4) (T := TX4) (N := 7) hx hb hz zi_X4 hown hK hP 0 rfl rfl 4 (by decide) (hz _ zw_254) (fun _ h9 => h9) rfl dX4_note_89 ?_
      refine lv_iload hx hb dX4_note_92 (lv_at hl 4 rfl) ?_
      refine xi_iald hx hb hK hP 3 0 rfl rfl dX4_note_94 hf (fun v11 hf => ?_)
      refine lv_iconst (v := Int32.ofInt (-1)) hx hb dX4_note_95 rfl ?_
      refine xi_icmp_ne (tgt := 108) hx hb dX4_note_96 (by decide) hf (fun hf => ?_) (fun hf => ?_)
      · refine lv_sipush (v := Int32.ofInt 259) hx hb dX4_note_108 (by decide) ?_
        refine xi_iast hx hb hK hP hD hS 2 0 rfl rfl dX4_note_111 hf (fun a12 H locs hP hD hS hf => ?_)
        have hP : va_P (dC, dI) vwCl (wd_LawReader_note cA q0 q1 q2 q3 q4 q5 u0 u1 u2 i_a1 a12 a10) H := hP
        have hD : va_D A (wd_LawReader_note cA q0 q1 q2 q3 q4 q5 u0 u1 u2 i_a1 a12 a10) := hD
        refine lv_goto (tgt := 129) hx hb dX4_note_112 (by decide) ?_
        obtain rfl := Option.some.inj hf
        exact hret _ _ _ _ dX4_note_129 hP hD hS
      · refine lv_aload_n hx hb dX4_note_99 rfl (lv_at hl 1 rfl) ?_
        refine lv_iload_n hx hb dX4_note_100 rfl (lv_at hl 2 rfl) ?_
        refine lv_iload_n hx hb dX4_note_101 rfl (lv_at hl 3 rfl) ?_
        refine xe_d1 hf (fun v13 hg hf => ?_)
        have hC : ([1] : List Nat).map (fun i => (wd_LawReader_note cA q0 q1 q2 q3 q4 q5 u0 u1 u2 i_a1 i_tokens a10)[i]?) = (wd_LawReader_ruleWordOf cA q5 i_a1).map some := rfl
        refine xv_afterI (ws' := (wd_LawReader_note cA q0 q1 q2 q3 q4 q5 u0 u1 u2 i_a1 i_tokens a10)) (isC := [1]) (ps := [none, some 0, none, none]) (va_runS (As := [.ref q5, .int (Int32.ofInt x2), .int (Int32.ofInt x3)]) (rest := [.int (Int32.ofInt x4), .ref q2]) ⟨hx, hb, hml, hown, hts⟩ (c_LawReader_ruleWordOf l ev dC dI cA q5 hg H.size) (va_cwS 3 hts (zgS zw_735 zw_736 zw_107 zw_737) rfl rfl rfl hd_LawReader_ruleWordOf.2 ⟨Nat.le_of_ble_eq_true rfl, Nat.le_of_ble_eq_true rfl⟩) (xv_preS hE hA hS hK hP hD (isC := [1]) (by decide +kernel) hC) rfl rfl hl.1 rfl (lv_room (Nat.le_of_ble_eq_true rfl)) dX4_note_102 ⟨Nat.le_refl _, Nat.le_refl _⟩) hP hD hS hA (by decide +kernel) rfl hC rfl rfl (fun H locs hP hD hS => ?_)
        refine lv_goto (tgt := 111) hx hb dX4_note_105 (by decide) ?_
        refine xi_iast hx hb hK hP hD hS 2 0 rfl rfl dX4_note_111 hf (fun a14 H locs hP hD hS hf => ?_)
        have hP : va_P (dC, dI) vwCl (wd_LawReader_note cA q0 q1 q2 q3 q4 q5 u0 u1 u2 i_a1 a14 a10) H := hP
        have hD : va_D A (wd_LawReader_note cA q0 q1 q2 q3 q4 q5 u0 u1 u2 i_a1 a14 a10) := hD
        refine lv_goto (tgt := 129) hx hb dX4_note_112 (by decide) ?_
        obtain rfl := Option.some.inj hf
        exact hret _ _ _ _ dX4_note_129 hP hD hS
  · refine lv_aload_n hx hb dX4_note_17 rfl (lv_at hl 0 rfl) ?_
    refine va_get (D := (dC, dI)) (ci := 4) (v := .ref q4) (C := RX4) (T := TX4) (N := 7) hx hb hz zi_X4 hown hK hP 0 rfl rfl 4 (by decide) (hz _ zw_254) (fun _ h9 => h9) rfl dX4_note_18 ?_
    refine lv_iload hx hb dX4_note_21 (lv_at hl 4 rfl) ?_
    refine lv_aload_n hx hb dX4_note_23 rfl (lv_at hl 1 rfl) ?_
    refine lv_iload_n hx hb dX4_note_24 rfl (lv_at hl 2 rfl) ?_
    refine lv_iload_n hx hb dX4_note_25 rfl (lv_at hl 3 rfl) ?_
    refine xe_d1 hf (fun v15 hg hf => ?_)
    have hC : ([1] : List Nat).map (fun i => (wd_LawReader_note cA q0 q1 q2 q3 q4 q5 u0 u1 u2 i_a1 i_tokens a1)[i]?) = (wd_LawReader_numberOf cA q5 i_a1).map some := rfl
    refine xv_afterI (ws' := (wd_LawReader_note cA q0 q1 q2 q3 q4 q5 u0 u1 u2 i_a1 i_tokens a1)) (isC := [1]) (ps := [none, some 0, none, none]) (va_runS (As := [.ref q5, .int (Int32.ofInt x2), .int (Int32.ofInt x3)]) (rest := [.int (Int32.ofInt x4), .ref q4]) ⟨hx, hb, hml, hown, hts⟩ (c_LawReader_numberOf l ev dC dI cA q5 hg H.size) (va_cwS 3 hts (zgS zw_670 zw_671 zw_107 zw_672) rfl rfl rfl hd_LawReader_numberOf.2 ⟨Nat.le_of_ble_eq_true rfl, Nat.le_of_ble_eq_true rfl⟩) (xv_preS hE hA hS hK hP hD (isC := [1]) (by decide +kernel) hC) rfl rfl hl.1 rfl (lv_room (Nat.le_of_ble_eq_true rfl)) dX4_note_26 ⟨Nat.le_refl _, Nat.le_refl _⟩) hP hD hS hA (by decide +kernel) rfl hC rfl rfl (fun H locs hP hD hS => ?_)
    refine xi_iast hx hb hK hP hD hS 3 0 rfl rfl dX4_note_29 hf (fun a16 H locs hP hD hS hf => ?_)
    have hP : va_P (dC, dI) vwCl (wd_LawReader_note cA q0 q1 q2 q3 q4 q5 u0 u1 u2 i_a1 i_tokens a16) H := hP
    have hD : va_D A (wd_LawReader_note cA q0 q1 q2 q3 q4 q5 u0 u1 u2 i_a1 i_tokens a16) := hD
    refine lv_aload_n hx hb dX4_note_30 rfl (lv_at hl 0 rfl) ?_
    refine va_get (D := (dC, dI)) (ci := 4) (v := .ref q2) (C := RX4) (T := TX4) (N := 7) hx hb hz zi_X4 hown hK hP 0 rfl rfl 2 (by decide) (hz _ zw_252) (fun _ h9 => h9) rfl dX4_note_31 ?_
    refine lv_iload hx hb dX4_note_34 (lv_at hl 4 rfl) ?_
    refine lv_aload_n hx hb dX4_note_36 rfl (lv_at hl 0 rfl) ?_
    refine va_get (D := (dC, dI)) (ci := 4) (v := .ref q4) (C := RX4) (T := TX4) (N := 7) hx hb hz zi_X4 hown hK hP 0 rfl rfl 4 (by decide) (hz _ zw_254) (fun _ h9 => h9) rfl dX4_note_37 ?_
    refine lv_iload hx hb dX4_note_40 (lv_at hl 4 rfl) ?_
    refine xi_iald hx hb hK hP 3 0 rfl rfl dX4_note_42 hf (fun v17 hf => ?_)
    refine lv_iconst (v := Int32.ofInt (-1)) hx hb dX4_note_43 rfl ?_
    refine xi_icmp_ne (tgt := 53) hx hb dX4_note_44 (by decide) hf (fun hf => ?_) (fun hf => ?_)
    · refine lv_sipush (v := Int32.ofInt 258) hx hb dX4_note_53 (by decide) ?_
      refine xi_iast hx hb hK hP hD hS 2 0 rfl rfl dX4_note_56 hf (fun a18 H locs hP hD hS hf => ?_)
      have hP : va_P (dC, dI) vwCl (wd_LawReader_note cA q0 q1 q2 q3 q4 q5 u0 u1 u2 i_a1 a18 a16) H := hP
      have hD : va_D A (wd_LawReader_note cA q0 q1 q2 q3 q4 q5 u0 u1 u2 i_a1 a18 a16) := hD
      refine lv_goto (tgt := 129) hx hb dX4_note_57 (by decide) ?_
      obtain rfl := Option.some.inj hf
      exact hret _ _ _ _ dX4_note_129 hP hD hS
    · refine lv_sipush (v := Int32.ofInt 256) hx hb dX4_note_47 (by decide) ?_
      refine lv_goto (tgt := 56) hx hb dX4_note_50 (by decide) ?_
      refine xi_iast hx hb hK hP hD hS 2 0 rfl rfl dX4_note_56 hf (fun a19 H locs hP hD hS hf => ?_)
      have hP : va_P (dC, dI) vwCl (wd_LawReader_note cA q0 q1 q2 q3 q4 q5 u0 u1 u2 i_a1 a19 a16) H := hP
      have hD : va_D A (wd_LawReader_note cA q0 q1 q2 q3 q4 q5 u0 u1 u2 i_a1 a19 a16) := hD
      refine lv_goto (tgt := 129) hx hb dX4_note_57 (by decide) ?_
      obtain rfl := Option.some.inj hf
      exact hret _ _ _ _ dX4_note_129 hP hD hS
