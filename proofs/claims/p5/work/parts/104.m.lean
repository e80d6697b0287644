theorem dX3_effort_0 : decode cX3_effort 0 = .ok (.iload 5, 2) := by decide +kernel
theorem dX3_effort_2 : decode cX3_effort 2 = .ok (.iconst 1, 1) := by decide +kernel
theorem dX3_effort_3 : decode cX3_effort 3 = .ok (.if_icmp .lt 28, 3) := by decide +kernel
theorem dX3_effort_6 : decode cX3_effort 6 = .ok (.iload 6, 2) := by decide +kernel
theorem dX3_effort_8 : decode cX3_effort 8 = .ok (.bipush 10, 2) := by decide +kernel
theorem dX3_effort_10 : decode cX3_effort 10 = .ok (.if_icmp .ge 21, 3) := by decide +kernel
theorem dX3_effort_13 : decode cX3_effort 13 = .ok (.iload_n 2, 1) := by decide +kernel
theorem dX3_effort_14 : decode cX3_effort 14 = .ok (.iload_n 3, 1) := by decide +kernel
theorem dX3_effort_15 : decode cX3_effort 15 = .ok (.if_icmp .eq 16, 3) := by decide +kernel
theorem dX3_effort_18 : decode cX3_effort 18 = .ok (.aload_n 0, 1) := by decide +kernel
theorem dX3_effort_19 : decode cX3_effort 19 = .ok (.getfield 29, 3) := by decide +kernel
theorem dX3_effort_22 : decode cX3_effort 22 = .ok (.iload_n 1, 1) := by decide +kernel
theorem dX3_effort_23 : decode cX3_effort 23 = .ok (.iload 4, 2) := by decide +kernel
theorem dX3_effort_25 : decode cX3_effort 25 = .ok (.invokevirtual 46, 3) := by decide +kernel
theorem dX3_effort_28 : decode cX3_effort 28 = .ok (.ifCond .ne 5, 3) := by decide +kernel
theorem dX3_effort_31 : decode cX3_effort 31 = .ok (.iconst (-1), 1) := by decide +kernel
theorem dX3_effort_32 : decode cX3_effort 32 = .ok (.ireturn, 1) := by decide +kernel
theorem dX3_effort_33 : decode cX3_effort 33 = .ok (.aload_n 0, 1) := by decide +kernel
theorem dX3_effort_34 : decode cX3_effort 34 = .ok (.iload_n 2, 1) := by decide +kernel
theorem dX3_effort_35 : decode cX3_effort 35 = .ok (.iload_n 3, 1) := by decide +kernel
theorem dX3_effort_36 : decode cX3_effort 36 = .ok (.isub, 1) := by decide +kernel
theorem dX3_effort_37 : decode cX3_effort 37 = .ok (.invokestatic 52, 3) := by decide +kernel
theorem dX3_effort_40 : decode cX3_effort 40 = .ok (.putfield 22, 3) := by decide +kernel
theorem dX3_effort_43 : decode cX3_effort 43 = .ok (.aload_n 0, 1) := by decide +kernel
theorem dX3_effort_44 : decode cX3_effort 44 = .ok (.iconst 0, 1) := by decide +kernel
theorem dX3_effort_45 : decode cX3_effort 45 = .ok (.putfield 25, 3) := by decide +kernel
theorem dX3_effort_48 : decode cX3_effort 48 = .ok (.aload_n 0, 1) := by decide +kernel
theorem dX3_effort_49 : decode cX3_effort 49 = .ok (.getfield 29, 3) := by decide +kernel
theorem dX3_effort_52 : decode cX3_effort 52 = .ok (.getfield 57, 3) := by decide +kernel
theorem dX3_effort_55 : decode cX3_effort 55 = .ok (.ifCond .lt 127, 3) := by decide +kernel
theorem dX3_effort_58 : decode cX3_effort 58 = .ok (.aload_n 0, 1) := by decide +kernel
theorem dX3_effort_59 : decode cX3_effort 59 = .ok (.getfield 29, 3) := by decide +kernel
theorem dX3_effort_62 : decode cX3_effort 62 = .ok (.getfield 57, 3) := by decide +kernel
theorem dX3_effort_65 : decode cX3_effort 65 = .ok (.aload_n 0, 1) := by decide +kernel
theorem dX3_effort_66 : decode cX3_effort 66 = .ok (.getfield 29, 3) := by decide +kernel
theorem dX3_effort_69 : decode cX3_effort 69 = .ok (.getfield 60, 3) := by decide +kernel
theorem dX3_effort_72 : decode cX3_effort 72 = .ok (.if_icmp .ge 110, 3) := by decide +kernel
theorem dX3_effort_75 : decode cX3_effort 75 = .ok (.aload_n 0, 1) := by decide +kernel
theorem dX3_effort_76 : decode cX3_effort 76 = .ok (.getfield 11, 3) := by decide +kernel
theorem dX3_effort_79 : decode cX3_effort 79 = .ok (.iconst 0, 1) := by decide +kernel
theorem dX3_effort_80 : decode cX3_effort 80 = .ok (.iload_n 1, 1) := by decide +kernel
theorem dX3_effort_81 : decode cX3_effort 81 = .ok (.iastore, 1) := by decide +kernel
theorem dX3_effort_82 : decode cX3_effort 82 = .ok (.aload_n 0, 1) := by decide +kernel
theorem dX3_effort_83 : decode cX3_effort 83 = .ok (.getfield 11, 3) := by decide +kernel
theorem dX3_effort_86 : decode cX3_effort 86 = .ok (.iconst 1, 1) := by decide +kernel
theorem dX3_effort_87 : decode cX3_effort 87 = .ok (.aload_n 0, 1) := by decide +kernel
theorem dX3_effort_88 : decode cX3_effort 88 = .ok (.getfield 29, 3) := by decide +kernel
theorem dX3_effort_91 : decode cX3_effort 91 = .ok (.getfield 63, 3) := by decide +kernel
theorem dX3_effort_94 : decode cX3_effort 94 = .ok (.iload_n 1, 1) := by decide +kernel
theorem dX3_effort_95 : decode cX3_effort 95 = .ok (.iaload, 1) := by decide +kernel
theorem dX3_effort_96 : decode cX3_effort 96 = .ok (.iastore, 1) := by decide +kernel
theorem dX3_effort_97 : decode cX3_effort 97 = .ok (.aload_n 0, 1) := by decide +kernel
theorem dX3_effort_98 : decode cX3_effort 98 = .ok (.getfield 11, 3) := by decide +kernel
theorem dX3_effort_101 : decode cX3_effort 101 = .ok (.iconst 2, 1) := by decide +kernel
theorem dX3_effort_102 : decode cX3_effort 102 = .ok (.iload 4, 2) := by decide +kernel
theorem dX3_effort_104 : decode cX3_effort 104 = .ok (.iastore, 1) := by decide +kernel
theorem dX3_effort_105 : decode cX3_effort 105 = .ok (.aload_n 0, 1) := by decide +kernel
theorem dX3_effort_106 : decode cX3_effort 106 = .ok (.getfield 11, 3) := by decide +kernel
theorem dX3_effort_109 : decode cX3_effort 109 = .ok (.iconst 3, 1) := by decide +kernel
theorem dX3_effort_110 : decode cX3_effort 110 = .ok (.iload_n 2, 1) := by decide +kernel
theorem dX3_effort_111 : decode cX3_effort 111 = .ok (.iastore, 1) := by decide +kernel
theorem dX3_effort_112 : decode cX3_effort 112 = .ok (.aload_n 0, 1) := by decide +kernel
theorem dX3_effort_113 : decode cX3_effort 113 = .ok (.getfield 11, 3) := by decide +kernel
theorem dX3_effort_116 : decode cX3_effort 116 = .ok (.iconst 4, 1) := by decide +kernel
theorem dX3_effort_117 : decode cX3_effort 117 = .ok (.iload_n 3, 1) := by decide +kernel
theorem dX3_effort_118 : decode cX3_effort 118 = .ok (.iastore, 1) := by decide +kernel
theorem dX3_effort_119 : decode cX3_effort 119 = .ok (.aload_n 0, 1) := by decide +kernel
theorem dX3_effort_120 : decode cX3_effort 120 = .ok (.getfield 11, 3) := by decide +kernel
theorem dX3_effort_123 : decode cX3_effort 123 = .ok (.iconst 5, 1) := by decide +kernel
theorem dX3_effort_124 : decode cX3_effort 124 = .ok (.iload 5, 2) := by decide +kernel
theorem dX3_effort_126 : decode cX3_effort 126 = .ok (.iastore, 1) := by decide +kernel
theorem dX3_effort_127 : decode cX3_effort 127 = .ok (.aload_n 0, 1) := by decide +kernel
theorem dX3_effort_128 : decode cX3_effort 128 = .ok (.getfield 11, 3) := by decide +kernel
theorem dX3_effort_131 : decode cX3_effort 131 = .ok (.bipush 6, 2) := by decide +kernel
theorem dX3_effort_133 : decode cX3_effort 133 = .ok (.iload 6, 2) := by decide +kernel
theorem dX3_effort_135 : decode cX3_effort 135 = .ok (.iastore, 1) := by decide +kernel
theorem dX3_effort_136 : decode cX3_effort 136 = .ok (.aload_n 0, 1) := by decide +kernel
theorem dX3_effort_137 : decode cX3_effort 137 = .ok (.getfield 11, 3) := by decide +kernel
theorem dX3_effort_140 : decode cX3_effort 140 = .ok (.bipush 7, 2) := by decide +kernel
theorem dX3_effort_142 : decode cX3_effort 142 = .ok (.aload_n 0, 1) := by decide +kernel
theorem dX3_effort_143 : decode cX3_effort 143 = .ok (.getfield 29, 3) := by decide +kernel
theorem dX3_effort_146 : decode cX3_effort 146 = .ok (.getfield 66, 3) := by decide +kernel
theorem dX3_effort_149 : decode cX3_effort 149 = .ok (.iconst 0, 1) := by decide +kernel
theorem dX3_effort_150 : decode cX3_effort 150 = .ok (.iaload, 1) := by decide +kernel
theorem dX3_effort_151 : decode cX3_effort 151 = .ok (.iastore, 1) := by decide +kernel
theorem dX3_effort_152 : decode cX3_effort 152 = .ok (.aload_n 0, 1) := by decide +kernel
theorem dX3_effort_153 : decode cX3_effort 153 = .ok (.aload_n 0, 1) := by decide +kernel
theorem dX3_effort_154 : decode cX3_effort 154 = .ok (.getfield 29, 3) := by decide +kernel
theorem dX3_effort_157 : decode cX3_effort 157 = .ok (.getfield 57, 3) := by decide +kernel
theorem dX3_effort_160 : decode cX3_effort 160 = .ok (.sipush 424, 3) := by decide +kernel
theorem dX3_effort_163 : decode cX3_effort 163 = .ok (.imul, 1) := by decide +kernel
theorem dX3_effort_164 : decode cX3_effort 164 = .ok (.aload_n 0, 1) := by decide +kernel
theorem dX3_effort_165 : decode cX3_effort 165 = .ok (.getfield 29, 3) := by decide +kernel
theorem dX3_effort_168 : decode cX3_effort 168 = .ok (.getfield 71, 3) := by decide +kernel
theorem dX3_effort_171 : decode cX3_effort 171 = .ok (.aload_n 0, 1) := by decide +kernel
theorem dX3_effort_172 : decode cX3_effort 172 = .ok (.getfield 29, 3) := by decide +kernel
theorem dX3_effort_175 : decode cX3_effort 175 = .ok (.getfield 57, 3) := by decide +kernel
theorem dX3_effort_178 : decode cX3_effort 178 = .ok (.iaload, 1) := by decide +kernel
theorem dX3_effort_179 : decode cX3_effort 179 = .ok (.invokevirtual 74, 3) := by decide +kernel
theorem dX3_effort_182 : decode cX3_effort 182 = .ok (.aload_n 0, 1) := by decide +kernel
theorem dX3_effort_183 : decode cX3_effort 183 = .ok (.getfield 25, 3) := by decide +kernel
theorem dX3_effort_186 : decode cX3_effort 186 = .ok (.ifCond .eq 7, 3) := by decide +kernel
theorem dX3_effort_189 : decode cX3_effort 189 = .ok (.iconst (-1), 1) := by decide +kernel
theorem dX3_effort_190 : decode cX3_effort 190 = .ok (.goto 7, 3) := by decide +kernel
theorem dX3_effort_193 : decode cX3_effort 193 = .ok (.aload_n 0, 1) := by decide +kernel
theorem dX3_effort_194 : decode cX3_effort 194 = .ok (.getfield 22, 3) := by decide +kernel
theorem dX3_effort_197 : decode cX3_effort 197 = .ok (.ireturn, 1) := by decide +kernel
theorem zw_14 : (Jvm.Cond.selects "HillSchool$Judge" ({ cls := "HillSchool$Judge", name := "hear", desc := "(II)V" } : Jvm.MethodName) ({ cls := "HillSchool$Judge", name := "hear", desc := "(II)V" } : Jvm.MethodName)) ∈ zall := zmemG (zmj_0 14 rfl) rfl
theorem zw_178 : (Jvm.Cond.fieldLinkNest "HillSchool$Judge" (63 : Nat) "HillSchool$Hill" "strengths" "[I" "HillSchool") ∈ znest := zmemH (zmj_1 75 rfl) rfl
theorem zw_190 : (Jvm.Cond.fieldLinkNest "HillSchool$Judge" (66 : Nat) "HillSchool$Hill" "terms" "[I" "HillSchool") ∈ znest := zmemH (zmj_1 87 rfl) rfl
theorem zw_197 : (Jvm.Cond.fieldLinkNest "HillSchool$Judge" (60 : Nat) "HillSchool$Hill" "laws" "I" "HillSchool") ∈ znest := zmemH (zmj_1 94 rfl) rfl
theorem zw_202 : (Jvm.Cond.fieldLinkNest "HillSchool$Judge" (71 : Nat) "HillSchool$Hill" "ordered" "[I" "HillSchool") ∈ znest := zmemH (zmj_1 99 rfl) rfl
theorem zw_204 : (Jvm.Cond.fieldLinkNest "HillSchool$Judge" (57 : Nat) "HillSchool$Hill" "inForce" "I" "HillSchool") ∈ znest := zmemH (zmj_1 101 rfl) rfl
theorem zw_812 : (Jvm.Cond.code ({ cls := "HillSchool$Judge", name := "effort", desc := "(IIIIII)I" } : Jvm.MethodName) prog_5_method_3_code (7 : Nat) (Option.some Jvm.ClassFile.FieldType.int)) ∈ zall := zmemG (zmj_3 229 rfl) rfl
theorem zw_813 : (Jvm.Cond.methodLink "HillSchool$Judge" (46 : Nat) ({ cls := "HillSchool$Hill", name := "isAble", desc := "(II)Z" } : Jvm.MethodName)) ∈ zall := zmemG (zmj_3 230 rfl) rfl
theorem zw_814 : (Jvm.Cond.instanceMethod ({ cls := "HillSchool$Hill", name := "isAble", desc := "(II)Z" } : Jvm.MethodName)) ∈ zall := zmemG (zmj_3 231 rfl) rfl
theorem zw_815 : (Jvm.Cond.selects "HillSchool$Hill" ({ cls := "HillSchool$Hill", name := "isAble", desc := "(II)Z" } : Jvm.MethodName) ({ cls := "HillSchool$Hill", name := "isAble", desc := "(II)Z" } : Jvm.MethodName)) ∈ zall := zmemG (zmj_3 232 rfl) rfl
theorem zw_818 : (Jvm.Cond.methodLink "HillSchool$Judge" (52 : Nat) ({ cls := "java/lang/Math", name := "abs", desc := "(I)I" } : Jvm.MethodName)) ∈ zall := zmemG (zmj_3 235 rfl) rfl
theorem zw_819 : (Jvm.Cond.static ({ cls := "java/lang/Math", name := "abs", desc := "(I)I" } : Jvm.MethodName)) ∈ zall := zmemG (zmj_3 236 rfl) rfl
theorem zw_820 : (Jvm.Cond.code ({ cls := "java/lang/Math", name := "abs", desc := "(I)I" } : Jvm.MethodName) prog_15_method_59_code (1 : Nat) (Option.some Jvm.ClassFile.FieldType.int)) ∈ zall := zmemG (zmj_3 237 rfl) rfl
theorem zw_821 : (Jvm.Cond.methodLink "HillSchool$Judge" (74 : Nat) ({ cls := "HillSchool$Judge", name := "hear", desc := "(II)V" } : Jvm.MethodName)) ∈ zall := zmemG (zmj_3 238 rfl) rfl
theorem zw_823 : (Jvm.Cond.instanceMethod ({ cls := "HillSchool$Judge", name := "hear", desc := "(II)V" } : Jvm.MethodName)) ∈ zall := zmemG (zmj_4 0 rfl) rfl
abbrev w_Judge_effort : List Cond := .code yX3_effort cX3_effort 7 (some .int) :: zall
abbrev rm_Judge_effort : Room := { frames := 3, cells := 0, slots := 0, locals := 88 }
theorem hd_Judge_effort : yX3_effort.cls = "HillSchool$Judge" ∧ yX3_effort.cls ≠ "java/lang/invoke/MethodHandle" ∧ yX3_effort.cls ≠ "java/lang/invoke/VarHandle" ∧ (parseMethodDescriptor yX3_effort.desc).map (fun d => d.parameters.length) = some 6 := by decide +kernel
def wd_Judge_effort (cA : Nat → ClassId) (q0 q1 q2 q3 q4 q5 q6 q7 q8 q9 q10 q11 q12 : Nat) (u0 u1 : Int) (i_hill_children : Int) (i_hill_laws : Int) (i_hill_inForce : Int) (i_hill_strengths : Nat → Int) (i_hill_expelled : Nat → Int) (i_hill_terms : Nat → Int) (i_hill_orders : Nat → Int) (i_hill_ordered : Nat → Int) (i_piled : Int) (i_tiring : Int) (i_barred : Int) (i_words : Nat → Int) (i_pile : Nat → Int) : va_W := [(q0, .inr (3, [.ref q1, .ref q2, .ref q3, .int (Int32.ofInt i_piled), .int (Int32.ofInt i_tiring), .int (Int32.ofInt i_barred)])), (q1, .inr (2, [.ref q4, .int (Int32.ofInt i_hill_children), .ref q5, .ref q6, .ref q7, .int (Int32.ofInt u0), .ref q8, .ref q9, .ref q10, .int (Int32.ofInt i_hill_laws), .ref q11, .ref q12, .int (Int32.ofInt i_hill_inForce), .int (Int32.ofInt u1)])), (q2, .inl (cA 0, 8, .inl (za i_words))), (q3, .inl (cA 0, 32, .inl (za i_pile))), (q5, .inl (cA 0, 6, .inl (za i_hill_strengths))), (q6, .inl (cA 0, 6, .inl (za i_hill_expelled))), (q9, .inl (cA 0, 4, .inl (za i_hill_terms))), (q11, .inl (cA 0, 2544, .inl (za i_hill_orders))), (q12, .inl (cA 0, 6, .inl (za i_hill_ordered)))]
def wf_Judge_effort (cA : Nat → ClassId) (q0 q1 q2 q3 q4 q5 q6 q7 q8 q9 q10 q11 q12 : Nat) (u0 u1 : Int) (i_hill_children : Int) (i_hill_laws : Int) (i_hill_inForce : Int) (i_hill_strengths : Nat → Int) (i_hill_expelled : Nat → Int) (i_hill_terms : Nat → Int) (i_hill_orders : Nat → Int) (i_hill_ordered : Nat → Int) (o : Int × Int × Int × Int × (Nat → Int) × (Nat → Int)) : va_W := wd_Judge_effort cA q0 q1 q2 q3 q4 q5 q6 q7 q8 q9 q10 q11 q12 u0 u1 i_hill_children i_hill_laws i_hill_inForce i_hill_strengths i_hill_expelled i_hill_terms i_hill_orders i_hill_ordered o.2.1 o.2.2.1 o.2.2.2.1 o.2.2.2.2.1 o.2.2.2.2.2
def f_Judge_effort_182 (i_hill_children : Int) (i_hill_laws : Int) (i_hill_inForce : Int) (i_hill_strengths : Nat → Int) (i_hill_expelled : Nat → Int) (i_hill_terms : Nat → Int) (i_hill_orders : Nat → Int) (i_hill_ordered : Nat → Int) (i_piled : Int) (i_tiring : Int) (i_barred : Int) (i_words : Nat → Int) (i_pile : Nat → Int) : Option (Int × Int × Int × Int × (Nat → Int) × (Nat → Int)) :=
  if zi_w i_barred = 0 then
    some (i_tiring, i_piled, i_tiring, i_barred, i_words, i_pile)
  else
    some ((-1), i_piled, i_tiring, i_barred, i_words, i_pile)
def f_Judge_effort (x1 : Int) (x2 : Int) (x3 : Int) (x4 : Int) (x5 : Int) (x6 : Int) (i_hill_children : Int) (i_hill_laws : Int) (i_hill_inForce : Int) (i_hill_strengths : Nat → Int) (i_hill_expelled : Nat → Int) (i_hill_terms : Nat → Int) (i_hill_orders : Nat → Int) (i_hill_ordered : Nat → Int) (i_piled : Int) (i_tiring : Int) (i_barred : Int) (i_words : Nat → Int) (i_pile : Nat → Int) : Option (Int × Int × Int × Int × (Nat → Int) × (Nat → Int)) :=
  if zi_w x5 < zi_w 1 then
    some ((-1), i_piled, i_tiring, i_barred, i_words, i_pile)
  else
    if zi_w 10 ≤ zi_w x6 then
      some ((-1), i_piled, i_tiring, i_barred, i_words, i_pile)
    else
      if zi_w x2 = zi_w x3 then
        some ((-1), i_piled, i_tiring, i_barred, i_words, i_pile)
      else
        zd1 (f_Hill_isAble x1 x4 i_hill_children i_hill_strengths i_hill_expelled) fun v1 =>
        if zi_w v1 ≠ 0 then
          zn (x2 - x3) fun v2 =>
          zn (zi_abs v2) fun v3 =>
          if zi_w i_hill_inForce < 0 then
            f_Judge_effort_182 i_hill_children i_hill_laws i_hill_inForce i_hill_strengths i_hill_expelled i_hill_terms i_hill_orders i_hill_ordered i_piled v3 0 i_words i_pile
          else
            if zi_w i_hill_laws ≤ zi_w i_hill_inForce then
              f_Judge_effort_182 i_hill_children i_hill_laws i_hill_inForce i_hill_strengths i_hill_expelled i_hill_terms i_hill_orders i_hill_ordered i_piled v3 0 i_words i_pile
            else
              zs 8 i_words 0 x1 fun a4 =>
              zg 6 i_hill_strengths x1 fun v5 =>
              zs 8 a4 1 v5 fun a6 =>
              zs 8 a6 2 x4 fun a7 =>
              zs 8 a7 3 x2 fun a8 =>
              zs 8 a8 4 x3 fun a9 =>
              zs 8 a9 5 x5 fun a10 =>
              zs 8 a10 6 x6 fun a11 =>
              zg 4 i_hill_terms 0 fun v12 =>
              zs 8 a11 7 v12 fun a13 =>
              zn (i_hill_inForce * 424) fun v14 =>
              zg 6 i_hill_ordered i_hill_inForce fun v15 =>
              zd4 (f_Judge_hear v14 v15 a13 i_hill_orders i_piled v3 0 i_pile) fun v16 v17 v18 a19 =>
              f_Judge_effort_182 i_hill_children i_hill_laws i_hill_inForce i_hill_strengths i_hill_expelled i_hill_terms i_hill_orders i_hill_ordered v16 v17 v18 a13 a19
        else
          some ((-1), i_piled, i_tiring, i_barred, i_words, i_pile)
set_option maxHeartbeats 4000000 in
set_option maxRecDepth 100000 in
theorem c_Judge_effort (l : Launch) (ev : zEv) (dC : Nat → ClassId) (dI : Nat → Nat → Nat) (cA : Nat → ClassId) (q0 q1 q2 q3 q4 q5 q6 q7 q8 q9 q10 q11 q12 : Nat) (u0 u1 : Int) {x1 x2 x3 x4 x5 x6 : Int} {i_hill_children : Int} {i_hill_laws : Int} {i_hill_inForce : Int} {i_hill_strengths : Nat → Int} {i_hill_expelled : Nat → Int} {i_hill_terms : Nat → Int} {i_hill_orders : Nat → Int} {i_hill_ordered : Nat → Int} {i_piled : Int} {i_tiring : Int} {i_barred : Int} {i_words : Nat → Int} {i_pile : Nat → Int} {out : Int × Int × Int × Int × (Nat → Int) × (Nat → Int)} (hf : f_Judge_effort x1 x2 x3 x4 x5 x6 i_hill_children i_hill_laws i_hill_inForce i_hill_strengths i_hill_expelled i_hill_terms i_hill_orders i_hill_ordered i_piled i_tiring i_barred i_words i_pile = some out) : xc_I l ev (dC, dI) vwCl (tyl cA) yX3_effort w_Judge_effort rm_Judge_effort [.ref q0, .int (Int32.ofInt x1), .int (Int32.ofInt x2), .int (Int32.ofInt x3), .int (Int32.ofInt x4), .int (Int32.ofInt x5), .int (Int32.ofInt x6)] (wd_Judge_effort cA q0 q1 q2 q3 q4 q5 q6 q7 q8 q9 q10 q11 q12 u0 u1 i_hill_children i_hill_laws i_hill_inForce i_hill_strengths i_hill_expelled i_hill_terms i_hill_orders i_hill_ordered i_piled i_tiring i_barred i_words i_pile) (wf_Judge_effort cA q0 q1 q2 q3 q4 q5 q6 q7 q8 q9 q10 q11 q12 u0 u1 i_hill_children i_hill_laws i_hill_inForce i_hill_strengths i_hill_expelled i_hill_terms i_hill_orders i_hill_ordered out) out.1 := by
  refine xv_startI (cc := cX3_effort) (maxL := 7) (rt := .int) (by decide +kernel) rfl (Nat.le_of_ble_eq_true rfl) ?_
  intro p e s m args below meth c A Q H ls hx hb hml hts hown hK hA hP hD hS hl hE hret
  have hown : s.vm.findClass "HillSchool$Judge" = some m.cls := hown
  have hz : ∀ w ∈ zall, w.before args s = true := fun w h => hts w (List.mem_cons_of_mem _ h)
  have hl : lv_has ls 7 [(0, .ref q0), (1, .int (Int32.ofInt x1)), (2, .int (Int32.ofInt x2)), (3, .int (Int32.ofInt x3)), (4, .int (Int32.ofInt x4)), (5, .int (Int32.ofInt x5)), (6, .int (Int32.ofInt x6))] := hl
  have b_182 : ∀ (i_piled : Int) (i_tiring : Int) (i_barred : Int) (i_words : Nat → Int) (i_pile : Nat → Int) (H : Heap) (locs : List Loc) (ls : Array Slot), f_Judge_effort_182 i_hill_children i_hill_laws i_hill_inForce i_hill_strengths i_hill_expelled i_hill_terms i_hill_orders i_hill_ordered i_piled i_tiring i_barred i_words i_pile = some out → va_P (dC, dI) vwCl (wd_Judge_effort cA q0 q1 q2 q3 q4 q5 q6 q7 q8 q9 q10 q11 q12 u0 u1 i_hill_children i_hill_laws i_hill_inForce i_hill_strengths i_hill_expelled i_hill_terms i_hill_orders i_hill_ordered i_piled i_tiring i_barred i_words i_pile) H → va_D A (wd_Judge_effort cA q0 q1 q2 q3 q4 q5 q6 q7 q8 q9 q10 q11 q12 u0 u1 i_hill_children i_hill_laws i_hill_inForce i_hill_strengths i_hill_expelled i_hill_terms i_hill_orders i_hill_ordered i_piled i_tiring i_barred i_words i_pile) → va_S A s.heap H locs → lv_has ls 7 [(0, .ref q0)] → W p l e rm_Judge_effort s m args below meth c H locs 0 0 Q (F0 m 182 ls []) := by
    intro i_piled i_tiring i_barred i_words i_pile H locs ls hf hP hD hS hl
    unfold f_Judge_effort_182 at hf
    refine lv_aload_n hx hb dX3_effort_182 rfl (lv_at hl 0 rfl) ?_
    refine va_get (D := (dC, dI)) (ci := 3) (v := .int (Int32.ofInt i_barred)) (C := RX3) (T := TX3) (N := 6) hx hb hz zi_X3 hown hK hP 0 rfl rfl 5 (by decide) (hz _ zw_284) (fun _ h9 => h9) rfl dX3_effort_183 ?_
    refine xi_if_eq (tgt := 193) hx hb dX3_effort_186 (by decide) hf (fun hf => ?_) (fun hf => ?_)
    · refine lv_aload_n hx hb dX3_effort_193 rfl (lv_at hl 0 rfl) ?_
      refine va_get (D := (dC, dI)) (ci := 3) (v := .int (Int32.ofInt i_tiring)) (C := RX3) (T := TX3) (N := 6) hx hb hz zi_X3 hown hK hP 0 rfl rfl 4 (by decide) (hz _ zw_283) (fun _ h9 => h9) rfl dX3_effort_194 ?_
      obtain rfl := Option.some.inj hf
      exact hret _ _ _ _ rfl dX3_effort_197 hP hD hS
    · refine lv_iconst (v := Int32.ofInt (-1)) hx hb dX3_effort_189 rfl ?_
      refine lv_goto (tgt := 197) hx hb dX3_effort_190 (by decide) ?_
      obtain rfl := Option.some.inj hf
      exact hret _ _ _ _ rfl dX3_effort_197 hP hD hS
  unfold f_Judge_effort at hf
  refine lv_iload hx hb dX3_effort_0 (lv_at hl 5 rfl) ?_
  refine lv_iconst (v := Int32.ofInt 1) hx hb dX3_effort_2 rfl ?_
  refine xi_icmp_lt (tgt := 31) hx hb dX3_effort_3 (by decide) hf (fun hf => ?_) (fun hf => ?_)
  · refine lv_iconst (v := Int32.ofInt (-1)) hx hb dX3_effort_31 rfl ?_
    obtain rfl := Option.some.inj hf
    exact hret _ _ _ _ rfl dX3_effort_32 hP hD hS
  · refine lv_iload hx hb dX3_effort_6 (lv_at hl 6 rfl) ?_
    refine lv_bipush (v := Int32.ofInt 10) hx hb dX3_effort_8 (by decide) ?_
    refine xi_icmp_ge (tgt := 31) hx hb dX3_effort_10 (by decide) hf (fun hf => ?_) (fun hf => ?_)
    · refine lv_iconst (v := Int32.ofInt (-1)) hx hb dX3_effort_31 rfl ?_
      obtain rfl := Option.some.inj hf
      exact hret _ _ _ _ rfl dX3_effort_32 hP hD hS
    · refine lv_iload_n hx hb dX3_effort_13 rfl (lv_at hl 2 rfl) ?_
      refine lv_iload_n hx hb dX3_effort_14 rfl (lv_at hl 3 rfl) ?_
      refine xi_icmp_eq (tgt := 31) hx hb dX3_effort_15 (by decide) hf (fun hf => ?_) (fun hf => ?_)
      · refine lv_iconst (v := Int32.ofInt (-1)) hx hb dX3_effort_31 rfl ?_
        obtain rfl := Option.some.inj hf
        exact hret _ _ _ _ rfl dX3_effort_32 hP hD hS
      · refine lv_aload_n hx hb dX3_effort_18 rfl (lv_at hl 0 rfl) ?_
        refine va_get (D := (dC, dI)) (ci := 3) (v := .ref q1) (C := RX3) (T := TX3) (N := 6) hx hb hz zi_X3 hown hK hP 0 rfl rfl 0 (by decide) (hz _ zw_279) (fun _ h9 => h9) rfl dX3_effort_19 ?_
        refine lv_iload_n hx hb dX3_effort_22 rfl (lv_at hl 1 rfl) ?_
        refine lv_iload hx hb dX3_effort_23 (lv_at hl 4 rfl) ?_
        refine xe_d1 hf (fun v1 hg hf => ?_)
        have hC : ([1, 4, 5] : List Nat).map (fun i => (wd_Judge_effort cA q0 q1 q2 q3 q4 q5 q6 q7 q8 q9 q10 q11 q12 u0 u1 i_hill_children i_hill_laws i_hill_inForce i_hill_strengths i_hill_expelled i_hill_terms i_hill_orders i_hill_ordered i_piled i_tiring i_barred i_words i_pile)[i]?) = (wd_Hill_isAble cA q1 q4 q5 q6 q7 q8 q9 q10 q11 q12 u0 i_hill_laws i_hill_inForce u1 i_hill_children i_hill_strengths i_hill_expelled).map some := rfl
        refine xv_afterI (ws' := (wd_Judge_effort cA q0 q1 q2 q3 q4 q5 q6 q7 q8 q9 q10 q11 q12 u0 u1 i_hill_children i_hill_laws i_hill_inForce i_hill_strengths i_hill_expelled i_hill_terms i_hill_orders i_hill_ordered i_piled i_tiring i_barred i_words i_pile)) (isC := [1, 4, 5]) (ps := [none, some 0, none, none, some 1, some 2, none, none, none]) (va_runV (As := [.int (Int32.ofInt x1), .int (Int32.ofInt x4)]) (rest := []) ⟨hx, hb, hml, hown, hts⟩ (c_Hill_isAble l ev dC dI cA q1 q4 q5 q6 q7 q8 q9 q10 q11 q12 u0 i_hill_laws i_hill_inForce u1 hg H.size) (cwV 2 hts (zgV zw_813 zw_814 zw_815 zw_105 zw_816) rfl rfl rfl hd_Hill_isAble ⟨Nat.le_of_ble_eq_true rfl, Nat.le_of_ble_eq_true rfl⟩) (xv_preV (T := TX2) (N := 14) hE hA hS hK hP hD (isC := [1, 4, 5]) (by decide +kernel) hC (q0 := 1) (ci := 2) rfl rfl) rfl rfl hl.1 rfl (lv_room (Nat.le_of_ble_eq_true rfl)) dX3_effort_25 ⟨Nat.le_refl _, Nat.le_refl _⟩) hP hD hS hA (by decide +kernel) rfl hC rfl rfl (fun H locs hP hD hS => ?_)
        refine xi_if_ne (tgt := 33) hx hb dX3_effort_28 (by decide) hf (fun hf => ?_) (fun hf => ?_)
        · refine lv_aload_n hx hb dX3_effort_33 rfl (lv_at hl 0 rfl) ?_
          refine lv_iload_n hx hb dX3_effort_34 rfl (lv_at hl 2 rfl) ?_
          refine lv_iload_n hx hb dX3_effort_35 rfl (lv_at hl 3 rfl) ?_
          refine xi_isub hx hb dX3_effort_36 hf (fun v2 hf => ?_)
          refine xi_mabs hx hb (hml.trans hl.1.symm) hown (hz _ zw_818) (hz _ zw_819) (hz _ zw_116) (hz _ zw_820) (Nat.le_of_ble_eq_true rfl) (Nat.le_of_ble_eq_true rfl) (Nat.zero_le _) (Nat.zero_le _) dX3_effort_37 hf (fun v3 hf => ?_)
          refine va_put (D := (dC, dI)) (ci := 3) (v := .int (Int32.ofInt v3)) (ty := .int) (C := RX3) (T := TX3) (N := 6) hx hb hz zi_X3 tyX3 tyX3_ok nmX3 hown hK hP hD hS 0 rfl rfl 4 (by decide) (hz _ zw_283) (fun _ h9 => h9) rfl (by decide +kernel) rfl rfl (Nat.le_of_ble_eq_true rfl) dX3_effort_40 (fun H locs hP hD hS => ?_)
          have hP : va_P (dC, dI) vwCl (wd_Judge_effort cA q0 q1 q2 q3 q4 q5 q6 q7 q8 q9 q10 q11 q12 u0 u1 i_hill_children i_hill_laws i_hill_inForce i_hill_strengths i_hill_expelled i_hill_terms i_hill_orders i_hill_ordered i_piled v3 i_barred i_words i_pile) H := hP
          have hD : va_D A (wd_Judge_effort cA q0 q1 q2 q3 q4 q5 q6 q7 q8 q9 q10 q11 q12 u0 u1 i_hill_children i_hill_laws i_hill_inForce i_hill_strengths i_hill_expelled i_hill_terms i_hill_orders i_hill_ordered i_piled v3 i_barred i_words i_pile) := hD
          refine lv_aload_n hx hb dX3_effort_43 rfl (lv_at hl 0 rfl) ?_
          refine lv_iconst (v := Int32.ofInt 0) hx hb dX3_effort_44 rfl ?_
          refine va_put (D := (dC, dI)) (ci := 3) (v := .int (Int32.ofInt 0)) (ty := .boolean) (C := RX3) (T := TX3) (N := 6) hx hb hz zi_X3 tyX3 tyX3_ok nmX3 hown hK hP hD hS 0 rfl rfl 5 (by decide) (hz _ zw_284) (fun _ h9 => h9) rfl (by decide +kernel) (by decide +kernel) (by decide +kernel) (Nat.le_of_ble_eq_true rfl) dX3_effort_45 (fun H locs hP hD hS => ?_)
          have hP : va_P (dC, dI) vwCl (wd_Judge_effort cA q0 q1 q2 q3 q4 q5 q6 q7 q8 q9 q10 q11 q12 u0 u1 i_hill_children i_hill_laws i_hill_inForce i_hill_strengths i_hill_expelled i_hill_terms i_hill_orders i_hill_ordered i_piled v3 0 i_words i_pile) H := hP
          have hD : va_D A (wd_Judge_effort cA q0 q1 q2 q3 q4 q5 q6 q7 q8 q9 q10 q11 q12 u0 u1 i_hill_children i_hill_laws i_hill_inForce i_hill_strengths i_hill_expelled i_hill_terms i_hill_orders i_hill_ordered i_piled v3 0 i_words i_pile) := hD
          refine lv_aload_n hx hb dX3_effort_48 rfl (lv_at hl 0 rfl) ?_
          refine va_get (D := (dC, dI)) (ci := 3) (v := .ref q1) (C := RX3) (T := TX3) (N := 6) hx hb hz zi_X3 hown hK hP 0 rfl rfl 0 (by decide) (hz _ zw_279) (fun _ h9 => h9) rfl dX3_effort_49 ?_
          refine va_getN (D := (dC, dI)) (ci := 2) (v := .int (Int32.ofInt i_hill_inForce)) (C := RX2) (T := TX2) (N := 14) hx hb hz zi_X2 hown hK hP 1 rfl rfl 12 (by decide) (va_Nw.use rfl (hE.1.1 _ zw_204)) (fun _ h9 => h9) rfl dX3_effort_52 ?_
          refine xi_if_lt (tgt := 182) hx hb dX3_effort_55 (by decide) hf (fun hf => ?_) (fun hf => ?_)
          · exact b_182  _ _ _ _ _ _ _ _ hf hP hD hS (lv_sub hl [0] rfl)
          · refine lv_aload_n hx hb dX3_effort_58 rfl (lv_at hl 0 rfl) ?_
            refine va_get (D := (dC, dI)) (ci := 3) (v := .ref q1) (C := RX3) (T := TX3) (N := 6) hx hb hz zi_X3 hown hK hP 0 rfl rfl 0 (by decide) (hz _ zw_279) (fun _ h9 => h9) rfl dX3_effort_59 ?_
            refine va_getN (D := (dC, dI)) (ci := 2) (v := .int (Int32.ofInt i_hill_inForce)) (C := RX2) (T := TX2) (N := 14) hx hb hz zi_X2 hown hK hP 1 rfl rfl 12 (by decide) (va_Nw.use rfl (hE.1.1 _ zw_204)) (fun _ h9 => h9) rfl dX3_effort_62 ?_
            refine lv_aload_n hx hb dX3_effort_65 rfl (lv_at hl 0 rfl) ?_
            refine va_get (D := (dC, dI)) (ci := 3) (v := .ref q1) (C := RX3) (T := TX3) (N := 6) hx hb hz zi_X3 hown hK hP 0 rfl rfl 0 (by decide) (hz _ zw_279) (fun _ h9 => h9) rfl dX3_effort_66 ?_
            refine va_getN (D := (dC, dI)) (ci := 2) (v := .int (Int32.ofInt i_hill_laws)) (C := RX2) (T := TX2) (N := 14) hx hb hz zi_X2 hown hK hP 1 rfl rfl 9 (by decide) (va_Nw.use rfl (hE.1.1 _ zw_197)) (fun _ h9 => h9) rfl dX3_effort_69 ?_
            refine xi_icmp_ge (tgt := 182) hx hb dX3_effort_72 (by decide) hf (fun hf => ?_) (fun hf => ?_)
            · exact b_182  _ _ _ _ _ _ _ _ hf hP hD hS (lv_sub hl [0] rfl)
            · refine lv_aload_n hx hb dX3_effort_75 rfl (lv_at hl 0 rfl) ?_
              refine va_get (D := (dC, dI)) (ci := 3) (v := .ref q2) (C := RX3) (T := TX3) (N := 6) hx hb hz zi_X3 hown hK hP 0 rfl rfl 1 (by decide) (hz _ zw_280) (fun _ h9 => h9) rfl dX3_effort_76 ?_
              refine lv_iconst (v := Int32.ofInt 0) hx hb dX3_effort_79 rfl ?_
              refine lv_iload_n hx hb dX3_effort_80 rfl (lv_at hl 1 rfl) ?_
              refine xi_iast hx hb hK hP hD hS 2 0 rfl rfl dX3_effort_81 hf (fun a4 H locs hP hD hS hf => ?_)
              have hP : va_P (dC, dI) vwCl (wd_Judge_effort cA q0 q1 q2 q3 q4 q5 q6 q7 q8 q9 q10 q11 q12 u0 u1 i_hill_children i_hill_laws i_hill_inForce i_hill_strengths i_hill_expelled i_hill_terms i_hill_orders i_hill_ordered i_piled v3 0 a4 i_pile) H := hP
              have hD : va_D A (wd_Judge_effort cA q0 q1 q2 q3 q4 q5 q6 q7 q8 q9 q10 q11 q12 u0 u1 i_hill_children i_hill_laws i_hill_inForce i_hill_strengths i_hill_expelled i_hill_terms i_hill_orders i_hill_ordered i_piled v3 0 a4 i_pile) := hD
              refine lv_aload_n hx hb dX3_effort_82 rfl (lv_at hl 0 rfl) ?_
              refine va_get (D := (dC, dI)) (ci := 3) (v := .ref q2) (C := RX3) (T := TX3) (N := 6) hx hb hz zi_X3 hown hK hP 0 rfl rfl 1 (by decide) (hz _ zw_280) (fun _ h9 => h9) rfl dX3_effort_83 ?_
              refine lv_iconst (v := Int32.ofInt 1) hx hb dX3_effort_86 rfl ?_
              refine lv_aload_n hx hb dX3_effort_87 rfl (lv_at hl 0 rfl) ?_
              refine va_get (D := (dC, dI)) (ci := 3) (v := .ref q1) (C := RX3) (T := TX3) (N := 6) hx hb hz zi_X3 hown hK hP 0 rfl rfl 0 (by decide) (hz _ zw_279) (fun _ h9 => h9) rfl dX3_effort_88 ?_
              refine va_getN (D := (dC, dI)) (ci := 2) (v := .ref q5) (C := RX2) (T := TX2) (N := 14) hx hb hz zi_X2 hown hK hP 1 rfl rfl 2 (by decide) (va_Nw.use rfl (hE.1.1 _ zw_178)) (fun _ h9 => h9) rfl dX3_effort_91 ?_
              refine lv_iload_n hx hb dX3_effort_94 rfl (lv_at hl 1 rfl) ?_
              refine xi_iald hx hb hK hP 4 0 rfl rfl dX3_effort_95 hf (fun v5 hf => ?_)
              refine xi_iast hx hb hK hP hD hS 2 0 rfl rfl dX3_effort_96 hf (fun a6 H locs hP hD hS hf => ?_)
              have hP : va_P (dC, dI) vwCl (wd_Judge_effort cA q0 q1 q2 q3 q4 q5 q6 q7 q8 q9 q10 q11 q12 u0 u1 i_hill_children i_hill_laws i_hill_inForce i_hill_strengths i_hill_expelled i_hill_terms i_hill_orders i_hill_ordered i_piled v3 0 a6 i_pile) H := hP
              have hD : va_D A (wd_Judge_effort cA q0 q1 q2 q3 q4 q5 q6 q7 q8 q9 q10 q11 q12 u0 u1 i_hill_children i_hill_laws i_hill_inForce i_hill_strengths i_hill_expelled i_hill_terms i_hill_orders i_hill_ordered i_piled v3 0 a6 i_pile) := hD
              refine lv_aload_n hx hb dX3_effort_97 rfl (lv_at hl 0 rfl) ?_
              refine va_get (D := (dC, dI)) (ci := 3) (v := .ref q2) (C := RX3) (T := TX3) (N := 6) hx hb hz zi_X3 hown hK hP 0 rfl rfl 1 (by decide) (hz _ zw_280) (fun _ h9 => h9) rfl dX3_effort_98 ?_
              refine lv_iconst (v := Int32.ofInt 2) hx hb dX3_effort_101 rfl ?_
              refine lv_iload hx hb dX3_effort_102 (lv_at hl 4 rfl) ?_
              refine xi_iast hx hb hK hP hD hS 2 0 rfl rfl dX3_effort_104 hf (fun a7 H locs hP hD hS hf => ?_)
              have hP : va_P (dC, dI) vwCl (wd_Judge_effort cA q0 q1 q2 q3 q4 q5 q6 q7 q8 q9 q10 q11 q12 u0 u1 i_hill_children i_hill_laws i_hill_inForce i_hill_strengths i_hill_expelled i_hill_terms i_hill_orders i_hill_ordered i_piled v3 0 a7 i_pile) H := hP
              have hD : va_D A (wd_Judge_effort cA q0 q1 q2 q3 q4 q5 q6 q7 q8 q9 q10 q11 q12 u0 u1 i_hill_children i_hill_laws i_hill_inForce i_hill_strengths i_hill_expelled i_hill_terms i_hill_orders i_hill_ordered i_piled v3 0 a7 i_pile) := hD
              refine lv_aload_n hx hb dX3_effort_105 rfl (lv_at hl 0 rfl) ?_
              refine va_get (D := (dC, dI)) (ci := 3) (v := .ref q2) (C := RX3) (T := TX3) (N := 6) hx hb hz zi_X3 hown hK hP 0 rfl rfl 1 (by decide) (hz _ zw_280) (fun _ h9 => h9) rfl dX3_effort_106 ?_
              refine lv_iconst (v := Int32.ofInt 3) hx hb dX3_effort_109 rfl ?_
              refine lv_iload_n hx hb dX3_effort_110 rfl (lv_at hl 2 rfl) ?_
              refine xi_iast hx hb hK hP hD hS 2 0 rfl rfl dX3_effort_111 hf (fun a8 H locs hP hD hS hf => ?_)
              have hP : va_P (dC, dI) vwCl (wd_Judge_effort cA q0 q1 q2 q3 q4 q5 q6 q7 q8 q9 q10 q11 q12 u0 u1 i_hill_children i_hill_laws i_hill_inForce i_hill_strengths i_hill_expelled i_hill_terms i_hill_orders i_hill_ordered i_piled v3 0 a8 i_pile) H := hP
              have hD : va_D A (wd_Judge_effort cA q0 q1 q2 q3 q4 q5 q6 q7 q8 q9 q10 q11 q12 u0 u1 i_hill_children i_hill_laws i_hill_inForce i_hill_strengths i_hill_expelled i_hill_terms i_hill_orders i_hill_ordered i_piled v3 0 a8 i_pile) := hD
              refine lv_aload_n hx hb dX3_effort_112 rfl (lv_at hl 0 rfl) ?_
              refine va_get (D := (dC, dI)) (ci := 3) (v := .ref q2) (C := RX3) (T := TX3) (N := 6) hx hb hz zi_X3 hown hK hP 0 rfl rfl 1 (by decide) (hz _ zw_280) (fun _ h9 => h9) rfl dX3_effort_113 ?_
              refine lv_iconst (v := Int32.ofInt 4) hx hb dX3_effort_116 rfl ?_
              refine lv_iload_n hx hb dX3_effort_117 rfl (lv_at hl 3 rfl) ?_
              refine xi_iast hx hb hK hP hD hS 2 0 rfl rfl dX3_effort_118 hf (fun a9 H locs hP hD hS hf => ?_)
              have hP : va_P (dC, dI) vwCl (wd_Judge_effort cA q0 q1 q2 q3 q4 q5 q6 q7 q8 q9 q10 q11 q12 u0 u1 i_hill_children i_hill_laws i_hill_inForce i_hill_strengths i_hill_expelled i_hill_terms i_hill_orders i_hill_ordered i_piled v3 0 a9 i_pile) H := hP
              have hD : va_D A (wd_Judge_effort cA q0 q1 q2 q3 q4 q5 q6 q7 q8 q9 q10 q11 q12 u0 u1 i_hill_children i_hill_laws i_hill_inForce i_hill_strengths i_hill_expelled i_hill_terms i_hill_orders i_hill_ordered i_piled v3 0 a9 i_pile) := hD
              refine lv_aload_n hx hb dX3_effort_119 rfl (lv_at hl 0 rfl) ?_
              refine va_get (D := (dC, dI)) (ci := 3) (v := .ref q2) (C := RX3) (T := TX3) (N := 6) hx hb hz zi_X3 hown hK hP 0 rfl rfl 1 (by decide) (hz _ zw_280) (fun _ h9 => h9) rfl dX3_effort_120 ?_
              refine lv_iconst (v := Int32.ofInt 5) hx hb dX3_effort_123 rfl ?_
              refine lv_iload hx hb dX3_effort_124 (lv_at hl 5 rfl) ?_
              refine xi_iast hx hb hK hP hD hS 2 0 rfl rfl dX3_effort_126 hf (fun a10 H locs hP hD hS hf => ?_)
              have hP : va_P (dC, dI) vwCl (wd_Judge_effort cA q0 q1 q2 q3 q4 q5 q6 q7 q8 q9 q10 q11 q12 u0 u1 i_hill_children i_hill_laws i_hill_inForce i_hill_strengths i_hill_expelled i_hill_terms i_hill_orders i_hill_ordered i_piled v3 0 a10 i_pile) H := hP
              have hD : va_D A (wd_Judge_effort cA q0 q1 q2 q3 q4 q5 q6 q7 q8 q9 q10 q11 q12 u0 u1 i_hill_children i_hill_laws i_hill_inForce i_hill_strengths i_hill_expelled i_hill_terms i_hill_orders i_hill_ordered i_piled v3 0 a10 i_pile) := hD
              refine lv_aload_n hx hb dX3_effort_127 rfl (lv_at hl 0 rfl) ?_
              refine va_get (D := (dC, dI)) (ci := 3) (v := .ref q2) (C := RX3) (T := TX3) (N := 6) hx hb hz zi_X3 hown hK hP 0 rfl rfl 1 (by decide) (hz _ zw_280) (fun _ h9 => h9) rfl dX3_effort_128 ?_
              refine lv_bipush (v := Int32.ofInt 6) hx hb dX3_effort_131 (by decide) ?_
              refine lv_iload hx hb dX3_effort_133 (lv_at hl 6 rfl) ?_
              refine xi_iast hx hb hK hP hD hS 2 0 rfl rfl dX3_effort_135 hf (fun a11 H locs hP hD hS hf => ?_)
              have hP : va_P (dC, dI) vwCl (wd_Judge_effort cA q0 q1 q2 q3 q4 q5 q6 q7 q8 q9 q10 q11 q12 u0 u1 i_hill_children i_hill_laws i_hill_inForce i_hill_strengths i_hill_expelled i_hill_terms i_hill_orders i_hill_ordered i_piled v3 0 a11 i_pile) H := hP
              have hD : va_D A (wd_Judge_effort cA q0 q1 q2 q3 q4 q5 q6 q7 q8 q9 q10 q11 q12 u0 u1 i_hill_children i_hill_laws i_hill_inForce i_hill_strengths i_hill_expelled i_hill_terms i_hill_orders i_hill_ordered i_piled v3 0 a11 i_pile) := hD
              refine lv_aload_n hx hb dX3_effort_136 rfl (lv_at hl 0 rfl) ?_
              refine va_get (D := (dC, dI)) (ci := 3) (v := .ref q2) (C := RX3) (T := TX3) (N := 6) hx hb hz zi_X3 hown hK hP 0 rfl rfl 1 (by decide) (hz _ zw_280) (fun _ h9 => h9) rfl dX3_effort_137 ?_
              refine lv_bipush (v := Int32.ofInt 7) hx hb dX3_effort_140 (by decide) ?_
              refine lv_aload_n hx hb dX3_effort_142 rfl (lv_at hl 0 rfl) ?_
              refine va_get (D := (dC, dI)) (ci := 3) (v := .ref q1) (C := RX3) (T := TX3) (N := 6) hx hb hz zi_X3 hown hK hP 0 rfl rfl 0 (by decide) (hz _ zw_279) (fun _ h9 => h9) rfl dX3_effort_143 ?_
              refine va_getN (D := (dC, dI)) (ci := 2) (v := .ref q9) (C := RX2) (T := TX2) (N := 14) hx hb hz zi_X2 hown hK hP 1 rfl rfl 7 (by decide) (va_Nw.use rfl (hE.1.1 _ zw_190)) (fun _ h9 => h9) rfl dX3_effort_146 ?_
              refine lv_iconst (v := Int32.ofInt 0) hx hb dX3_effort_149 rfl ?_
              refine xi_iald hx hb hK hP 6 0 rfl rfl dX3_effort_150 hf (fun v12 hf => ?_)
              refine xi_iast hx hb hK hP hD hS 2 0 rfl rfl dX3_effort_151 hf (fun a13 H locs hP hD hS hf => ?_)
              have hP : va_P (dC, dI) vwCl (wd_Judge_effort cA q0 q1 q2 q3 q4 q5 q6 q7 q8 q9 q10 q11 q12 u0 u1 i_hill_children i_hill_laws i_hill_inForce i_hill_strengths i_hill_expelled i_hill_terms i_hill_orders i_hill_ordered i_piled v3 0 a13 i_pile) H := hP
              have hD : va_D A (wd_Judge_effort cA q0 q1 q2 q3 q4 q5 q6 q7 q8 q9 q10 q11 q12 u0 u1 i_hill_children i_hill_laws i_hill_inForce i_hill_strengths i_hill_expelled i_hill_terms i_hill_orders i_hill_ordered i_piled v3 0 a13 i_pile) := hD
              refine lv_aload_n hx hb dX3_effort_152 rfl (lv_at hl 0 rfl) ?_
              refine lv_aload_n hx hb dX3_effort_153 rfl (lv_at hl 0 rfl) ?_
              refine va_get (D := (dC, dI)) (ci := 3) (v := .ref q1) (C := RX3) (T := TX3) (N := 6) hx hb hz zi_X3 hown hK hP 0 rfl rfl 0 (by decide) (hz _ zw_279) (fun _ h9 => h9) rfl dX3_effort_154 ?_
              refine va_getN (D := (dC, dI)) (ci := 2) (v := .int (Int32.ofInt i_hill_inForce)) (C := RX2) (T := TX2) (N := 14) hx hb hz zi_X2 hown hK hP 1 rfl rfl 12 (by decide) (va_Nw.use rfl (hE.1.1 _ zw_204)) (fun _ h9 => h9) rfl dX3_effort_157 ?_
              refine lv_sipush (v := Int32.ofInt 424) hx hb dX3_effort_160 (by decide) ?_
              refine xi_imul hx hb dX3_effort_163 hf (fun v14 hf => ?_)
              refine lv_aload_n hx hb dX3_effort_164 rfl (lv_at hl 0 rfl) ?_
              refine va_get (D := (dC, dI)) (ci := 3) (v := .ref q1) (C := RX3) (T := TX3) (N := 6) hx hb hz zi_X3 hown hK hP 0 rfl rfl 0 (by decide) (hz _ zw_279) (fun _ h9 => h9) rfl dX3_effort_165 ?_
              refine va_getN (D := (dC, dI)) (ci := 2) (v := .ref q12) (C := RX2) (T := TX2) (N := 14) hx hb hz zi_X2 hown hK hP 1 rfl rfl 11 (by decide) (va_Nw.use rfl (hE.1.1 _ zw_202)) (fun _ h9 => h9) rfl dX3_effort_168 ?_
              refine lv_aload_n hx hb dX3_effort_171 rfl (lv_at hl 0 rfl) ?_
              refine va_get (D := (dC, dI)) (ci := 3) (v := .ref q1) (C := RX3) (T := TX3) (N := 6) hx hb hz zi_X3 hown hK hP 0 rfl rfl 0 (by decide) (hz _ zw_279) (fun _ h9 => h9) rfl dX3_effort_172 ?_
              refine va_getN (D := (dC, dI)) (ci := 2) (v := .int (Int32.ofInt i_hill_inForce)) (C := RX2) (T := TX2) (N := 14) hx hb hz zi_X2 hown hK hP 1 rfl rfl 12 (by decide) (va_Nw.use rfl (hE.1.1 _ zw_204)) (fun _ h9 => h9) rfl dX3_effort_175 ?_
              refine xi_iald hx hb hK hP 8 0 rfl rfl dX3_effort_178 hf (fun v15 hf => ?_)
              refine xe_d4 hf (fun v16 v17 v18 a19 hg hf => ?_)
              have hC : ([0, 1, 2, 3, 7] : List Nat).map (fun i => (wd_Judge_effort cA q0 q1 q2 q3 q4 q5 q6 q7 q8 q9 q10 q11 q12 u0 u1 i_hill_children i_hill_laws i_hill_inForce i_hill_strengths i_hill_expelled i_hill_terms i_hill_orders i_hill_ordered i_piled v3 0 a13 i_pile)[i]?) = (wd_Judge_hear cA q0 q1 q2 q3 q4 q5 q6 q7 q8 q9 q10 q11 q12 i_hill_children u0 i_hill_laws i_hill_inForce u1 a13 i_hill_orders i_piled v3 0 i_pile).map some := rfl
              refine xv_afterV (ws' := (wd_Judge_effort cA q0 q1 q2 q3 q4 q5 q6 q7 q8 q9 q10 q11 q12 u0 u1 i_hill_children i_hill_laws i_hill_inForce i_hill_strengths i_hill_expelled i_hill_terms i_hill_orders i_hill_ordered v16 v17 v18 a13 a19)) (isC := [0, 1, 2, 3, 7]) (ps := [some 0, some 1, some 2, some 3, none, none, none, some 4, none]) (va_runV (As := [.int (Int32.ofInt v14), .int (Int32.ofInt v15)]) (rest := []) ⟨hx, hb, hml, hown, hts⟩ (c_Judge_hear l ev dC dI cA q0 q1 q2 q3 q4 q5 q6 q7 q8 q9 q10 q11 q12 i_hill_children u0 i_hill_laws i_hill_inForce u1 hg H.size) (cwV 2 hts (zgV zw_821 zw_823 zw_14 zw_108 zw_824) rfl rfl rfl hd_Judge_hear ⟨Nat.le_of_ble_eq_true rfl, Nat.le_of_ble_eq_true rfl⟩) (xv_preV (T := TX3) (N := 6) hE hA hS hK hP hD (isC := [0, 1, 2, 3, 7]) (by decide +kernel) hC (q0 := 0) (ci := 3) rfl rfl) rfl rfl hl.1 rfl (lv_room (Nat.le_of_ble_eq_true rfl)) dX3_effort_179 ⟨Nat.le_refl _, Nat.le_refl _⟩) hP hD hS hA (by decide +kernel) rfl hC rfl rfl (fun H locs hP hD hS => ?_)
              exact b_182  _ _ _ _ _ _ _ _ hf hP hD hS (lv_sub hl [0] rfl)
        · refine lv_iconst (v := Int32.ofInt (-1)) hx hb dX3_effort_31 rfl ?_
          obtain rfl := Option.some.inj hf
          exact hret _ _ _ _ rfl dX3_effort_32 hP hD hS
theorem dX3_effortOn_0 : decode cX3_effortOn 0 = .ok (.aload_n 0, 1) := by decide +kernel
theorem dX3_effortOn_1 : decode cX3_effortOn 1 = .ok (.iload_n 2, 1) := by decide +kernel
theorem dX3_effortOn_2 : decode cX3_effortOn 2 = .ok (.iload_n 3, 1) := by decide +kernel
theorem dX3_effortOn_3 : decode cX3_effortOn 3 = .ok (.iload 4, 2) := by decide +kernel
theorem dX3_effortOn_5 : decode cX3_effortOn 5 = .ok (.aload_n 1, 1) := by decide +kernel
theorem dX3_effortOn_6 : decode cX3_effortOn 6 = .ok (.iload_n 3, 1) := by decide +kernel
theorem dX3_effortOn_7 : decode cX3_effortOn 7 = .ok (.invokevirtual 33, 3) := by decide +kernel
theorem dX3_effortOn_10 : decode cX3_effortOn 10 = .ok (.aload_n 1, 1) := by decide +kernel
theorem dX3_effortOn_11 : decode cX3_effortOn 11 = .ok (.iload_n 3, 1) := by decide +kernel
theorem dX3_effortOn_12 : decode cX3_effortOn 12 = .ok (.invokevirtual 39, 3) := by decide +kernel
theorem dX3_effortOn_15 : decode cX3_effortOn 15 = .ok (.aload_n 1, 1) := by decide +kernel
theorem dX3_effortOn_16 : decode cX3_effortOn 16 = .ok (.iload 4, 2) := by decide +kernel
theorem dX3_effortOn_18 : decode cX3_effortOn 18 = .ok (.invokevirtual 39, 3) := by decide +kernel
theorem dX3_effortOn_21 : decode cX3_effortOn 21 = .ok (.invokevirtual 42, 3) := by decide +kernel
theorem dX3_effortOn_24 : decode cX3_effortOn 24 = .ok (.ireturn, 1) := by decide +kernel
theorem zw_806 : (Jvm.Cond.code ({ cls := "HillSchool$Judge", name := "effortOn", desc := "(LHillSchool$Columns;III)I" } : Jvm.MethodName) prog_5_method_2_code (5 : Nat) (Option.some Jvm.ClassFile.FieldType.int)) ∈ zall := zmemG (zmj_3 223 rfl) rfl
theorem zw_807 : (Jvm.Cond.methodLink "HillSchool$Judge" (33 : Nat) ({ cls := "HillSchool$Columns", name := "top", desc := "(I)I" } : Jvm.MethodName)) ∈ zall := zmemG (zmj_3 224 rfl) rfl
theorem zw_808 : (Jvm.Cond.methodLink "HillSchool$Judge" (39 : Nat) ({ cls := "HillSchool$Columns", name := "high", desc := "(I)I" } : Jvm.MethodName)) ∈ zall := zmemG (zmj_3 225 rfl) rfl
theorem zw_809 : (Jvm.Cond.methodLink "HillSchool$Judge" (42 : Nat) ({ cls := "HillSchool$Judge", name := "effort", desc := "(IIIIII)I" } : Jvm.MethodName)) ∈ zall := zmemG (zmj_3 226 rfl) rfl
theorem zw_810 : (Jvm.Cond.instanceMethod ({ cls := "HillSchool$Judge", name := "effort", desc := "(IIIIII)I" } : Jvm.MethodName)) ∈ zall := zmemG (zmj_3 227 rfl) rfl
theorem zw_811 : (Jvm.Cond.selects "HillSchool$Judge" ({ cls := "HillSchool$Judge", name := "effort", desc := "(IIIIII)I" } : Jvm.MethodName) ({ cls := "HillSchool$Judge", name := "effort", desc := "(IIIIII)I" } : Jvm.MethodName)) ∈ zall := zmemG (zmj_3 228 rfl) rfl
abbrev w_Judge_effortOn : List Cond := .code yX3_effortOn cX3_effortOn 5 (some .int) :: zall
abbrev rm_Judge_effortOn : Room := { frames := 4, cells := 0, slots := 0, locals := 114 }
theorem hd_Judge_effortOn : yX3_effortOn.cls = "HillSchool$Judge" ∧ yX3_effortOn.cls ≠ "java/lang/invoke/MethodHandle" ∧ yX3_effortOn.cls ≠ "java/lang/invoke/VarHandle" ∧ (parseMethodDescriptor yX3_effortOn.desc).map (fun d => d.parameters.length) = some 4 := by decide +kernel
def wd_Judge_effortOn (cA : Nat → ClassId) (q0 q1 q2 q3 q4 q5 q6 q7 q8 q9 q10 q11 q12 q13 q14 q15 : Nat) (u0 u1 : Int) (i_a1_many : Int) (i_hill_children : Int) (i_hill_laws : Int) (i_hill_inForce : Int) (i_a1_heights : Nat → Int) (i_a1_weights : Nat → Int) (i_hill_strengths : Nat → Int) (i_hill_expelled : Nat → Int) (i_hill_terms : Nat → Int) (i_hill_orders : Nat → Int) (i_hill_ordered : Nat → Int) (i_piled : Int) (i_tiring : Int) (i_barred : Int) (i_words : Nat → Int) (i_pile : Nat → Int) : va_W := [(q0, .inr (3, [.ref q1, .ref q2, .ref q3, .int (Int32.ofInt i_piled), .int (Int32.ofInt i_tiring), .int (Int32.ofInt i_barred)])), (q4, .inr (1, [.int (Int32.ofInt i_a1_many), .ref q5, .ref q6])), (q1, .inr (2, [.ref q7, .int (Int32.ofInt i_hill_children), .ref q8, .ref q9, .ref q10, .int (Int32.ofInt u0), .ref q11, .ref q12, .ref q13, .int (Int32.ofInt i_hill_laws), .ref q14, .ref q15, .int (Int32.ofInt i_hill_inForce), .int (Int32.ofInt u1)])), (q2, .inl (cA 0, 8, .inl (za i_words))), (q3, .inl (cA 0, 32, .inl (za i_pile))), (q5, .inl (cA 0, 12, .inl (za i_a1_heights))), (q6, .inl (cA 0, 120, .inl (za i_a1_weights))), (q8, .inl (cA 0, 6, .inl (za i_hill_strengths))), (q9, .inl (cA 0, 6, .inl (za i_hill_expelled))), (q12, .inl (cA 0, 4, .inl (za i_hill_terms))), (q14, .inl (cA 0, 2544, .inl (za i_hill_orders))), (q15, .inl (cA 0, 6, .inl (za i_hill_ordered)))]
def wf_Judge_effortOn (cA : Nat → ClassId) (q0 q1 q2 q3 q4 q5 q6 q7 q8 q9 q10 q11 q12 q13 q14 q15 : Nat) (u0 u1 : Int) (i_a1_many : Int) (i_hill_children : Int) (i_hill_laws : Int) (i_hill_inForce : Int) (i_a1_heights : Nat → Int) (i_a1_weights : Nat → Int) (i_hill_strengths : Nat → Int) (i_hill_expelled : Nat → Int) (i_hill_terms : Nat → Int) (i_hill_orders : Nat → Int) (i_hill_ordered : Nat → Int) (o : Int × Int × Int × Int × (Nat → Int) × (Nat → Int)) : va_W := wd_Judge_effortOn cA q0 q1 q2 q3 q4 q5 q6 q7 q8 q9 q10 q11 q12 q13 q14 q15 u0 u1 i_a1_many i_hill_children i_hill_laws i_hill_inForce i_a1_heights i_a1_weights i_hill_strengths i_hill_expelled i_hill_terms i_hill_orders i_hill_ordered o.2.1 o.2.2.1 o.2.2.2.1 o.2.2.2.2.1 o.2.2.2.2.2
def f_Judge_effortOn (x2 : Int) (x3 : Int) (x4 : Int) (i_a1_many : Int) (i_hill_children : Int) (i_hill_laws : Int) (i_hill_inForce : Int) (i_a1_heights : Nat → Int) (i_a1_weights : Nat → Int) (i_hill_strengths : Nat → Int) (i_hill_expelled : Nat → Int) (i_hill_terms : Nat → Int) (i_hill_orders : Nat → Int) (i_hill_ordered : Nat → Int) (i_piled : Int) (i_tiring : Int) (i_barred : Int) (i_words : Nat → Int) (i_pile : Nat → Int) : Option (Int × Int × Int × Int × (Nat → Int) × (Nat → Int)) :=
  zd1 (f_Columns_top x3 i_a1_many i_a1_heights i_a1_weights) fun v1 =>
  zd1 (f_Columns_high x3 i_a1_many i_a1_heights) fun v2 =>
  zd1 (f_Columns_high x4 i_a1_many i_a1_heights) fun v3 =>
  zd6 (f_Judge_effort x2 x3 x4 v1 v2 v3 i_hill_children i_hill_laws i_hill_inForce i_hill_strengths i_hill_expelled i_hill_terms i_hill_orders i_hill_ordered i_piled i_tiring i_barred i_words i_pile) fun v4 v5 v6 v7 a8 a9 =>
  some (v4, v5, v6, v7, a8, a9)
set_option maxHeartbeats 4000000 in
set_option maxRecDepth 100000 in
theorem c_Judge_effortOn (l : Launch) (ev : zEv) (dC : Nat → ClassId) (dI : Nat → Nat → Nat) (cA : Nat → ClassId) (q0 q1 q2 q3 q4 q5 q6 q7 q8 q9 q10 q11 q12 q13 q14 q15 : Nat) (u0 u1 : Int) {x2 x3 x4 : Int} {i_a1_many : Int} {i_hill_children : Int} {i_hill_laws : Int} {i_hill_inForce : Int} {i_a1_heights : Nat → Int} {i_a1_weights : Nat → Int} {i_hill_strengths : Nat → Int} {i_hill_expelled : Nat → Int} {i_hill_terms : Nat → Int} {i_hill_orders : Nat → Int} {i_hill_ordered : Nat → Int} {i_piled : Int} {i_tiring : Int} {i_barred : Int} {i_words : Nat → Int} {i_pile : Nat → Int} {out : Int × Int × Int × Int × (Nat → Int) × (Nat → Int)} (hf : f_Judge_effortOn x2 x3 x4 i_a1_many i_hill_children i_hill_laws i_hill_inForce i_a1_heights i_a1_weights i_hill_strengths i_hill_expelled i_hill_terms i_hill_orders i_hill_ordered i_piled i_tiring i_barred i_words i_pile = some out) : xc_I l ev (dC, dI) vwCl (tyl cA) yX3_effortOn w_Judge_effortOn rm_Judge_effortOn [.ref q0, .ref q4, .int (Int32.ofInt x2), .int (Int32.ofInt x3), .int (Int32.ofInt x4)] (wd_Judge_effortOn cA q0 q1 q2 q3 q4 q5 q6 q7 q8 q9 q10 q11 q12 q13 q14 q15 u0 u1 i_a1_many i_hill_children i_hill_laws i_hill_inForce i_a1_heights i_a1_weights i_hill_strengths i_hill_expelled i_hill_terms i_hill_orders i_hill_ordered i_piled i_tiring i_barred i_words i_pile) (wf_Judge_effortOn cA q0 q1 q2 q3 q4 q5 q6 q7 q8 q9 q10 q11 q12 q13 q14 q15 u0 u1 i_a1_many i_hill_children i_hill_laws i_hill_inForce i_a1_heights i_a1_weights i_hill_strengths i_hill_expelled i_hill_terms i_hill_orders i_hill_ordered out) out.1 := by
  refine xv_startI (cc := cX3_effortOn) (maxL := 5) (rt := .int) (by decide +kernel) rfl (Nat.le_of_ble_eq_true rfl) ?_
  intro p e s m args below meth c A Q H ls hx hb hml hts hown hK hA hP hD hS hl hE hret
  have hown : s.vm.findClass "HillSchool$Judge" = some m.cls := hown
  have hz : ∀ w ∈ zall, w.before args s = true := fun w h => hts w (List.mem_cons_of_mem _ h)
  have hl : lv_has ls 5 [(0, .ref q0), (1, .ref q4), (2, .int (Int32.ofInt x2)), (3, .int (Int32.ofInt x3)), (4, .int (Int32.ofInt x4))] := hl
  unfold f_Judge_effortOn at hf
  refine lv_aload_n hx hb dX3_effortOn_0 rfl (lv_at hl 0 rfl) ?_
  refine lv_iload_n hx hb dX3_effortOn_1 rfl (lv_at hl 2 rfl) ?_
  refine lv_iload_n hx hb dX3_effortOn_2 rfl (lv_at hl 3 rfl) ?_
  refine lv_iload hx hb dX3_effortOn_3 (lv_at hl 4 rfl) ?_
  refine lv_aload_n hx hb dX3_effortOn_5 rfl (lv_at hl 1 rfl) ?_
  refine lv_iload_n hx hb dX3_effortOn_6 rfl (lv_at hl 3 rfl) ?_
  refine xe_d1 hf (fun v1 hg hf => ?_)
  have hC : ([1, 5, 6] : List Nat).map (fun i => (wd_Judge_effortOn cA q0 q1 q2 q3 q4 q5 q6 q7 q8 q9 q10 q11 q12 q13 q14 q15 u0 u1 i_a1_many i_hill_children i_hill_laws i_hill_inForce i_a1_heights i_a1_weights i_hill_strengths i_hill_expelled i_hill_terms i_hill_orders i_hill_ordered i_piled i_tiring i_barred i_words i_pile)[i]?) = (wd_Columns_top cA q4 q5 q6 i_a1_many i_a1_heights i_a1_weights).map some := rfl
  refine xv_afterI (ws' := (wd_Judge_effortOn cA q0 q1 q2 q3 q4 q5 q6 q7 q8 q9 q10 q11 q12 q13 q14 q15 u0 u1 i_a1_many i_hill_children i_hill_laws i_hill_inForce i_a1_heights i_a1_weights i_hill_strengths i_hill_expelled i_hill_terms i_hill_orders i_hill_ordered i_piled i_tiring i_barred i_words i_pile)) (isC := [1, 5, 6]) (ps := [none, some 0, none, none, none, some 1, some 2, none, none, none, none, none]) (va_runV (As := [.int (Int32.ofInt x3)]) (rest := [.int (Int32.ofInt x4), .int (Int32.ofInt x3), .int (Int32.ofInt x2), .ref q0]) ⟨hx, hb, hml, hown, hts⟩ (c_Columns_top l ev dC dI cA q4 q5 q6 hg H.size) (cwV 1 hts (zgV zw_807 zw_568 zw_569 zw_106 zw_570) rfl rfl rfl hd_Columns_top ⟨Nat.le_of_ble_eq_true rfl, Nat.le_of_ble_eq_true rfl⟩) (xv_preV (T := TX1) (N := 3) hE hA hS hK hP hD (isC := [1, 5, 6]) (by decide +kernel) hC (q0 := 1) (ci := 1) rfl rfl) rfl rfl hl.1 rfl (lv_room (Nat.le_of_ble_eq_true rfl)) dX3_effortOn_7 ⟨Nat.le_refl _, Nat.le_refl _⟩) hP hD hS hA (by decide +kernel) rfl hC rfl rfl (fun H locs hP hD hS => ?_)
  refine lv_aload_n hx hb dX3_effortOn_10 rfl (lv_at hl 1 rfl) ?_
  refine lv_iload_n hx hb dX3_effortOn_11 rfl (lv_at hl 3 rfl) ?_
  refine xe_d1 hf (fun v2 hg hf => ?_)
  have hC : ([1, 5] : List Nat).map (fun i => (wd_Judge_effortOn cA q0 q1 q2 q3 q4 q5 q6 q7 q8 q9 q10 q11 q12 q13 q14 q15 u0 u1 i_a1_many i_hill_children i_hill_laws i_hill_inForce i_a1_heights i_a1_weights i_hill_strengths i_hill_expelled i_hill_terms i_hill_orders i_hill_ordered i_piled i_tiring i_barred i_words i_pile)[i]?) = (wd_Columns_high cA q4 q5 q6 i_a1_many i_a1_heights).map some := rfl
  refine xv_afterI (ws' := (wd_Judge_effortOn cA q0 q1 q2 q3 q4 q5 q6 q7 q8 q9 q10 q11 q12 q13 q14 q15 u0 u1 i_a1_many i_hill_children i_hill_laws i_hill_inForce i_a1_heights i_a1_weights i_hill_strengths i_hill_expelled i_hill_terms i_hill_orders i_hill_ordered i_piled i_tiring i_barred i_words i_pile)) (isC := [1, 5]) (ps := [none, some 0, none, none, none, some 1, none, none, none, none, none, none]) (va_runV (As := [.int (Int32.ofInt x3)]) (rest := [.int (Int32.ofInt v1), .int (Int32.ofInt x4), .int (Int32.ofInt x3), .int (Int32.ofInt x2), .ref q0]) ⟨hx, hb, hml, hown, hts⟩ (c_Columns_high l ev dC dI cA q4 q5 q6 hg H.size) (cwV 1 hts (zgV zw_808 zw_556 zw_557 zw_106 zw_558) rfl rfl rfl hd_Columns_high ⟨Nat.le_of_ble_eq_true rfl, Nat.le_of_ble_eq_true rfl⟩) (xv_preV (T := TX1) (N := 3) hE hA hS hK hP hD (isC := [1, 5]) (by decide +kernel) hC (q0 := 1) (ci := 1) rfl rfl) rfl rfl hl.1 rfl (lv_room (Nat.le_of_ble_eq_true rfl)) dX3_effortOn_12 ⟨Nat.le_refl _, Nat.le_refl _⟩) hP hD hS hA (by decide +kernel) rfl hC rfl rfl (fun H locs hP hD hS => ?_)
  refine lv_aload_n hx hb dX3_effortOn_15 rfl (lv_at hl 1 rfl) ?_
  refine lv_iload hx hb dX3_effortOn_16 (lv_at hl 4 rfl) ?_
  refine xe_d1 hf (fun v3 hg hf => ?_)
  have hC : ([1, 5] : List Nat).map (fun i => (wd_Judge_effortOn cA q0 q1 q2 q3 q4 q5 q6 q7 q8 q9 q10 q11 q12 q13 q14 q15 u0 u1 i_a1_many i_hill_children i_hill_laws i_hill_inForce i_a1_heights i_a1_weights i_hill_strengths i_hill_expelled i_hill_terms i_hill_orders i_hill_ordered i_piled i_tiring i_barred i_words i_pile)[i]?) = (wd_Columns_high cA q4 q5 q6 i_a1_many i_a1_heights).map some := rfl
  refine xv_afterI (ws' := (wd_Judge_effortOn cA q0 q1 q2 q3 q4 q5 q6 q7 q8 q9 q10 q11 q12 q13 q14 q15 u0 u1 i_a1_many i_hill_children i_hill_laws i_hill_inForce i_a1_heights i_a1_weights i_hill_strengths i_hill_expelled i_hill_terms i_hill_orders i_hill_ordered i_piled i_tiring i_barred i_words i_pile)) (isC := [1, 5]) (ps := [none, some 0, none, none, none, some 1, none, none, none, none, none, none]) (va_runV (As := [.int (Int32.ofInt x4)]) (rest := [.int (Int32.ofInt v2), .int (Int32.ofInt v1), .int (Int32.ofInt x4), .int (Int32.ofInt x3), .int (Int32.ofInt x2), .ref q0]) ⟨hx, hb, hml, hown, hts⟩ (c_Columns_high l ev dC dI cA q4 q5 q6 hg H.size) (cwV 1 hts (zgV zw_808 zw_556 zw_557 zw_106 zw_558) rfl rfl rfl hd_Columns_high ⟨Nat.le_of_ble_eq_true rfl, Nat.le_of_ble_eq_true rfl⟩) (xv_preV (T := TX1) (N := 3) hE hA hS hK hP hD (isC := [1, 5]) (by decide +kernel) hC (q0 := 1) (ci := 1) rfl rfl) rfl rfl hl.1 rfl (lv_room (Nat.le_of_ble_eq_true rfl)) dX3_effortOn_18 ⟨Nat.le_refl _, Nat.le_refl _⟩) hP hD hS hA (by decide +kernel) rfl hC rfl rfl (fun H locs hP hD hS => ?_)
  refine xe_d6 hf (fun v4 v5 v6 v7 a8 a9 hg hf => ?_)
  have hC : ([0, 2, 3, 4, 7, 8, 9, 10, 11] : List Nat).map (fun i => (wd_Judge_effortOn cA q0 q1 q2 q3 q4 q5 q6 q7 q8 q9 q10 q11 q12 q13 q14 q15 u0 u1 i_a1_many i_hill_children i_hill_laws i_hill_inForce i_a1_heights i_a1_weights i_hill_strengths i_hill_expelled i_hill_terms i_hill_orders i_hill_ordered i_piled i_tiring i_barred i_words i_pile)[i]?) = (wd_Judge_effort cA q0 q1 q2 q3 q7 q8 q9 q10 q11 q12 q13 q14 q15 u0 u1 i_hill_children i_hill_laws i_hill_inForce i_hill_strengths i_hill_expelled i_hill_terms i_hill_orders i_hill_ordered i_piled i_tiring i_barred i_words i_pile).map some := rfl
  refine xv_afterI (ws' := (wd_Judge_effortOn cA q0 q1 q2 q3 q4 q5 q6 q7 q8 q9 q10 q11 q12 q13 q14 q15 u0 u1 i_a1_many i_hill_children i_hill_laws i_hill_inForce i_a1_heights i_a1_weights i_hill_strengths i_hill_expelled i_hill_terms i_hill_orders i_hill_ordered v5 v6 v7 a8 a9)) (isC := [0, 2, 3, 4, 7, 8, 9, 10, 11]) (ps := [some 0, none, some 1, some 2, some 3, none, none, some 4, some 5, some 6, some 7, some 8]) (va_runV (As := [.int (Int32.ofInt x2), .int (Int32.ofInt x3), .int (Int32.ofInt x4), .int (Int32.ofInt v1), .int (Int32.ofInt v2), .int (Int32.ofInt v3)]) (rest := []) ⟨hx, hb, hml, hown, hts⟩ (c_Judge_effort l ev dC dI cA q0 q1 q2 q3 q7 q8 q9 q10 q11 q12 q13 q14 q15 u0 u1 hg H.size) (cwV 6 hts (zgV zw_809 zw_810 zw_811 zw_108 zw_812) rfl rfl rfl hd_Judge_effort ⟨Nat.le_of_ble_eq_true rfl, Nat.le_of_ble_eq_true rfl⟩) (xv_preV (T := TX3) (N := 6) hE hA hS hK hP hD (isC := [0, 2, 3, 4, 7, 8, 9, 10, 11]) (by decide +kernel) hC (q0 := 0) (ci := 3) rfl rfl) rfl rfl hl.1 rfl (lv_room (Nat.le_of_ble_eq_true rfl)) dX3_effortOn_21 ⟨Nat.le_refl _, Nat.le_refl _⟩) hP hD hS hA (by decide +kernel) rfl hC rfl rfl (fun H locs hP hD hS => ?_)
  obtain rfl := Option.some.inj hf
  exact hret _ _ _ _ rfl dX3_effortOn_24 hP hD hS
theorem dX10_knows_0 : decode cX10_knows 0 = .ok (.aload_n 0, 1) := by decide +kernel
theorem dX10_knows_1 : decode cX10_knows 1 = .ok (.getfield 10, 3) := by decide +kernel
theorem dX10_knows_4 : decode cX10_knows 4 = .ok (.iload_n 1, 1) := by decide +kernel
theorem dX10_knows_5 : decode cX10_knows 5 = .ok (.invokevirtual 149, 3) := by decide +kernel
theorem dX10_knows_8 : decode cX10_knows 8 = .ok (.ifCond .eq 35, 3) := by decide +kernel
theorem dX10_knows_11 : decode cX10_knows 11 = .ok (.aload_n 0, 1) := by decide +kernel
theorem dX10_knows_12 : decode cX10_knows 12 = .ok (.getfield 10, 3) := by decide +kernel
theorem dX10_knows_15 : decode cX10_knows 15 = .ok (.getfield 99, 3) := by decide +kernel
theorem dX10_knows_18 : decode cX10_knows 18 = .ok (.iload_n 2, 1) := by decide +kernel
theorem dX10_knows_19 : decode cX10_knows 19 = .ok (.invokevirtual 122, 3) := by decide +kernel
theorem dX10_knows_22 : decode cX10_knows 22 = .ok (.ifCond .eq 21, 3) := by decide +kernel
theorem dX10_knows_25 : decode cX10_knows 25 = .ok (.aload_n 0, 1) := by decide +kernel
theorem dX10_knows_26 : decode cX10_knows 26 = .ok (.getfield 10, 3) := by decide +kernel
theorem dX10_knows_29 : decode cX10_knows 29 = .ok (.getfield 99, 3) := by decide +kernel
theorem dX10_knows_32 : decode cX10_knows 32 = .ok (.iload_n 3, 1) := by decide +kernel
theorem dX10_knows_33 : decode cX10_knows 33 = .ok (.invokevirtual 122, 3) := by decide +kernel
theorem dX10_knows_36 : decode cX10_knows 36 = .ok (.ifCond .eq 7, 3) := by decide +kernel
theorem dX10_knows_39 : decode cX10_knows 39 = .ok (.iconst 1, 1) := by decide +kernel
theorem dX10_knows_40 : decode cX10_knows 40 = .ok (.goto 4, 3) := by decide +kernel
theorem dX10_knows_43 : decode cX10_knows 43 = .ok (.iconst 0, 1) := by decide +kernel
theorem dX10_knows_44 : decode cX10_knows 44 = .ok (.ireturn, 1) := by decide +kernel
theorem zw_802 : (Jvm.Cond.code ({ cls := "HillSchool", name := "knows", desc := "(III)Z" } : Jvm.MethodName) prog_1_method_43_code (4 : Nat) (Option.some Jvm.ClassFile.FieldType.boolean)) ∈ zall := zmemG (zmj_3 219 rfl) rfl
abbrev w_HS_knows : List Cond := .code yX10_knows cX10_knows 4 (some .boolean) :: zall
abbrev rm_HS_knows : Room := { frames := 1, cells := 0, slots := 0, locals := 21 }
theorem hd_HS_knows : yX10_knows.cls = "HillSchool" ∧ yX10_knows.cls ≠ "java/lang/invoke/MethodHandle" ∧ yX10_knows.cls ≠ "java/lang/invoke/VarHandle" ∧ (parseMethodDescriptor yX10_knows.desc).map (fun d => d.parameters.length) = some 3 := by decide +kernel
def wd_HS_knows (cA : Nat → ClassId) (q0 q1 q2 q3 q4 q5 q6 q7 q8 q9 q10 q11 q12 q13 q14 q15 q16 q17 q18 q19 q20 q21 q22 q23 : Nat) (u0 u1 u2 u3 u4 u5 u6 u7 : Int) (i_hill_children : Int) (i_hill_columns_many : Int)  : va_W := [(q0, .inr (10, [.ref q1, .ref q2, .ref q3, .ref q4, .int (Int32.ofInt u0), .int (Int32.ofInt u1), .int (Int32.ofInt u2), .ref q5, .int (Int32.ofInt u3), .ref q6, .ref q7, .ref q8, .ref q9, .ref q10, .ref q11, .ref q12])), (q1, .inr (2, [.ref q13, .int (Int32.ofInt i_hill_children), .ref q14, .ref q15, .ref q16, .int (Int32.ofInt u4), .ref q17, .ref q18, .ref q19, .int (Int32.ofInt u5), .ref q20, .ref q21, .int (Int32.ofInt u6), .int (Int32.ofInt u7)])), (q13, .inr (1, [.int (Int32.ofInt i_hill_columns_many), .ref q22, .ref q23]))]
def wf_HS_knows (cA : Nat → ClassId) (q0 q1 q2 q3 q4 q5 q6 q7 q8 q9 q10 q11 q12 q13 q14 q15 q16 q17 q18 q19 q20 q21 q22 q23 : Nat) (u0 u1 u2 u3 u4 u5 u6 u7 : Int) (i_hill_children : Int) (i_hill_columns_many : Int) (o : Int) : va_W := wd_HS_knows cA q0 q1 q2 q3 q4 q5 q6 q7 q8 q9 q10 q11 q12 q13 q14 q15 q16 q17 q18 q19 q20 q21 q22 q23 u0 u1 u2 u3 u4 u5 u6 u7 i_hill_children i_hill_columns_many
def f_HS_knows (x1 : Int) (x2 : Int) (x3 : Int) (i_hill_children : Int) (i_hill_columns_many : Int) : Option (Int) :=
  zd1 (f_Hill_hasChild x1 i_hill_children) fun v1 =>
  if zi_w v1 = 0 then
    some 0
  else
    zd1 (f_Columns_has x2 i_hill_columns_many) fun v2 =>
    if zi_w v2 = 0 then
      some 0
    else
      zd1 (f_Columns_has x3 i_hill_columns_many) fun v3 =>
      if zi_w v3 = 0 then
        some 0
      else
        some 1
set_option maxHeartbeats 4000000 in
set_option maxRecDepth 100000 in
theorem c_HS_knows (l : Launch) (ev : zEv) (dC : Nat → ClassId) (dI : Nat → Nat → Nat) (cA : Nat → ClassId) (q0 q1 q2 q3 q4 q5 q6 q7 q8 q9 q10 q11 q12 q13 q14 q15 q16 q17 q18 q19 q20 q21 q22 q23 : Nat) (u0 u1 u2 u3 u4 u5 u6 u7 : Int) {x1 x2 x3 : Int} {i_hill_children : Int} {i_hill_columns_many : Int} {out : Int} (hf : f_HS_knows x1 x2 x3 i_hill_children i_hill_columns_many = some out) : xc_I l ev (dC, dI) vwCl (tyl cA) yX10_knows w_HS_knows rm_HS_knows [.ref q0, .int (Int32.ofInt x1), .int (Int32.ofInt x2), .int (Int32.ofInt x3)] (wd_HS_knows cA q0 q1 q2 q3 q4 q5 q6 q7 q8 q9 q10 q11 q12 q13 q14 q15 q16 q17 q18 q19 q20 q21 q22 q23 u0 u1 u2 u3 u4 u5 u6 u7 i_hill_children i_hill_columns_many) (wf_HS_knows cA q0 q1 q2 q3 q4 q5 q6 q7 q8 q9 q10 q11 q12 q13 q14 q15 q16 q17 q18 q19 q20 q21 q22 q23 u0 u1 u2 u3 u4 u5 u6 u7 i_hill_children i_hill_columns_many out) out := by
  refine xv_startI (cc := cX10_knows) (maxL := 4) (rt := .boolean) (by decide +kernel) rfl (Nat.le_of_ble_eq_true rfl) ?_
  intro p e s m args below meth c A Q H ls hx hb hml hts hown hK hA hP hD hS hl hE hret
  have hown : s.vm.findClass "HillSchool" = some m.cls := hown
  have hz : ∀ w ∈ zall, w.before args s = true := fun w h => hts w (List.mem_cons_of_mem _ h)
  have hl : lv_has ls 4 [(0, .ref q0), (1, .int (Int32.ofInt x1)), (2, .int (Int32.ofInt x2)), (3, .int (Int32.ofInt x3))] := hl
  unfold f_HS_knows at hf
  refine lv_aload_n hx hb dX10_knows_0 rfl (lv_at hl 0 rfl) ?_
  refine va_get (D := (dC, dI)) (ci := 10) (v := .ref q1) (C := RX10) (T := TX10) (N := 16) hx hb hz zi_X10 hown hK hP 0 rfl rfl 0 (by decide) (hz _ zw_477) (fun _ h9 => h9) rfl dX10_knows_1 ?_
  refine lv_iload_n hx hb dX10_knows_4 rfl (lv_at hl 1 rfl) ?_
  refine xe_d1 hf (fun v1 hg hf => ?_)
  have hC : ([1] : List Nat).map (fun i => (wd_HS_knows cA q0 q1 q2 q3 q4 q5 q6 q7 q8 q9 q10 q11 q12 q13 q14 q15 q16 q17 q18 q19 q20 q21 q22 q23 u0 u1 u2 u3 u4 u5 u6 u7 i_hill_children i_hill_columns_many)[i]?) = (wd_Hill_hasChild cA q1 q13 q14 q15 q16 q17 q18 q19 q20 q21 u4 u5 u6 u7 i_hill_children).map some := rfl
  refine xv_afterI (ws' := (wd_HS_knows cA q0 q1 q2 q3 q4 q5 q6 q7 q8 q9 q10 q11 q12 q13 q14 q15 q16 q17 q18 q19 q20 q21 q22 q23 u0 u1 u2 u3 u4 u5 u6 u7 i_hill_children i_hill_columns_many)) (isC := [1]) (ps := [none, some 0, none]) (va_runV (As := [.int (Int32.ofInt x1)]) (rest := []) ⟨hx, hb, hml, hown, hts⟩ (c_Hill_hasChild l ev dC dI cA q1 q13 q14 q15 q16 q17 q18 q19 q20 q21 u4 u5 u6 u7 hg H.size) (cwV 1 hts (zgV zw_601 zw_602 zw_603 zw_105 zw_604) rfl rfl rfl hd_Hill_hasChild ⟨Nat.le_of_ble_eq_true rfl, Nat.le_of_ble_eq_true rfl⟩) (xv_preV (T := TX2) (N := 14) hE hA hS hK hP hD (isC := [1]) (by decide +kernel) hC (q0 := 1) (ci := 2) rfl rfl) rfl rfl hl.1 rfl (lv_room (Nat.le_of_ble_eq_true rfl)) dX10_knows_5 ⟨Nat.le_refl _, Nat.le_refl _⟩) hP hD hS hA (by decide +kernel) rfl hC rfl rfl (fun H locs hP hD hS => ?_)
  refine xi_if_eq (tgt := 43) hx hb dX10_knows_8 (by decide) hf (fun hf => ?_) (fun hf => ?_)
  · refine lv_iconst (v := Int32.ofInt 0) hx hb dX10_knows_43 rfl ?_
    obtain rfl := Option.some.inj hf
    exact hret _ _ _ _ zz_b0 dX10_knows_44 hP hD hS
  · refine lv_aload_n hx hb dX10_knows_11 rfl (lv_at hl 0 rfl) ?_
    refine va_get (D := (dC, dI)) (ci := 10) (v := .ref q1) (C := RX10) (T := TX10) (N := 16) hx hb hz zi_X10 hown hK hP 0 rfl rfl 0 (by decide) (hz _ zw_477) (fun _ h9 => h9) rfl dX10_knows_12 ?_
    refine va_getN (D := (dC, dI)) (ci := 2) (v := .ref q13) (C := RX2) (T := TX2) (N := 14) hx hb hz zi_X2 hown hK hP 1 rfl rfl 0 (by decide) (va_Nw.use rfl (hE.1.1 _ zw_169)) (fun _ h9 => h9) rfl dX10_knows_15 ?_
    refine lv_iload_n hx hb dX10_knows_18 rfl (lv_at hl 2 rfl) ?_
    refine xe_d1 hf (fun v2 hg hf => ?_)
    have hC : ([2] : List Nat).map (fun i => (wd_HS_knows cA q0 q1 q2 q3 q4 q5 q6 q7 q8 q9 q10 q11 q12 q13 q14 q15 q16 q17 q18 q19 q20 q21 q22 q23 u0 u1 u2 u3 u4 u5 u6 u7 i_hill_children i_hill_columns_many)[i]?) = (wd_Columns_has cA q13 q22 q23 i_hill_columns_many).map some := rfl
    refine xv_afterI (ws' := (wd_HS_knows cA q0 q1 q2 q3 q4 q5 q6 q7 q8 q9 q10 q11 q12 q13 q14 q15 q16 q17 q18 q19 q20 q21 q22 q23 u0 u1 u2 u3 u4 u5 u6 u7 i_hill_children i_hill_columns_many)) (isC := [2]) (ps := [none, none, some 0]) (va_runV (As := [.int (Int32.ofInt x2)]) (rest := []) ⟨hx, hb, hml, hown, hts⟩ (c_Columns_has l ev dC dI cA q13 q22 q23 hg H.size) (cwV 1 hts (zgV zw_546 zw_547 zw_548 zw_106 zw_549) rfl rfl rfl hd_Columns_has ⟨Nat.le_of_ble_eq_true rfl, Nat.le_of_ble_eq_true rfl⟩) (xv_preV (T := TX1) (N := 3) hE hA hS hK hP hD (isC := [2]) (by decide +kernel) hC (q0 := 2) (ci := 1) rfl rfl) rfl rfl hl.1 rfl (lv_room (Nat.le_of_ble_eq_true rfl)) dX10_knows_19 ⟨Nat.le_refl _, Nat.le_refl _⟩) hP hD hS hA (by decide +kernel) rfl hC rfl rfl (fun H locs hP hD hS => ?_)
    refine xi_if_eq (tgt := 43) hx hb dX10_knows_22 (by decide) hf (fun hf => ?_) (fun hf => ?_)
    · refine lv_iconst (v := Int32.ofInt 0) hx hb dX10_knows_43 rfl ?_
      obtain rfl := Option.some.inj hf
      exact hret _ _ _ _ zz_b0 dX10_knows_44 hP hD hS
    · refine lv_aload_n hx hb dX10_knows_25 rfl (lv_at hl 0 rfl) ?_
      refine va_get (D := (dC, dI)) (ci := 10) (v := .ref q1) (C := RX10) (T := TX10) (N := 16) hx hb hz zi_X10 hown hK hP 0 rfl rfl 0 (by decide) (hz _ zw_477) (fun _ h9 => h9) rfl dX10_knows_26 ?_
      refine va_getN (D := (dC, dI)) (ci := 2) (v := .ref q13) (C := RX2) (T := TX2) (N := 14) hx hb hz zi_X2 hown hK hP 1 rfl rfl 0 (by decide) (va_Nw.use rfl (hE.1.1 _ zw_169)) (fun _ h9 => h9) rfl dX10_knows_29 ?_
      refine lv_iload_n hx hb dX10_knows_32 rfl (lv_at hl 3 rfl) ?_
      refine xe_d1 hf (fun v3 hg hf => ?_)
      have hC : ([2] : List Nat).map (fun i => (wd_HS_knows cA q0 q1 q2 q3 q4 q5 q6 q7 q8 q9 q10 q11 q12 q13 q14 q15 q16 q17 q18 q19 q20 q21 q22 q23 u0 u1 u2 u3 u4 u5 u6 u7 i_hill_children i_hill_columns_many)[i]?) = (wd_Columns_has cA q13 q22 q23 i_hill_columns_many).map some := rfl
      refine xv_afterI (ws' := (wd_HS_knows cA q0 q1 q2 q3 q4 q5 q6 q7 q8 q9 q10 q11 q12 q13 q14 q15 q16 q17 q18 q19 q20 q21 q22 q23 u0 u1 u2 u3 u4 u5 u6 u7 i_hill_children i_hill_columns_many)) (isC := [2]) (ps := [none, none, some 0]) (va_runV (As := [.int (Int32.ofInt x3)]) (rest := []) ⟨hx, hb, hml, hown, hts⟩ (c_Columns_has l ev dC dI cA q13 q22 q23 hg H.size) (cwV 1 hts (zgV zw_546 zw_547 zw_548 zw_106 zw_549) rfl rfl rfl hd_Columns_has ⟨Nat.le_of_ble_eq_true rfl, Nat.le_of_ble_eq_true rfl⟩) (xv_preV (T := TX1) (N := 3) hE hA hS hK hP hD (isC := [2]) (by decide +kernel) hC (q0 := 2) (ci := 1) rfl rfl) rfl rfl hl.1 rfl (lv_room (Nat.le_of_ble_eq_true rfl)) dX10_knows_33 ⟨Nat.le_refl _, Nat.le_refl _⟩) hP hD hS hA (by decide +kernel) rfl hC rfl rfl (fun H locs hP hD hS => ?_)
      refine xi_if_eq (tgt := 43) hx hb dX10_knows_36 (by decide) hf (fun hf => ?_) (fun hf => ?_)
      · refine lv_iconst (v := Int32.ofInt 0) hx hb dX10_knows_43 rfl ?_
        obtain rfl := Option.some.inj hf
        exact hret _ _ _ _ zz_b0 dX10_knows_44 hP hD hS
      · refine lv_iconst (v := Int32.ofInt 1) hx hb dX10_knows_39 rfl ?_
        refine lv_goto (tgt := 44) hx hb dX10_knows_40 (by decide) ?_
        obtain rfl := Option.some.inj hf
        exact hret _ _ _ _ zz_b1 dX10_knows_44 hP hD hS
theorem dX10_can_0 : decode cX10_can 0 = .ok (.aload_n 0, 1) := by decide +kernel
theorem dX10_can_1 : decode cX10_can 1 = .ok (.iload_n 1, 1) := by decide +kernel
theorem dX10_can_2 : decode cX10_can 2 = .ok (.iload_n 2, 1) := by decide +kernel
theorem dX10_can_3 : decode cX10_can 3 = .ok (.iload_n 3, 1) := by decide +kernel
theorem dX10_can_4 : decode cX10_can 4 = .ok (.invokevirtual 197, 3) := by decide +kernel
theorem dX10_can_7 : decode cX10_can 7 = .ok (.ifCond .ne 5, 3) := by decide +kernel
theorem dX10_can_10 : decode cX10_can 10 = .ok (.iconst (-1), 1) := by decide +kernel
theorem dX10_can_11 : decode cX10_can 11 = .ok (.ireturn, 1) := by decide +kernel
theorem dX10_can_12 : decode cX10_can 12 = .ok (.aload_n 0, 1) := by decide +kernel
theorem dX10_can_13 : decode cX10_can 13 = .ok (.getfield 56, 3) := by decide +kernel
theorem dX10_can_16 : decode cX10_can 16 = .ok (.aload_n 0, 1) := by decide +kernel
theorem dX10_can_17 : decode cX10_can 17 = .ok (.getfield 10, 3) := by decide +kernel
theorem dX10_can_20 : decode cX10_can 20 = .ok (.getfield 99, 3) := by decide +kernel
theorem dX10_can_23 : decode cX10_can 23 = .ok (.iload_n 1, 1) := by decide +kernel
theorem dX10_can_24 : decode cX10_can 24 = .ok (.iload_n 2, 1) := by decide +kernel
theorem dX10_can_25 : decode cX10_can 25 = .ok (.iload_n 3, 1) := by decide +kernel
theorem dX10_can_26 : decode cX10_can 26 = .ok (.invokevirtual 201, 3) := by decide +kernel
theorem dX10_can_29 : decode cX10_can 29 = .ok (.iconst (-1), 1) := by decide +kernel
theorem dX10_can_30 : decode cX10_can 30 = .ok (.if_icmp .ne 7, 3) := by decide +kernel
theorem dX10_can_33 : decode cX10_can 33 = .ok (.iconst 0, 1) := by decide +kernel
theorem dX10_can_34 : decode cX10_can 34 = .ok (.goto 4, 3) := by decide +kernel
theorem dX10_can_37 : decode cX10_can 37 = .ok (.iconst 1, 1) := by decide +kernel
theorem dX10_can_38 : decode cX10_can 38 = .ok (.ireturn, 1) := by decide +kernel
theorem zw_13 : (Jvm.Cond.selects "HillSchool" ({ cls := "HillSchool", name := "knows", desc := "(III)Z" } : Jvm.MethodName) ({ cls := "HillSchool", name := "knows", desc := "(III)Z" } : Jvm.MethodName)) ∈ zall := zmemG (zmj_0 13 rfl) rfl
theorem zw_487 : (Jvm.Cond.fieldLink "HillSchool" (56 : Nat) "HillSchool" "judge" "LHillSchool$Judge;") ∈ zall := zmemG (zmj_2 144 rfl) rfl
theorem zw_798 : (Jvm.Cond.code ({ cls := "HillSchool", name := "can", desc := "(III)I" } : Jvm.MethodName) prog_1_method_19_code (4 : Nat) (Option.some Jvm.ClassFile.FieldType.int)) ∈ zall := zmemG (zmj_3 215 rfl) rfl
theorem zw_799 : (Jvm.Cond.methodLink "HillSchool" (197 : Nat) ({ cls := "HillSchool", name := "knows", desc := "(III)Z" } : Jvm.MethodName)) ∈ zall := zmemG (zmj_3 216 rfl) rfl
theorem zw_801 : (Jvm.Cond.instanceMethod ({ cls := "HillSchool", name := "knows", desc := "(III)Z" } : Jvm.MethodName)) ∈ zall := zmemG (zmj_3 218 rfl) rfl
theorem zw_803 : (Jvm.Cond.methodLink "HillSchool" (201 : Nat) ({ cls := "HillSchool$Judge", name := "effortOn", desc := "(LHillSchool$Columns;III)I" } : Jvm.MethodName)) ∈ zall := zmemG (zmj_3 220 rfl) rfl
theorem zw_804 : (Jvm.Cond.instanceMethod ({ cls := "HillSchool$Judge", name := "effortOn", desc := "(LHillSchool$Columns;III)I" } : Jvm.MethodName)) ∈ zall := zmemG (zmj_3 221 rfl) rfl
theorem zw_805 : (Jvm.Cond.selects "HillSchool$Judge" ({ cls := "HillSchool$Judge", name := "effortOn", desc := "(LHillSchool$Columns;III)I" } : Jvm.MethodName) ({ cls := "HillSchool$Judge", name := "effortOn", desc := "(LHillSchool$Columns;III)I" } : Jvm.MethodName)) ∈ zall := zmemG (zmj_3 222 rfl) rfl
abbrev w_HS_can : List Cond := .code yX10_can cX10_can 4 (some .int) :: zall
abbrev rm_HS_can : Room := { frames := 5, cells := 0, slots := 0, locals := 138 }
theorem hd_HS_can : yX10_can.cls = "HillSchool" ∧ yX10_can.cls ≠ "java/lang/invoke/MethodHandle" ∧ yX10_can.cls ≠ "java/lang/invoke/VarHandle" ∧ (parseMethodDescriptor yX10_can.desc).map (fun d => d.parameters.length) = some 3 := by decide +kernel
def wd_HS_can (cA : Nat → ClassId) (q0 q1 q2 q3 q4 q5 q6 q7 q8 q9 q10 q11 q12 q13 q14 q15 q16 q17 q18 q19 q20 q21 q22 q23 q24 q25 : Nat) (u0 u1 u2 u3 u4 u5 : Int) (i_hill_children : Int) (i_hill_laws : Int) (i_hill_inForce : Int) (i_hill_columns_many : Int) (i_hill_strengths : Nat → Int) (i_hill_expelled : Nat → Int) (i_hill_terms : Nat → Int) (i_hill_orders : Nat → Int) (i_hill_ordered : Nat → Int) (i_hill_columns_heights : Nat → Int) (i_hill_columns_weights : Nat → Int) (i_judge_piled : Int) (i_judge_tiring : Int) (i_judge_barred : Int) (i_judge_words : Nat → Int) (i_judge_pile : Nat → Int) : va_W := [(q0, .inr (10, [.ref q1, .ref q2, .ref q3, .ref q4, .int (Int32.ofInt u0), .int (Int32.ofInt u1), .int (Int32.ofInt u2), .ref q5, .int (Int32.ofInt u3), .ref q6, .ref q7, .ref q8, .ref q9, .ref q10, .ref q11, .ref q12])), (q1, .inr (2, [.ref q13, .int (Int32.ofInt i_hill_children), .ref q14, .ref q15, .ref q16, .int (Int32.ofInt u4), .ref q17, .ref q18, .ref q19, .int (Int32.ofInt i_hill_laws), .ref q20, .ref q21, .int (Int32.ofInt i_hill_inForce), .int (Int32.ofInt u5)])), (q7, .inr (3, [.ref q1, .ref q22, .ref q23, .int (Int32.ofInt i_judge_piled), .int (Int32.ofInt i_judge_tiring), .int (Int32.ofInt i_judge_barred)])), (q13, .inr (1, [.int (Int32.ofInt i_hill_columns_many), .ref q24, .ref q25])), (q14, .inl (cA 0, 6, .inl (za i_hill_strengths))), (q15, .inl (cA 0, 6, .inl (za i_hill_expelled))), (q18, .inl (cA 0, 4, .inl (za i_hill_terms))), (q20, .inl (cA 0, 2544, .inl (za i_hill_orders))), (q21, .inl (cA 0, 6, .inl (za i_hill_ordered))), (q22, .inl (cA 0, 8, .inl (za i_judge_words))), (q23, .inl (cA 0, 32, .inl (za i_judge_pile))), (q24, .inl (cA 0, 12, .inl (za i_hill_columns_heights))), (q25, .inl (cA 0, 120, .inl (za i_hill_columns_weights)))]
def wf_HS_can (cA : Nat → ClassId) (q0 q1 q2 q3 q4 q5 q6 q7 q8 q9 q10 q11 q12 q13 q14 q15 q16 q17 q18 q19 q20 q21 q22 q23 q24 q25 : Nat) (u0 u1 u2 u3 u4 u5 : Int) (i_hill_children : Int) (i_hill_laws : Int) (i_hill_inForce : Int) (i_hill_columns_many : Int) (i_hill_strengths : Nat → Int) (i_hill_expelled : Nat → Int) (i_hill_terms : Nat → Int) (i_hill_orders : Nat → Int) (i_hill_ordered : Nat → Int) (i_hill_columns_heights : Nat → Int) (i_hill_columns_weights : Nat → Int) (o : Int × Int × Int × Int × (Nat → Int) × (Nat → Int)) : va_W := wd_HS_can cA q0 q1 q2 q3 q4 q5 q6 q7 q8 q9 q10 q11 q12 q13 q14 q15 q16 q17 q18 q19 q20 q21 q22 q23 q24 q25 u0 u1 u2 u3 u4 u5 i_hill_children i_hill_laws i_hill_inForce i_hill_columns_many i_hill_strengths i_hill_expelled i_hill_terms i_hill_orders i_hill_ordered i_hill_columns_heights i_hill_columns_weights o.2.1 o.2.2.1 o.2.2.2.1 o.2.2.2.2.1 o.2.2.2.2.2
def f_HS_can (x1 : Int) (x2 : Int) (x3 : Int) (i_hill_children : Int) (i_hill_laws : Int) (i_hill_inForce : Int) (i_hill_columns_many : Int) (i_hill_strengths : Nat → Int) (i_hill_expelled : Nat → Int) (i_hill_terms : Nat → Int) (i_hill_orders : Nat → Int) (i_hill_ordered : Nat → Int) (i_hill_columns_heights : Nat → Int) (i_hill_columns_weights : Nat → Int) (i_judge_piled : Int) (i_judge_tiring : Int) (i_judge_barred : Int) (i_judge_words : Nat → Int) (i_judge_pile : Nat → Int) : Option (Int × Int × Int × Int × (Nat → Int) × (Nat → Int)) :=
  zd1 (f_HS_knows x1 x2 x3 i_hill_children i_hill_columns_many) fun v1 =>
  if zi_w v1 ≠ 0 then
    zd6 (f_Judge_effortOn x1 x2 x3 i_hill_columns_many i_hill_children i_hill_laws i_hill_inForce i_hill_columns_heights i_hill_columns_weights i_hill_strengths i_hill_expelled i_hill_terms i_hill_orders i_hill_ordered i_judge_piled i_judge_tiring i_judge_barred i_judge_words i_judge_pile) fun v2 v3 v4 v5 a6 a7 =>
    if zi_w v2 ≠ zi_w (-1) then
      some (1, v3, v4, v5, a6, a7)
    else
      some (0, v3, v4, v5, a6, a7)
  else
    some ((-1), i_judge_piled, i_judge_tiring, i_judge_barred, i_judge_words, i_judge_pile)
set_option maxHeartbeats 4000000 in
set_option maxRecDepth 100000 in
theorem c_HS_can (l : Launch) (ev : zEv) (dC : Nat → ClassId) (dI : Nat → Nat → Nat) (cA : Nat → ClassId) (q0 q1 q2 q3 q4 q5 q6 q7 q8 q9 q10 q11 q12 q13 q14 q15 q16 q17 q18 q19 q20 q21 q22 q23 q24 q25 : Nat) (u0 u1 u2 u3 u4 u5 : Int) {x1 x2 x3 : Int} {i_hill_children : Int} {i_hill_laws : Int} {i_hill_inForce : Int} {i_hill_columns_many : Int} {i_hill_strengths : Nat → Int} {i_hill_expelled : Nat → Int} {i_hill_terms : Nat → Int} {i_hill_orders : Nat → Int} {i_hill_ordered : Nat → Int} {i_hill_columns_heights : Nat → Int} {i_hill_columns_weights : Nat → Int} {i_judge_piled : Int} {i_judge_tiring : Int} {i_judge_barred : Int} {i_judge_words : Nat → Int} {i_judge_pile : Nat → Int} {out : Int × Int × Int × Int × (Nat → Int) × (Nat → Int)} (hf : f_HS_can x1 x2 x3 i_hill_children i_hill_laws i_hill_inForce i_hill_columns_many i_hill_strengths i_hill_expelled i_hill_terms i_hill_orders i_hill_ordered i_hill_columns_heights i_hill_columns_weights i_judge_piled i_judge_tiring i_judge_barred i_judge_words i_judge_pile = some out) : xc_I l ev (dC, dI) vwCl (tyl cA) yX10_can w_HS_can rm_HS_can [.ref q0, .int (Int32.ofInt x1), .int (Int32.ofInt x2), .int (Int32.ofInt x3)] (wd_HS_can cA q0 q1 q2 q3 q4 q5 q6 q7 q8 q9 q10 q11 q12 q13 q14 q15 q16 q17 q18 q19 q20 q21 q22 q23 q24 q25 u0 u1 u2 u3 u4 u5 i_hill_children i_hill_laws i_hill_inForce i_hill_columns_many i_hill_strengths i_hill_expelled i_hill_terms i_hill_orders i_hill_ordered i_hill_columns_heights i_hill_columns_weights i_judge_piled i_judge_tiring i_judge_barred i_judge_words i_judge_pile) (wf_HS_can cA q0 q1 q2 q3 q4 q5 q6 q7 q8 q9 q10 q11 q12 q13 q14 q15 q16 q17 q18 q19 q20 q21 q22 q23 q24 q25 u0 u1 u2 u3 u4 u5 i_hill_children i_hill_laws i_hill_inForce i_hill_columns_many i_hill_strengths i_hill_expelled i_hill_terms i_hill_orders i_hill_ordered i_hill_columns_heights i_hill_columns_weights out) out.1 := by
  refine xv_startI (cc := cX10_can) (maxL := 4) (rt := .int) (by decide +kernel) rfl (Nat.le_of_ble_eq_true rfl) ?_
  intro p e s m args below meth c A Q H ls hx hb hml hts hown hK hA hP hD hS hl hE hret
  have hown : s.vm.findClass "HillSchool" = some m.cls := hown
  have hz : ∀ w ∈ zall, w.before args s = true := fun w h => hts w (List.mem_cons_of_mem _ h)
  have hl : lv_has ls 4 [(0, .ref q0), (1, .int (Int32.ofInt x1)), (2, .int (Int32.ofInt x2)), (3, .int (Int32.ofInt x3))] := hl
  unfold f_HS_can at hf
  refine lv_aload_n hx hb dX10_can_0 rfl (lv_at hl 0 rfl) ?_
  refine lv_iload_n hx hb dX10_can_1 rfl (lv_at hl 1 rfl) ?_
  refine lv_iload_n hx hb dX10_can_2 rfl (lv_at hl 2 rfl) ?_
  refine lv_iload_n hx hb dX10_can_3 rfl (lv_at hl 3 rfl) ?_
  refine xe_d1 hf (fun v1 hg hf => ?_)
  have hC : ([0, 1, 3] : List Nat).map (fun i => (wd_HS_can cA q0 q1 q2 q3 q4 q5 q6 q7 q8 q9 q10 q11 q12 q13 q14 q15 q16 q17 q18 q19 q20 q21 q22 q23 q24 q25 u0 u1 u2 u3 u4 u5 i_hill_children i_hill_laws i_hill_inForce i_hill_columns_many i_hill_strengths i_hill_expelled i_hill_terms i_hill_orders i_hill_ordered i_hill_columns_heights i_hill_columns_weights i_judge_piled i_judge_tiring i_judge_barred i_judge_words i_judge_pile)[i]?) = (wd_HS_knows cA q0 q1 q2 q3 q4 q5 q6 q7 q8 q9 q10 q11 q12 q13 q14 q15 q16 q17 q18 q19 q20 q21 q24 q25 u0 u1 u2 u3 u4 i_hill_laws i_hill_inForce u5 i_hill_children i_hill_columns_many).map some := rfl
  refine xv_afterI (ws' := (wd_HS_can cA q0 q1 q2 q3 q4 q5 q6 q7 q8 q9 q10 q11 q12 q13 q14 q15 q16 q17 q18 q19 q20 q21 q22 q23 q24 q25 u0 u1 u2 u3 u4 u5 i_hill_children i_hill_laws i_hill_inForce i_hill_columns_many i_hill_strengths i_hill_expelled i_hill_terms i_hill_orders i_hill_ordered i_hill_columns_heights i_hill_columns_weights i_judge_piled i_judge_tiring i_judge_barred i_judge_words i_judge_pile)) (isC := [0, 1, 3]) (ps := [some 0, some 1, none, some 2, none, none, none, none, none, none, none, none, none]) (va_runV (As := [.int (Int32.ofInt x1), .int (Int32.ofInt x2), .int (Int32.ofInt x3)]) (rest := []) ⟨hx, hb, hml, hown, hts⟩ (c_HS_knows l ev dC dI cA q0 q1 q2 q3 q4 q5 q6 q7 q8 q9 q10 q11 q12 q13 q14 q15 q16 q17 q18 q19 q20 q21 q24 q25 u0 u1 u2 u3 u4 i_hill_laws i_hill_inForce u5 hg H.size) (cwV 3 hts (zgV zw_799 zw_801 zw_13 zw_104 zw_802) rfl rfl rfl hd_HS_knows ⟨Nat.le_of_ble_eq_true rfl, Nat.le_of_ble_eq_true rfl⟩) (xv_preV (T := TX10) (N := 16) hE hA hS hK hP hD (isC := [0, 1, 3]) (by decide +kernel) hC (q0 := 0) (ci := 10) rfl rfl) rfl rfl hl.1 rfl (lv_room (Nat.le_of_ble_eq_true rfl)) dX10_can_4 ⟨Nat.le_refl _, Nat.le_refl _⟩) hP hD hS hA (by decide +kernel) rfl hC rfl rfl (fun H locs hP hD hS => ?_)
  refine xi_if_ne (tgt := 12) hx hb dX10_can_7 (by decide) hf (fun hf => ?_) (fun hf => ?_)
  · refine lv_aload_n hx hb dX10_can_12 rfl (lv_at hl 0 rfl) ?_
    refine va_get (D := (dC, dI)) (ci := 10) (v := .ref q7) (C := RX10) (T := TX10) (N := 16) hx hb hz zi_X10 hown hK hP 0 rfl rfl 10 (by decide) (hz _ zw_487) (fun _ h9 => h9) rfl dX10_can_13 ?_
    refine lv_aload_n hx hb dX10_can_16 rfl (lv_at hl 0 rfl) ?_
    refine va_get (D := (dC, dI)) (ci := 10) (v := .ref q1) (C := RX10) (T := TX10) (N := 16) hx hb hz zi_X10 hown hK hP 0 rfl rfl 0 (by decide) (hz _ zw_477) (fun _ h9 => h9) rfl dX10_can_17 ?_
    refine va_getN (D := (dC, dI)) (ci := 2) (v := .ref q13) (C := RX2) (T := TX2) (N := 14) hx hb hz zi_X2 hown hK hP 1 rfl rfl 0 (by decide) (va_Nw.use rfl (hE.1.1 _ zw_169)) (fun _ h9 => h9) rfl dX10_can_20 ?_
    refine lv_iload_n hx hb dX10_can_23 rfl (lv_at hl 1 rfl) ?_
    refine lv_iload_n hx hb dX10_can_24 rfl (lv_at hl 2 rfl) ?_
    refine lv_iload_n hx hb dX10_can_25 rfl (lv_at hl 3 rfl) ?_
    refine xe_d6 hf (fun v2 v3 v4 v5 a6 a7 hg hf => ?_)
    have hC : ([2, 3, 1, 9, 10, 11, 12, 4, 5, 6, 7, 8] : List Nat).map (fun i => (wd_HS_can cA q0 q1 q2 q3 q4 q5 q6 q7 q8 q9 q10 q11 q12 q13 q14 q15 q16 q17 q18 q19 q20 q21 q22 q23 q24 q25 u0 u1 u2 u3 u4 u5 i_hill_children i_hill_laws i_hill_inForce i_hill_columns_many i_hill_strengths i_hill_expelled i_hill_terms i_hill_orders i_hill_ordered i_hill_columns_heights i_hill_columns_weights i_judge_piled i_judge_tiring i_judge_barred i_judge_words i_judge_pile)[i]?) = (wd_Judge_effortOn cA q7 q1 q22 q23 q13 q24 q25 q13 q14 q15 q16 q17 q18 q19 q20 q21 u4 u5 i_hill_columns_many i_hill_children i_hill_laws i_hill_inForce i_hill_columns_heights i_hill_columns_weights i_hill_strengths i_hill_expelled i_hill_terms i_hill_orders i_hill_ordered i_judge_piled i_judge_tiring i_judge_barred i_judge_words i_judge_pile).map some := rfl
    refine xv_afterI (ws' := (wd_HS_can cA q0 q1 q2 q3 q4 q5 q6 q7 q8 q9 q10 q11 q12 q13 q14 q15 q16 q17 q18 q19 q20 q21 q22 q23 q24 q25 u0 u1 u2 u3 u4 u5 i_hill_children i_hill_laws i_hill_inForce i_hill_columns_many i_hill_strengths i_hill_expelled i_hill_terms i_hill_orders i_hill_ordered i_hill_columns_heights i_hill_columns_weights v3 v4 v5 a6 a7)) (isC := [2, 3, 1, 9, 10, 11, 12, 4, 5, 6, 7, 8]) (ps := [none, some 2, some 0, some 1, some 7, some 8, some 9, some 10, some 11, some 3, some 4, some 5, some 6]) (va_runV (As := [.ref q13, .int (Int32.ofInt x1), .int (Int32.ofInt x2), .int (Int32.ofInt x3)]) (rest := []) ⟨hx, hb, hml, hown, hts⟩ (c_Judge_effortOn l ev dC dI cA q7 q1 q22 q23 q13 q24 q25 q13 q14 q15 q16 q17 q18 q19 q20 q21 u4 u5 hg H.size) (cwV 4 hts (zgV zw_803 zw_804 zw_805 zw_108 zw_806) rfl rfl rfl hd_Judge_effortOn ⟨Nat.le_of_ble_eq_true rfl, Nat.le_of_ble_eq_true rfl⟩) (xv_preV (T := TX3) (N := 6) hE hA hS hK hP hD (isC := [2, 3, 1, 9, 10, 11, 12, 4, 5, 6, 7, 8]) (by decide +kernel) hC (q0 := 2) (ci := 3) rfl rfl) rfl rfl hl.1 rfl (lv_room (Nat.le_of_ble_eq_true rfl)) dX10_can_26 ⟨Nat.le_refl _, Nat.le_refl _⟩) hP hD hS hA (by decide +kernel) rfl hC rfl rfl (fun H locs hP hD hS => ?_)
    refine lv_iconst (v := Int32.ofInt (-1)) hx hb dX10_can_29 rfl ?_
    refine xi_icmp_ne (tgt := 37) hx hb dX10_can_30 (by decide) hf (fun hf => ?_) (fun hf => ?_)
    · refine lv_iconst (v := Int32.ofInt 1) hx hb dX10_can_37 rfl ?_
      obtain rfl := Option.some.inj hf
      exact hret _ _ _ _ rfl dX10_can_38 hP hD hS
    · refine lv_iconst (v := Int32.ofInt 0) hx hb dX10_can_33 rfl ?_
      refine lv_goto (tgt := 38) hx hb dX10_can_34 (by decide) ?_
      obtain rfl := Option.some.inj hf
      exact hret _ _ _ _ rfl dX10_can_38 hP hD hS
  · refine lv_iconst (v := Int32.ofInt (-1)) hx hb dX10_can_10 rfl ?_
    obtain rfl := Option.some.inj hf
    exact hret _ _ _ _ rfl dX10_can_11 hP hD hS
theorem dX10_tires_0 : decode cX10_tires 0 = .ok (.aload_n 0, 1) := by decide +kernel
theorem dX10_tires_1 : decode cX10_tires 1 = .ok (.iload_n 1, 1) := by decide +kernel
theorem dX10_tires_2 : decode cX10_tires 2 = .ok (.iload_n 2, 1) := by decide +kernel
theorem dX10_tires_3 : decode cX10_tires 3 = .ok (.iload_n 3, 1) := by decide +kernel
theorem dX10_tires_4 : decode cX10_tires 4 = .ok (.invokevirtual 197, 3) := by decide +kernel
theorem dX10_tires_7 : decode cX10_tires 7 = .ok (.ifCond .eq 23, 3) := by decide +kernel
theorem dX10_tires_10 : decode cX10_tires 10 = .ok (.aload_n 0, 1) := by decide +kernel
theorem dX10_tires_11 : decode cX10_tires 11 = .ok (.getfield 56, 3) := by decide +kernel
theorem dX10_tires_14 : decode cX10_tires 14 = .ok (.aload_n 0, 1) := by decide +kernel
theorem dX10_tires_15 : decode cX10_tires 15 = .ok (.getfield 10, 3) := by decide +kernel
theorem dX10_tires_18 : decode cX10_tires 18 = .ok (.getfield 99, 3) := by decide +kernel
theorem dX10_tires_21 : decode cX10_tires 21 = .ok (.iload_n 1, 1) := by decide +kernel
theorem dX10_tires_22 : decode cX10_tires 22 = .ok (.iload_n 2, 1) := by decide +kernel
theorem dX10_tires_23 : decode cX10_tires 23 = .ok (.iload_n 3, 1) := by decide +kernel
theorem dX10_tires_24 : decode cX10_tires 24 = .ok (.invokevirtual 201, 3) := by decide +kernel
theorem dX10_tires_27 : decode cX10_tires 27 = .ok (.goto 4, 3) := by decide +kernel
theorem dX10_tires_30 : decode cX10_tires 30 = .ok (.iconst (-1), 1) := by decide +kernel
theorem dX10_tires_31 : decode cX10_tires 31 = .ok (.ireturn, 1) := by decide +kernel
theorem zw_844 : (Jvm.Cond.code ({ cls := "HillSchool", name := "tires", desc := "(III)I" } : Jvm.MethodName) prog_1_method_20_code (4 : Nat) (Option.some Jvm.ClassFile.FieldType.int)) ∈ zall := zmemG (zmj_4 21 rfl) rfl
abbrev w_HS_tires : List Cond := .code yX10_tires cX10_tires 4 (some .int) :: zall
abbrev rm_HS_tires : Room := { frames := 5, cells := 0, slots := 0, locals := 138 }
theorem hd_HS_tires : yX10_tires.cls = "HillSchool" ∧ yX10_tires.cls ≠ "java/lang/invoke/MethodHandle" ∧ yX10_tires.cls ≠ "java/lang/invoke/VarHandle" ∧ (parseMethodDescriptor yX10_tires.desc).map (fun d => d.parameters.length) = some 3 := by decide +kernel
def wd_HS_tires (cA : Nat → ClassId) (q0 q1 q2 q3 q4 q5 q6 q7 q8 q9 q10 q11 q12 q13 q14 q15 q16 q17 q18 q19 q20 q21 q22 q23 q24 q25 : Nat) (u0 u1 u2 u3 u4 u5 : Int) (i_hill_children : Int) (i_hill_laws : Int) (i_hill_inForce : Int) (i_hill_columns_many : Int) (i_hill_strengths : Nat → Int) (i_hill_expelled : Nat → Int) (i_hill_terms : Nat → Int) (i_hill_orders : Nat → Int) (i_hill_ordered : Nat → Int) (i_hill_columns_heights : Nat → Int) (i_hill_columns_weights : Nat → Int) (i_judge_piled : Int) (i_judge_tiring : Int) (i_judge_barred : Int) (i_judge_words : Nat → Int) (i_judge_pile : Nat → Int) : va_W := [(q0, .inr (10, [.ref q1, .ref q2, .ref q3, .ref q4, .int (Int32.ofInt u0), .int (Int32.ofInt u1), .int (Int32.ofInt u2), .ref q5, .int (Int32.ofInt u3), .ref q6, .ref q7, .ref q8, .ref q9, .ref q10, .ref q11, .ref q12])), (q1, .inr (2, [.ref q13, .int (Int32.ofInt i_hill_children), .ref q14, .ref q15, .ref q16, .int (Int32.ofInt u4), .ref q17, .ref q18, .ref q19, .int (Int32.ofInt i_hill_laws), .ref q20, .ref q21, .int (Int32.ofInt i_hill_inForce), .int (Int32.ofInt u5)])), (q7, .inr (3, [.ref q1, .ref q22, .ref q23, .int (Int32.ofInt i_judge_piled), .int (Int32.ofInt i_judge_tiring), .int (Int32.ofInt i_judge_barred)])), (q13, .inr (1, [.int (Int32.ofInt i_hill_columns_many), .ref q24, .ref q25])), (q14, .inl (cA 0, 6, .inl (za i_hill_strengths))), (q15, .inl (cA 0, 6, .inl (za i_hill_expelled))), (q18, .inl (cA 0, 4, .inl (za i_hill_terms))), (q20, .inl (cA 0, 2544, .inl (za i_hill_orders))), (q21, .inl (cA 0, 6, .inl (za i_hill_ordered))), (q22, .inl (cA 0, 8, .inl (za i_judge_words))), (q23, .inl (cA 0, 32, .inl (za i_judge_pile))), (q24, .inl (cA 0, 12, .inl (za i_hill_columns_heights))), (q25, .inl (cA 0, 120, .inl (za i_hill_columns_weights)))]
def wf_HS_tires (cA : Nat → ClassId) (q0 q1 q2 q3 q4 q5 q6 q7 q8 q9 q10 q11 q12 q13 q14 q15 q16 q17 q18 q19 q20 q21 q22 q23 q24 q25 : Nat) (u0 u1 u2 u3 u4 u5 : Int) (i_hill_children : Int) (i_hill_laws : Int) (i_hill_inForce : Int) (i_hill_columns_many : Int) (i_hill_strengths : Nat → Int) (i_hill_expelled : Nat → Int) (i_hill_terms : Nat → Int) (i_hill_orders : Nat → Int) (i_hill_ordered : Nat → Int) (i_hill_columns_heights : Nat → Int) (i_hill_columns_weights : Nat → Int) (o : Int × Int × Int × Int × (Nat → Int) × (Nat → Int)) : va_W := wd_HS_tires cA q0 q1 q2 q3 q4 q5 q6 q7 q8 q9 q10 q11 q12 q13 q14 q15 q16 q17 q18 q19 q20 q21 q22 q23 q24 q25 u0 u1 u2 u3 u4 u5 i_hill_children i_hill_laws i_hill_inForce i_hill_columns_many i_hill_strengths i_hill_expelled i_hill_terms i_hill_orders i_hill_ordered i_hill_columns_heights i_hill_columns_weights o.2.1 o.2.2.1 o.2.2.2.1 o.2.2.2.2.1 o.2.2.2.2.2
def f_HS_tires (x1 : Int) (x2 : Int) (x3 : Int) (i_hill_children : Int) (i_hill_laws : Int) (i_hill_inForce : Int) (i_hill_columns_many : Int) (i_hill_strengths : Nat → Int) (i_hill_expelled : Nat → Int) (i_hill_terms : Nat → Int) (i_hill_orders : Nat → Int) (i_hill_ordered : Nat → Int) (i_hill_columns_heights : Nat → Int) (i_hill_columns_weights : Nat → Int) (i_judge_piled : Int) (i_judge_tiring : Int) (i_judge_barred : Int) (i_judge_words : Nat → Int) (i_judge_pile : Nat → Int) : Option (Int × Int × Int × Int × (Nat → Int) × (Nat → Int)) :=
  zd1 (f_HS_knows x1 x2 x3 i_hill_children i_hill_columns_many) fun v1 =>
  if zi_w v1 = 0 then
    some ((-1), i_judge_piled, i_judge_tiring, i_judge_barred, i_judge_words, i_judge_pile)
  else
    zd6 (f_Judge_effortOn x1 x2 x3 i_hill_columns_many i_hill_children i_hill_laws i_hill_inForce i_hill_columns_heights i_hill_columns_weights i_hill_strengths i_hill_expelled i_hill_terms i_hill_orders i_hill_ordered i_judge_piled i_judge_tiring i_judge_barred i_judge_words i_judge_pile) fun v2 v3 v4 v5 a6 a7 =>
    some (v2, v3, v4, v5, a6, a7)
set_option maxHeartbeats 4000000 in
set_option maxRecDepth 100000 in
theorem c_HS_tires (l : Launch) (ev : zEv) (dC : Nat → ClassId) (dI : Nat → Nat → Nat) (cA : Nat → ClassId) (q0 q1 q2 q3 q4 q5 q6 q7 q8 q9 q10 q11 q12 q13 q14 q15 q16 q17 q18 q19 q20 q21 q22 q23 q24 q25 : Nat) (u0 u1 u2 u3 u4 u5 : Int) {x1 x2 x3 : Int} {i_hill_children : Int} {i_hill_laws : Int} {i_hill_inForce : Int} {i_hill_columns_many : Int} {i_hill_strengths : Nat → Int} {i_hill_expelled : Nat → Int} {i_hill_terms : Nat → Int} {i_hill_orders : Nat → Int} {i_hill_ordered : Nat → Int} {i_hill_columns_heights : Nat → Int} {i_hill_columns_weights : Nat → Int} {i_judge_piled : Int} {i_judge_tiring : Int} {i_judge_barred : Int} {i_judge_words : Nat → Int} {i_judge_pile : Nat → Int} {out : Int × Int × Int × Int × (Nat → Int) × (Nat → Int)} (hf : f_HS_tires x1 x2 x3 i_hill_children i_hill_laws i_hill_inForce i_hill_columns_many i_hill_strengths i_hill_expelled i_hill_terms i_hill_orders i_hill_ordered i_hill_columns_heights i_hill_columns_weights i_judge_piled i_judge_tiring i_judge_barred i_judge_words i_judge_pile = some out) : xc_I l ev (dC, dI) vwCl (tyl cA) yX10_tires w_HS_tires rm_HS_tires [.ref q0, .int (Int32.ofInt x1), .int (Int32.ofInt x2), .int (Int32.ofInt x3)] (wd_HS_tires cA q0 q1 q2 q3 q4 q5 q6 q7 q8 q9 q10 q11 q12 q13 q14 q15 q16 q17 q18 q19 q20 q21 q22 q23 q24 q25 u0 u1 u2 u3 u4 u5 i_hill_children i_hill_laws i_hill_inForce i_hill_columns_many i_hill_strengths i_hill_expelled i_hill_terms i_hill_orders i_hill_ordered i_hill_columns_heights i_hill_columns_weights i_judge_piled i_judge_tiring i_judge_barred i_judge_words i_judge_pile) (wf_HS_tires cA q0 q1 q2 q3 q4 q5 q6 q7 q8 q9 q10 q11 q12 q13 q14 q15 q16 q17 q18 q19 q20 q21 q22 q23 q24 q25 u0 u1 u2 u3 u4 u5 i_hill_children i_hill_laws i_hill_inForce i_hill_columns_many i_hill_strengths i_hill_expelled i_hill_terms i_hill_orders i_hill_ordered i_hill_columns_heights i_hill_columns_weights out) out.1 := by
  refine xv_startI (cc := cX10_tires) (maxL := 4) (rt := .int) (by decide +kernel) rfl (Nat.le_of_ble_eq_true rfl) ?_
  intro p e s m args below meth c A Q H ls hx hb hml hts hown hK hA hP hD hS hl hE hret
  have hown : s.vm.findClass "HillSchool" = some m.cls := hown
  have hz : ∀ w ∈ zall, w.before args s = true := fun w h => hts w (List.mem_cons_of_mem _ h)
  have hl : lv_has ls 4 [(0, .ref q0), (1, .int (Int32.ofInt x1)), (2, .int (Int32.ofInt x2)), (3, .int (Int32.ofInt x3))] := hl
  unfold f_HS_tires at hf
  refine lv_aload_n hx hb dX10_tires_0 rfl (lv_at hl 0 rfl) ?_
  refine lv_iload_n hx hb dX10_tires_1 rfl (lv_at hl 1 rfl) ?_
  refine lv_iload_n hx hb dX10_tires_2 rfl (lv_at hl 2 rfl) ?_
  refine lv_iload_n hx hb dX10_tires_3 rfl (lv_at hl 3 rfl) ?_
  refine xe_d1 hf (fun v1 hg hf => ?_)
  have hC : ([0, 1, 3] : List Nat).map (fun i => (wd_HS_tires cA q0 q1 q2 q3 q4 q5 q6 q7 q8 q9 q10 q11 q12 q13 q14 q15 q16 q17 q18 q19 q20 q21 q22 q23 q24 q25 u0 u1 u2 u3 u4 u5 i_hill_children i_hill_laws i_hill_inForce i_hill_columns_many i_hill_strengths i_hill_expelled i_hill_terms i_hill_orders i_hill_ordered i_hill_columns_heights i_hill_columns_weights i_judge_piled i_judge_tiring i_judge_barred i_judge_words i_judge_pile)[i]?) = (wd_HS_knows cA q0 q1 q2 q3 q4 q5 q6 q7 q8 q9 q10 q11 q12 q13 q14 q15 q16 q17 q18 q19 q20 q21 q24 q25 u0 u1 u2 u3 u4 i_hill_laws i_hill_inForce u5 i_hill_children i_hill_columns_many).map some := rfl
  refine xv_afterI (ws' := (wd_HS_tires cA q0 q1 q2 q3 q4 q5 q6 q7 q8 q9 q10 q11 q12 q13 q14 q15 q16 q17 q18 q19 q20 q21 q22 q23 q24 q25 u0 u1 u2 u3 u4 u5 i_hill_children i_hill_laws i_hill_inForce i_hill_columns_many i_hill_strengths i_hill_expelled i_hill_terms i_hill_orders i_hill_ordered i_hill_columns_heights i_hill_columns_weights i_judge_piled i_judge_tiring i_judge_barred i_judge_words i_judge_pile)) (isC := [0, 1, 3]) (ps := [some 0, some 1, none, some 2, none, none, none, none, none, none, none, none, none]) (va_runV (As := [.int (Int32.ofInt x1), .int (Int32.ofInt x2), .int (Int32.ofInt x3)]) (rest := []) ⟨hx, hb, hml, hown, hts⟩ (c_HS_knows l ev dC dI cA q0 q1 q2 q3 q4 q5 q6 q7 q8 q9 q10 q11 q12 q13 q14 q15 q16 q17 q18 q19 q20 q21 q24 q25 u0 u1 u2 u3 u4 i_hill_laws i_hill_inForce u5 hg H.size) (cwV 3 hts (zgV zw_799 zw_801 zw_13 zw_104 zw_802) rfl rfl rfl hd_HS_knows ⟨Nat.le_of_ble_eq_true rfl, Nat.le_of_ble_eq_true rfl⟩) (xv_preV (T := TX10) (N := 16) hE hA hS hK hP hD (isC := [0, 1, 3]) (by decide +kernel) hC (q0 := 0) (ci := 10) rfl rfl) rfl rfl hl.1 rfl (lv_room (Nat.le_of_ble_eq_true rfl)) dX10_tires_4 ⟨Nat.le_refl _, Nat.le_refl _⟩) hP hD hS hA (by decide +kernel) rfl hC rfl rfl (fun H locs hP hD hS => ?_)
  refine xi_if_eq (tgt := 30) hx hb dX10_tires_7 (by decide) hf (fun hf => ?_) (fun hf => ?_)
  · refine lv_iconst (v := Int32.ofInt (-1)) hx hb dX10_tires_30 rfl ?_
    obtain rfl := Option.some.inj hf
    exact hret _ _ _ _ rfl dX10_tires_31 hP hD hS
  · refine lv_aload_n hx hb dX10_tires_10 rfl (lv_at hl 0 rfl) ?_
    refine va_get (D := (dC, dI)) (ci := 10) (v := .ref q7) (C := RX10) (T := TX10) (N := 16) hx hb hz zi_X10 hown hK hP 0 rfl rfl 10 (by decide) (hz _ zw_487) (fun _ h9 => h9) rfl dX10_tires_11 ?_
    refine lv_aload_n hx hb dX10_tires_14 rfl (lv_at hl 0 rfl) ?_
    refine va_get (D := (dC, dI)) (ci := 10) (v := .ref q1) (C := RX10) (T := TX10) (N := 16) hx hb hz zi_X10 hown hK hP 0 rfl rfl 0 (by decide) (hz _ zw_477) (fun _ h9 => h9) rfl dX10_tires_15 ?_
    refine va_getN (D := (dC, dI)) (ci := 2) (v := .ref q13) (C := RX2) (T := TX2) (N := 14) hx hb hz zi_X2 hown hK hP 1 rfl rfl 0 (by decide) (va_Nw.use rfl (hE.1.1 _ zw_169)) (fun _ h9 => h9) rfl dX10_tires_18 ?_
    refine lv_iload_n hx hb dX10_tires_21 rfl (lv_at hl 1 rfl) ?_
    refine lv_iload_n hx hb dX10_tires_22 rfl (lv_at hl 2 rfl) ?_
    refine lv_iload_n hx hb dX10_tires_23 rfl (lv_at hl 3 rfl) ?_
    refine xe_d6 hf (fun v2 v3 v4 v5 a6 a7 hg hf => ?_)
    have hC : ([2, 3, 1, 9, 10, 11, 12, 4, 5, 6, 7, 8] : List Nat).map (fun i => (wd_HS_tires cA q0 q1 q2 q3 q4 q5 q6 q7 q8 q9 q10 q11 q12 q13 q14 q15 q16 q17 q18 q19 q20 q21 q22 q23 q24 q25 u0 u1 u2 u3 u4 u5 i_hill_children i_hill_laws i_hill_inForce i_hill_columns_many i_hill_strengths i_hill_expelled i_hill_terms i_hill_orders i_hill_ordered i_hill_columns_heights i_hill_columns_weights i_judge_piled i_judge_tiring i_judge_barred i_judge_words i_judge_pile)[i]?) = (wd_Judge_effortOn cA q7 q1 q22 q23 q13 q24 q25 q13 q14 q15 q16 q17 q18 q19 q20 q21 u4 u5 i_hill_columns_many i_hill_children i_hill_laws i_hill_inForce i_hill_columns_heights i_hill_columns_weights i_hill_strengths i_hill_expelled i_hill_terms i_hill_orders i_hill_ordered i_judge_piled i_judge_tiring i_judge_barred i_judge_words i_judge_pile).map some := rfl
    refine xv_afterI (ws' := (wd_HS_tires cA q0 q1 q2 q3 q4 q5 q6 q7 q8 q9 q10 q11 q12 q13 q14 q15 q16 q17 q18 q19 q20 q21 q22 q23 q24 q25 u0 u1 u2 u3 u4 u5 i_hill_children i_hill_laws i_hill_inForce i_hill_columns_many i_hill_strengths i_hill_expelled i_hill_terms i_hill_orders i_hill_ordered i_hill_columns_heights i_hill_columns_weights v3 v4 v5 a6 a7)) (isC := [2, 3, 1, 9, 10, 11, 12, 4, 5, 6, 7, 8]) (ps := [none, some 2, some 0, some 1, some 7, some 8, some 9, some 10, some 11, some 3, some 4, some 5, some 6]) (va_runV (As := [.ref q13, .int (Int32.ofInt x1), .int (Int32.ofInt x2), .int (Int32.ofInt x3)]) (rest := []) ⟨hx, hb, hml, hown, hts⟩ (c_Judge_effortOn l ev dC dI cA q7 q1 q22 q23 q13 q24 q25 q13 q14 q15 q16 q17 q18 q19 q20 q21 u4 u5 hg H.size) (cwV 4 hts (zgV zw_803 zw_804 zw_805 zw_108 zw_806) rfl rfl rfl hd_Judge_effortOn ⟨Nat.le_of_ble_eq_true rfl, Nat.le_of_ble_eq_true rfl⟩) (xv_preV (T := TX3) (N := 6) hE hA hS hK hP hD (isC := [2, 3, 1, 9, 10, 11, 12, 4, 5, 6, 7, 8]) (by decide +kernel) hC (q0 := 2) (ci := 3) rfl rfl) rfl rfl hl.1 rfl (lv_room (Nat.le_of_ble_eq_true rfl)) dX10_tires_24 ⟨Nat.le_refl _, Nat.le_refl _⟩) hP hD hS hA (by decide +kernel) rfl hC rfl rfl (fun H locs hP hD hS => ?_)
    refine lv_goto (tgt := 31) hx hb dX10_tires_27 (by decide) ?_
    obtain rfl := Option.some.inj hf
    exact hret _ _ _ _ rfl dX10_tires_31 hP hD hS
theorem dX1_move_0 : decode cX1_move 0 = .ok (.aload_n 0, 1) := by decide +kernel
theorem dX1_move_1 : decode cX1_move 1 = .ok (.iload_n 1, 1) := by decide +kernel
theorem dX1_move_2 : decode cX1_move 2 = .ok (.invokevirtual 26, 3) := by decide +kernel
theorem dX1_move_5 : decode cX1_move 5 = .ok (.ifCond .le 26, 3) := by decide +kernel
theorem dX1_move_8 : decode cX1_move 8 = .ok (.aload_n 0, 1) := by decide +kernel
theorem dX1_move_9 : decode cX1_move 9 = .ok (.iload_n 2, 1) := by decide +kernel
theorem dX1_move_10 : decode cX1_move 10 = .ok (.aload_n 0, 1) := by decide +kernel
theorem dX1_move_11 : decode cX1_move 11 = .ok (.iload_n 1, 1) := by decide +kernel
theorem dX1_move_12 : decode cX1_move 12 = .ok (.invokevirtual 34, 3) := by decide +kernel
theorem dX1_move_15 : decode cX1_move 15 = .ok (.invokevirtual 37, 3) := by decide +kernel
theorem dX1_move_18 : decode cX1_move 18 = .ok (.ifCond .eq 13, 3) := by decide +kernel
theorem dX1_move_21 : decode cX1_move 21 = .ok (.aload_n 0, 1) := by decide +kernel
theorem dX1_move_22 : decode cX1_move 22 = .ok (.getfield 15, 3) := by decide +kernel
theorem dX1_move_25 : decode cX1_move 25 = .ok (.iload_n 1, 1) := by decide +kernel
theorem dX1_move_26 : decode cX1_move 26 = .ok (.dup2, 1) := by decide +kernel
theorem dX1_move_27 : decode cX1_move 27 = .ok (.iaload, 1) := by decide +kernel
theorem dX1_move_28 : decode cX1_move 28 = .ok (.iconst 1, 1) := by decide +kernel
theorem dX1_move_29 : decode cX1_move 29 = .ok (.isub, 1) := by decide +kernel
theorem dX1_move_30 : decode cX1_move 30 = .ok (.iastore, 1) := by decide +kernel
theorem dX1_move_31 : decode cX1_move 31 = .ok (.return_, 1) := by decide +kernel
theorem zw_853 : (Jvm.Cond.code ({ cls := "HillSchool$Columns", name := "move", desc := "(II)V" } : Jvm.MethodName) prog_3_method_11_code (3 : Nat) (Option.none : Option Jvm.ClassFile.FieldType)) ∈ zall := zmemG (zmj_4 30 rfl) rfl
theorem zw_854 : (Jvm.Cond.methodLink "HillSchool$Columns" (37 : Nat) ({ cls := "HillSchool$Columns", name := "put", desc := "(II)Z" } : Jvm.MethodName)) ∈ zall := zmemG (zmj_4 31 rfl) rfl
abbrev w_Columns_move : List Cond := .code yX1_move cX1_move 3 none :: zall
abbrev rm_Columns_move : Room := { frames := 3, cells := 0, slots := 0, locals := 64 }
theorem hd_Columns_move : yX1_move.cls = "HillSchool$Columns" ∧ yX1_move.cls ≠ "java/lang/invoke/MethodHandle" ∧ yX1_move.cls ≠ "java/lang/invoke/VarHandle" ∧ (parseMethodDescriptor yX1_move.desc).map (fun d => d.parameters.length) = some 2 := by decide +kernel
def wd_Columns_move (cA : Nat → ClassId) (q0 q1 q2 : Nat) (i_many : Int) (i_heights : Nat → Int) (i_weights : Nat → Int) : va_W := [(q0, .inr (1, [.int (Int32.ofInt i_many), .ref q1, .ref q2])), (q1, .inl (cA 0, 12, .inl (za i_heights))), (q2, .inl (cA 0, 120, .inl (za i_weights)))]
def wf_Columns_move (cA : Nat → ClassId) (q0 q1 q2 : Nat) (i_many : Int) (o : (Nat → Int) × (Nat → Int)) : va_W := wd_Columns_move cA q0 q1 q2 i_many o.1 o.2
def f_Columns_move (x1 : Int) (x2 : Int) (i_many : Int) (i_heights : Nat → Int) (i_weights : Nat → Int) : Option ((Nat → Int) × (Nat → Int)) :=
  zd1 (f_Columns_high x1 i_many i_heights) fun v1 =>
  if zi_w v1 ≤ 0 then
    some (i_heights, i_weights)
  else
    zd1 (f_Columns_top x1 i_many i_heights i_weights) fun v2 =>
    zd3 (f_Columns_put x2 v2 i_many i_heights i_weights) fun v3 a4 a5 =>
    if zi_w v3 = 0 then
      some (a4, a5)
    else
      zg 12 a4 x1 fun v6 =>
      zn (v6 - 1) fun v7 =>
      zs 12 a4 x1 v7 fun a8 =>
      some (a8, a5)
set_option maxHeartbeats 4000000 in
set_option maxRecDepth 100000 in
theorem c_Columns_move (l : Launch) (ev : zEv) (dC : Nat → ClassId) (dI : Nat → Nat → Nat) (cA : Nat → ClassId) (q0 q1 q2 : Nat) {x1 x2 : Int} {i_many : Int} {i_heights : Nat → Int} {i_weights : Nat → Int} {out : (Nat → Int) × (Nat → Int)} (hf : f_Columns_move x1 x2 i_many i_heights i_weights = some out) : xc_V l ev (dC, dI) vwCl (tyl cA) yX1_move w_Columns_move rm_Columns_move [.ref q0, .int (Int32.ofInt x1), .int (Int32.ofInt x2)] (wd_Columns_move cA q0 q1 q2 i_many i_heights i_weights) (wf_Columns_move cA q0 q1 q2 i_many out) := by
  refine xv_startV (cc := cX1_move) (maxL := 3) (by decide +kernel) rfl (Nat.le_of_ble_eq_true rfl) ?_
  intro p e s m args below meth c A Q H ls hx hb hml hts hown hK hA hP hD hS hl hE hret
  have hown : s.vm.findClass "HillSchool$Columns" = some m.cls := hown
  have hz : ∀ w ∈ zall, w.before args s = true := fun w h => hts w (List.mem_cons_of_mem _ h)
  have hl : lv_has ls 3 [(0, .ref q0), (1, .int (Int32.ofInt x1)), (2, .int (Int32.ofInt x2))] := hl
  unfold f_Columns_move at hf
  refine lv_aload_n hx hb dX1_move_0 rfl (lv_at hl 0 rfl) ?_
  refine lv_iload_n hx hb dX1_move_1 rfl (lv_at hl 1 rfl) ?_
  refine xe_d1 hf (fun v1 hg hf => ?_)
  have hC : ([0, 1] : List Nat).map (fun i => (wd_Columns_move cA q0 q1 q2 i_many i_heights i_weights)[i]?) = (wd_Columns_high cA q0 q1 q2 i_many i_heights).map some := rfl
  refine xv_afterI (ws' := (wd_Columns_move cA q0 q1 q2 i_many i_heights i_weights)) (isC := [0, 1]) (ps := [some 0, some 1, none]) (va_runV (As := [.int (Int32.ofInt x1)]) (rest := []) ⟨hx, hb, hml, hown, hts⟩ (c_Columns_high l ev dC dI cA q0 q1 q2 hg H.size) (cwV 1 hts (zgV zw_571 zw_556 zw_557 zw_106 zw_558) rfl rfl rfl hd_Columns_high ⟨Nat.le_of_ble_eq_true rfl, Nat.le_of_ble_eq_true rfl⟩) (xv_preV (T := TX1) (N := 3) hE hA hS hK hP hD (isC := [0, 1]) (by decide +kernel) hC (q0 := 0) (ci := 1) rfl rfl) rfl rfl hl.1 rfl (lv_room (Nat.le_of_ble_eq_true rfl)) dX1_move_2 ⟨Nat.le_refl _, Nat.le_refl _⟩) hP hD hS hA (by decide +kernel) rfl hC rfl rfl (fun H locs hP hD hS => ?_)
  refine xi_if_le (tgt := 31) hx hb dX1_move_5 (by decide) hf (fun hf => ?_) (fun hf => ?_)
  · obtain rfl := Option.some.inj hf
    exact hret _ _ _ _ dX1_move_31 hP hD hS
  · refine lv_aload_n hx hb dX1_move_8 rfl (lv_at hl 0 rfl) ?_
    refine lv_iload_n hx hb dX1_move_9 rfl (lv_at hl 2 rfl) ?_
    refine lv_aload_n hx hb dX1_move_10 rfl (lv_at hl 0 rfl) ?_
    refine lv_iload_n hx hb dX1_move_11 rfl (lv_at hl 1 rfl) ?_
    refine xe_d1 hf (fun v2 hg hf => ?_)
    have hC : ([0, 1, 2] : List Nat).map (fun i => (wd_Columns_move cA q0 q1 q2 i_many i_heights i_weights)[i]?) = (wd_Columns_top cA q0 q1 q2 i_many i_heights i_weights).map some := rfl
    refine xv_afterI (ws' := (wd_Columns_move cA q0 q1 q2 i_many i_heights i_weights)) (isC := [0, 1, 2]) (ps := [some 0, some 1, some 2]) (va_runV (As := [.int (Int32.ofInt x1)]) (rest := [.int (Int32.ofInt x2), .ref q0]) ⟨hx, hb, hml, hown, hts⟩ (c_Columns_top l ev dC dI cA q0 q1 q2 hg H.size) (cwV 1 hts (zgV zw_567 zw_568 zw_569 zw_106 zw_570) rfl rfl rfl hd_Columns_top ⟨Nat.le_of_ble_eq_true rfl, Nat.le_of_ble_eq_true rfl⟩) (xv_preV (T := TX1) (N := 3) hE hA hS hK hP hD (isC := [0, 1, 2]) (by decide +kernel) hC (q0 := 0) (ci := 1) rfl rfl) rfl rfl hl.1 rfl (lv_room (Nat.le_of_ble_eq_true rfl)) dX1_move_12 ⟨Nat.le_refl _, Nat.le_refl _⟩) hP hD hS hA (by decide +kernel) rfl hC rfl rfl (fun H locs hP hD hS => ?_)
    refine xe_d3 hf (fun v3 a4 a5 hg hf => ?_)
    have hC : ([0, 1, 2] : List Nat).map (fun i => (wd_Columns_move cA q0 q1 q2 i_many i_heights i_weights)[i]?) = (wd_Columns_put cA q0 q1 q2 i_many i_heights i_weights).map some := rfl
    refine xv_afterI (ws' := (wd_Columns_move cA q0 q1 q2 i_many a4 a5)) (isC := [0, 1, 2]) (ps := [some 0, some 1, some 2]) (va_runV (As := [.int (Int32.ofInt x2), .int (Int32.ofInt v2)]) (rest := []) ⟨hx, hb, hml, hown, hts⟩ (c_Columns_put l ev dC dI cA q0 q1 q2 hg H.size) (cwV 2 hts (zgV zw_854 zw_551 zw_552 zw_106 zw_553) rfl rfl rfl hd_Columns_put ⟨Nat.le_of_ble_eq_true rfl, Nat.le_of_ble_eq_true rfl⟩) (xv_preV (T := TX1) (N := 3) hE hA hS hK hP hD (isC := [0, 1, 2]) (by decide +kernel) hC (q0 := 0) (ci := 1) rfl rfl) rfl rfl hl.1 rfl (lv_room (Nat.le_of_ble_eq_true rfl)) dX1_move_15 ⟨Nat.le_refl _, Nat.le_refl _⟩) hP hD hS hA (by decide +kernel) rfl hC rfl rfl (fun H locs hP hD hS => ?_)
    refine xi_if_eq (tgt := 31) hx hb dX1_move_18 (by decide) hf (fun hf => ?_) (fun hf => ?_)
    · obtain rfl := Option.some.inj hf
      exact hret _ _ _ _ dX1_move_31 hP hD hS
    · refine lv_aload_n hx hb dX1_move_21 rfl (lv_at hl 0 rfl) ?_
      refine va_get (D := (dC, dI)) (ci := 1) (v := .ref q1) (C := RX1) (T := TX1) (N := 3) hx hb hz zi_X1 hown hK hP 0 rfl rfl 1 (by decide) (hz _ zw_149) (fun _ h9 => h9) rfl dX1_move_22 ?_
      refine lv_iload_n hx hb dX1_move_25 rfl (lv_at hl 1 rfl) ?_
      refine lv_dup2_11 hx hb dX1_move_26 rfl rfl ?_
      refine xi_iald hx hb hK hP 1 0 rfl rfl dX1_move_27 hf (fun v6 hf => ?_)
      refine lv_iconst (v := Int32.ofInt 1) hx hb dX1_move_28 rfl ?_
      refine xi_isub hx hb dX1_move_29 hf (fun v7 hf => ?_)
      refine xi_iast hx hb hK hP hD hS 1 0 rfl rfl dX1_move_30 hf (fun a8 H locs hP hD hS hf => ?_)
      have hP : va_P (dC, dI) vwCl (wd_Columns_move cA q0 q1 q2 i_many a8 a5) H := hP
      have hD : va_D A (wd_Columns_move cA q0 q1 q2 i_many a8 a5) := hD
      obtain rfl := Option.some.inj hf
      exact hret _ _ _ _ dX1_move_31 hP hD hS
theorem dX10_carry_0 : decode cX10_carry 0 = .ok (.aload_n 0, 1) := by decide +kernel
theorem dX10_carry_1 : decode cX10_carry 1 = .ok (.iload_n 1, 1) := by decide +kernel
theorem dX10_carry_2 : decode cX10_carry 2 = .ok (.iload_n 2, 1) := by decide +kernel
theorem dX10_carry_3 : decode cX10_carry 3 = .ok (.iload_n 3, 1) := by decide +kernel
theorem dX10_carry_4 : decode cX10_carry 4 = .ok (.invokevirtual 197, 3) := by decide +kernel
theorem dX10_carry_7 : decode cX10_carry 7 = .ok (.ifCond .ne 10, 3) := by decide +kernel
theorem dX10_carry_10 : decode cX10_carry 10 = .ok (.aload_n 0, 1) := by decide +kernel
theorem dX10_carry_11 : decode cX10_carry 11 = .ok (.bipush (-2), 2) := by decide +kernel
theorem dX10_carry_13 : decode cX10_carry 13 = .ok (.invokevirtual 109, 3) := by decide +kernel
theorem dX10_carry_16 : decode cX10_carry 16 = .ok (.ireturn, 1) := by decide +kernel
theorem dX10_carry_17 : decode cX10_carry 17 = .ok (.aload_n 0, 1) := by decide +kernel
theorem dX10_carry_18 : decode cX10_carry 18 = .ok (.getfield 56, 3) := by decide +kernel
theorem dX10_carry_21 : decode cX10_carry 21 = .ok (.aload_n 0, 1) := by decide +kernel
theorem dX10_carry_22 : decode cX10_carry 22 = .ok (.getfield 10, 3) := by decide +kernel
theorem dX10_carry_25 : decode cX10_carry 25 = .ok (.getfield 99, 3) := by decide +kernel
theorem dX10_carry_28 : decode cX10_carry 28 = .ok (.iload_n 1, 1) := by decide +kernel
theorem dX10_carry_29 : decode cX10_carry 29 = .ok (.iload_n 2, 1) := by decide +kernel
theorem dX10_carry_30 : decode cX10_carry 30 = .ok (.iload_n 3, 1) := by decide +kernel
theorem dX10_carry_31 : decode cX10_carry 31 = .ok (.invokevirtual 201, 3) := by decide +kernel
theorem dX10_carry_34 : decode cX10_carry 34 = .ok (.iconst (-1), 1) := by decide +kernel
theorem dX10_carry_35 : decode cX10_carry 35 = .ok (.if_icmp .ne 10, 3) := by decide +kernel
theorem dX10_carry_38 : decode cX10_carry 38 = .ok (.aload_n 0, 1) := by decide +kernel
theorem dX10_carry_39 : decode cX10_carry 39 = .ok (.bipush (-3), 2) := by decide +kernel
theorem dX10_carry_41 : decode cX10_carry 41 = .ok (.invokevirtual 109, 3) := by decide +kernel
theorem dX10_carry_44 : decode cX10_carry 44 = .ok (.ireturn, 1) := by decide +kernel
theorem dX10_carry_45 : decode cX10_carry 45 = .ok (.aload_n 0, 1) := by decide +kernel
theorem dX10_carry_46 : decode cX10_carry 46 = .ok (.getfield 10, 3) := by decide +kernel
theorem dX10_carry_49 : decode cX10_carry 49 = .ok (.getfield 99, 3) := by decide +kernel
theorem dX10_carry_52 : decode cX10_carry 52 = .ok (.iload_n 2, 1) := by decide +kernel
theorem dX10_carry_53 : decode cX10_carry 53 = .ok (.invokevirtual 205, 3) := by decide +kernel
theorem dX10_carry_56 : decode cX10_carry 56 = .ok (.istore 4, 2) := by decide +kernel
theorem dX10_carry_58 : decode cX10_carry 58 = .ok (.aload_n 0, 1) := by decide +kernel
theorem dX10_carry_59 : decode cX10_carry 59 = .ok (.getfield 10, 3) := by decide +kernel
theorem dX10_carry_62 : decode cX10_carry 62 = .ok (.getfield 99, 3) := by decide +kernel
theorem dX10_carry_65 : decode cX10_carry 65 = .ok (.iload_n 2, 1) := by decide +kernel
theorem dX10_carry_66 : decode cX10_carry 66 = .ok (.iload_n 3, 1) := by decide +kernel
theorem dX10_carry_67 : decode cX10_carry 67 = .ok (.invokevirtual 208, 3) := by decide +kernel
theorem dX10_carry_70 : decode cX10_carry 70 = .ok (.aload_n 0, 1) := by decide +kernel
theorem dX10_carry_71 : decode cX10_carry 71 = .ok (.iload 4, 2) := by decide +kernel
theorem dX10_carry_73 : decode cX10_carry 73 = .ok (.invokevirtual 119, 3) := by decide +kernel
theorem dX10_carry_76 : decode cX10_carry 76 = .ok (.ireturn, 1) := by decide +kernel
theorem zw_848 : (Jvm.Cond.code ({ cls := "HillSchool", name := "carry", desc := "(III)I" } : Jvm.MethodName) prog_1_method_21_code (5 : Nat) (Option.some Jvm.ClassFile.FieldType.int)) ∈ zall := zmemG (zmj_4 25 rfl) rfl
theorem zw_849 : (Jvm.Cond.methodLink "HillSchool" (205 : Nat) ({ cls := "HillSchool$Columns", name := "top", desc := "(I)I" } : Jvm.MethodName)) ∈ zall := zmemG (zmj_4 26 rfl) rfl
theorem zw_850 : (Jvm.Cond.methodLink "HillSchool" (208 : Nat) ({ cls := "HillSchool$Columns", name := "move", desc := "(II)V" } : Jvm.MethodName)) ∈ zall := zmemG (zmj_4 27 rfl) rfl
theorem zw_851 : (Jvm.Cond.instanceMethod ({ cls := "HillSchool$Columns", name := "move", desc := "(II)V" } : Jvm.MethodName)) ∈ zall := zmemG (zmj_4 28 rfl) rfl
theorem zw_852 : (Jvm.Cond.selects "HillSchool$Columns" ({ cls := "HillSchool$Columns", name := "move", desc := "(II)V" } : Jvm.MethodName) ({ cls := "HillSchool$Columns", name := "move", desc := "(II)V" } : Jvm.MethodName)) ∈ zall := zmemG (zmj_4 29 rfl) rfl
abbrev w_HS_carry : List Cond := .code yX10_carry cX10_carry 5 (some .int) :: zall
abbrev rm_HS_carry : Room := { frames := 5, cells := 0, slots := 0, locals := 138 }
theorem hd_HS_carry : yX10_carry.cls = "HillSchool" ∧ yX10_carry.cls ≠ "java/lang/invoke/MethodHandle" ∧ yX10_carry.cls ≠ "java/lang/invoke/VarHandle" ∧ (parseMethodDescriptor yX10_carry.desc).map (fun d => d.parameters.length) = some 3 := by decide +kernel
def wd_HS_carry (cA : Nat → ClassId) (q0 q1 q2 q3 q4 q5 q6 q7 q8 q9 q10 q11 q12 q13 q14 q15 q16 q17 q18 q19 q20 q21 q22 q23 q24 q25 : Nat) (u0 u1 u2 u3 : Int) (i_hill_children : Int) (i_hill_laws : Int) (i_hill_inForce : Int) (i_hill_columns_many : Int) (i_hill_strengths : Nat → Int) (i_hill_expelled : Nat → Int) (i_hill_terms : Nat → Int) (i_hill_orders : Nat → Int) (i_hill_ordered : Nat → Int) (i_latestStatus : Int) (i_hill_changes : Int) (i_refusals : Nat → Int) (i_judge_piled : Int) (i_judge_tiring : Int) (i_judge_barred : Int) (i_judge_words : Nat → Int) (i_judge_pile : Nat → Int) (i_hill_columns_heights : Nat → Int) (i_hill_columns_weights : Nat → Int) : va_W := [(q0, .inr (10, [.ref q1, .ref q2, .ref q3, .ref q4, .int (Int32.ofInt u0), .int (Int32.ofInt u1), .int (Int32.ofInt u2), .ref q5, .int (Int32.ofInt i_latestStatus), .ref q6, .ref q7, .ref q8, .ref q9, .ref q10, .ref q11, .ref q12])), (q1, .inr (2, [.ref q13, .int (Int32.ofInt i_hill_children), .ref q14, .ref q15, .ref q16, .int (Int32.ofInt u3), .ref q17, .ref q18, .ref q19, .int (Int32.ofInt i_hill_laws), .ref q20, .ref q21, .int (Int32.ofInt i_hill_inForce), .int (Int32.ofInt i_hill_changes)])), (q5, .inl (cA 0, 7, .inl (za i_refusals))), (q7, .inr (3, [.ref q1, .ref q22, .ref q23, .int (Int32.ofInt i_judge_piled), .int (Int32.ofInt i_judge_tiring), .int (Int32.ofInt i_judge_barred)])), (q13, .inr (1, [.int (Int32.ofInt i_hill_columns_many), .ref q24, .ref q25])), (q14, .inl (cA 0, 6, .inl (za i_hill_strengths))), (q15, .inl (cA 0, 6, .inl (za i_hill_expelled))), (q18, .inl (cA 0, 4, .inl (za i_hill_terms))), (q20, .inl (cA 0, 2544, .inl (za i_hill_orders))), (q21, .inl (cA 0, 6, .inl (za i_hill_ordered))), (q22, .inl (cA 0, 8, .inl (za i_judge_words))), (q23, .inl (cA 0, 32, .inl (za i_judge_pile))), (q24, .inl (cA 0, 12, .inl (za i_hill_columns_heights))), (q25, .inl (cA 0, 120, .inl (za i_hill_columns_weights)))]
def wf_HS_carry (cA : Nat → ClassId) (q0 q1 q2 q3 q4 q5 q6 q7 q8 q9 q10 q11 q12 q13 q14 q15 q16 q17 q18 q19 q20 q21 q22 q23 q24 q25 : Nat) (u0 u1 u2 u3 : Int) (i_hill_children : Int) (i_hill_laws : Int) (i_hill_inForce : Int) (i_hill_columns_many : Int) (i_hill_strengths : Nat → Int) (i_hill_expelled : Nat → Int) (i_hill_terms : Nat → Int) (i_hill_orders : Nat → Int) (i_hill_ordered : Nat → Int) (o : Int × Int × Int × (Nat → Int) × Int × Int × Int × (Nat → Int) × (Nat → Int) × (Nat → Int) × (Nat → Int)) : va_W := wd_HS_carry cA q0 q1 q2 q3 q4 q5 q6 q7 q8 q9 q10 q11 q12 q13 q14 q15 q16 q17 q18 q19 q20 q21 q22 q23 q24 q25 u0 u1 u2 u3 i_hill_children i_hill_laws i_hill_inForce i_hill_columns_many i_hill_strengths i_hill_expelled i_hill_terms i_hill_orders i_hill_ordered o.2.1 o.2.2.1 o.2.2.2.1 o.2.2.2.2.1 o.2.2.2.2.2.1 o.2.2.2.2.2.2.1 o.2.2.2.2.2.2.2.1 o.2.2.2.2.2.2.2.2.1 o.2.2.2.2.2.2.2.2.2.1 o.2.2.2.2.2.2.2.2.2.2
def f_HS_carry (x1 : Int) (x2 : Int) (x3 : Int) (i_hill_children : Int) (i_hill_laws : Int) (i_hill_inForce : Int) (i_hill_columns_many : Int) (i_hill_strengths : Nat → Int) (i_hill_expelled : Nat → Int) (i_hill_terms : Nat → Int) (i_hill_orders : Nat → Int) (i_hill_ordered : Nat → Int) (i_latestStatus : Int) (i_hill_changes : Int) (i_refusals : Nat → Int) (i_judge_piled : Int) (i_judge_tiring : Int) (i_judge_barred : Int) (i_judge_words : Nat → Int) (i_judge_pile : Nat → Int) (i_hill_columns_heights : Nat → Int) (i_hill_columns_weights : Nat → Int) : Option (Int × Int × Int × (Nat → Int) × Int × Int × Int × (Nat → Int) × (Nat → Int) × (Nat → Int) × (Nat → Int)) :=
  zd1 (f_HS_knows x1 x2 x3 i_hill_children i_hill_columns_many) fun v1 =>
  if zi_w v1 ≠ 0 then
    zd6 (f_Judge_effortOn x1 x2 x3 i_hill_columns_many i_hill_children i_hill_laws i_hill_inForce i_hill_columns_heights i_hill_columns_weights i_hill_strengths i_hill_expelled i_hill_terms i_hill_orders i_hill_ordered i_judge_piled i_judge_tiring i_judge_barred i_judge_words i_judge_pile) fun v2 v3 v4 v5 a6 a7 =>
    if zi_w v2 ≠ zi_w (-1) then
      zd1 (f_Columns_top x2 i_hill_columns_many i_hill_columns_heights i_hill_columns_weights) fun v8 =>
      zd2 (f_Columns_move x2 x3 i_hill_columns_many i_hill_columns_heights i_hill_columns_weights) fun a9 a10 =>
      zd3 (f_HS_accept v8 i_latestStatus i_hill_changes) fun v11 v12 v13 =>
      some (v11, v12, v13, i_refusals, v3, v4, v5, a6, a7, a9, a10)
    else
      zd3 (f_HS_refuse (-3) i_latestStatus i_refusals) fun v14 v15 a16 =>
      some (v14, v15, i_hill_changes, a16, v3, v4, v5, a6, a7, i_hill_columns_heights, i_hill_columns_weights)
  else
    zd3 (f_HS_refuse (-2) i_latestStatus i_refusals) fun v17 v18 a19 =>
    some (v17, v18, i_hill_changes, a19, i_judge_piled, i_judge_tiring, i_judge_barred, i_judge_words, i_judge_pile, i_hill_columns_heights, i_hill_columns_weights)
set_option maxHeartbeats 4000000 in
set_option maxRecDepth 100000 in
theorem c_HS_carry (l : Launch) (ev : zEv) (dC : Nat → ClassId) (dI : Nat → Nat → Nat) (cA : Nat → ClassId) (q0 q1 q2 q3 q4 q5 q6 q7 q8 q9 q10 q11 q12 q13 q14 q15 q16 q17 q18 q19 q20 q21 q22 q23 q24 q25 : Nat) (u0 u1 u2 u3 : Int) {x1 x2 x3 : Int} {i_hill_children : Int} {i_hill_laws : Int} {i_hill_inForce : Int} {i_hill_columns_many : Int} {i_hill_strengths : Nat → Int} {i_hill_expelled : Nat → Int} {i_hill_terms : Nat → Int} {i_hill_orders : Nat → Int} {i_hill_ordered : Nat → Int} {i_latestStatus : Int} {i_hill_changes : Int} {i_refusals : Nat → Int} {i_judge_piled : Int} {i_judge_tiring : Int} {i_judge_barred : Int} {i_judge_words : Nat → Int} {i_judge_pile : Nat → Int} {i_hill_columns_heights : Nat → Int} {i_hill_columns_weights : Nat → Int} {out : Int × Int × Int × (Nat → Int) × Int × Int × Int × (Nat → Int) × (Nat → Int) × (Nat → Int) × (Nat → Int)} (hf : f_HS_carry x1 x2 x3 i_hill_children i_hill_laws i_hill_inForce i_hill_columns_many i_hill_strengths i_hill_expelled i_hill_terms i_hill_orders i_hill_ordered i_latestStatus i_hill_changes i_refusals i_judge_piled i_judge_tiring i_judge_barred i_judge_words i_judge_pile i_hill_columns_heights i_hill_columns_weights = some out) : xc_I l ev (dC, dI) vwCl (tyl cA) yX10_carry w_HS_carry rm_HS_carry [.ref q0, .int (Int32.ofInt x1), .int (Int32.ofInt x2), .int (Int32.ofInt x3)] (wd_HS_carry cA q0 q1 q2 q3 q4 q5 q6 q7 q8 q9 q10 q11 q12 q13 q14 q15 q16 q17 q18 q19 q20 q21 q22 q23 q24 q25 u0 u1 u2 u3 i_hill_children i_hill_laws i_hill_inForce i_hill_columns_many i_hill_strengths i_hill_expelled i_hill_terms i_hill_orders i_hill_ordered i_latestStatus i_hill_changes i_refusals i_judge_piled i_judge_tiring i_judge_barred i_judge_words i_judge_pile i_hill_columns_heights i_hill_columns_weights) (wf_HS_carry cA q0 q1 q2 q3 q4 q5 q6 q7 q8 q9 q10 q11 q12 q13 q14 q15 q16 q17 q18 q19 q20 q21 q22 q23 q24 q25 u0 u1 u2 u3 i_hill_children i_hill_laws i_hill_inForce i_hill_columns_many i_hill_strengths i_hill_expelled i_hill_terms i_hill_orders i_hill_ordered out) out.1 := by
  refine xv_startI (cc := cX10_carry) (maxL := 5) (rt := .int) (by decide +kernel) rfl (Nat.le_of_ble_eq_true rfl) ?_
  intro p e s m args below meth c A Q H ls hx hb hml hts hown hK hA hP hD hS hl hE hret
  have hown : s.vm.findClass "HillSchool" = some m.cls := hown
  have hz : ∀ w ∈ zall, w.before args s = true := fun w h => hts w (List.mem_cons_of_mem _ h)
  have hl : lv_has ls 5 [(0, .ref q0), (1, .int (Int32.ofInt x1)), (2, .int (Int32.ofInt x2)), (3, .int (Int32.ofInt x3))] := hl
  unfold f_HS_carry at hf
  refine lv_aload_n hx hb dX10_carry_0 rfl (lv_at hl 0 rfl) ?_
  refine lv_iload_n hx hb dX10_carry_1 rfl (lv_at hl 1 rfl) ?_
  refine lv_iload_n hx hb dX10_carry_2 rfl (lv_at hl 2 rfl) ?_
  refine lv_iload_n hx hb dX10_carry_3 rfl (lv_at hl 3 rfl) ?_
  refine xe_d1 hf (fun v1 hg hf => ?_)
  have hC : ([0, 1, 4] : List Nat).map (fun i => (wd_HS_carry cA q0 q1 q2 q3 q4 q5 q6 q7 q8 q9 q10 q11 q12 q13 q14 q15 q16 q17 q18 q19 q20 q21 q22 q23 q24 q25 u0 u1 u2 u3 i_hill_children i_hill_laws i_hill_inForce i_hill_columns_many i_hill_strengths i_hill_expelled i_hill_terms i_hill_orders i_hill_ordered i_latestStatus i_hill_changes i_refusals i_judge_piled i_judge_tiring i_judge_barred i_judge_words i_judge_pile i_hill_columns_heights i_hill_columns_weights)[i]?) = (wd_HS_knows cA q0 q1 q2 q3 q4 q5 q6 q7 q8 q9 q10 q11 q12 q13 q14 q15 q16 q17 q18 q19 q20 q21 q24 q25 u0 u1 u2 i_latestStatus u3 i_hill_laws i_hill_inForce i_hill_changes i_hill_children i_hill_columns_many).map some := rfl
  refine xv_afterI (ws' := (wd_HS_carry cA q0 q1 q2 q3 q4 q5 q6 q7 q8 q9 q10 q11 q12 q13 q14 q15 q16 q17 q18 q19 q20 q21 q22 q23 q24 q25 u0 u1 u2 u3 i_hill_children i_hill_laws i_hill_inForce i_hill_columns_many i_hill_strengths i_hill_expelled i_hill_terms i_hill_orders i_hill_ordered i_latestStatus i_hill_changes i_refusals i_judge_piled i_judge_tiring i_judge_barred i_judge_words i_judge_pile i_hill_columns_heights i_hill_columns_weights)) (isC := [0, 1, 4]) (ps := [some 0, some 1, none, none, some 2, none, none, none, none, none, none, none, none, none]) (va_runV (As := [.int (Int32.ofInt x1), .int (Int32.ofInt x2), .int (Int32.ofInt x3)]) (rest := []) ⟨hx, hb, hml, hown, hts⟩ (c_HS_knows l ev dC dI cA q0 q1 q2 q3 q4 q5 q6 q7 q8 q9 q10 q11 q12 q13 q14 q15 q16 q17 q18 q19 q20 q21 q24 q25 u0 u1 u2 i_latestStatus u3 i_hill_laws i_hill_inForce i_hill_changes hg H.size) (cwV 3 hts (zgV zw_799 zw_801 zw_13 zw_104 zw_802) rfl rfl rfl hd_HS_knows ⟨Nat.le_of_ble_eq_true rfl, Nat.le_of_ble_eq_true rfl⟩) (xv_preV (T := TX10) (N := 16) hE hA hS hK hP hD (isC := [0, 1, 4]) (by decide +kernel) hC (q0 := 0) (ci := 10) rfl rfl) rfl rfl hl.1 rfl (lv_room (Nat.le_of_ble_eq_true rfl)) dX10_carry_4 ⟨Nat.le_refl _, Nat.le_refl _⟩) hP hD hS hA (by decide +kernel) rfl hC rfl rfl (fun H locs hP hD hS => ?_)
  refine xi_if_ne (tgt := 17) hx hb dX10_carry_7 (by decide) hf (fun hf => ?_) (fun hf => ?_)
  · refine lv_aload_n hx hb dX10_carry_17 rfl (lv_at hl 0 rfl) ?_
    refine va_get (D := (dC, dI)) (ci := 10) (v := .ref q7) (C := RX10) (T := TX10) (N := 16) hx hb hz zi_X10 hown hK hP 0 rfl rfl 10 (by decide) (hz _ zw_487) (fun _ h9 => h9) rfl dX10_carry_18 ?_
    refine lv_aload_n hx hb dX10_carry_21 rfl (lv_at hl 0 rfl) ?_
    refine va_get (D := (dC, dI)) (ci := 10) (v := .ref q1) (C := RX10) (T := TX10) (N := 16) hx hb hz zi_X10 hown hK hP 0 rfl rfl 0 (by decide) (hz _ zw_477) (fun _ h9 => h9) rfl dX10_carry_22 ?_
    refine va_getN (D := (dC, dI)) (ci := 2) (v := .ref q13) (C := RX2) (T := TX2) (N := 14) hx hb hz zi_X2 hown hK hP 1 rfl rfl 0 (by decide) (va_Nw.use rfl (hE.1.1 _ zw_169)) (fun _ h9 => h9) rfl dX10_carry_25 ?_
    refine lv_iload_n hx hb dX10_carry_28 rfl (lv_at hl 1 rfl) ?_
    refine lv_iload_n hx hb dX10_carry_29 rfl (lv_at hl 2 rfl) ?_
    refine lv_iload_n hx hb dX10_carry_30 rfl (lv_at hl 3 rfl) ?_
    refine xe_d6 hf (fun v2 v3 v4 v5 a6 a7 hg hf => ?_)
    have hC : ([3, 4, 1, 10, 11, 12, 13, 5, 6, 7, 8, 9] : List Nat).map (fun i => (wd_HS_carry cA q0 q1 q2 q3 q4 q5 q6 q7 q8 q9 q10 q11 q12 q13 q14 q15 q16 q17 q18 q19 q20 q21 q22 q23 q24 q25 u0 u1 u2 u3 i_hill_children i_hill_laws i_hill_inForce i_hill_columns_many i_hill_strengths i_hill_expelled i_hill_terms i_hill_orders i_hill_ordered i_latestStatus i_hill_changes i_refusals i_judge_piled i_judge_tiring i_judge_barred i_judge_words i_judge_pile i_hill_columns_heights i_hill_columns_weights)[i]?) = (wd_Judge_effortOn cA q7 q1 q22 q23 q13 q24 q25 q13 q14 q15 q16 q17 q18 q19 q20 q21 u3 i_hill_changes i_hill_columns_many i_hill_children i_hill_laws i_hill_inForce i_hill_columns_heights i_hill_columns_weights i_hill_strengths i_hill_expelled i_hill_terms i_hill_orders i_hill_ordered i_judge_piled i_judge_tiring i_judge_barred i_judge_words i_judge_pile).map some := rfl
    refine xv_afterI (ws' := (wd_HS_carry cA q0 q1 q2 q3 q4 q5 q6 q7 q8 q9 q10 q11 q12 q13 q14 q15 q16 q17 q18 q19 q20 q21 q22 q23 q24 q25 u0 u1 u2 u3 i_hill_children i_hill_laws i_hill_inForce i_hill_columns_many i_hill_strengths i_hill_expelled i_hill_terms i_hill_orders i_hill_ordered i_latestStatus i_hill_changes i_refusals v3 v4 v5 a6 a7 i_hill_columns_heights i_hill_columns_weights)) (isC := [3, 4, 1, 10, 11, 12, 13, 5, 6, 7, 8, 9]) (ps := [none, some 2, none, some 0, some 1, some 7, some 8, some 9, some 10, some 11, some 3, some 4, some 5, some 6]) (va_runV (As := [.ref q13, .int (Int32.ofInt x1), .int (Int32.ofInt x2), .int (Int32.ofInt x3)]) (rest := []) ⟨hx, hb, hml, hown, hts⟩ (c_Judge_effortOn l ev dC dI cA q7 q1 q22 q23 q13 q24 q25 q13 q14 q15 q16 q17 q18 q19 q20 q21 u3 i_hill_changes hg H.size) (cwV 4 hts (zgV zw_803 zw_804 zw_805 zw_108 zw_806) rfl rfl rfl hd_Judge_effortOn ⟨Nat.le_of_ble_eq_true rfl, Nat.le_of_ble_eq_true rfl⟩) (xv_preV (T := TX3) (N := 6) hE hA hS hK hP hD (isC := [3, 4, 1, 10, 11, 12, 13, 5, 6, 7, 8, 9]) (by decide +kernel) hC (q0 := 3) (ci := 3) rfl rfl) rfl rfl hl.1 rfl (lv_room (Nat.le_of_ble_eq_true rfl)) dX10_carry_31 ⟨Nat.le_refl _, Nat.le_refl _⟩) hP hD hS hA (by decide +kernel) rfl hC rfl rfl (fun H locs hP hD hS => ?_)
    refine lv_iconst (v := Int32.ofInt (-1)) hx hb dX10_carry_34 rfl ?_
    refine xi_icmp_ne (tgt := 45) hx hb dX10_carry_35 (by decide) hf (fun hf => ?_) (fun hf => ?_)
    · refine lv_aload_n hx hb dX10_carry_45 rfl (lv_at hl 0 rfl) ?_
      refine va_get (D := (dC, dI)) (ci := 10) (v := .ref q1) (C := RX10) (T := TX10) (N := 16) hx hb hz zi_X10 hown hK hP 0 rfl rfl 0 (by decide) (hz _ zw_477) (fun _ h9 => h9) rfl dX10_carry_46 ?_
      refine va_getN (D := (dC, dI)) (ci := 2) (v := .ref q13) (C := RX2) (T := TX2) (N := 14) hx hb hz zi_X2 hown hK hP 1 rfl rfl 0 (by decide) (va_Nw.use rfl (hE.1.1 _ zw_169)) (fun _ h9 => h9) rfl dX10_carry_49 ?_
      refine lv_iload_n hx hb dX10_carry_52 rfl (lv_at hl 2 rfl) ?_
      refine xe_d1 hf (fun v8 hg hf => ?_)
      have hC : ([4, 12, 13] : List Nat).map (fun i => (wd_HS_carry cA q0 q1 q2 q3 q4 q5 q6 q7 q8 q9 q10 q11 q12 q13 q14 q15 q16 q17 q18 q19 q20 q21 q22 q23 q24 q25 u0 u1 u2 u3 i_hill_children i_hill_laws i_hill_inForce i_hill_columns_many i_hill_strengths i_hill_expelled i_hill_terms i_hill_orders i_hill_ordered i_latestStatus i_hill_changes i_refusals v3 v4 v5 a6 a7 i_hill_columns_heights i_hill_columns_weights)[i]?) = (wd_Columns_top cA q13 q24 q25 i_hill_columns_many i_hill_columns_heights i_hill_columns_weights).map some := rfl
      refine xv_afterI (ws' := (wd_HS_carry cA q0 q1 q2 q3 q4 q5 q6 q7 q8 q9 q10 q11 q12 q13 q14 q15 q16 q17 q18 q19 q20 q21 q22 q23 q24 q25 u0 u1 u2 u3 i_hill_children i_hill_laws i_hill_inForce i_hill_columns_many i_hill_strengths i_hill_expelled i_hill_terms i_hill_orders i_hill_ordered i_latestStatus i_hill_changes i_refusals v3 v4 v5 a6 a7 i_hill_columns_heights i_hill_columns_weights)) (isC := [4, 12, 13]) (ps := [none, none, none, none, some 0, none, none, none, none, none, none, none, some 1, some 2]) (va_runV (As := [.int (Int32.ofInt x2)]) (rest := []) ⟨hx, hb, hml, hown, hts⟩ (c_Columns_top l ev dC dI cA q13 q24 q25 hg H.size) (cwV 1 hts (zgV zw_849 zw_568 zw_569 zw_106 zw_570) rfl rfl rfl hd_Columns_top ⟨Nat.le_of_ble_eq_true rfl, Nat.le_of_ble_eq_true rfl⟩) (xv_preV (T := TX1) (N := 3) hE hA hS hK hP hD (isC := [4, 12, 13]) (by decide +kernel) hC (q0 := 4) (ci := 1) rfl rfl) rfl rfl hl.1 rfl (lv_room (Nat.le_of_ble_eq_true rfl)) dX10_carry_53 ⟨Nat.le_refl _, Nat.le_refl _⟩) hP hD hS hA (by decide +kernel) rfl hC rfl rfl (fun H locs hP hD hS => ?_)
      refine lv_istore (lv' := [(4, .int (Int32.ofInt v8)), (0, .ref q0), (1, .int (Int32.ofInt x1)), (2, .int (Int32.ofInt x2)), (3, .int (Int32.ofInt x3))]) hx hb dX10_carry_56 hl (by decide) rfl (fun ls hl => ?_)
      refine lv_aload_n hx hb dX10_carry_58 rfl (lv_at hl 1 rfl) ?_
      refine va_get (D := (dC, dI)) (ci := 10) (v := .ref q1) (C := RX10) (T := TX10) (N := 16) hx hb hz zi_X10 hown hK hP 0 rfl rfl 0 (by decide) (hz _ zw_477) (fun _ h9 => h9) rfl dX10_carry_59 ?_
      refine va_getN (D := (dC, dI)) (ci := 2) (v := .ref q13) (C := RX2) (T := TX2) (N := 14) hx hb hz zi_X2 hown hK hP 1 rfl rfl 0 (by decide) (va_Nw.use rfl (hE.1.1 _ zw_169)) (fun _ h9 => h9) rfl dX10_carry_62 ?_
      refine lv_iload_n hx hb dX10_carry_65 rfl (lv_at hl 3 rfl) ?_
      refine lv_iload_n hx hb dX10_carry_66 rfl (lv_at hl 4 rfl) ?_
      refine xe_d2 hf (fun a9 a10 hg hf => ?_)
      have hC : ([4, 12, 13] : List Nat).map (fun i => (wd_HS_carry cA q0 q1 q2 q3 q4 q5 q6 q7 q8 q9 q10 q11 q12 q13 q14 q15 q16 q17 q18 q19 q20 q21 q22 q23 q24 q25 u0 u1 u2 u3 i_hill_children i_hill_laws i_hill_inForce i_hill_columns_many i_hill_strengths i_hill_expelled i_hill_terms i_hill_orders i_hill_ordered i_latestStatus i_hill_changes i_refusals v3 v4 v5 a6 a7 i_hill_columns_heights i_hill_columns_weights)[i]?) = (wd_Columns_move cA q13 q24 q25 i_hill_columns_many i_hill_columns_heights i_hill_columns_weights).map some := rfl
      refine xv_afterV (ws' := (wd_HS_carry cA q0 q1 q2 q3 q4 q5 q6 q7 q8 q9 q10 q11 q12 q13 q14 q15 q16 q17 q18 q19 q20 q21 q22 q23 q24 q25 u0 u1 u2 u3 i_hill_children i_hill_laws i_hill_inForce i_hill_columns_many i_hill_strengths i_hill_expelled i_hill_terms i_hill_orders i_hill_ordered i_latestStatus i_hill_changes i_refusals v3 v4 v5 a6 a7 a9 a10)) (isC := [4, 12, 13]) (ps := [none, none, none, none, some 0, none, none, none, none, none, none, none, some 1, some 2]) (va_runV (As := [.int (Int32.ofInt x2), .int (Int32.ofInt x3)]) (rest := []) ⟨hx, hb, hml, hown, hts⟩ (c_Columns_move l ev dC dI cA q13 q24 q25 hg H.size) (cwV 2 hts (zgV zw_850 zw_851 zw_852 zw_106 zw_853) rfl rfl rfl hd_Columns_move ⟨Nat.le_of_ble_eq_true rfl, Nat.le_of_ble_eq_true rfl⟩) (xv_preV (T := TX1) (N := 3) hE hA hS hK hP hD (isC := [4, 12, 13]) (by decide +kernel) hC (q0 := 4) (ci := 1) rfl rfl) rfl rfl hl.1 rfl (lv_room (Nat.le_of_ble_eq_true rfl)) dX10_carry_67 ⟨Nat.le_refl _, Nat.le_refl _⟩) hP hD hS hA (by decide +kernel) rfl hC rfl rfl (fun H locs hP hD hS => ?_)
      refine lv_aload_n hx hb dX10_carry_70 rfl (lv_at hl 1 rfl) ?_
      refine lv_iload hx hb dX10_carry_71 (lv_at hl 0 rfl) ?_
      refine xe_d3 hf (fun v11 v12 v13 hg hf => ?_)
      have hC : ([0, 1] : List Nat).map (fun i => (wd_HS_carry cA q0 q1 q2 q3 q4 q5 q6 q7 q8 q9 q10 q11 q12 q13 q14 q15 q16 q17 q18 q19 q20 q21 q22 q23 q24 q25 u0 u1 u2 u3 i_hill_children i_hill_laws i_hill_inForce i_hill_columns_many i_hill_strengths i_hill_expelled i_hill_terms i_hill_orders i_hill_ordered i_latestStatus i_hill_changes i_refusals v3 v4 v5 a6 a7 a9 a10)[i]?) = (wd_HS_accept cA q0 q1 q2 q3 q4 q5 q6 q7 q8 q9 q10 q11 q12 q13 q14 q15 q16 q17 q18 q19 q20 q21 u0 u1 u2 i_hill_children u3 i_hill_laws i_hill_inForce i_latestStatus i_hill_changes).map some := rfl
      refine xv_afterI (ws' := (wd_HS_carry cA q0 q1 q2 q3 q4 q5 q6 q7 q8 q9 q10 q11 q12 q13 q14 q15 q16 q17 q18 q19 q20 q21 q22 q23 q24 q25 u0 u1 u2 u3 i_hill_children i_hill_laws i_hill_inForce i_hill_columns_many i_hill_strengths i_hill_expelled i_hill_terms i_hill_orders i_hill_ordered v12 v13 i_refusals v3 v4 v5 a6 a7 a9 a10)) (isC := [0, 1]) (ps := [some 0, some 1, none, none, none, none, none, none, none, none, none, none, none, none]) (va_runV (As := [.int (Int32.ofInt v8)]) (rest := []) ⟨hx, hb, hml, hown, hts⟩ (c_HS_accept l ev dC dI cA q0 q1 q2 q3 q4 q5 q6 q7 q8 q9 q10 q11 q12 q13 q14 q15 q16 q17 q18 q19 q20 q21 u0 u1 u2 i_hill_children u3 i_hill_laws i_hill_inForce hg H.size) (cwV 1 hts (zgV zw_538 zw_540 zw_1 zw_104 zw_541) rfl rfl rfl hd_HS_accept ⟨Nat.le_of_ble_eq_true rfl, Nat.le_of_ble_eq_true rfl⟩) (xv_preV (T := TX10) (N := 16) hE hA hS hK hP hD (isC := [0, 1]) (by decide +kernel) hC (q0 := 0) (ci := 10) rfl rfl) rfl rfl hl.1 rfl (lv_room (Nat.le_of_ble_eq_true rfl)) dX10_carry_73 ⟨Nat.le_refl _, Nat.le_refl _⟩) hP hD hS hA (by decide +kernel) rfl hC rfl rfl (fun H locs hP hD hS => ?_)
      obtain rfl := Option.some.inj hf
      exact hret _ _ _ _ rfl dX10_carry_76 hP hD hS
    · refine lv_aload_n hx hb dX10_carry_38 rfl (lv_at hl 0 rfl) ?_
      refine lv_bipush (v := Int32.ofInt (-3)) hx hb dX10_carry_39 (by decide) ?_
      refine xe_d3 hf (fun v14 v15 a16 hg hf => ?_)
      have hC : ([0, 2] : List Nat).map (fun i => (wd_HS_carry cA q0 q1 q2 q3 q4 q5 q6 q7 q8 q9 q10 q11 q12 q13 q14 q15 q16 q17 q18 q19 q20 q21 q22 q23 q24 q25 u0 u1 u2 u3 i_hill_children i_hill_laws i_hill_inForce i_hill_columns_many i_hill_strengths i_hill_expelled i_hill_terms i_hill_orders i_hill_ordered i_latestStatus i_hill_changes i_refusals v3 v4 v5 a6 a7 i_hill_columns_heights i_hill_columns_weights)[i]?) = (wd_HS_refuse cA q0 q1 q2 q3 q4 q5 q6 q7 q8 q9 q10 q11 q12 u0 u1 u2 i_latestStatus i_refusals).map some := rfl
      refine xv_afterI (ws' := (wd_HS_carry cA q0 q1 q2 q3 q4 q5 q6 q7 q8 q9 q10 q11 q12 q13 q14 q15 q16 q17 q18 q19 q20 q21 q22 q23 q24 q25 u0 u1 u2 u3 i_hill_children i_hill_laws i_hill_inForce i_hill_columns_many i_hill_strengths i_hill_expelled i_hill_terms i_hill_orders i_hill_ordered v15 i_hill_changes a16 v3 v4 v5 a6 a7 i_hill_columns_heights i_hill_columns_weights)) (isC := [0, 2]) (ps := [some 0, none, some 1, none, none, none, none, none, none, none, none, none, none, none]) (va_runV (As := [.int (Int32.ofInt (-3))]) (rest := []) ⟨hx, hb, hml, hown, hts⟩ (c_HS_refuse l ev dC dI cA q0 q1 q2 q3 q4 q5 q6 q7 q8 q9 q10 q11 q12 u0 u1 u2 hg H.size) (cwV 1 hts (zgV zw_534 zw_536 zw_0 zw_104 zw_537) rfl rfl rfl hd_HS_refuse ⟨Nat.le_of_ble_eq_true rfl, Nat.le_of_ble_eq_true rfl⟩) (xv_preV (T := TX10) (N := 16) hE hA hS hK hP hD (isC := [0, 2]) (by decide +kernel) hC (q0 := 0) (ci := 10) rfl rfl) rfl rfl hl.1 rfl (lv_room (Nat.le_of_ble_eq_true rfl)) dX10_carry_41 ⟨Nat.le_refl _, Nat.le_refl _⟩) hP hD hS hA (by decide +kernel) rfl hC rfl rfl (fun H locs hP hD hS => ?_)
      obtain rfl := Option.some.inj hf
      exact hret _ _ _ _ rfl dX10_carry_44 hP hD hS
  · refine lv_aload_n hx hb dX10_carry_10 rfl (lv_at hl 0 rfl) ?_
    refine lv_bipush (v := Int32.ofInt (-2)) hx hb dX10_carry_11 (by decide) ?_
    refine xe_d3 hf (fun v17 v18 a19 hg hf => ?_)
    have hC : ([0, 2] : List Nat).map (fun i => (wd_HS_carry cA q0 q1 q2 q3 q4 q5 q6 q7 q8 q9 q10 q11 q12 q13 q14 q15 q16 q17 q18 q19 q20 q21 q22 q23 q24 q25 u0 u1 u2 u3 i_hill_children i_hill_laws i_hill_inForce i_hill_columns_many i_hill_strengths i_hill_expelled i_hill_terms i_hill_orders i_hill_ordered i_latestStatus i_hill_changes i_refusals i_judge_piled i_judge_tiring i_judge_barred i_judge_words i_judge_pile i_hill_columns_heights i_hill_columns_weights)[i]?) = (wd_HS_refuse cA q0 q1 q2 q3 q4 q5 q6 q7 q8 q9 q10 q11 q12 u0 u1 u2 i_latestStatus i_refusals).map some := rfl
    refine xv_afterI (ws' := (wd_HS_carry cA q0 q1 q2 q3 q4 q5 q6 q7 q8 q9 q10 q11 q12 q13 q14 q15 q16 q17 q18 q19 q20 q21 q22 q23 q24 q25 u0 u1 u2 u3 i_hill_children i_hill_laws i_hill_inForce i_hill_columns_many i_hill_strengths i_hill_expelled i_hill_terms i_hill_orders i_hill_ordered v18 i_hill_changes a19 i_judge_piled i_judge_tiring i_judge_barred i_judge_words i_judge_pile i_hill_columns_heights i_hill_columns_weights)) (isC := [0, 2]) (ps := [some 0, none, some 1, none, none, none, none, none, none, none, none, none, none, none]) (va_runV (As := [.int (Int32.ofInt (-2))]) (rest := []) ⟨hx, hb, hml, hown, hts⟩ (c_HS_refuse l ev dC dI cA q0 q1 q2 q3 q4 q5 q6 q7 q8 q9 q10 q11 q12 u0 u1 u2 hg H.size) (cwV 1 hts (zgV zw_534 zw_536 zw_0 zw_104 zw_537) rfl rfl rfl hd_HS_refuse ⟨Nat.le_of_ble_eq_true rfl, Nat.le_of_ble_eq_true rfl⟩) (xv_preV (T := TX10) (N := 16) hE hA hS hK hP hD (isC := [0, 2]) (by decide +kernel) hC (q0 := 0) (ci := 10) rfl rfl) rfl rfl hl.1 rfl (lv_room (Nat.le_of_ble_eq_true rfl)) dX10_carry_13 ⟨Nat.le_refl _, Nat.le_refl _⟩) hP hD hS hA (by decide +kernel) rfl hC rfl rfl (fun H locs hP hD hS => ?_)
    obtain rfl := Option.some.inj hf
    exact hret _ _ _ _ rfl dX10_carry_16 hP hD hS
theorem dX10_exchange_0 : decode cX10_exchange 0 = .ok (.aload_n 0, 1) := by decide +kernel
theorem dX10_exchange_1 : decode cX10_exchange 1 = .ok (.iload_n 1, 1) := by decide +kernel
theorem dX10_exchange_2 : decode cX10_exchange 2 = .ok (.iload_n 2, 1) := by decide +kernel
theorem dX10_exchange_3 : decode cX10_exchange 3 = .ok (.iload_n 3, 1) := by decide +kernel
theorem dX10_exchange_4 : decode cX10_exchange 4 = .ok (.invokevirtual 197, 3) := by decide +kernel
theorem dX10_exchange_7 : decode cX10_exchange 7 = .ok (.ifCond .eq 18, 3) := by decide +kernel
theorem dX10_exchange_10 : decode cX10_exchange 10 = .ok (.aload_n 0, 1) := by decide +kernel
theorem dX10_exchange_11 : decode cX10_exchange 11 = .ok (.getfield 10, 3) := by decide +kernel
theorem dX10_exchange_14 : decode cX10_exchange 14 = .ok (.getfield 99, 3) := by decide +kernel
theorem dX10_exchange_17 : decode cX10_exchange 17 = .ok (.iload 4, 2) := by decide +kernel
theorem dX10_exchange_19 : decode cX10_exchange 19 = .ok (.invokevirtual 122, 3) := by decide +kernel
theorem dX10_exchange_22 : decode cX10_exchange 22 = .ok (.ifCond .ne 10, 3) := by decide +kernel
theorem dX10_exchange_25 : decode cX10_exchange 25 = .ok (.aload_n 0, 1) := by decide +kernel
theorem dX10_exchange_26 : decode cX10_exchange 26 = .ok (.bipush (-2), 2) := by decide +kernel
theorem dX10_exchange_28 : decode cX10_exchange 28 = .ok (.invokevirtual 109, 3) := by decide +kernel
theorem dX10_exchange_31 : decode cX10_exchange 31 = .ok (.ireturn, 1) := by decide +kernel
theorem dX10_exchange_32 : decode cX10_exchange 32 = .ok (.aload_n 0, 1) := by decide +kernel
theorem dX10_exchange_33 : decode cX10_exchange 33 = .ok (.getfield 56, 3) := by decide +kernel
theorem dX10_exchange_36 : decode cX10_exchange 36 = .ok (.aload_n 0, 1) := by decide +kernel
theorem dX10_exchange_37 : decode cX10_exchange 37 = .ok (.getfield 10, 3) := by decide +kernel
theorem dX10_exchange_40 : decode cX10_exchange 40 = .ok (.getfield 99, 3) := by decide +kernel
theorem dX10_exchange_43 : decode cX10_exchange 43 = .ok (.iload_n 1, 1) := by decide +kernel
theorem dX10_exchange_44 : decode cX10_exchange 44 = .ok (.iload_n 2, 1) := by decide +kernel
theorem dX10_exchange_45 : decode cX10_exchange 45 = .ok (.iload_n 3, 1) := by decide +kernel
theorem dX10_exchange_46 : decode cX10_exchange 46 = .ok (.invokevirtual 201, 3) := by decide +kernel
theorem dX10_exchange_49 : decode cX10_exchange 49 = .ok (.iconst (-1), 1) := by decide +kernel
theorem dX10_exchange_50 : decode cX10_exchange 50 = .ok (.if_icmp .ne 10, 3) := by decide +kernel
theorem dX10_exchange_53 : decode cX10_exchange 53 = .ok (.aload_n 0, 1) := by decide +kernel
theorem dX10_exchange_54 : decode cX10_exchange 54 = .ok (.bipush (-3), 2) := by decide +kernel
theorem dX10_exchange_56 : decode cX10_exchange 56 = .ok (.invokevirtual 109, 3) := by decide +kernel
theorem dX10_exchange_59 : decode cX10_exchange 59 = .ok (.ireturn, 1) := by decide +kernel
theorem dX10_exchange_60 : decode cX10_exchange 60 = .ok (.aload_n 0, 1) := by decide +kernel
theorem dX10_exchange_61 : decode cX10_exchange 61 = .ok (.getfield 10, 3) := by decide +kernel
theorem dX10_exchange_64 : decode cX10_exchange 64 = .ok (.getfield 99, 3) := by decide +kernel
theorem dX10_exchange_67 : decode cX10_exchange 67 = .ok (.iload_n 2, 1) := by decide +kernel
theorem dX10_exchange_68 : decode cX10_exchange 68 = .ok (.invokevirtual 205, 3) := by decide +kernel
theorem dX10_exchange_71 : decode cX10_exchange 71 = .ok (.istore 5, 2) := by decide +kernel
theorem dX10_exchange_73 : decode cX10_exchange 73 = .ok (.aload_n 0, 1) := by decide +kernel
theorem dX10_exchange_74 : decode cX10_exchange 74 = .ok (.getfield 10, 3) := by decide +kernel
theorem dX10_exchange_77 : decode cX10_exchange 77 = .ok (.getfield 99, 3) := by decide +kernel
theorem dX10_exchange_80 : decode cX10_exchange 80 = .ok (.iload_n 2, 1) := by decide +kernel
theorem dX10_exchange_81 : decode cX10_exchange 81 = .ok (.iload_n 3, 1) := by decide +kernel
theorem dX10_exchange_82 : decode cX10_exchange 82 = .ok (.invokevirtual 208, 3) := by decide +kernel
theorem dX10_exchange_85 : decode cX10_exchange 85 = .ok (.iload 5, 2) := by decide +kernel
theorem dX10_exchange_87 : decode cX10_exchange 87 = .ok (.aload_n 0, 1) := by decide +kernel
theorem dX10_exchange_88 : decode cX10_exchange 88 = .ok (.getfield 10, 3) := by decide +kernel
theorem dX10_exchange_91 : decode cX10_exchange 91 = .ok (.getfield 99, 3) := by decide +kernel
theorem dX10_exchange_94 : decode cX10_exchange 94 = .ok (.iload 4, 2) := by decide +kernel
theorem dX10_exchange_96 : decode cX10_exchange 96 = .ok (.invokevirtual 205, 3) := by decide +kernel
theorem dX10_exchange_99 : decode cX10_exchange 99 = .ok (.isub, 1) := by decide +kernel
theorem dX10_exchange_100 : decode cX10_exchange 100 = .ok (.invokestatic 212, 3) := by decide +kernel
theorem dX10_exchange_103 : decode cX10_exchange 103 = .ok (.istore 6, 2) := by decide +kernel
theorem dX10_exchange_105 : decode cX10_exchange 105 = .ok (.aload_n 0, 1) := by decide +kernel
theorem dX10_exchange_106 : decode cX10_exchange 106 = .ok (.getfield 56, 3) := by decide +kernel
theorem dX10_exchange_109 : decode cX10_exchange 109 = .ok (.aload_n 0, 1) := by decide +kernel
theorem dX10_exchange_110 : decode cX10_exchange 110 = .ok (.getfield 10, 3) := by decide +kernel
theorem dX10_exchange_113 : decode cX10_exchange 113 = .ok (.getfield 99, 3) := by decide +kernel
theorem dX10_exchange_116 : decode cX10_exchange 116 = .ok (.iload_n 1, 1) := by decide +kernel
theorem dX10_exchange_117 : decode cX10_exchange 117 = .ok (.iload 4, 2) := by decide +kernel
theorem dX10_exchange_119 : decode cX10_exchange 119 = .ok (.iload_n 2, 1) := by decide +kernel
theorem dX10_exchange_120 : decode cX10_exchange 120 = .ok (.invokevirtual 201, 3) := by decide +kernel
theorem dX10_exchange_123 : decode cX10_exchange 123 = .ok (.iconst (-1), 1) := by decide +kernel
theorem dX10_exchange_124 : decode cX10_exchange 124 = .ok (.if_icmp .eq 17, 3) := by decide +kernel
theorem dX10_exchange_127 : decode cX10_exchange 127 = .ok (.iload 6, 2) := by decide +kernel
theorem dX10_exchange_129 : decode cX10_exchange 129 = .ok (.aload_n 0, 1) := by decide +kernel
theorem dX10_exchange_130 : decode cX10_exchange 130 = .ok (.getfield 10, 3) := by decide +kernel
theorem dX10_exchange_133 : decode cX10_exchange 133 = .ok (.getfield 176, 3) := by decide +kernel
theorem dX10_exchange_136 : decode cX10_exchange 136 = .ok (.iconst 3, 1) := by decide +kernel
theorem dX10_exchange_137 : decode cX10_exchange 137 = .ok (.iaload, 1) := by decide +kernel
theorem dX10_exchange_138 : decode cX10_exchange 138 = .ok (.if_icmp .ge 22, 3) := by decide +kernel
theorem dX10_exchange_141 : decode cX10_exchange 141 = .ok (.aload_n 0, 1) := by decide +kernel
theorem dX10_exchange_142 : decode cX10_exchange 142 = .ok (.getfield 10, 3) := by decide +kernel
theorem dX10_exchange_145 : decode cX10_exchange 145 = .ok (.getfield 99, 3) := by decide +kernel
theorem dX10_exchange_148 : decode cX10_exchange 148 = .ok (.iload_n 3, 1) := by decide +kernel
theorem dX10_exchange_149 : decode cX10_exchange 149 = .ok (.iload_n 2, 1) := by decide +kernel
theorem dX10_exchange_150 : decode cX10_exchange 150 = .ok (.invokevirtual 208, 3) := by decide +kernel
theorem dX10_exchange_153 : decode cX10_exchange 153 = .ok (.aload_n 0, 1) := by decide +kernel
theorem dX10_exchange_154 : decode cX10_exchange 154 = .ok (.bipush (-3), 2) := by decide +kernel
theorem dX10_exchange_156 : decode cX10_exchange 156 = .ok (.invokevirtual 109, 3) := by decide +kernel
theorem dX10_exchange_159 : decode cX10_exchange 159 = .ok (.ireturn, 1) := by decide +kernel
theorem dX10_exchange_160 : decode cX10_exchange 160 = .ok (.aload_n 0, 1) := by decide +kernel
theorem dX10_exchange_161 : decode cX10_exchange 161 = .ok (.getfield 10, 3) := by decide +kernel
theorem dX10_exchange_164 : decode cX10_exchange 164 = .ok (.getfield 99, 3) := by decide +kernel
theorem dX10_exchange_167 : decode cX10_exchange 167 = .ok (.iload 4, 2) := by decide +kernel
theorem dX10_exchange_169 : decode cX10_exchange 169 = .ok (.iload_n 2, 1) := by decide +kernel
theorem dX10_exchange_170 : decode cX10_exchange 170 = .ok (.invokevirtual 208, 3) := by decide +kernel
theorem dX10_exchange_173 : decode cX10_exchange 173 = .ok (.aload_n 0, 1) := by decide +kernel
theorem dX10_exchange_174 : decode cX10_exchange 174 = .ok (.iload 6, 2) := by decide +kernel
theorem dX10_exchange_176 : decode cX10_exchange 176 = .ok (.invokevirtual 119, 3) := by decide +kernel
theorem dX10_exchange_179 : decode cX10_exchange 179 = .ok (.ireturn, 1) := by decide +kernel
theorem zw_858 : (Jvm.Cond.code ({ cls := "HillSchool", name := "exchange", desc := "(IIII)I" } : Jvm.MethodName) prog_1_method_22_code (7 : Nat) (Option.some Jvm.ClassFile.FieldType.int)) ∈ zall := zmemG (zmj_4 35 rfl) rfl
theorem zw_859 : (Jvm.Cond.methodLink "HillSchool" (212 : Nat) ({ cls := "java/lang/Math", name := "abs", desc := "(I)I" } : Jvm.MethodName)) ∈ zall := zmemG (zmj_4 36 rfl) rfl
abbrev w_HS_exchange : List Cond := .code yX10_exchange cX10_exchange 7 (some .int) :: zall
abbrev rm_HS_exchange : Room := { frames := 5, cells := 0, slots := 0, locals := 138 }
theorem hd_HS_exchange : yX10_exchange.cls = "HillSchool" ∧ yX10_exchange.cls ≠ "java/lang/invoke/MethodHandle" ∧ yX10_exchange.cls ≠ "java/lang/invoke/VarHandle" ∧ (parseMethodDescriptor yX10_exchange.desc).map (fun d => d.parameters.length) = some 4 := by decide +kernel
def wd_HS_exchange (cA : Nat → ClassId) (q0 q1 q2 q3 q4 q5 q6 q7 q8 q9 q10 q11 q12 q13 q14 q15 q16 q17 q18 q19 q20 q21 q22 q23 q24 q25 : Nat) (u0 u1 u2 u3 : Int) (i_hill_children : Int) (i_hill_laws : Int) (i_hill_inForce : Int) (i_hill_columns_many : Int) (i_hill_strengths : Nat → Int) (i_hill_expelled : Nat → Int) (i_hill_terms : Nat → Int) (i_hill_orders : Nat → Int) (i_hill_ordered : Nat → Int) (i_latestStatus : Int) (i_hill_changes : Int) (i_refusals : Nat → Int) (i_judge_piled : Int) (i_judge_tiring : Int) (i_judge_barred : Int) (i_judge_words : Nat → Int) (i_judge_pile : Nat → Int) (i_hill_columns_heights : Nat → Int) (i_hill_columns_weights : Nat → Int) : va_W := [(q0, .inr (10, [.ref q1, .ref q2, .ref q3, .ref q4, .int (Int32.ofInt u0), .int (Int32.ofInt u1), .int (Int32.ofInt u2), .ref q5, .int (Int32.ofInt i_latestStatus), .ref q6, .ref q7, .ref q8, .ref q9, .ref q10, .ref q11, .ref q12])), (q1, .inr (2, [.ref q13, .int (Int32.ofInt i_hill_children), .ref q14, .ref q15, .ref q16, .int (Int32.ofInt u3), .ref q17, .ref q18, .ref q19, .int (Int32.ofInt i_hill_laws), .ref q20, .ref q21, .int (Int32.ofInt i_hill_inForce), .int (Int32.ofInt i_hill_changes)])), (q5, .inl (cA 0, 7, .inl (za i_refusals))), (q7, .inr (3, [.ref q1, .ref q22, .ref q23, .int (Int32.ofInt i_judge_piled), .int (Int32.ofInt i_judge_tiring), .int (Int32.ofInt i_judge_barred)])), (q13, .inr (1, [.int (Int32.ofInt i_hill_columns_many), .ref q24, .ref q25])), (q14, .inl (cA 0, 6, .inl (za i_hill_strengths))), (q15, .inl (cA 0, 6, .inl (za i_hill_expelled))), (q18, .inl (cA 0, 4, .inl (za i_hill_terms))), (q20, .inl (cA 0, 2544, .inl (za i_hill_orders))), (q21, .inl (cA 0, 6, .inl (za i_hill_ordered))), (q22, .inl (cA 0, 8, .inl (za i_judge_words))), (q23, .inl (cA 0, 32, .inl (za i_judge_pile))), (q24, .inl (cA 0, 12, .inl (za i_hill_columns_heights))), (q25, .inl (cA 0, 120, .inl (za i_hill_columns_weights)))]
def wf_HS_exchange (cA : Nat → ClassId) (q0 q1 q2 q3 q4 q5 q6 q7 q8 q9 q10 q11 q12 q13 q14 q15 q16 q17 q18 q19 q20 q21 q22 q23 q24 q25 : Nat) (u0 u1 u2 u3 : Int) (i_hill_children : Int) (i_hill_laws : Int) (i_hill_inForce : Int) (i_hill_columns_many : Int) (i_hill_strengths : Nat → Int) (i_hill_expelled : Nat → Int) (i_hill_terms : Nat → Int) (i_hill_orders : Nat → Int) (i_hill_ordered : Nat → Int) (o : Int × Int × Int × (Nat → Int) × Int × Int × Int × (Nat → Int) × (Nat → Int) × (Nat → Int) × (Nat → Int)) : va_W := wd_HS_exchange cA q0 q1 q2 q3 q4 q5 q6 q7 q8 q9 q10 q11 q12 q13 q14 q15 q16 q17 q18 q19 q20 q21 q22 q23 q24 q25 u0 u1 u2 u3 i_hill_children i_hill_laws i_hill_inForce i_hill_columns_many i_hill_strengths i_hill_expelled i_hill_terms i_hill_orders i_hill_ordered o.2.1 o.2.2.1 o.2.2.2.1 o.2.2.2.2.1 o.2.2.2.2.2.1 o.2.2.2.2.2.2.1 o.2.2.2.2.2.2.2.1 o.2.2.2.2.2.2.2.2.1 o.2.2.2.2.2.2.2.2.2.1 o.2.2.2.2.2.2.2.2.2.2
def f_HS_exchange_25 (i_hill_children : Int) (i_hill_laws : Int) (i_hill_inForce : Int) (i_hill_columns_many : Int) (i_hill_strengths : Nat → Int) (i_hill_expelled : Nat → Int) (i_hill_terms : Nat → Int) (i_hill_orders : Nat → Int) (i_hill_ordered : Nat → Int) (i_latestStatus : Int) (i_hill_changes : Int) (i_refusals : Nat → Int) (i_judge_piled : Int) (i_judge_tiring : Int) (i_judge_barred : Int) (i_judge_words : Nat → Int) (i_judge_pile : Nat → Int) (i_hill_columns_heights : Nat → Int) (i_hill_columns_weights : Nat → Int) : Option (Int × Int × Int × (Nat → Int) × Int × Int × Int × (Nat → Int) × (Nat → Int) × (Nat → Int) × (Nat → Int)) :=
  zd3 (f_HS_refuse (-2) i_latestStatus i_refusals) fun v1 v2 a3 =>
  some (v1, v2, i_hill_changes, a3, i_judge_piled, i_judge_tiring, i_judge_barred, i_judge_words, i_judge_pile, i_hill_columns_heights, i_hill_columns_weights)
def f_HS_exchange_141 (i_hill_children : Int) (i_hill_laws : Int) (i_hill_inForce : Int) (i_hill_columns_many : Int) (i_hill_strengths : Nat → Int) (i_hill_expelled : Nat → Int) (i_hill_terms : Nat → Int) (i_hill_orders : Nat → Int) (i_hill_ordered : Nat → Int) (x2 : Int) (x3 : Int) (i_latestStatus : Int) (i_hill_changes : Int) (i_refusals : Nat → Int) (i_judge_piled : Int) (i_judge_tiring : Int) (i_judge_barred : Int) (i_judge_words : Nat → Int) (i_judge_pile : Nat → Int) (i_hill_columns_heights : Nat → Int) (i_hill_columns_weights : Nat → Int) : Option (Int × Int × Int × (Nat → Int) × Int × Int × Int × (Nat → Int) × (Nat → Int) × (Nat → Int) × (Nat → Int)) :=
  zd2 (f_Columns_move x3 x2 i_hill_columns_many i_hill_columns_heights i_hill_columns_weights) fun a1 a2 =>
  zd3 (f_HS_refuse (-3) i_latestStatus i_refusals) fun v3 v4 a5 =>
  some (v3, v4, i_hill_changes, a5, i_judge_piled, i_judge_tiring, i_judge_barred, i_judge_words, i_judge_pile, a1, a2)
def f_HS_exchange (x1 : Int) (x2 : Int) (x3 : Int) (x4 : Int) (i_hill_children : Int) (i_hill_laws : Int) (i_hill_inForce : Int) (i_hill_columns_many : Int) (i_hill_strengths : Nat → Int) (i_hill_expelled : Nat → Int) (i_hill_terms : Nat → Int) (i_hill_orders : Nat → Int) (i_hill_ordered : Nat → Int) (i_latestStatus : Int) (i_hill_changes : Int) (i_refusals : Nat → Int) (i_judge_piled : Int) (i_judge_tiring : Int) (i_judge_barred : Int) (i_judge_words : Nat → Int) (i_judge_pile : Nat → Int) (i_hill_columns_heights : Nat → Int) (i_hill_columns_weights : Nat → Int) : Option (Int × Int × Int × (Nat → Int) × Int × Int × Int × (Nat → Int) × (Nat → Int) × (Nat → Int) × (Nat → Int)) :=
  zd1 (f_HS_knows x1 x2 x3 i_hill_children i_hill_columns_many) fun v1 =>
  if zi_w v1 = 0 then
    f_HS_exchange_25 i_hill_children i_hill_laws i_hill_inForce i_hill_columns_many i_hill_strengths i_hill_expelled i_hill_terms i_hill_orders i_hill_ordered i_latestStatus i_hill_changes i_refusals i_judge_piled i_judge_tiring i_judge_barred i_judge_words i_judge_pile i_hill_columns_heights i_hill_columns_weights
  else
    zd1 (f_Columns_has x4 i_hill_columns_many) fun v2 =>
    if zi_w v2 ≠ 0 then
      zd6 (f_Judge_effortOn x1 x2 x3 i_hill_columns_many i_hill_children i_hill_laws i_hill_inForce i_hill_columns_heights i_hill_columns_weights i_hill_strengths i_hill_expelled i_hill_terms i_hill_orders i_hill_ordered i_judge_piled i_judge_tiring i_judge_barred i_judge_words i_judge_pile) fun v3 v4 v5 v6 a7 a8 =>
      if zi_w v3 ≠ zi_w (-1) then
        zd1 (f_Columns_top x2 i_hill_columns_many i_hill_columns_heights i_hill_columns_weights) fun v9 =>
        zd2 (f_Columns_move x2 x3 i_hill_columns_many i_hill_columns_heights i_hill_columns_weights) fun a10 a11 =>
        zd1 (f_Columns_top x4 i_hill_columns_many a10 a11) fun v12 =>
        zn (v9 - v12) fun v13 =>
        zn (zi_abs v13) fun v14 =>
        zd6 (f_Judge_effortOn x1 x4 x2 i_hill_columns_many i_hill_children i_hill_laws i_hill_inForce a10 a11 i_hill_strengths i_hill_expelled i_hill_terms i_hill_orders i_hill_ordered v4 v5 v6 a7 a8) fun v15 v16 v17 v18 a19 a20 =>
        if zi_w v15 = zi_w (-1) then
          f_HS_exchange_141 i_hill_children i_hill_laws i_hill_inForce i_hill_columns_many i_hill_strengths i_hill_expelled i_hill_terms i_hill_orders i_hill_ordered x2 x3 i_latestStatus i_hill_changes i_refusals v16 v17 v18 a19 a20 a10 a11
        else
          zg 4 i_hill_terms 3 fun v21 =>
          if zi_w v21 ≤ zi_w v14 then
            zd2 (f_Columns_move x4 x2 i_hill_columns_many a10 a11) fun a22 a23 =>
            zd3 (f_HS_accept v14 i_latestStatus i_hill_changes) fun v24 v25 v26 =>
            some (v24, v25, v26, i_refusals, v16, v17, v18, a19, a20, a22, a23)
          else
            f_HS_exchange_141 i_hill_children i_hill_laws i_hill_inForce i_hill_columns_many i_hill_strengths i_hill_expelled i_hill_terms i_hill_orders i_hill_ordered x2 x3 i_latestStatus i_hill_changes i_refusals v16 v17 v18 a19 a20 a10 a11
      else
        zd3 (f_HS_refuse (-3) i_latestStatus i_refusals) fun v27 v28 a29 =>
        some (v27, v28, i_hill_changes, a29, v4, v5, v6, a7, a8, i_hill_columns_heights, i_hill_columns_weights)
    else
      f_HS_exchange_25 i_hill_children i_hill_laws i_hill_inForce i_hill_columns_many i_hill_strengths i_hill_expelled i_hill_terms i_hill_orders i_hill_ordered i_latestStatus i_hill_changes i_refusals i_judge_piled i_judge_tiring i_judge_barred i_judge_words i_judge_pile i_hill_columns_heights i_hill_columns_weights
set_option maxHeartbeats 4000000 in
set_option maxRecDepth 100000 in
theorem c_HS_exchange (l : Launch) (ev : zEv) (dC : Nat → ClassId) (dI : Nat → Nat → Nat) (cA : Nat → ClassId) (q0 q1 q2 q3 q4 q5 q6 q7 q8 q9 q10 q11 q12 q13 q14 q15 q16 q17 q18 q19 q20 q21 q22 q23 q24 q25 : Nat) (u0 u1 u2 u3 : Int) {x1 x2 x3 x4 : Int} {i_hill_children : Int} {i_hill_laws : Int} {i_hill_inForce : Int} {i_hill_columns_many : Int} {i_hill_strengths : Nat → Int} {i_hill_expelled : Nat → Int} {i_hill_terms : Nat → Int} {i_hill_orders : Nat → Int} {i_hill_ordered : Nat → Int} {i_latestStatus : Int} {i_hill_changes : Int} {i_refusals : Nat → Int} {i_judge_piled : Int} {i_judge_tiring : Int} {i_judge_barred : Int} {i_judge_words : Nat → Int} {i_judge_pile : Nat → Int} {i_hill_columns_heights : Nat → Int} {i_hill_columns_weights : Nat → Int} {out : Int × Int × Int × (Nat → Int) × Int × Int × Int × (Nat → Int) × (Nat → Int) × (Nat → Int) × (Nat → Int)} (hf : f_HS_exchange x1 x2 x3 x4 i_hill_children i_hill_laws i_hill_inForce i_hill_columns_many i_hill_strengths i_hill_expelled i_hill_terms i_hill_orders i_hill_ordered i_latestStatus i_hill_changes i_refusals i_judge_piled i_judge_tiring i_judge_barred i_judge_words i_judge_pile i_hill_columns_heights i_hill_columns_weights = some out) : xc_I l ev (dC, dI) vwCl (tyl cA) yX10_exchange w_HS_exchange rm_HS_exchange [.ref q0, .int (Int32.ofInt x1), .int (Int32.ofInt x2), .int (Int32.ofInt x3), .int (Int32.ofInt x4)] (wd_HS_exchange cA q0 q1 q2 q3 q4 q5 q6 q7 q8 q9 q10 q11 q12 q13 q14 q15 q16 q17 q18 q19 q20 q21 q22 q23 q24 q25 u0 u1 u2 u3 i_hill_children i_hill_laws i_hill_inForce i_hill_columns_many i_hill_strengths i_hill_expelled i_hill_terms i_hill_orders i_hill_ordered i_latestStatus i_hill_changes i_refusals i_judge_piled i_judge_tiring i_judge_barred i_judge_words i_judge_pile i_hill_columns_heights i_hill_columns_weights) (wf_HS_exchange cA q0 q1 q2 q3 q4 q5 q6 q7 q8 q9 q10 q11 q12 q13 q14 q15 q16 q17 q18 q19 q20 q21 q22 q23 q24 q25 u0 u1 u2 u3 i_hill_children i_hill_laws i_hill_inForce i_hill_columns_many i_hill_strengths i_hill_expelled i_hill_terms i_hill_orders i_hill_ordered out) out.1 := by
  refine xv_startI (cc := cX10_exchange) (maxL := 7) (rt := .int) (by decide +kernel) rfl (Nat.le_of_ble_eq_true rfl) ?_
  intro p e s m args below meth c A Q H ls hx hb hml hts hown hK hA hP hD hS hl hE hret
  have hown : s.vm.findClass "HillSchool" = some m.cls := hown
  have hz : ∀ w ∈ zall, w.before args s = true := fun w h => hts w (List.mem_cons_of_mem _ h)
  have hl : lv_has ls 7 [(0, .ref q0), (1, .int (Int32.ofInt x1)), (2, .int (Int32.ofInt x2)), (3, .int (Int32.ofInt x3)), (4, .int (Int32.ofInt x4))] := hl
  have b_25 : ∀ (i_latestStatus : Int) (i_hill_changes : Int) (i_refusals : Nat → Int) (i_judge_piled : Int) (i_judge_tiring : Int) (i_judge_barred : Int) (i_judge_words : Nat → Int) (i_judge_pile : Nat → Int) (i_hill_columns_heights : Nat → Int) (i_hill_columns_weights : Nat → Int) (H : Heap) (locs : List Loc) (ls : Array Slot), f_HS_exchange_25 i_hill_children i_hill_laws i_hill_inForce i_hill_columns_many i_hill_strengths i_hill_expelled i_hill_terms i_hill_orders i_hill_ordered i_latestStatus i_hill_changes i_refusals i_judge_piled i_judge_tiring i_judge_barred i_judge_words i_judge_pile i_hill_columns_heights i_hill_columns_weights = some out → va_P (dC, dI) vwCl (wd_HS_exchange cA q0 q1 q2 q3 q4 q5 q6 q7 q8 q9 q10 q11 q12 q13 q14 q15 q16 q17 q18 q19 q20 q21 q22 q23 q24 q25 u0 u1 u2 u3 i_hill_children i_hill_laws i_hill_inForce i_hill_columns_many i_hill_strengths i_hill_expelled i_hill_terms i_hill_orders i_hill_ordered i_latestStatus i_hill_changes i_refusals i_judge_piled i_judge_tiring i_judge_barred i_judge_words i_judge_pile i_hill_columns_heights i_hill_columns_weights) H → va_D A (wd_HS_exchange cA q0 q1 q2 q3 q4 q5 q6 q7 q8 q9 q10 q11 q12 q13 q14 q15 q16 q17 q18 q19 q20 q21 q22 q23 q24 q25 u0 u1 u2 u3 i_hill_children i_hill_laws i_hill_inForce i_hill_columns_many i_hill_strengths i_hill_expelled i_hill_terms i_hill_orders i_hill_ordered i_latestStatus i_hill_changes i_refusals i_judge_piled i_judge_tiring i_judge_barred i_judge_words i_judge_pile i_hill_columns_heights i_hill_columns_weights) → va_S A s.heap H locs → lv_has ls 7 [(0, .ref q0)] → W p l e rm_HS_exchange s m args below meth c H locs 0 0 Q (F0 m 25 ls []) := by
    intro i_latestStatus i_hill_changes i_refusals i_judge_piled i_judge_tiring i_judge_barred i_judge_words i_judge_pile i_hill_columns_heights i_hill_columns_weights H locs ls hf hP hD hS hl
    unfold f_HS_exchange_25 at hf
    refine lv_aload_n hx hb dX10_exchange_25 rfl (lv_at hl 0 rfl) ?_
    refine lv_bipush (v := Int32.ofInt (-2)) hx hb dX10_exchange_26 (by decide) ?_
    refine xe_d3 hf (fun v1 v2 a3 hg hf => ?_)
    have hC : ([0, 2] : List Nat).map (fun i => (wd_HS_exchange cA q0 q1 q2 q3 q4 q5 q6 q7 q8 q9 q10 q11 q12 q13 q14 q15 q16 q17 q18 q19 q20 q21 q22 q23 q24 q25 u0 u1 u2 u3 i_hill_children i_hill_laws i_hill_inForce i_hill_columns_many i_hill_strengths i_hill_expelled i_hill_terms i_hill_orders i_hill_ordered i_latestStatus i_hill_changes i_refusals i_judge_piled i_judge_tiring i_judge_barred i_judge_words i_judge_pile i_hill_columns_heights i_hill_columns_weights)[i]?) = (wd_HS_refuse cA q0 q1 q2 q3 q4 q5 q6 q7 q8 q9 q10 q11 q12 u0 u1 u2 i_latestStatus i_refusals).map some := rfl
    refine xv_afterI (ws' := (wd_HS_exchange cA q0 q1 q2 q3 q4 q5 q6 q7 q8 q9 q10 q11 q12 q13 q14 q15 q16 q17 q18 q19 q20 q21 q22 q23 q24 q25 u0 u1 u2 u3 i_hill_children i_hill_laws i_hill_inForce i_hill_columns_many i_hill_strengths i_hill_expelled i_hill_terms i_hill_orders i_hill_ordered v2 i_hill_changes a3 i_judge_piled i_judge_tiring i_judge_barred i_judge_words i_judge_pile i_hill_columns_heights i_hill_columns_weights)) (isC := [0, 2]) (ps := [some 0, none, some 1, none, none, none, none, none, none, none, none, none, none, none]) (va_runV (As := [.int (Int32.ofInt (-2))]) (rest := []) ⟨hx, hb, hml, hown, hts⟩ (c_HS_refuse l ev dC dI cA q0 q1 q2 q3 q4 q5 q6 q7 q8 q9 q10 q11 q12 u0 u1 u2 hg H.size) (cwV 1 hts (zgV zw_534 zw_536 zw_0 zw_104 zw_537) rfl rfl rfl hd_HS_refuse ⟨Nat.le_of_ble_eq_true rfl, Nat.le_of_ble_eq_true rfl⟩) (xv_preV (T := TX10) (N := 16) hE hA hS hK hP hD (isC := [0, 2]) (by decide +kernel) hC (q0 := 0) (ci := 10) rfl rfl) rfl rfl hl.1 rfl (lv_room (Nat.le_of_ble_eq_true rfl)) dX10_exchange_28 ⟨Nat.le_refl _, Nat.le_refl _⟩) hP hD hS hA (by decide +kernel) rfl hC rfl rfl (fun H locs hP hD hS => ?_)
    obtain rfl := Option.some.inj hf
    exact hret _ _ _ _ rfl dX10_exchange_31 hP hD hS
  have b_141 : ∀ (x2 : Int) (x3 : Int) (i_latestStatus : Int) (i_hill_changes : Int) (i_refusals : Nat → Int) (i_judge_piled : Int) (i_judge_tiring : Int) (i_judge_barred : Int) (i_judge_words : Nat → Int) (i_judge_pile : Nat → Int) (i_hill_columns_heights : Nat → Int) (i_hill_columns_weights : Nat → Int) (H : Heap) (locs : List Loc) (ls : Array Slot), f_HS_exchange_141 i_hill_children i_hill_laws i_hill_inForce i_hill_columns_many i_hill_strengths i_hill_expelled i_hill_terms i_hill_orders i_hill_ordered x2 x3 i_latestStatus i_hill_changes i_refusals i_judge_piled i_judge_tiring i_judge_barred i_judge_words i_judge_pile i_hill_columns_heights i_hill_columns_weights = some out → va_P (dC, dI) vwCl (wd_HS_exchange cA q0 q1 q2 q3 q4 q5 q6 q7 q8 q9 q10 q11 q12 q13 q14 q15 q16 q17 q18 q19 q20 q21 q22 q23 q24 q25 u0 u1 u2 u3 i_hill_children i_hill_laws i_hill_inForce i_hill_columns_many i_hill_strengths i_hill_expelled i_hill_terms i_hill_orders i_hill_ordered i_latestStatus i_hill_changes i_refusals i_judge_piled i_judge_tiring i_judge_barred i_judge_words i_judge_pile i_hill_columns_heights i_hill_columns_weights) H → va_D A (wd_HS_exchange cA q0 q1 q2 q3 q4 q5 q6 q7 q8 q9 q10 q11 q12 q13 q14 q15 q16 q17 q18 q19 q20 q21 q22 q23 q24 q25 u0 u1 u2 u3 i_hill_children i_hill_laws i_hill_inForce i_hill_columns_many i_hill_strengths i_hill_expelled i_hill_terms i_hill_orders i_hill_ordered i_latestStatus i_hill_changes i_refusals i_judge_piled i_judge_tiring i_judge_barred i_judge_words i_judge_pile i_hill_columns_heights i_hill_columns_weights) → va_S A s.heap H locs → lv_has ls 7 [(0, .ref q0), (2, .int (Int32.ofInt x2)), (3, .int (Int32.ofInt x3))] → W p l e rm_HS_exchange s m args below meth c H locs 0 0 Q (F0 m 141 ls []) := by
    intro x2 x3 i_latestStatus i_hill_changes i_refusals i_judge_piled i_judge_tiring i_judge_barred i_judge_words i_judge_pile i_hill_columns_heights i_hill_columns_weights H locs ls hf hP hD hS hl
    unfold f_HS_exchange_141 at hf
    refine lv_aload_n hx hb dX10_exchange_141 rfl (lv_at hl 0 rfl) ?_
    refine va_get (D := (dC, dI)) (ci := 10) (v := .ref q1) (C := RX10) (T := TX10) (N := 16) hx hb hz zi_X10 hown hK hP 0 rfl rfl 0 (by decide) (hz _ zw_477) (fun _ h9 => h9) rfl dX10_exchange_142 ?_
    refine va_getN (D := (dC, dI)) (ci := 2) (v := .ref q13) (C := RX2) (T := TX2) (N := 14) hx hb hz zi_X2 hown hK hP 1 rfl rfl 0 (by decide) (va_Nw.use rfl (hE.1.1 _ zw_169)) (fun _ h9 => h9) rfl dX10_exchange_145 ?_
    refine lv_iload_n hx hb dX10_exchange_148 rfl (lv_at hl 2 rfl) ?_
    refine lv_iload_n hx hb dX10_exchange_149 rfl (lv_at hl 1 rfl) ?_
    refine xe_d2 hf (fun a1 a2 hg hf => ?_)
    have hC : ([4, 12, 13] : List Nat).map (fun i => (wd_HS_exchange cA q0 q1 q2 q3 q4 q5 q6 q7 q8 q9 q10 q11 q12 q13 q14 q15 q16 q17 q18 q19 q20 q21 q22 q23 q24 q25 u0 u1 u2 u3 i_hill_children i_hill_laws i_hill_inForce i_hill_columns_many i_hill_strengths i_hill_expelled i_hill_terms i_hill_orders i_hill_ordered i_latestStatus i_hill_changes i_refusals i_judge_piled i_judge_tiring i_judge_barred i_judge_words i_judge_pile i_hill_columns_heights i_hill_columns_weights)[i]?) = (wd_Columns_move cA q13 q24 q25 i_hill_columns_many i_hill_columns_heights i_hill_columns_weights).map some := rfl
    refine xv_afterV (ws' := (wd_HS_exchange cA q0 q1 q2 q3 q4 q5 q6 q7 q8 q9 q10 q11 q12 q13 q14 q15 q16 q17 q18 q19 q20 q21 q22 q23 q24 q25 u0 u1 u2 u3 i_hill_children i_hill_laws i_hill_inForce i_hill_columns_many i_hill_strengths i_hill_expelled i_hill_terms i_hill_orders i_hill_ordered i_latestStatus i_hill_changes i_refusals i_judge_piled i_judge_tiring i_judge_barred i_judge_words i_judge_pile a1 a2)) (isC := [4, 12, 13]) (ps := [none, none, none, none, some 0, none, none, none, none, none, none, none, some 1, some 2]) (va_runV (As := [.int (Int32.ofInt x3), .int (Int32.ofInt x2)]) (rest := []) ⟨hx, hb, hml, hown, hts⟩ (c_Columns_move l ev dC dI cA q13 q24 q25 hg H.size) (cwV 2 hts (zgV zw_850 zw_851 zw_852 zw_106 zw_853) rfl rfl rfl hd_Columns_move ⟨Nat.le_of_ble_eq_true rfl, Nat.le_of_ble_eq_true rfl⟩) (xv_preV (T := TX1) (N := 3) hE hA hS hK hP hD (isC := [4, 12, 13]) (by decide +kernel) hC (q0 := 4) (ci := 1) rfl rfl) rfl rfl hl.1 rfl (lv_room (Nat.le_of_ble_eq_true rfl)) dX10_exchange_150 ⟨Nat.le_refl _, Nat.le_refl _⟩) hP hD hS hA (by decide +kernel) rfl hC rfl rfl (fun H locs hP hD hS => ?_)
    refine lv_aload_n hx hb dX10_exchange_153 rfl (lv_at hl 0 rfl) ?_
    refine lv_bipush (v := Int32.ofInt (-3)) hx hb dX10_exchange_154 (by decide) ?_
    refine xe_d3 hf (fun v3 v4 a5 hg hf => ?_)
    have hC : ([0, 2] : List Nat).map (fun i => (wd_HS_exchange cA q0 q1 q2 q3 q4 q5 q6 q7 q8 q9 q10 q11 q12 q13 q14 q15 q16 q17 q18 q19 q20 q21 q22 q23 q24 q25 u0 u1 u2 u3 i_hill_children i_hill_laws i_hill_inForce i_hill_columns_many i_hill_strengths i_hill_expelled i_hill_terms i_hill_orders i_hill_ordered i_latestStatus i_hill_changes i_refusals i_judge_piled i_judge_tiring i_judge_barred i_judge_words i_judge_pile a1 a2)[i]?) = (wd_HS_refuse cA q0 q1 q2 q3 q4 q5 q6 q7 q8 q9 q10 q11 q12 u0 u1 u2 i_latestStatus i_refusals).map some := rfl
    refine xv_afterI (ws' := (wd_HS_exchange cA q0 q1 q2 q3 q4 q5 q6 q7 q8 q9 q10 q11 q12 q13 q14 q15 q16 q17 q18 q19 q20 q21 q22 q23 q24 q25 u0 u1 u2 u3 i_hill_children i_hill_laws i_hill_inForce i_hill_columns_many i_hill_strengths i_hill_expelled i_hill_terms i_hill_orders i_hill_ordered v4 i_hill_changes a5 i_judge_piled i_judge_tiring i_judge_barred i_judge_words i_judge_pile a1 a2)) (isC := [0, 2]) (ps := [some 0, none, some 1, none, none, none, none, none, none, none, none, none, none, none]) (va_runV (As := [.int (Int32.ofInt (-3))]) (rest := []) ⟨hx, hb, hml, hown, hts⟩ (c_HS_refuse l ev dC dI cA q0 q1 q2 q3 q4 q5 q6 q7 q8 q9 q10 q11 q12 u0 u1 u2 hg H.size) (cwV 1 hts (zgV zw_534 zw_536 zw_0 zw_104 zw_537) rfl rfl rfl hd_HS_refuse ⟨Nat.le_of_ble_eq_true rfl, Nat.le_of_ble_eq_true rfl⟩) (xv_preV (T := TX10) (N := 16) hE hA hS hK hP hD (isC := [0, 2]) (by decide +kernel) hC (q0 := 0) (ci := 10) rfl rfl) rfl rfl hl.1 rfl (lv_room (Nat.le_of_ble_eq_true rfl)) dX10_exchange_156 ⟨Nat.le_refl _, Nat.le_refl _⟩) hP hD hS hA (by decide +kernel) rfl hC rfl rfl (fun H locs hP hD hS => ?_)
    obtain rfl := Option.some.inj hf
    exact hret _ _ _ _ rfl dX10_exchange_159 hP hD hS
  unfold f_HS_exchange at hf
  refine lv_aload_n hx hb dX10_exchange_0 rfl (lv_at hl 0 rfl) ?_
  refine lv_iload_n hx hb dX10_exchange_1 rfl (lv_at hl 1 rfl) ?_
  refine lv_iload_n hx hb dX10_exchange_2 rfl (lv_at hl 2 rfl) ?_
  refine lv_iload_n hx hb dX10_exchange_3 rfl (lv_at hl 3 rfl) ?_
  refine xe_d1 hf (fun v1 hg hf => ?_)
  have hC : ([0, 1, 4] : List Nat).map (fun i => (wd_HS_exchange cA q0 q1 q2 q3 q4 q5 q6 q7 q8 q9 q10 q11 q12 q13 q14 q15 q16 q17 q18 q19 q20 q21 q22 q23 q24 q25 u0 u1 u2 u3 i_hill_children i_hill_laws i_hill_inForce i_hill_columns_many i_hill_strengths i_hill_expelled i_hill_terms i_hill_orders i_hill_ordered i_latestStatus i_hill_changes i_refusals i_judge_piled i_judge_tiring i_judge_barred i_judge_words i_judge_pile i_hill_columns_heights i_hill_columns_weights)[i]?) = (wd_HS_knows cA q0 q1 q2 q3 q4 q5 q6 q7 q8 q9 q10 q11 q12 q13 q14 q15 q16 q17 q18 q19 q20 q21 q24 q25 u0 u1 u2 i_latestStatus u3 i_hill_laws i_hill_inForce i_hill_changes i_hill_children i_hill_columns_many).map some := rfl
  refine xv_afterI (ws' := (wd_HS_exchange cA q0 q1 q2 q3 q4 q5 q6 q7 q8 q9 q10 q11 q12 q13 q14 q15 q16 q17 q18 q19 q20 q21 q22 q23 q24 q25 u0 u1 u2 u3 i_hill_children i_hill_laws i_hill_inForce i_hill_columns_many i_hill_strengths i_hill_expelled i_hill_terms i_hill_orders i_hill_ordered i_latestStatus i_hill_changes i_refusals i_judge_piled i_judge_tiring i_judge_barred i_judge_words i_judge_pile i_hill_columns_heights i_hill_columns_weights)) (isC := [0, 1, 4]) (ps := [some 0, some 1, none, none, some 2, none, none, none, none, none, none, none, none, none]) (va_runV (As := [.int (Int32.ofInt x1), .int (Int32.ofInt x2), .int (Int32.ofInt x3)]) (rest := []) ⟨hx, hb, hml, hown, hts⟩ (c_HS_knows l ev dC dI cA q0 q1 q2 q3 q4 q5 q6 q7 q8 q9 q10 q11 q12 q13 q14 q15 q16 q17 q18 q19 q20 q21 q24 q25 u0 u1 u2 i_latestStatus u3 i_hill_laws i_hill_inForce i_hill_changes hg H.size) (cwV 3 hts (zgV zw_799 zw_801 zw_13 zw_104 zw_802) rfl rfl rfl hd_HS_knows ⟨Nat.le_of_ble_eq_true rfl, Nat.le_of_ble_eq_true rfl⟩) (xv_preV (T := TX10) (N := 16) hE hA hS hK hP hD (isC := [0, 1, 4]) (by decide +kernel) hC (q0 := 0) (ci := 10) rfl rfl) rfl rfl hl.1 rfl (lv_room (Nat.le_of_ble_eq_true rfl)) dX10_exchange_4 ⟨Nat.le_refl _, Nat.le_refl _⟩) hP hD hS hA (by decide +kernel) rfl hC rfl rfl (fun H locs hP hD hS => ?_)
  refine xi_if_eq (tgt := 25) hx hb dX10_exchange_7 (by decide) hf (fun hf => ?_) (fun hf => ?_)
  · exact b_25  _ _ _ _ _ _ _ _ _ _ _ _ _ hf hP hD hS (lv_sub hl [0] rfl)
  · refine lv_aload_n hx hb dX10_exchange_10 rfl (lv_at hl 0 rfl) ?_
    refine va_get (D := (dC, dI)) (ci := 10) (v := .ref q1) (C := RX10) (T := TX10) (N := 16) hx hb hz zi_X10 hown hK hP 0 rfl rfl 0 (by decide) (hz _ zw_477) (fun _ h9 => h9) rfl dX10_exchange_11 ?_
    refine va_getN (D := (dC, dI)) (ci := 2) (v := .ref q13) (C := RX2) (T := TX2) (N := 14) hx hb hz zi_X2 hown hK hP 1 rfl rfl 0 (by decide) (va_Nw.use rfl (hE.1.1 _ zw_169)) (fun _ h9 => h9) rfl dX10_exchange_14 ?_
    refine lv_iload hx hb dX10_exchange_17 (lv_at hl 4 rfl) ?_
    refine xe_d1 hf (fun v2 hg hf => ?_)
    have hC : ([4] : List Nat).map (fun i => (wd_HS_exchange cA q0 q1 q2 q3 q4 q5 q6 q7 q8 q9 q10 q11 q12 q13 q14 q15 q16 q17 q18 q19 q20 q21 q22 q23 q24 q25 u0 u1 u2 u3 i_hill_children i_hill_laws i_hill_inForce i_hill_columns_many i_hill_strengths i_hill_expelled i_hill_terms i_hill_orders i_hill_ordered i_latestStatus i_hill_changes i_refusals i_judge_piled i_judge_tiring i_judge_barred i_judge_words i_judge_pile i_hill_columns_heights i_hill_columns_weights)[i]?) = (wd_Columns_has cA q13 q24 q25 i_hill_columns_many).map some := rfl
    refine xv_afterI (ws' := (wd_HS_exchange cA q0 q1 q2 q3 q4 q5 q6 q7 q8 q9 q10 q11 q12 q13 q14 q15 q16 q17 q18 q19 q20 q21 q22 q23 q24 q25 u0 u1 u2 u3 i_hill_children i_hill_laws i_hill_inForce i_hill_columns_many i_hill_strengths i_hill_expelled i_hill_terms i_hill_orders i_hill_ordered i_latestStatus i_hill_changes i_refusals i_judge_piled i_judge_tiring i_judge_barred i_judge_words i_judge_pile i_hill_columns_heights i_hill_columns_weights)) (isC := [4]) (ps := [none, none, none, none, some 0, none, none, none, none, none, none, none, none, none]) (va_runV (As := [.int (Int32.ofInt x4)]) (rest := []) ⟨hx, hb, hml, hown, hts⟩ (c_Columns_has l ev dC dI cA q13 q24 q25 hg H.size) (cwV 1 hts (zgV zw_546 zw_547 zw_548 zw_106 zw_549) rfl rfl rfl hd_Columns_has ⟨Nat.le_of_ble_eq_true rfl, Nat.le_of_ble_eq_true rfl⟩) (xv_preV (T := TX1) (N := 3) hE hA hS hK hP hD (isC := [4]) (by decide +kernel) hC (q0 := 4) (ci := 1) rfl rfl) rfl rfl hl.1 rfl (lv_room (Nat.le_of_ble_eq_true rfl)) dX10_exchange_19 ⟨Nat.le_refl _, Nat.le_refl _⟩) hP hD hS hA (by decide +kernel) rfl hC rfl rfl (fun H locs hP hD hS => ?_)
    refine xi_if_ne (tgt := 32) hx hb dX10_exchange_22 (by decide) hf (fun hf => ?_) (fun hf => ?_)
    · refine lv_aload_n hx hb dX10_exchange_32 rfl (lv_at hl 0 rfl) ?_
      refine va_get (D := (dC, dI)) (ci := 10) (v := .ref q7) (C := RX10) (T := TX10) (N := 16) hx hb hz zi_X10 hown hK hP 0 rfl rfl 10 (by decide) (hz _ zw_487) (fun _ h9 => h9) rfl dX10_exchange_33 ?_
      refine lv_aload_n hx hb dX10_exchange_36 rfl (lv_at hl 0 rfl) ?_
      refine va_get (D := (dC, dI)) (ci := 10) (v := .ref q1) (C := RX10) (T := TX10) (N := 16) hx hb hz zi_X10 hown hK hP 0 rfl rfl 0 (by decide) (hz _ zw_477) (fun _ h9 => h9) rfl dX10_exchange_37 ?_
      refine va_getN (D := (dC, dI)) (ci := 2) (v := .ref q13) (C := RX2) (T := TX2) (N := 14) hx hb hz zi_X2 hown hK hP 1 rfl rfl 0 (by decide) (va_Nw.use rfl (hE.1.1 _ zw_169)) (fun _ h9 => h9) rfl dX10_exchange_40 ?_
      refine lv_iload_n hx hb dX10_exchange_43 rfl (lv_at hl 1 rfl) ?_
      refine lv_iload_n hx hb dX10_exchange_44 rfl (lv_at hl 2 rfl) ?_
      refine lv_iload_n hx hb dX10_exchange_45 rfl (lv_at hl 3 rfl) ?_
      refine xe_d6 hf (fun v3 v4 v5 v6 a7 a8 hg hf => ?_)
      have hC : ([3, 4, 1, 10, 11, 12, 13, 5, 6, 7, 8, 9] : List Nat).map (fun i => (wd_HS_exchange cA q0 q1 q2 q3 q4 q5 q6 q7 q8 q9 q10 q11 q12 q13 q14 q15 q16 q17 q18 q19 q20 q21 q22 q23 q24 q25 u0 u1 u2 u3 i_hill_children i_hill_laws i_hill_inForce i_hill_columns_many i_hill_strengths i_hill_expelled i_hill_terms i_hill_orders i_hill_ordered i_latestStatus i_hill_changes i_refusals i_judge_piled i_judge_tiring i_judge_barred i_judge_words i_judge_pile i_hill_columns_heights i_hill_columns_weights)[i]?) = (wd_Judge_effortOn cA q7 q1 q22 q23 q13 q24 q25 q13 q14 q15 q16 q17 q18 q19 q20 q21 u3 i_hill_changes i_hill_columns_many i_hill_children i_hill_laws i_hill_inForce i_hill_columns_heights i_hill_columns_weights i_hill_strengths i_hill_expelled i_hill_terms i_hill_orders i_hill_ordered i_judge_piled i_judge_tiring i_judge_barred i_judge_words i_judge_pile).map some := rfl
      refine xv_afterI (ws' := (wd_HS_exchange cA q0 q1 q2 q3 q4 q5 q6 q7 q8 q9 q10 q11 q12 q13 q14 q15 q16 q17 q18 q19 q20 q21 q22 q23 q24 q25 u0 u1 u2 u3 i_hill_children i_hill_laws i_hill_inForce i_hill_columns_many i_hill_strengths i_hill_expelled i_hill_terms i_hill_orders i_hill_ordered i_latestStatus i_hill_changes i_refusals v4 v5 v6 a7 a8 i_hill_columns_heights i_hill_columns_weights)) (isC := [3, 4, 1, 10, 11, 12, 13, 5, 6, 7, 8, 9]) (ps := [none, some 2, none, some 0, some 1, some 7, some 8, some 9, some 10, some 11, some 3, some 4, some 5, some 6]) (va_runV (As := [.ref q13, .int (Int32.ofInt x1), .int (Int32.ofInt x2), .int (Int32.ofInt x3)]) (rest := []) ⟨hx, hb, hml, hown, hts⟩ (c_Judge_effortOn l ev dC dI cA q7 q1 q22 q23 q13 q24 q25 q13 q14 q15 q16 q17 q18 q19 q20 q21 u3 i_hill_changes hg H.size) (cwV 4 hts (zgV zw_803 zw_804 zw_805 zw_108 zw_806) rfl rfl rfl hd_Judge_effortOn ⟨Nat.le_of_ble_eq_true rfl, Nat.le_of_ble_eq_true rfl⟩) (xv_preV (T := TX3) (N := 6) hE hA hS hK hP hD (isC := [3, 4, 1, 10, 11, 12, 13, 5, 6, 7, 8, 9]) (by decide +kernel) hC (q0 := 3) (ci := 3) rfl rfl) rfl rfl hl.1 rfl (lv_room (Nat.le_of_ble_eq_true rfl)) dX10_exchange_46 ⟨Nat.le_refl _, Nat.le_refl _⟩) hP hD hS hA (by decide +kernel) rfl hC rfl rfl (fun H locs hP hD hS => ?_)
      refine lv_iconst (v := Int32.ofInt (-1)) hx hb dX10_exchange_49 rfl ?_
      refine xi_icmp_ne (tgt := 60) hx hb dX10_exchange_50 (by decide) hf (fun hf => ?_) (fun hf => ?_)
      · refine lv_aload_n hx hb dX10_exchange_60 rfl (lv_at hl 0 rfl) ?_
        refine va_get (D := (dC, dI)) (ci := 10) (v := .ref q1) (C := RX10) (T := TX10) (N := 16) hx hb hz zi_X10 hown hK hP 0 rfl rfl 0 (by decide) (hz _ zw_477) (fun _ h9 => h9) rfl dX10_exchange_61 ?_
        refine va_getN (D := (dC, dI)) (ci := 2) (v := .ref q13) (C := RX2) (T := TX2) (N := 14) hx hb hz zi_X2 hown hK hP 1 rfl rfl 0 (by decide) (va_Nw.use rfl (hE.1.1 _ zw_169)) (fun _ h9 => h9) rfl dX10_exchange_64 ?_
        refine lv_iload_n hx hb dX10_exchange_67 rfl (lv_at hl 2 rfl) ?_
        refine xe_d1 hf (fun v9 hg hf => ?_)
        have hC : ([4, 12, 13] : List Nat).map (fun i => (wd_HS_exchange cA q0 q1 q2 q3 q4 q5 q6 q7 q8 q9 q10 q11 q12 q13 q14 q15 q16 q17 q18 q19 q20 q21 q22 q23 q24 q25 u0 u1 u2 u3 i_hill_children i_hill_laws i_hill_inForce i_hill_columns_many i_hill_strengths i_hill_expelled i_hill_terms i_hill_orders i_hill_ordered i_latestStatus i_hill_changes i_refusals v4 v5 v6 a7 a8 i_hill_columns_heights i_hill_columns_weights)[i]?) = (wd_Columns_top cA q13 q24 q25 i_hill_columns_many i_hill_columns_heights i_hill_columns_weights).map some := rfl
        refine xv_afterI (ws' := (wd_HS_exchange cA q0 q1 q2 q3 q4 q5 q6 q7 q8 q9 q10 q11 q12 q13 q14 q15 q16 q17 q18 q19 q20 q21 q22 q23 q24 q25 u0 u1 u2 u3 i_hill_children i_hill_laws i_hill_inForce i_hill_columns_many i_hill_strengths i_hill_expelled i_hill_terms i_hill_orders i_hill_ordered i_latestStatus i_hill_changes i_refusals v4 v5 v6 a7 a8 i_hill_columns_heights i_hill_columns_weights)) (isC := [4, 12, 13]) (ps := [none, none, none, none, some 0, none, none, none, none, none, none, none, some 1, some 2]) (va_runV (As := [.int (Int32.ofInt x2)]) (rest := []) ⟨hx, hb, hml, hown, hts⟩ (c_Columns_top l ev dC dI cA q13 q24 q25 hg H.size) (cwV 1 hts (zgV zw_849 zw_568 zw_569 zw_106 zw_570) rfl rfl rfl hd_Columns_top ⟨Nat.le_of_ble_eq_true rfl, Nat.le_of_ble_eq_true rfl⟩) (xv_preV (T := TX1) (N := 3) hE hA hS hK hP hD (isC := [4, 12, 13]) (by decide +kernel) hC (q0 := 4) (ci := 1) rfl rfl) rfl rfl hl.1 rfl (lv_room (Nat.le_of_ble_eq_true rfl)) dX10_exchange_68 ⟨Nat.le_refl _, Nat.le_refl _⟩) hP hD hS hA (by decide +kernel) rfl hC rfl rfl (fun H locs hP hD hS => ?_)
        refine lv_istore (lv' := [(5, .int (Int32.ofInt v9)), (0, .ref q0), (1, .int (Int32.ofInt x1)), (2, .int (Int32.ofInt x2)), (3, .int (Int32.ofInt x3)), (4, .int (Int32.ofInt x4))]) hx hb dX10_exchange_71 hl (by decide) rfl (fun ls hl => ?_)
        refine lv_aload_n hx hb dX10_exchange_73 rfl (lv_at hl 1 rfl) ?_
        refine va_get (D := (dC, dI)) (ci := 10) (v := .ref q1) (C := RX10) (T := TX10) (N := 16) hx hb hz zi_X10 hown hK hP 0 rfl rfl 0 (by decide) (hz _ zw_477) (fun _ h9 => h9) rfl dX10_exchange_74 ?_
        refine va_getN (D := (dC, dI)) (ci := 2) (v := .ref q13) (C := RX2) (T := TX2) (N := 14) hx hb hz zi_X2 hown hK hP 1 rfl rfl 0 (by decide) (va_Nw.use rfl (hE.1.1 _ zw_169)) (fun _ h9 => h9) rfl dX10_exchange_77 ?_
        refine lv_iload_n hx hb dX10_exchange_80 rfl (lv_at hl 3 rfl) ?_
        refine lv_iload_n hx hb dX10_exchange_81 rfl (lv_at hl 4 rfl) ?_
        refine xe_d2 hf (fun a10 a11 hg hf => ?_)
        have hC : ([4, 12, 13] : List Nat).map (fun i => (wd_HS_exchange cA q0 q1 q2 q3 q4 q5 q6 q7 q8 q9 q10 q11 q12 q13 q14 q15 q16 q17 q18 q19 q20 q21 q22 q23 q24 q25 u0 u1 u2 u3 i_hill_children i_hill_laws i_hill_inForce i_hill_columns_many i_hill_strengths i_hill_expelled i_hill_terms i_hill_orders i_hill_ordered i_latestStatus i_hill_changes i_refusals v4 v5 v6 a7 a8 i_hill_columns_heights i_hill_columns_weights)[i]?) = (wd_Columns_move cA q13 q24 q25 i_hill_columns_many i_hill_columns_heights i_hill_columns_weights).map some := rfl
        refine xv_afterV (ws' := (wd_HS_exchange cA q0 q1 q2 q3 q4 q5 q6 q7 q8 q9 q10 q11 q12 q13 q14 q15 q16 q17 q18 q19 q20 q21 q22 q23 q24 q25 u0 u1 u2 u3 i_hill_children i_hill_laws i_hill_inForce i_hill_columns_many i_hill_strengths i_hill_expelled i_hill_terms i_hill_orders i_hill_ordered i_latestStatus i_hill_changes i_refusals v4 v5 v6 a7 a8 a10 a11)) (isC := [4, 12, 13]) (ps := [none, none, none, none, some 0, none, none, none, none, none, none, none, some 1, some 2]) (va_runV (As := [.int (Int32.ofInt x2), .int (Int32.ofInt x3)]) (rest := []) ⟨hx, hb, hml, hown, hts⟩ (c_Columns_move l ev dC dI cA q13 q24 q25 hg H.size) (cwV 2 hts (zgV zw_850 zw_851 zw_852 zw_106 zw_853) rfl rfl rfl hd_Columns_move ⟨Nat.le_of_ble_eq_true rfl, Nat.le_of_ble_eq_true rfl⟩) (xv_preV (T := TX1) (N := 3) hE hA hS hK hP hD (isC := [4, 12, 13]) (by decide +kernel) hC (q0 := 4) (ci := 1) rfl rfl) rfl rfl hl.1 rfl (lv_room (Nat.le_of_ble_eq_true rfl)) dX10_exchange_82 ⟨Nat.le_refl _, Nat.le_refl _⟩) hP hD hS hA (by decide +kernel) rfl hC rfl rfl (fun H locs hP hD hS => ?_)
        refine lv_iload hx hb dX10_exchange_85 (lv_at hl 0 rfl) ?_
        refine lv_aload_n hx hb dX10_exchange_87 rfl (lv_at hl 1 rfl) ?_
        refine va_get (D := (dC, dI)) (ci := 10) (v := .ref q1) (C := RX10) (T := TX10) (N := 16) hx hb hz zi_X10 hown hK hP 0 rfl rfl 0 (by decide) (hz _ zw_477) (fun _ h9 => h9) rfl dX10_exchange_88 ?_
        refine va_getN (D := (dC, dI)) (ci := 2) (v := .ref q13) (C := RX2) (T := TX2) (N := 14) hx hb hz zi_X2 hown hK hP 1 rfl rfl 0 (by decide) (va_Nw.use rfl (hE.1.1 _ zw_169)) (fun _ h9 => h9) rfl dX10_exchange_91 ?_
        refine lv_iload hx hb dX10_exchange_94 (lv_at hl 5 rfl) ?_
        refine xe_d1 hf (fun v12 hg hf => ?_)
        have hC : ([4, 12, 13] : List Nat).map (fun i => (wd_HS_exchange cA q0 q1 q2 q3 q4 q5 q6 q7 q8 q9 q10 q11 q12 q13 q14 q15 q16 q17 q18 q19 q20 q21 q22 q23 q24 q25 u0 u1 u2 u3 i_hill_children i_hill_laws i_hill_inForce i_hill_columns_many i_hill_strengths i_hill_expelled i_hill_terms i_hill_orders i_hill_ordered i_latestStatus i_hill_changes i_refusals v4 v5 v6 a7 a8 a10 a11)[i]?) = (wd_Columns_top cA q13 q24 q25 i_hill_columns_many a10 a11).map some := rfl
        refine xv_afterI (ws' := (wd_HS_exchange cA q0 q1 q2 q3 q4 q5 q6 q7 q8 q9 q10 q11 q12 q13 q14 q15 q16 q17 q18 q19 q20 q21 q22 q23 q24 q25 u0 u1 u2 u3 i_hill_children i_hill_laws i_hill_inForce i_hill_columns_many i_hill_strengths i_hill_expelled i_hill_terms i_hill_orders i_hill_ordered i_latestStatus i_hill_changes i_refusals v4 v5 v6 a7 a8 a10 a11)) (isC := [4, 12, 13]) (ps := [none, none, none, none, some 0, none, none, none, none, none, none, none, some 1, some 2]) (va_runV (As := [.int (Int32.ofInt x4)]) (rest := [.int (Int32.ofInt v9)]) ⟨hx, hb, hml, hown, hts⟩ (c_Columns_top l ev dC dI cA q13 q24 q25 hg H.size) (cwV 1 hts (zgV zw_849 zw_568 zw_569 zw_106 zw_570) rfl rfl rfl hd_Columns_top ⟨Nat.le_of_ble_eq_true rfl, Nat.le_of_ble_eq_true rfl⟩) (xv_preV (T := TX1) (N := 3) hE hA hS hK hP hD (isC := [4, 12, 13]) (by decide +kernel) hC (q0 := 4) (ci := 1) rfl rfl) rfl rfl hl.1 rfl (lv_room (Nat.le_of_ble_eq_true rfl)) dX10_exchange_96 ⟨Nat.le_refl _, Nat.le_refl _⟩) hP hD hS hA (by decide +kernel) rfl hC rfl rfl (fun H locs hP hD hS => ?_)
        refine xi_isub hx hb dX10_exchange_99 hf (fun v13 hf => ?_)
        refine xi_mabs hx hb (hml.trans hl.1.symm) hown (hz _ zw_859) (hz _ zw_819) (hz _ zw_116) (hz _ zw_820) (Nat.le_of_ble_eq_true rfl) (Nat.le_of_ble_eq_true rfl) (Nat.zero_le _) (Nat.zero_le _) dX10_exchange_100 hf (fun v14 hf => ?_)
        refine lv_istore (lv' := [(6, .int (Int32.ofInt v14)), (5, .int (Int32.ofInt v9)), (0, .ref q0), (1, .int (Int32.ofInt x1)), (2, .int (Int32.ofInt x2)), (3, .int (Int32.ofInt x3)), (4, .int (Int32.ofInt x4))]) hx hb dX10_exchange_103 hl (by decide) rfl (fun ls hl => ?_)
        refine lv_aload_n hx hb dX10_exchange_105 rfl (lv_at hl 2 rfl) ?_
        refine va_get (D := (dC, dI)) (ci := 10) (v := .ref q7) (C := RX10) (T := TX10) (N := 16) hx hb hz zi_X10 hown hK hP 0 rfl rfl 10 (by decide) (hz _ zw_487) (fun _ h9 => h9) rfl dX10_exchange_106 ?_
        refine lv_aload_n hx hb dX10_exchange_109 rfl (lv_at hl 2 rfl) ?_
        refine va_get (D := (dC, dI)) (ci := 10) (v := .ref q1) (C := RX10) (T := TX10) (N := 16) hx hb hz zi_X10 hown hK hP 0 rfl rfl 0 (by decide) (hz _ zw_477) (fun _ h9 => h9) rfl dX10_exchange_110 ?_
        refine va_getN (D := (dC, dI)) (ci := 2) (v := .ref q13) (C := RX2) (T := TX2) (N := 14) hx hb hz zi_X2 hown hK hP 1 rfl rfl 0 (by decide) (va_Nw.use rfl (hE.1.1 _ zw_169)) (fun _ h9 => h9) rfl dX10_exchange_113 ?_
        refine lv_iload_n hx hb dX10_exchange_116 rfl (lv_at hl 3 rfl) ?_
        refine lv_iload hx hb dX10_exchange_117 (lv_at hl 6 rfl) ?_
        refine lv_iload_n hx hb dX10_exchange_119 rfl (lv_at hl 4 rfl) ?_
        refine xe_d6 hf (fun v15 v16 v17 v18 a19 a20 hg hf => ?_)
        have hC : ([3, 4, 1, 10, 11, 12, 13, 5, 6, 7, 8, 9] : List Nat).map (fun i => (wd_HS_exchange cA q0 q1 q2 q3 q4 q5 q6 q7 q8 q9 q10 q11 q12 q13 q14 q15 q16 q17 q18 q19 q20 q21 q22 q23 q24 q25 u0 u1 u2 u3 i_hill_children i_hill_laws i_hill_inForce i_hill_columns_many i_hill_strengths i_hill_expelled i_hill_terms i_hill_orders i_hill_ordered i_latestStatus i_hill_changes i_refusals v4 v5 v6 a7 a8 a10 a11)[i]?) = (wd_Judge_effortOn cA q7 q1 q22 q23 q13 q24 q25 q13 q14 q15 q16 q17 q18 q19 q20 q21 u3 i_hill_changes i_hill_columns_many i_hill_children i_hill_laws i_hill_inForce a10 a11 i_hill_strengths i_hill_expelled i_hill_terms i_hill_orders i_hill_ordered v4 v5 v6 a7 a8).map some := rfl
        refine xv_afterI (ws' := (wd_HS_exchange cA q0 q1 q2 q3 q4 q5 q6 q7 q8 q9 q10 q11 q12 q13 q14 q15 q16 q17 q18 q19 q20 q21 q22 q23 q24 q25 u0 u1 u2 u3 i_hill_children i_hill_laws i_hill_inForce i_hill_columns_many i_hill_strengths i_hill_expelled i_hill_terms i_hill_orders i_hill_ordered i_latestStatus i_hill_changes i_refusals v16 v17 v18 a19 a20 a10 a11)) (isC := [3, 4, 1, 10, 11, 12, 13, 5, 6, 7, 8, 9]) (ps := [none, some 2, none, some 0, some 1, some 7, some 8, some 9, some 10, some 11, some 3, some 4, some 5, some 6]) (va_runV (As := [.ref q13, .int (Int32.ofInt x1), .int (Int32.ofInt x4), .int (Int32.ofInt x2)]) (rest := []) ⟨hx, hb, hml, hown, hts⟩ (c_Judge_effortOn l ev dC dI cA q7 q1 q22 q23 q13 q24 q25 q13 q14 q15 q16 q17 q18 q19 q20 q21 u3 i_hill_changes hg H.size) (cwV 4 hts (zgV zw_803 zw_804 zw_805 zw_108 zw_806) rfl rfl rfl hd_Judge_effortOn ⟨Nat.le_of_ble_eq_true rfl, Nat.le_of_ble_eq_true rfl⟩) (xv_preV (T := TX3) (N := 6) hE hA hS hK hP hD (isC := [3, 4, 1, 10, 11, 12, 13, 5, 6, 7, 8, 9]) (by decide +kernel) hC (q0 := 3) (ci := 3) rfl rfl) rfl rfl hl.1 rfl (lv_room (Nat.le_of_ble_eq_true rfl)) dX10_exchange_120 ⟨Nat.le_refl _, Nat.le_refl _⟩) hP hD hS hA (by decide +kernel) rfl hC rfl rfl (fun H locs hP hD hS => ?_)
        refine lv_iconst (v := Int32.ofInt (-1)) hx hb dX10_exchange_123 rfl ?_
        refine xi_icmp_eq (tgt := 141) hx hb dX10_exchange_124 (by decide) hf (fun hf => ?_) (fun hf => ?_)
        · exact b_141  _ _ _ _ _ _ _ _ _ _ _ _ _ _ _ hf hP hD hS (lv_sub hl [2, 4, 5] rfl)
        · refine lv_iload hx hb dX10_exchange_127 (lv_at hl 0 rfl) ?_
          refine lv_aload_n hx hb dX10_exchange_129 rfl (lv_at hl 2 rfl) ?_
          refine va_get (D := (dC, dI)) (ci := 10) (v := .ref q1) (C := RX10) (T := TX10) (N := 16) hx hb hz zi_X10 hown hK hP 0 rfl rfl 0 (by decide) (hz _ zw_477) (fun _ h9 => h9) rfl dX10_exchange_130 ?_
          refine va_getN (D := (dC, dI)) (ci := 2) (v := .ref q18) (C := RX2) (T := TX2) (N := 14) hx hb hz zi_X2 hown hK hP 1 rfl rfl 7 (by decide) (va_Nw.use rfl (hE.1.1 _ zw_191)) (fun _ h9 => h9) rfl dX10_exchange_133 ?_
          refine lv_iconst (v := Int32.ofInt 3) hx hb dX10_exchange_136 rfl ?_
          refine xi_iald hx hb hK hP 7 0 rfl rfl dX10_exchange_137 hf (fun v21 hf => ?_)
          refine xi_icmp_ge (tgt := 160) hx hb dX10_exchange_138 (by decide) hf (fun hf => ?_) (fun hf => ?_)
          · refine lv_aload_n hx hb dX10_exchange_160 rfl (lv_at hl 2 rfl) ?_
            refine va_get (D := (dC, dI)) (ci := 10) (v := .ref q1) (C := RX10) (T := TX10) (N := 16) hx hb hz zi_X10 hown hK hP 0 rfl rfl 0 (by decide) (hz _ zw_477) (fun _ h9 => h9) rfl dX10_exchange_161 ?_
            refine va_getN (D := (dC, dI)) (ci := 2) (v := .ref q13) (C := RX2) (T := TX2) (N := 14) hx hb hz zi_X2 hown hK hP 1 rfl rfl 0 (by decide) (va_Nw.use rfl (hE.1.1 _ zw_169)) (fun _ h9 => h9) rfl dX10_exchange_164 ?_
            refine lv_iload hx hb dX10_exchange_167 (lv_at hl 6 rfl) ?_
            refine lv_iload_n hx hb dX10_exchange_169 rfl (lv_at hl 4 rfl) ?_
            refine xe_d2 hf (fun a22 a23 hg hf => ?_)
            have hC : ([4, 12, 13] : List Nat).map (fun i => (wd_HS_exchange cA q0 q1 q2 q3 q4 q5 q6 q7 q8 q9 q10 q11 q12 q13 q14 q15 q16 q17 q18 q19 q20 q21 q22 q23 q24 q25 u0 u1 u2 u3 i_hill_children i_hill_laws i_hill_inForce i_hill_columns_many i_hill_strengths i_hill_expelled i_hill_terms i_hill_orders i_hill_ordered i_latestStatus i_hill_changes i_refusals v16 v17 v18 a19 a20 a10 a11)[i]?) = (wd_Columns_move cA q13 q24 q25 i_hill_columns_many a10 a11).map some := rfl
            refine xv_afterV (ws' := (wd_HS_exchange cA q0 q1 q2 q3 q4 q5 q6 q7 q8 q9 q10 q11 q12 q13 q14 q15 q16 q17 q18 q19 q20 q21 q22 q23 q24 q25 u0 u1 u2 u3 i_hill_children i_hill_laws i_hill_inForce i_hill_columns_many i_hill_strengths i_hill_expelled i_hill_terms i_hill_orders i_hill_ordered i_latestStatus i_hill_changes i_refusals v16 v17 v18 a19 a20 a22 a23)) (isC := [4, 12, 13]) (ps := [none, none, none, none, some 0, none, none, none, none, none, none, none, some 1, some 2]) (va_runV (As := [.int (Int32.ofInt x4), .int (Int32.ofInt x2)]) (rest := []) ⟨hx, hb, hml, hown, hts⟩ (c_Columns_move l ev dC dI cA q13 q24 q25 hg H.size) (cwV 2 hts (zgV zw_850 zw_851 zw_852 zw_106 zw_853) rfl rfl rfl hd_Columns_move ⟨Nat.le_of_ble_eq_true rfl, Nat.le_of_ble_eq_true rfl⟩) (xv_preV (T := TX1) (N := 3) hE hA hS hK hP hD (isC := [4, 12, 13]) (by decide +kernel) hC (q0 := 4) (ci := 1) rfl rfl) rfl rfl hl.1 rfl (lv_room (Nat.le_of_ble_eq_true rfl)) dX10_exchange_170 ⟨Nat.le_refl _, Nat.le_refl _⟩) hP hD hS hA (by decide +kernel) rfl hC rfl rfl (fun H locs hP hD hS => ?_)
            refine lv_aload_n hx hb dX10_exchange_173 rfl (lv_at hl 2 rfl) ?_
            refine lv_iload hx hb dX10_exchange_174 (lv_at hl 0 rfl) ?_
            refine xe_d3 hf (fun v24 v25 v26 hg hf => ?_)
            have hC : ([0, 1] : List Nat).map (fun i => (wd_HS_exchange cA q0 q1 q2 q3 q4 q5 q6 q7 q8 q9 q10 q11 q12 q13 q14 q15 q16 q17 q18 q19 q20 q21 q22 q23 q24 q25 u0 u1 u2 u3 i_hill_children i_hill_laws i_hill_inForce i_hill_columns_many i_hill_strengths i_hill_expelled i_hill_terms i_hill_orders i_hill_ordered i_latestStatus i_hill_changes i_refusals v16 v17 v18 a19 a20 a22 a23)[i]?) = (wd_HS_accept cA q0 q1 q2 q3 q4 q5 q6 q7 q8 q9 q10 q11 q12 q13 q14 q15 q16 q17 q18 q19 q20 q21 u0 u1 u2 i_hill_children u3 i_hill_laws i_hill_inForce i_latestStatus i_hill_changes).map some := rfl
            refine xv_afterI (ws' := (wd_HS_exchange cA q0 q1 q2 q3 q4 q5 q6 q7 q8 q9 q10 q11 q12 q13 q14 q15 q16 q17 q18 q19 q20 q21 q22 q23 q24 q25 u0 u1 u2 u3 i_hill_children i_hill_laws i_hill_inForce i_hill_columns_many i_hill_strengths i_hill_expelled i_hill_terms i_hill_orders i_hill_ordered v25 v26 i_refusals v16 v17 v18 a19 a20 a22 a23)) (isC := [0, 1]) (ps := [some 0, some 1, none, none, none, none, none, none, none, none, none, none, none, none]) (va_runV (As := [.int (Int32.ofInt v14)]) (rest := []) ⟨hx, hb, hml, hown, hts⟩ (c_HS_accept l ev dC dI cA q0 q1 q2 q3 q4 q5 q6 q7 q8 q9 q10 q11 q12 q13 q14 q15 q16 q17 q18 q19 q20 q21 u0 u1 u2 i_hill_children u3 i_hill_laws i_hill_inForce hg H.size) (cwV 1 hts (zgV zw_538 zw_540 zw_1 zw_104 zw_541) rfl rfl rfl hd_HS_accept ⟨Nat.le_of_ble_eq_true rfl, Nat.le_of_ble_eq_true rfl⟩) (xv_preV (T := TX10) (N := 16) hE hA hS hK hP hD (isC := [0, 1]) (by decide +kernel) hC (q0 := 0) (ci := 10) rfl rfl) rfl rfl hl.1 rfl (lv_room (Nat.le_of_ble_eq_true rfl)) dX10_exchange_176 ⟨Nat.le_refl _, Nat.le_refl _⟩) hP hD hS hA (by decide +kernel) rfl hC rfl rfl (fun H locs hP hD hS => ?_)
            obtain rfl := Option.some.inj hf
            exact hret _ _ _ _ rfl dX10_exchange_179 hP hD hS
          · exact b_141  _ _ _ _ _ _ _ _ _ _ _ _ _ _ _ hf hP hD hS (lv_sub hl [2, 4, 5] rfl)
      · refine lv_aload_n hx hb dX10_exchange_53 rfl (lv_at hl 0 rfl) ?_
        refine lv_bipush (v := Int32.ofInt (-3)) hx hb dX10_exchange_54 (by decide) ?_
        refine xe_d3 hf (fun v27 v28 a29 hg hf => ?_)
        have hC : ([0, 2] : List Nat).map (fun i => (wd_HS_exchange cA q0 q1 q2 q3 q4 q5 q6 q7 q8 q9 q10 q11 q12 q13 q14 q15 q16 q17 q18 q19 q20 q21 q22 q23 q24 q25 u0 u1 u2 u3 i_hill_children i_hill_laws i_hill_inForce i_hill_columns_many i_hill_strengths i_hill_expelled i_hill_terms i_hill_orders i_hill_ordered i_latestStatus i_hill_changes i_refusals v4 v5 v6 a7 a8 i_hill_columns_heights i_hill_columns_weights)[i]?) = (wd_HS_refuse cA q0 q1 q2 q3 q4 q5 q6 q7 q8 q9 q10 q11 q12 u0 u1 u2 i_latestStatus i_refusals).map some := rfl
        refine xv_afterI (ws' := (wd_HS_exchange cA q0 q1 q2 q3 q4 q5 q6 q7 q8 q9 q10 q11 q12 q13 q14 q15 q16 q17 q18 q19 q20 q21 q22 q23 q24 q25 u0 u1 u2 u3 i_hill_children i_hill_laws i_hill_inForce i_hill_columns_many i_hill_strengths i_hill_expelled i_hill_terms i_hill_orders i_hill_ordered v28 i_hill_changes a29 v4 v5 v6 a7 a8 i_hill_columns_heights i_hill_columns_weights)) (isC := [0, 2]) (ps := [some 0, none, some 1, none, none, none, none, none, none, none, none, none, none, none]) (va_runV (As := [.int (Int32.ofInt (-3))]) (rest := []) ⟨hx, hb, hml, hown, hts⟩ (c_HS_refuse l ev dC dI cA q0 q1 q2 q3 q4 q5 q6 q7 q8 q9 q10 q11 q12 u0 u1 u2 hg H.size) (cwV 1 hts (zgV zw_534 zw_536 zw_0 zw_104 zw_537) rfl rfl rfl hd_HS_refuse ⟨Nat.le_of_ble_eq_true rfl, Nat.le_of_ble_eq_true rfl⟩) (xv_preV (T := TX10) (N := 16) hE hA hS hK hP hD (isC := [0, 2]) (by decide +kernel) hC (q0 := 0) (ci := 10) rfl rfl) rfl rfl hl.1 rfl (lv_room (Nat.le_of_ble_eq_true rfl)) dX10_exchange_56 ⟨Nat.le_refl _, Nat.le_refl _⟩) hP hD hS hA (by decide +kernel) rfl hC rfl rfl (fun H locs hP hD hS => ?_)
        obtain rfl := Option.some.inj hf
        exact hret _ _ _ _ rfl dX10_exchange_59 hP hD hS
    · exact b_25  _ _ _ _ _ _ _ _ _ _ _ _ _ hf hP hD hS (lv_sub hl [0] rfl)
theorem dX1_isSteep_0 : decode cX1_isSteep 0 = .ok (.aload_n 0, 1) := by decide +kernel
theorem dX1_isSteep_1 : decode cX1_isSteep 1 = .ok (.iload_n 1, 1) := by decide +kernel
theorem dX1_isSteep_2 : decode cX1_isSteep 2 = .ok (.invokevirtual 22, 3) := by decide +kernel
theorem dX1_isSteep_5 : decode cX1_isSteep 5 = .ok (.ifCond .eq 32, 3) := by decide +kernel
theorem dX1_isSteep_8 : decode cX1_isSteep 8 = .ok (.aload_n 0, 1) := by decide +kernel
theorem dX1_isSteep_9 : decode cX1_isSteep 9 = .ok (.iload_n 2, 1) := by decide +kernel
theorem dX1_isSteep_10 : decode cX1_isSteep 10 = .ok (.invokevirtual 22, 3) := by decide +kernel
theorem dX1_isSteep_13 : decode cX1_isSteep 13 = .ok (.ifCond .eq 24, 3) := by decide +kernel
theorem dX1_isSteep_16 : decode cX1_isSteep 16 = .ok (.aload_n 0, 1) := by decide +kernel
theorem dX1_isSteep_17 : decode cX1_isSteep 17 = .ok (.getfield 15, 3) := by decide +kernel
theorem dX1_isSteep_20 : decode cX1_isSteep 20 = .ok (.iload_n 1, 1) := by decide +kernel
theorem dX1_isSteep_21 : decode cX1_isSteep 21 = .ok (.iaload, 1) := by decide +kernel
theorem dX1_isSteep_22 : decode cX1_isSteep 22 = .ok (.aload_n 0, 1) := by decide +kernel
theorem dX1_isSteep_23 : decode cX1_isSteep 23 = .ok (.getfield 15, 3) := by decide +kernel
theorem dX1_isSteep_26 : decode cX1_isSteep 26 = .ok (.iload_n 2, 1) := by decide +kernel
theorem dX1_isSteep_27 : decode cX1_isSteep 27 = .ok (.iaload, 1) := by decide +kernel
theorem dX1_isSteep_28 : decode cX1_isSteep 28 = .ok (.isub, 1) := by decide +kernel
theorem dX1_isSteep_29 : decode cX1_isSteep 29 = .ok (.iload_n 3, 1) := by decide +kernel
theorem dX1_isSteep_30 : decode cX1_isSteep 30 = .ok (.if_icmp .le 7, 3) := by decide +kernel
theorem dX1_isSteep_33 : decode cX1_isSteep 33 = .ok (.iconst 1, 1) := by decide +kernel
theorem dX1_isSteep_34 : decode cX1_isSteep 34 = .ok (.goto 4, 3) := by decide +kernel
theorem dX1_isSteep_37 : decode cX1_isSteep 37 = .ok (.iconst 0, 1) := by decide +kernel
theorem dX1_isSteep_38 : decode cX1_isSteep 38 = .ok (.ireturn, 1) := by decide +kernel
theorem zw_871 : (Jvm.Cond.code ({ cls := "HillSchool$Columns", name := "isSteep", desc := "(III)Z" } : Jvm.MethodName) prog_3_method_12_code (4 : Nat) (Option.some Jvm.ClassFile.FieldType.boolean)) ∈ zall := zmemG (zmj_4 48 rfl) rfl
abbrev w_Columns_isSteep : List Cond := .code yX1_isSteep cX1_isSteep 4 (some .boolean) :: zall
abbrev rm_Columns_isSteep : Room := { frames := 1, cells := 0, slots := 0, locals := 21 }
theorem hd_Columns_isSteep : yX1_isSteep.cls = "HillSchool$Columns" ∧ yX1_isSteep.cls ≠ "java/lang/invoke/MethodHandle" ∧ yX1_isSteep.cls ≠ "java/lang/invoke/VarHandle" ∧ (parseMethodDescriptor yX1_isSteep.desc).map (fun d => d.parameters.length) = some 3 := by decide +kernel
def wd_Columns_isSteep (cA : Nat → ClassId) (q0 q1 q2 : Nat) (i_many : Int) (i_heights : Nat → Int)  : va_W := [(q0, .inr (1, [.int (Int32.ofInt i_many), .ref q1, .ref q2])), (q1, .inl (cA 0, 12, .inl (za i_heights)))]
def wf_Columns_isSteep (cA : Nat → ClassId) (q0 q1 q2 : Nat) (i_many : Int) (i_heights : Nat → Int) (o : Int) : va_W := wd_Columns_isSteep cA q0 q1 q2 i_many i_heights
def f_Columns_isSteep (x1 : Int) (x2 : Int) (x3 : Int) (i_many : Int) (i_heights : Nat → Int) : Option (Int) :=
  zd1 (f_Columns_has x1 i_many) fun v1 =>
  if zi_w v1 = 0 then
    some 0
  else
    zd1 (f_Columns_has x2 i_many) fun v2 =>
    if zi_w v2 = 0 then
      some 0
    else
      zg 12 i_heights x1 fun v3 =>
      zg 12 i_heights x2 fun v4 =>
      zn (v3 - v4) fun v5 =>
      if zi_w v5 ≤ zi_w x3 then
        some 0
      else
        some 1
set_option maxHeartbeats 4000000 in
set_option maxRecDepth 100000 in
theorem c_Columns_isSteep (l : Launch) (ev : zEv) (dC : Nat → ClassId) (dI : Nat → Nat → Nat) (cA : Nat → ClassId) (q0 q1 q2 : Nat) {x1 x2 x3 : Int} {i_many : Int} {i_heights : Nat → Int} {out : Int} (hf : f_Columns_isSteep x1 x2 x3 i_many i_heights = some out) : xc_I l ev (dC, dI) vwCl (tyl cA) yX1_isSteep w_Columns_isSteep rm_Columns_isSteep [.ref q0, .int (Int32.ofInt x1), .int (Int32.ofInt x2), .int (Int32.ofInt x3)] (wd_Columns_isSteep cA q0 q1 q2 i_many i_heights) (wf_Columns_isSteep cA q0 q1 q2 i_many i_heights out) out := by
  refine xv_startI (cc := cX1_isSteep) (maxL := 4) (rt := .boolean) (by decide +kernel) rfl (Nat.le_of_ble_eq_true rfl) ?_
  intro p e s m args below meth c A Q H ls hx hb hml hts hown hK hA hP hD hS hl hE hret
  have hown : s.vm.findClass "HillSchool$Columns" = some m.cls := hown
  have hz : ∀ w ∈ zall, w.before args s = true := fun w h => hts w (List.mem_cons_of_mem _ h)
  have hl : lv_has ls 4 [(0, .ref q0), (1, .int (Int32.ofInt x1)), (2, .int (Int32.ofInt x2)), (3, .int (Int32.ofInt x3))] := hl
  unfold f_Columns_isSteep at hf
  refine lv_aload_n hx hb dX1_isSteep_0 rfl (lv_at hl 0 rfl) ?_
  refine lv_iload_n hx hb dX1_isSteep_1 rfl (lv_at hl 1 rfl) ?_
  refine xe_d1 hf (fun v1 hg hf => ?_)
  have hC : ([0] : List Nat).map (fun i => (wd_Columns_isSteep cA q0 q1 q2 i_many i_heights)[i]?) = (wd_Columns_has cA q0 q1 q2 i_many).map some := rfl
  refine xv_afterI (ws' := (wd_Columns_isSteep cA q0 q1 q2 i_many i_heights)) (isC := [0]) (ps := [some 0, none]) (va_runV (As := [.int (Int32.ofInt x1)]) (rest := []) ⟨hx, hb, hml, hown, hts⟩ (c_Columns_has l ev dC dI cA q0 q1 q2 hg H.size) (cwV 1 hts (zgV zw_554 zw_547 zw_548 zw_106 zw_549) rfl rfl rfl hd_Columns_has ⟨Nat.le_of_ble_eq_true rfl, Nat.le_of_ble_eq_true rfl⟩) (xv_preV (T := TX1) (N := 3) hE hA hS hK hP hD (isC := [0]) (by decide +kernel) hC (q0 := 0) (ci := 1) rfl rfl) rfl rfl hl.1 rfl (lv_room (Nat.le_of_ble_eq_true rfl)) dX1_isSteep_2 ⟨Nat.le_refl _, Nat.le_refl _⟩) hP hD hS hA (by decide +kernel) rfl hC rfl rfl (fun H locs hP hD hS => ?_)
  refine xi_if_eq (tgt := 37) hx hb dX1_isSteep_5 (by decide) hf (fun hf => ?_) (fun hf => ?_)
  · refine lv_iconst (v := Int32.ofInt 0) hx hb dX1_isSteep_37 rfl ?_
    obtain rfl := Option.some.inj hf
    exact hret _ _ _ _ zz_b0 dX1_isSteep_38 hP hD hS
  · refine lv_aload_n hx hb dX1_isSteep_8 rfl (lv_at hl 0 rfl) ?_
    refine lv_iload_n hx hb dX1_isSteep_9 rfl (lv_at hl 2 rfl) ?_
    refine xe_d1 hf (fun v2 hg hf => ?_)
    have hC : ([0] : List Nat).map (fun i => (wd_Columns_isSteep cA q0 q1 q2 i_many i_heights)[i]?) = (wd_Columns_has cA q0 q1 q2 i_many).map some := rfl
    refine xv_afterI (ws' := (wd_Columns_isSteep cA q0 q1 q2 i_many i_heights)) (isC := [0]) (ps := [some 0, none]) (va_runV (As := [.int (Int32.ofInt x2)]) (rest := []) ⟨hx, hb, hml, hown, hts⟩ (c_Columns_has l ev dC dI cA q0 q1 q2 hg H.size) (cwV 1 hts (zgV zw_554 zw_547 zw_548 zw_106 zw_549) rfl rfl rfl hd_Columns_has ⟨Nat.le_of_ble_eq_true rfl, Nat.le_of_ble_eq_true rfl⟩) (xv_preV (T := TX1) (N := 3) hE hA hS hK hP hD (isC := [0]) (by decide +kernel) hC (q0 := 0) (ci := 1) rfl rfl) rfl rfl hl.1 rfl (lv_room (Nat.le_of_ble_eq_true rfl)) dX1_isSteep_10 ⟨Nat.le_refl _, Nat.le_refl _⟩) hP hD hS hA (by decide +kernel) rfl hC rfl rfl (fun H locs hP hD hS => ?_)
    refine xi_if_eq (tgt := 37) hx hb dX1_isSteep_13 (by decide) hf (fun hf => ?_) (fun hf => ?_)
    · refine lv_iconst (v := Int32.ofInt 0) hx hb dX1_isSteep_37 rfl ?_
      obtain rfl := Option.some.inj hf
      exact hret _ _ _ _ zz_b0 dX1_isSteep_38 hP hD hS
    · refine lv_aload_n hx hb dX1_isSteep_16 rfl (lv_at hl 0 rfl) ?_
      refine va_get (D := (dC, dI)) (ci := 1) (v := .ref q1) (C := RX1) (T := TX1) (N := 3) hx hb hz zi_X1 hown hK hP 0 rfl rfl 1 (by decide) (hz _ zw_149) (fun _ h9 => h9) rfl dX1_isSteep_17 ?_
      refine lv_iload_n hx hb dX1_isSteep_20 rfl (lv_at hl 1 rfl) ?_
      refine xi_iald hx hb hK hP 1 0 rfl rfl dX1_isSteep_21 hf (fun v3 hf => ?_)
      refine lv_aload_n hx hb dX1_isSteep_22 rfl (lv_at hl 0 rfl) ?_
      refine va_get (D := (dC, dI)) (ci := 1) (v := .ref q1) (C := RX1) (T := TX1) (N := 3) hx hb hz zi_X1 hown hK hP 0 rfl rfl 1 (by decide) (hz _ zw_149) (fun _ h9 => h9) rfl dX1_isSteep_23 ?_
      refine lv_iload_n hx hb dX1_isSteep_26 rfl (lv_at hl 2 rfl) ?_
      refine xi_iald hx hb hK hP 1 0 rfl rfl dX1_isSteep_27 hf (fun v4 hf => ?_)
      refine xi_isub hx hb dX1_isSteep_28 hf (fun v5 hf => ?_)
      refine lv_iload_n hx hb dX1_isSteep_29 rfl (lv_at hl 3 rfl) ?_
      refine xi_icmp_le (tgt := 37) hx hb dX1_isSteep_30 (by decide) hf (fun hf => ?_) (fun hf => ?_)
      · refine lv_iconst (v := Int32.ofInt 0) hx hb dX1_isSteep_37 rfl ?_
        obtain rfl := Option.some.inj hf
        exact hret _ _ _ _ zz_b0 dX1_isSteep_38 hP hD hS
      · refine lv_iconst (v := Int32.ofInt 1) hx hb dX1_isSteep_33 rfl ?_
        refine lv_goto (tgt := 38) hx hb dX1_isSteep_34 (by decide) ?_
        obtain rfl := Option.some.inj hf
        exact hret _ _ _ _ zz_b1 dX1_isSteep_38 hP hD hS
theorem dX1_lowestSteep_0 : decode cX1_lowestSteep 0 = .ok (.iconst 0, 1) := by decide +kernel
theorem dX1_lowestSteep_1 : decode cX1_lowestSteep 1 = .ok (.istore_n 2, 1) := by decide +kernel
theorem dX1_lowestSteep_2 : decode cX1_lowestSteep 2 = .ok (.iload_n 2, 1) := by decide +kernel
theorem dX1_lowestSteep_3 : decode cX1_lowestSteep 3 = .ok (.aload_n 0, 1) := by decide +kernel
theorem dX1_lowestSteep_4 : decode cX1_lowestSteep 4 = .ok (.getfield 9, 3) := by decide +kernel
theorem dX1_lowestSteep_7 : decode cX1_lowestSteep 7 = .ok (.if_icmp .ge 35, 3) := by decide +kernel
theorem dX1_lowestSteep_10 : decode cX1_lowestSteep 10 = .ok (.aload_n 0, 1) := by decide +kernel
theorem dX1_lowestSteep_11 : decode cX1_lowestSteep 11 = .ok (.iload_n 2, 1) := by decide +kernel
theorem dX1_lowestSteep_12 : decode cX1_lowestSteep 12 = .ok (.iload_n 2, 1) := by decide +kernel
theorem dX1_lowestSteep_13 : decode cX1_lowestSteep 13 = .ok (.iconst 1, 1) := by decide +kernel
theorem dX1_lowestSteep_14 : decode cX1_lowestSteep 14 = .ok (.isub, 1) := by decide +kernel
theorem dX1_lowestSteep_15 : decode cX1_lowestSteep 15 = .ok (.iload_n 1, 1) := by decide +kernel
theorem dX1_lowestSteep_16 : decode cX1_lowestSteep 16 = .ok (.invokevirtual 41, 3) := by decide +kernel
theorem dX1_lowestSteep_19 : decode cX1_lowestSteep 19 = .ok (.ifCond .ne 15, 3) := by decide +kernel
theorem dX1_lowestSteep_22 : decode cX1_lowestSteep 22 = .ok (.aload_n 0, 1) := by decide +kernel
theorem dX1_lowestSteep_23 : decode cX1_lowestSteep 23 = .ok (.iload_n 2, 1) := by decide +kernel
theorem dX1_lowestSteep_24 : decode cX1_lowestSteep 24 = .ok (.iload_n 2, 1) := by decide +kernel
theorem dX1_lowestSteep_25 : decode cX1_lowestSteep 25 = .ok (.iconst 1, 1) := by decide +kernel
theorem dX1_lowestSteep_26 : decode cX1_lowestSteep 26 = .ok (.iadd, 1) := by decide +kernel
theorem dX1_lowestSteep_27 : decode cX1_lowestSteep 27 = .ok (.iload_n 1, 1) := by decide +kernel
theorem dX1_lowestSteep_28 : decode cX1_lowestSteep 28 = .ok (.invokevirtual 41, 3) := by decide +kernel
theorem dX1_lowestSteep_31 : decode cX1_lowestSteep 31 = .ok (.ifCond .eq 5, 3) := by decide +kernel
theorem dX1_lowestSteep_34 : decode cX1_lowestSteep 34 = .ok (.iload_n 2, 1) := by decide +kernel
theorem dX1_lowestSteep_35 : decode cX1_lowestSteep 35 = .ok (.ireturn, 1) := by decide +kernel
theorem dX1_lowestSteep_36 : decode cX1_lowestSteep 36 = .ok (.iinc 2 1, 3) := by decide +kernel
theorem dX1_lowestSteep_39 : decode cX1_lowestSteep 39 = .ok (.goto (-37), 3) := by decide +kernel
theorem dX1_lowestSteep_42 : decode cX1_lowestSteep 42 = .ok (.iconst (-1), 1) := by decide +kernel
theorem dX1_lowestSteep_43 : decode cX1_lowestSteep 43 = .ok (.ireturn, 1) := by decide +kernel
theorem zw_867 : (Jvm.Cond.code ({ cls := "HillSchool$Columns", name := "lowestSteep", desc := "(I)I" } : Jvm.MethodName) prog_3_method_13_code (3 : Nat) (Option.some Jvm.ClassFile.FieldType.int)) ∈ zall := zmemG (zmj_4 44 rfl) rfl
theorem zw_868 : (Jvm.Cond.methodLink "HillSchool$Columns" (41 : Nat) ({ cls := "HillSchool$Columns", name := "isSteep", desc := "(III)Z" } : Jvm.MethodName)) ∈ zall := zmemG (zmj_4 45 rfl) rfl
theorem zw_869 : (Jvm.Cond.instanceMethod ({ cls := "HillSchool$Columns", name := "isSteep", desc := "(III)Z" } : Jvm.MethodName)) ∈ zall := zmemG (zmj_4 46 rfl) rfl
theorem zw_870 : (Jvm.Cond.selects "HillSchool$Columns" ({ cls := "HillSchool$Columns", name := "isSteep", desc := "(III)Z" } : Jvm.MethodName) ({ cls := "HillSchool$Columns", name := "isSteep", desc := "(III)Z" } : Jvm.MethodName)) ∈ zall := zmemG (zmj_4 47 rfl) rfl
abbrev w_Columns_lowestSteep : List Cond := .code yX1_lowestSteep cX1_lowestSteep 3 (some .int) :: zall
abbrev rm_Columns_lowestSteep : Room := { frames := 2, cells := 0, slots := 0, locals := 44 }
theorem hd_Columns_lowestSteep : yX1_lowestSteep.cls = "HillSchool$Columns" ∧ yX1_lowestSteep.cls ≠ "java/lang/invoke/MethodHandle" ∧ yX1_lowestSteep.cls ≠ "java/lang/invoke/VarHandle" ∧ (parseMethodDescriptor yX1_lowestSteep.desc).map (fun d => d.parameters.length) = some 1 := by decide +kernel
def wd_Columns_lowestSteep (cA : Nat → ClassId) (q0 q1 q2 : Nat) (i_many : Int) (i_heights : Nat → Int)  : va_W := [(q0, .inr (1, [.int (Int32.ofInt i_many), .ref q1, .ref q2])), (q1, .inl (cA 0, 12, .inl (za i_heights)))]
def wf_Columns_lowestSteep (cA : Nat → ClassId) (q0 q1 q2 : Nat) (i_many : Int) (i_heights : Nat → Int) (o : Int) : va_W := wd_Columns_lowestSteep cA q0 q1 q2 i_many i_heights
def f_Columns_lowestSteep_2_b (i_many : Int) (i_heights : Nat → Int) (k2 : Int → Int → Option (Int)) (x1 : Int) (x2 : Int) : Option (Int) :=
  if zi_w i_many ≤ zi_w x2 then
    some (-1)
  else
    zn (x2 - 1) fun v1 =>
    zd1 (f_Columns_isSteep x2 v1 x1 i_many i_heights) fun v2 =>
    if zi_w v2 ≠ 0 then
      some x2
    else
      zn (x2 + 1) fun v3 =>
      zd1 (f_Columns_isSteep x2 v3 x1 i_many i_heights) fun v4 =>
      if zi_w v4 = 0 then
        zn (x2 + 1) fun v5 =>
        k2 x1 v5
      else
        some x2
def f_Columns_lowestSteep_2 (i_many : Int) (i_heights : Nat → Int) : Nat → Int → Int → Option (Int)
  | 0 => fun _ _ => none
  | n + 1 => fun y0 y1 => f_Columns_lowestSteep_2_b i_many i_heights (f_Columns_lowestSteep_2 i_many i_heights n) y0 y1
def f_Columns_lowestSteep (x1 : Int) (i_many : Int) (i_heights : Nat → Int) : Option (Int) :=
  f_Columns_lowestSteep_2 i_many i_heights zfu x1 0
set_option maxHeartbeats 4000000 in
set_option maxRecDepth 100000 in
theorem c_Columns_lowestSteep (l : Launch) (ev : zEv) (dC : Nat → ClassId) (dI : Nat → Nat → Nat) (cA : Nat → ClassId) (q0 q1 q2 : Nat) {x1 : Int} {i_many : Int} {i_heights : Nat → Int} {out : Int} (hf : f_Columns_lowestSteep x1 i_many i_heights = some out) : xc_I l ev (dC, dI) vwCl (tyl cA) yX1_lowestSteep w_Columns_lowestSteep rm_Columns_lowestSteep [.ref q0, .int (Int32.ofInt x1)] (wd_Columns_lowestSteep cA q0 q1 q2 i_many i_heights) (wf_Columns_lowestSteep cA q0 q1 q2 i_many i_heights out) out := by
  refine xv_startI (cc := cX1_lowestSteep) (maxL := 3) (rt := .int) (by decide +kernel) rfl (Nat.le_of_ble_eq_true rfl) ?_
  intro p e s m args below meth c A Q H ls hx hb hml hts hown hK hA hP hD hS hl hE hret
  have hown : s.vm.findClass "HillSchool$Columns" = some m.cls := hown
  have hz : ∀ w ∈ zall, w.before args s = true := fun w h => hts w (List.mem_cons_of_mem _ h)
  have hl : lv_has ls 3 [(0, .ref q0), (1, .int (Int32.ofInt x1))] := hl
  have b_2 : ∀ (k2 : Int → Int → Option (Int)) (_ : ∀ (x1 : Int) (x2 : Int) (H : Heap) (locs : List Loc) (ls : Array Slot), k2 x1 x2 = some out → va_P (dC, dI) vwCl (wd_Columns_lowestSteep cA q0 q1 q2 i_many i_heights) H → va_D A (wd_Columns_lowestSteep cA q0 q1 q2 i_many i_heights) → va_S A s.heap H locs → lv_has ls 3 [(0, .ref q0), (1, .int (Int32.ofInt x1)), (2, .int (Int32.ofInt x2))] → W p l e rm_Columns_lowestSteep s m args below meth c H locs 0 0 Q (F0 m 2 ls [])), ∀ (x1 : Int) (x2 : Int) (H : Heap) (locs : List Loc) (ls : Array Slot), f_Columns_lowestSteep_2_b i_many i_heights k2 x1 x2 = some out → va_P (dC, dI) vwCl (wd_Columns_lowestSteep cA q0 q1 q2 i_many i_heights) H → va_D A (wd_Columns_lowestSteep cA q0 q1 q2 i_many i_heights) → va_S A s.heap H locs → lv_has ls 3 [(0, .ref q0), (1, .int (Int32.ofInt x1)), (2, .int (Int32.ofInt x2))] → W p l e rm_Columns_lowestSteep s m args below meth c H locs 0 0 Q (F0 m 2 ls []) := by
    intro k2 ih2 x1 x2 H locs ls hf hP hD hS hl
    unfold f_Columns_lowestSteep_2_b at hf
    refine lv_iload_n hx hb dX1_lowestSteep_2 rfl (lv_at hl 2 rfl) ?_
    refine lv_aload_n hx hb dX1_lowestSteep_3 rfl (lv_at hl 0 rfl) ?_
    refine va_get (D := (dC, dI)) (ci := 1) (v := .int (Int32.ofInt i_many)) (C := RX1) (T := TX1) (N := 3) hx hb hz zi_X1 hown hK hP 0 rfl rfl 0 (by decide) (hz _ zw_143) (fun _ h9 => h9) rfl dX1_lowestSteep_4 ?_
    refine xi_icmp_ge (tgt := 42) hx hb dX1_lowestSteep_7 (by decide) hf (fun hf => ?_) (fun hf => ?_)
    · refine lv_iconst (v := Int32.ofInt (-1)) hx hb dX1_lowestSteep_42 rfl ?_
      obtain rfl := Option.some.inj hf
      exact hret _ _ _ _ rfl dX1_lowestSteep_43 hP hD hS
    · refine lv_aload_n hx hb dX1_lowestSteep_10 rfl (lv_at hl 0 rfl) ?_
      refine lv_iload_n hx hb dX1_lowestSteep_11 rfl (lv_at hl 2 rfl) ?_
      refine lv_iload_n hx hb dX1_lowestSteep_12 rfl (lv_at hl 2 rfl) ?_
      refine lv_iconst (v := Int32.ofInt 1) hx hb dX1_lowestSteep_13 rfl ?_
      refine xi_isub hx hb dX1_lowestSteep_14 hf (fun v1 hf => ?_)
      refine lv_iload_n hx hb dX1_lowestSteep_15 rfl (lv_at hl 1 rfl) ?_
      refine xe_d1 hf (fun v2 hg hf => ?_)
      have hC : ([0, 1] : List Nat).map (fun i => (wd_Columns_lowestSteep cA q0 q1 q2 i_many i_heights)[i]?) = (wd_Columns_isSteep cA q0 q1 q2 i_many i_heights).map some := rfl
      refine xv_afterI (ws' := (wd_Columns_lowestSteep cA q0 q1 q2 i_many i_heights)) (isC := [0, 1]) (ps := [some 0, some 1]) (va_runV (As := [.int (Int32.ofInt x2), .int (Int32.ofInt v1), .int (Int32.ofInt x1)]) (rest := []) ⟨hx, hb, hml, hown, hts⟩ (c_Columns_isSteep l ev dC dI cA q0 q1 q2 hg H.size) (cwV 3 hts (zgV zw_868 zw_869 zw_870 zw_106 zw_871) rfl rfl rfl hd_Columns_isSteep ⟨Nat.le_of_ble_eq_true rfl, Nat.le_of_ble_eq_true rfl⟩) (xv_preV (T := TX1) (N := 3) hE hA hS hK hP hD (isC := [0, 1]) (by decide +kernel) hC (q0 := 0) (ci := 1) rfl rfl) rfl rfl hl.1 rfl (lv_room (Nat.le_of_ble_eq_true rfl)) dX1_lowestSteep_16 ⟨Nat.le_refl _, Nat.le_refl _⟩) hP hD hS hA (by decide +kernel) rfl hC rfl rfl (fun H locs hP hD hS => ?_)
      refine xi_if_ne (tgt := 34) hx hb dX1_lowestSteep_19 (by decide) hf (fun hf => ?_) (fun hf => ?_)
      · refine lv_iload_n hx hb dX1_lowestSteep_34 rfl (lv_at hl 2 rfl) ?_
        obtain rfl := Option.some.inj hf
        exact hret _ _ _ _ rfl dX1_lowestSteep_35 hP hD hS
      · refine lv_aload_n hx hb dX1_lowestSteep_22 rfl (lv_at hl 0 rfl) ?_
        refine lv_iload_n hx hb dX1_lowestSteep_23 rfl (lv_at hl 2 rfl) ?_
        refine lv_iload_n hx hb dX1_lowestSteep_24 rfl (lv_at hl 2 rfl) ?_
        refine lv_iconst (v := Int32.ofInt 1) hx hb dX1_lowestSteep_25 rfl ?_
        refine xi_iadd hx hb dX1_lowestSteep_26 hf (fun v3 hf => ?_)
        refine lv_iload_n hx hb dX1_lowestSteep_27 rfl (lv_at hl 1 rfl) ?_
        refine xe_d1 hf (fun v4 hg hf => ?_)
        have hC : ([0, 1] : List Nat).map (fun i => (wd_Columns_lowestSteep cA q0 q1 q2 i_many i_heights)[i]?) = (wd_Columns_isSteep cA q0 q1 q2 i_many i_heights).map some := rfl
        refine xv_afterI (ws' := (wd_Columns_lowestSteep cA q0 q1 q2 i_many i_heights)) (isC := [0, 1]) (ps := [some 0, some 1]) (va_runV (As := [.int (Int32.ofInt x2), .int (Int32.ofInt v3), .int (Int32.ofInt x1)]) (rest := []) ⟨hx, hb, hml, hown, hts⟩ (c_Columns_isSteep l ev dC dI cA q0 q1 q2 hg H.size) (cwV 3 hts (zgV zw_868 zw_869 zw_870 zw_106 zw_871) rfl rfl rfl hd_Columns_isSteep ⟨Nat.le_of_ble_eq_true rfl, Nat.le_of_ble_eq_true rfl⟩) (xv_preV (T := TX1) (N := 3) hE hA hS hK hP hD (isC := [0, 1]) (by decide +kernel) hC (q0 := 0) (ci := 1) rfl rfl) rfl rfl hl.1 rfl (lv_room (Nat.le_of_ble_eq_true rfl)) dX1_lowestSteep_28 ⟨Nat.le_refl _, Nat.le_refl _⟩) hP hD hS hA (by decide +kernel) rfl hC rfl rfl (fun H locs hP hD hS => ?_)
        refine xi_if_eq (tgt := 36) hx hb dX1_lowestSteep_31 (by decide) hf (fun hf => ?_) (fun hf => ?_)
        · refine xi_iinc hx hb dX1_lowestSteep_36 hl (k := 2) rfl (by decide) hf (fun v5 ls hl hf => ?_)
          have hl : lv_has ls 3 [(2, .int (Int32.ofInt v5)), (0, .ref q0), (1, .int (Int32.ofInt x1))] := hl
          refine lv_goto (tgt := 2) hx hb dX1_lowestSteep_39 (by decide) ?_
          exact ih2 _ _ _ _ _ hf hP hD hS (lv_sub hl [1, 2, 0] rfl)
        · refine lv_iload_n hx hb dX1_lowestSteep_34 rfl (lv_at hl 2 rfl) ?_
          obtain rfl := Option.some.inj hf
          exact hret _ _ _ _ rfl dX1_lowestSteep_35 hP hD hS
  have l_2 : ∀ (n : Nat), ∀ (x1 : Int) (x2 : Int) (H : Heap) (locs : List Loc) (ls : Array Slot), f_Columns_lowestSteep_2 i_many i_heights n x1 x2 = some out → va_P (dC, dI) vwCl (wd_Columns_lowestSteep cA q0 q1 q2 i_many i_heights) H → va_D A (wd_Columns_lowestSteep cA q0 q1 q2 i_many i_heights) → va_S A s.heap H locs → lv_has ls 3 [(0, .ref q0), (1, .int (Int32.ofInt x1)), (2, .int (Int32.ofInt x2))] → W p l e rm_Columns_lowestSteep s m args below meth c H locs 0 0 Q (F0 m 2 ls []) := by
    intro n
    induction n with
    | zero => intro x1 x2 H locs ls hf hP hD hS hl; exact nomatch hf
    | succ n ih => intro x1 x2 H locs ls hf hP hD hS hl; exact b_2 (f_Columns_lowestSteep_2 i_many i_heights n) ih x1 x2 H locs ls hf hP hD hS hl
  unfold f_Columns_lowestSteep at hf
  refine lv_iconst (v := Int32.ofInt 0) hx hb dX1_lowestSteep_0 rfl ?_
  refine lv_istore_n (lv' := [(2, .int (Int32.ofInt 0)), (0, .ref q0), (1, .int (Int32.ofInt x1))]) hx hb dX1_lowestSteep_1 rfl hl (by decide) rfl (fun ls hl => ?_)
  exact l_2  _ _ _ _ _ _ hf hP hD hS (lv_sub hl [1, 2, 0] rfl)
theorem dX10_steep_0 : decode cX10_steep 0 = .ok (.aload_n 0, 1) := by decide +kernel
theorem dX10_steep_1 : decode cX10_steep 1 = .ok (.getfield 10, 3) := by decide +kernel
theorem dX10_steep_4 : decode cX10_steep 4 = .ok (.getfield 99, 3) := by decide +kernel
theorem dX10_steep_7 : decode cX10_steep 7 = .ok (.aload_n 0, 1) := by decide +kernel
theorem dX10_steep_8 : decode cX10_steep 8 = .ok (.getfield 10, 3) := by decide +kernel
theorem dX10_steep_11 : decode cX10_steep 11 = .ok (.getfield 176, 3) := by decide +kernel
theorem dX10_steep_14 : decode cX10_steep 14 = .ok (.iconst 2, 1) := by decide +kernel
theorem dX10_steep_15 : decode cX10_steep 15 = .ok (.iaload, 1) := by decide +kernel
theorem dX10_steep_16 : decode cX10_steep 16 = .ok (.invokevirtual 217, 3) := by decide +kernel
theorem dX10_steep_19 : decode cX10_steep 19 = .ok (.ireturn, 1) := by decide +kernel
theorem zw_863 : (Jvm.Cond.code ({ cls := "HillSchool", name := "steep", desc := "()I" } : Jvm.MethodName) prog_1_method_23_code (1 : Nat) (Option.some Jvm.ClassFile.FieldType.int)) ∈ zall := zmemG (zmj_4 40 rfl) rfl
theorem zw_864 : (Jvm.Cond.methodLink "HillSchool" (217 : Nat) ({ cls := "HillSchool$Columns", name := "lowestSteep", desc := "(I)I" } : Jvm.MethodName)) ∈ zall := zmemG (zmj_4 41 rfl) rfl
theorem zw_865 : (Jvm.Cond.instanceMethod ({ cls := "HillSchool$Columns", name := "lowestSteep", desc := "(I)I" } : Jvm.MethodName)) ∈ zall := zmemG (zmj_4 42 rfl) rfl
theorem zw_866 : (Jvm.Cond.selects "HillSchool$Columns" ({ cls := "HillSchool$Columns", name := "lowestSteep", desc := "(I)I" } : Jvm.MethodName) ({ cls := "HillSchool$Columns", name := "lowestSteep", desc := "(I)I" } : Jvm.MethodName)) ∈ zall := zmemG (zmj_4 43 rfl) rfl
abbrev w_HS_steep : List Cond := .code yX10_steep cX10_steep 1 (some .int) :: zall
abbrev rm_HS_steep : Room := { frames := 3, cells := 0, slots := 0, locals := 66 }
theorem hd_HS_steep : yX10_steep.cls = "HillSchool" ∧ yX10_steep.cls ≠ "java/lang/invoke/MethodHandle" ∧ yX10_steep.cls ≠ "java/lang/invoke/VarHandle" ∧ (parseMethodDescriptor yX10_steep.desc).map (fun d => d.parameters.length) = some 0 := by decide +kernel
def wd_HS_steep (cA : Nat → ClassId) (q0 q1 q2 q3 q4 q5 q6 q7 q8 q9 q10 q11 q12 q13 q14 q15 q16 q17 q18 q19 q20 q21 q22 q23 : Nat) (u0 u1 u2 u3 u4 u5 u6 u7 u8 : Int) (i_hill_columns_many : Int) (i_hill_terms : Nat → Int) (i_hill_columns_heights : Nat → Int)  : va_W := [(q0, .inr (10, [.ref q1, .ref q2, .ref q3, .ref q4, .int (Int32.ofInt u0), .int (Int32.ofInt u1), .int (Int32.ofInt u2), .ref q5, .int (Int32.ofInt u3), .ref q6, .ref q7, .ref q8, .ref q9, .ref q10, .ref q11, .ref q12])), (q1, .inr (2, [.ref q13, .int (Int32.ofInt u4), .ref q14, .ref q15, .ref q16, .int (Int32.ofInt u5), .ref q17, .ref q18, .ref q19, .int (Int32.ofInt u6), .ref q20, .ref q21, .int (Int32.ofInt u7), .int (Int32.ofInt u8)])), (q13, .inr (1, [.int (Int32.ofInt i_hill_columns_many), .ref q22, .ref q23])), (q18, .inl (cA 0, 4, .inl (za i_hill_terms))), (q22, .inl (cA 0, 12, .inl (za i_hill_columns_heights)))]
def wf_HS_steep (cA : Nat → ClassId) (q0 q1 q2 q3 q4 q5 q6 q7 q8 q9 q10 q11 q12 q13 q14 q15 q16 q17 q18 q19 q20 q21 q22 q23 : Nat) (u0 u1 u2 u3 u4 u5 u6 u7 u8 : Int) (i_hill_columns_many : Int) (i_hill_terms : Nat → Int) (i_hill_columns_heights : Nat → Int) (o : Int) : va_W := wd_HS_steep cA q0 q1 q2 q3 q4 q5 q6 q7 q8 q9 q10 q11 q12 q13 q14 q15 q16 q17 q18 q19 q20 q21 q22 q23 u0 u1 u2 u3 u4 u5 u6 u7 u8 i_hill_columns_many i_hill_terms i_hill_columns_heights
def f_HS_steep (i_hill_columns_many : Int) (i_hill_terms : Nat → Int) (i_hill_columns_heights : Nat → Int) : Option (Int) :=
  zg 4 i_hill_terms 2 fun v1 =>
  zd1 (f_Columns_lowestSteep v1 i_hill_columns_many i_hill_columns_heights) fun v2 =>
  some v2
set_option maxHeartbeats 4000000 in
set_option maxRecDepth 100000 in
theorem c_HS_steep (l : Launch) (ev : zEv) (dC : Nat → ClassId) (dI : Nat → Nat → Nat) (cA : Nat → ClassId) (q0 q1 q2 q3 q4 q5 q6 q7 q8 q9 q10 q11 q12 q13 q14 q15 q16 q17 q18 q19 q20 q21 q22 q23 : Nat) (u0 u1 u2 u3 u4 u5 u6 u7 u8 : Int) {i_hill_columns_many : Int} {i_hill_terms : Nat → Int} {i_hill_columns_heights : Nat → Int} {out : Int} (hf : f_HS_steep i_hill_columns_many i_hill_terms i_hill_columns_heights = some out) : xc_I l ev (dC, dI) vwCl (tyl cA) yX10_steep w_HS_steep rm_HS_steep [.ref q0] (wd_HS_steep cA q0 q1 q2 q3 q4 q5 q6 q7 q8 q9 q10 q11 q12 q13 q14 q15 q16 q17 q18 q19 q20 q21 q22 q23 u0 u1 u2 u3 u4 u5 u6 u7 u8 i_hill_columns_many i_hill_terms i_hill_columns_heights) (wf_HS_steep cA q0 q1 q2 q3 q4 q5 q6 q7 q8 q9 q10 q11 q12 q13 q14 q15 q16 q17 q18 q19 q20 q21 q22 q23 u0 u1 u2 u3 u4 u5 u6 u7 u8 i_hill_columns_many i_hill_terms i_hill_columns_heights out) out := by
  refine xv_startI (cc := cX10_steep) (maxL := 1) (rt := .int) (by decide +kernel) rfl (Nat.le_of_ble_eq_true rfl) ?_
  intro p e s m args below meth c A Q H ls hx hb hml hts hown hK hA hP hD hS hl hE hret
  have hown : s.vm.findClass "HillSchool" = some m.cls := hown
  have hz : ∀ w ∈ zall, w.before args s = true := fun w h => hts w (List.mem_cons_of_mem _ h)
  have hl : lv_has ls 1 [(0, .ref q0)] := hl
  unfold f_HS_steep at hf
  refine lv_aload_n hx hb dX10_steep_0 rfl (lv_at hl 0 rfl) ?_
  refine va_get (D := (dC, dI)) (ci := 10) (v := .ref q1) (C := RX10) (T := TX10) (N := 16) hx hb hz zi_X10 hown hK hP 0 rfl rfl 0 (by decide) (hz _ zw_477) (fun _ h9 => h9) rfl dX10_steep_1 ?_
  refine va_getN (D := (dC, dI)) (ci := 2) (v := .ref q13) (C := RX2) (T := TX2) (N := 14) hx hb hz zi_X2 hown hK hP 1 rfl rfl 0 (by decide) (va_Nw.use rfl (hE.1.1 _ zw_169)) (fun _ h9 => h9) rfl dX10_steep_4 ?_
  refine lv_aload_n hx hb dX10_steep_7 rfl (lv_at hl 0 rfl) ?_
  refine va_get (D := (dC, dI)) (ci := 10) (v := .ref q1) (C := RX10) (T := TX10) (N := 16) hx hb hz zi_X10 hown hK hP 0 rfl rfl 0 (by decide) (hz _ zw_477) (fun _ h9 => h9) rfl dX10_steep_8 ?_
  refine va_getN (D := (dC, dI)) (ci := 2) (v := .ref q18) (C := RX2) (T := TX2) (N := 14) hx hb hz zi_X2 hown hK hP 1 rfl rfl 7 (by decide) (va_Nw.use rfl (hE.1.1 _ zw_191)) (fun _ h9 => h9) rfl dX10_steep_11 ?_
  refine lv_iconst (v := Int32.ofInt 2) hx hb dX10_steep_14 rfl ?_
  refine xi_iald hx hb hK hP 3 0 rfl rfl dX10_steep_15 hf (fun v1 hf => ?_)
  refine xe_d1 hf (fun v2 hg hf => ?_)
  have hC : ([2, 4] : List Nat).map (fun i => (wd_HS_steep cA q0 q1 q2 q3 q4 q5 q6 q7 q8 q9 q10 q11 q12 q13 q14 q15 q16 q17 q18 q19 q20 q21 q22 q23 u0 u1 u2 u3 u4 u5 u6 u7 u8 i_hill_columns_many i_hill_terms i_hill_columns_heights)[i]?) = (wd_Columns_lowestSteep cA q13 q22 q23 i_hill_columns_many i_hill_columns_heights).map some := rfl
  refine xv_afterI (ws' := (wd_HS_steep cA q0 q1 q2 q3 q4 q5 q6 q7 q8 q9 q10 q11 q12 q13 q14 q15 q16 q17 q18 q19 q20 q21 q22 q23 u0 u1 u2 u3 u4 u5 u6 u7 u8 i_hill_columns_many i_hill_terms i_hill_columns_heights)) (isC := [2, 4]) (ps := [none, none, some 0, none, some 1]) (va_runV (As := [.int (Int32.ofInt v1)]) (rest := []) ⟨hx, hb, hml, hown, hts⟩ (c_Columns_lowestSteep l ev dC dI cA q13 q22 q23 hg H.size) (cwV 1 hts (zgV zw_864 zw_865 zw_866 zw_106 zw_867) rfl rfl rfl hd_Columns_lowestSteep ⟨Nat.le_of_ble_eq_true rfl, Nat.le_of_ble_eq_true rfl⟩) (xv_preV (T := TX1) (N := 3) hE hA hS hK hP hD (isC := [2, 4]) (by decide +kernel) hC (q0 := 2) (ci := 1) rfl rfl) rfl rfl hl.1 rfl (lv_room (Nat.le_of_ble_eq_true rfl)) dX10_steep_16 ⟨Nat.le_refl _, Nat.le_refl _⟩) hP hD hS hA (by decide +kernel) rfl hC rfl rfl (fun H locs hP hD hS => ?_)
  obtain rfl := Option.some.inj hf
  exact hret _ _ _ _ rfl dX10_steep_19 hP hD hS
theorem dX1_settle_0 : decode cX1_settle 0 = .ok (.iconst 0, 1) := by decide +kernel
theorem dX1_settle_1 : decode cX1_settle 1 = .ok (.istore_n 2, 1) := by decide +kernel
theorem dX1_settle_2 : decode cX1_settle 2 = .ok (.iload_n 2, 1) := by decide +kernel
theorem dX1_settle_3 : decode cX1_settle 3 = .ok (.sipush 600, 3) := by decide +kernel
theorem dX1_settle_6 : decode cX1_settle 6 = .ok (.if_icmp .ge 48, 3) := by decide +kernel
theorem dX1_settle_9 : decode cX1_settle 9 = .ok (.aload_n 0, 1) := by decide +kernel
theorem dX1_settle_10 : decode cX1_settle 10 = .ok (.iload_n 1, 1) := by decide +kernel
theorem dX1_settle_11 : decode cX1_settle 11 = .ok (.invokevirtual 45, 3) := by decide +kernel
theorem dX1_settle_14 : decode cX1_settle 14 = .ok (.istore_n 3, 1) := by decide +kernel
theorem dX1_settle_15 : decode cX1_settle 15 = .ok (.iload_n 3, 1) := by decide +kernel
theorem dX1_settle_16 : decode cX1_settle 16 = .ok (.iconst (-1), 1) := by decide +kernel
theorem dX1_settle_17 : decode cX1_settle 17 = .ok (.if_icmp .ne 5, 3) := by decide +kernel
theorem dX1_settle_20 : decode cX1_settle 20 = .ok (.iload_n 2, 1) := by decide +kernel
theorem dX1_settle_21 : decode cX1_settle 21 = .ok (.ireturn, 1) := by decide +kernel
theorem dX1_settle_22 : decode cX1_settle 22 = .ok (.aload_n 0, 1) := by decide +kernel
theorem dX1_settle_23 : decode cX1_settle 23 = .ok (.iload_n 3, 1) := by decide +kernel
theorem dX1_settle_24 : decode cX1_settle 24 = .ok (.aload_n 0, 1) := by decide +kernel
theorem dX1_settle_25 : decode cX1_settle 25 = .ok (.iload_n 3, 1) := by decide +kernel
theorem dX1_settle_26 : decode cX1_settle 26 = .ok (.iload_n 3, 1) := by decide +kernel
theorem dX1_settle_27 : decode cX1_settle 27 = .ok (.iconst 1, 1) := by decide +kernel
theorem dX1_settle_28 : decode cX1_settle 28 = .ok (.isub, 1) := by decide +kernel
theorem dX1_settle_29 : decode cX1_settle 29 = .ok (.iload_n 1, 1) := by decide +kernel
theorem dX1_settle_30 : decode cX1_settle 30 = .ok (.invokevirtual 41, 3) := by decide +kernel
theorem dX1_settle_33 : decode cX1_settle 33 = .ok (.ifCond .eq 9, 3) := by decide +kernel
theorem dX1_settle_36 : decode cX1_settle 36 = .ok (.iload_n 3, 1) := by decide +kernel
theorem dX1_settle_37 : decode cX1_settle 37 = .ok (.iconst 1, 1) := by decide +kernel
theorem dX1_settle_38 : decode cX1_settle 38 = .ok (.isub, 1) := by decide +kernel
theorem dX1_settle_39 : decode cX1_settle 39 = .ok (.goto 6, 3) := by decide +kernel
theorem dX1_settle_42 : decode cX1_settle 42 = .ok (.iload_n 3, 1) := by decide +kernel
theorem dX1_settle_43 : decode cX1_settle 43 = .ok (.iconst 1, 1) := by decide +kernel
theorem dX1_settle_44 : decode cX1_settle 44 = .ok (.iadd, 1) := by decide +kernel
theorem dX1_settle_45 : decode cX1_settle 45 = .ok (.invokevirtual 48, 3) := by decide +kernel
theorem dX1_settle_48 : decode cX1_settle 48 = .ok (.iinc 2 1, 3) := by decide +kernel
theorem dX1_settle_51 : decode cX1_settle 51 = .ok (.goto (-49), 3) := by decide +kernel
theorem dX1_settle_54 : decode cX1_settle 54 = .ok (.sipush 600, 3) := by decide +kernel
theorem dX1_settle_57 : decode cX1_settle 57 = .ok (.ireturn, 1) := by decide +kernel
theorem zw_879 : (Jvm.Cond.code ({ cls := "HillSchool$Columns", name := "settle", desc := "(I)I" } : Jvm.MethodName) prog_3_method_14_code (4 : Nat) (Option.some Jvm.ClassFile.FieldType.int)) ∈ zall := zmemG (zmj_4 56 rfl) rfl
theorem zw_880 : (Jvm.Cond.methodLink "HillSchool$Columns" (45 : Nat) ({ cls := "HillSchool$Columns", name := "lowestSteep", desc := "(I)I" } : Jvm.MethodName)) ∈ zall := zmemG (zmj_4 57 rfl) rfl
theorem zw_881 : (Jvm.Cond.methodLink "HillSchool$Columns" (48 : Nat) ({ cls := "HillSchool$Columns", name := "move", desc := "(II)V" } : Jvm.MethodName)) ∈ zall := zmemG (zmj_4 58 rfl) rfl
abbrev w_Columns_settle : List Cond := .code yX1_settle cX1_settle 4 (some .int) :: zall
abbrev rm_Columns_settle : Room := { frames := 4, cells := 0, slots := 0, locals := 86 }
theorem hd_Columns_settle : yX1_settle.cls = "HillSchool$Columns" ∧ yX1_settle.cls ≠ "java/lang/invoke/MethodHandle" ∧ yX1_settle.cls ≠ "java/lang/invoke/VarHandle" ∧ (parseMethodDescriptor yX1_settle.desc).map (fun d => d.parameters.length) = some 1 := by decide +kernel
def wd_Columns_settle (cA : Nat → ClassId) (q0 q1 q2 : Nat) (i_many : Int) (i_heights : Nat → Int) (i_weights : Nat → Int) : va_W := [(q0, .inr (1, [.int (Int32.ofInt i_many), .ref q1, .ref q2])), (q1, .inl (cA 0, 12, .inl (za i_heights))), (q2, .inl (cA 0, 120, .inl (za i_weights)))]
def wf_Columns_settle (cA : Nat → ClassId) (q0 q1 q2 : Nat) (i_many : Int) (o : Int × (Nat → Int) × (Nat → Int)) : va_W := wd_Columns_settle cA q0 q1 q2 i_many o.2.1 o.2.2
def f_Columns_settle_45 (i_many : Int) (k2 : Int → Int → (Nat → Int) → (Nat → Int) → Option (Int × (Nat → Int) × (Nat → Int))) (x1 : Int) (x2 : Int) (s1 : Int) (s2 : Int) (i_heights : Nat → Int) (i_weights : Nat → Int) : Option (Int × (Nat → Int) × (Nat → Int)) :=
  zd2 (f_Columns_move s1 s2 i_many i_heights i_weights) fun a1 a2 =>
  zn (x2 + 1) fun v3 =>
  k2 x1 v3 a1 a2
def f_Columns_settle_2_b (i_many : Int) (k2 : Int → Int → (Nat → Int) → (Nat → Int) → Option (Int × (Nat → Int) × (Nat → Int))) (x1 : Int) (x2 : Int) (i_heights : Nat → Int) (i_weights : Nat → Int) : Option (Int × (Nat → Int) × (Nat → Int)) :=
  if zi_w 600 ≤ zi_w x2 then
    some (600, i_heights, i_weights)
  else
    zd1 (f_Columns_lowestSteep x1 i_many i_heights) fun v1 =>
    if zi_w v1 ≠ zi_w (-1) then
      zn (v1 - 1) fun v2 =>
      zd1 (f_Columns_isSteep v1 v2 x1 i_many i_heights) fun v3 =>
      if zi_w v3 = 0 then
        zn (v1 + 1) fun v4 =>
        f_Columns_settle_45 i_many k2 x1 x2 v1 v4 i_heights i_weights
      else
        zn (v1 - 1) fun v5 =>
        f_Columns_settle_45 i_many k2 x1 x2 v1 v5 i_heights i_weights
    else
      some (x2, i_heights, i_weights)
def f_Columns_settle_2 (i_many : Int) : Nat → Int → Int → (Nat → Int) → (Nat → Int) → Option (Int × (Nat → Int) × (Nat → Int))
  | 0 => fun _ _ _ _ => none
  | n + 1 => fun y0 y1 y2 y3 => f_Columns_settle_2_b i_many (f_Columns_settle_2 i_many n) y0 y1 y2 y3
def f_Columns_settle (x1 : Int) (i_many : Int) (i_heights : Nat → Int) (i_weights : Nat → Int) : Option (Int × (Nat → Int) × (Nat → Int)) :=
  f_Columns_settle_2 i_many zfu x1 0 i_heights i_weights
set_option maxHeartbeats 4000000 in
set_option maxRecDepth 100000 in
theorem c_Columns_settle (l : Launch) (ev : zEv) (dC : Nat → ClassId) (dI : Nat → Nat → Nat) (cA : Nat → ClassId) (q0 q1 q2 : Nat) {x1 : Int} {i_many : Int} {i_heights : Nat → Int} {i_weights : Nat → Int} {out : Int × (Nat → Int) × (Nat → Int)} (hf : f_Columns_settle x1 i_many i_heights i_weights = some out) : xc_I l ev (dC, dI) vwCl (tyl cA) yX1_settle w_Columns_settle rm_Columns_settle [.ref q0, .int (Int32.ofInt x1)] (wd_Columns_settle cA q0 q1 q2 i_many i_heights i_weights) (wf_Columns_settle cA q0 q1 q2 i_many out) out.1 := by
  refine xv_startI (cc := cX1_settle) (maxL := 4) (rt := .int) (by decide +kernel) rfl (Nat.le_of_ble_eq_true rfl) ?_
  intro p e s m args below meth c A Q H ls hx hb hml hts hown hK hA hP hD hS hl hE hret
  have hown : s.vm.findClass "HillSchool$Columns" = some m.cls := hown
  have hz : ∀ w ∈ zall, w.before args s = true := fun w h => hts w (List.mem_cons_of_mem _ h)
  have hl : lv_has ls 4 [(0, .ref q0), (1, .int (Int32.ofInt x1))] := hl
  have b_45 : ∀ (k2 : Int → Int → (Nat → Int) → (Nat → Int) → Option (Int × (Nat → Int) × (Nat → Int))) (_ : ∀ (x1 : Int) (x2 : Int) (i_heights : Nat → Int) (i_weights : Nat → Int) (H : Heap) (locs : List Loc) (ls : Array Slot), k2 x1 x2 i_heights i_weights = some out → va_P (dC, dI) vwCl (wd_Columns_settle cA q0 q1 q2 i_many i_heights i_weights) H → va_D A (wd_Columns_settle cA q0 q1 q2 i_many i_heights i_weights) → va_S A s.heap H locs → lv_has ls 4 [(0, .ref q0), (1, .int (Int32.ofInt x1)), (2, .int (Int32.ofInt x2))] → W p l e rm_Columns_settle s m args below meth c H locs 0 0 Q (F0 m 2 ls [])), ∀ (x1 : Int) (x2 : Int) (s1 : Int) (s2 : Int) (i_heights : Nat → Int) (i_weights : Nat → Int) (H : Heap) (locs : List Loc) (ls : Array Slot), f_Columns_settle_45 i_many k2 x1 x2 s1 s2 i_heights i_weights = some out → va_P (dC, dI) vwCl (wd_Columns_settle cA q0 q1 q2 i_many i_heights i_weights) H → va_D A (wd_Columns_settle cA q0 q1 q2 i_many i_heights i_weights) → va_S A s.heap H locs → lv_has ls 4 [(0, .ref q0), (1, .int (Int32.ofInt x1)), (2, .int (Int32.ofInt x2))] → W p l e rm_Columns_settle s m args below meth c H locs 0 0 Q (F0 m 45 ls [.int (Int32.ofInt s2), .int (Int32.ofInt s1), .ref q0]) := by
    intro k2 ih2 x1 x2 s1 s2 i_heights i_weights H locs ls hf hP hD hS hl
    unfold f_Columns_settle_45 at hf
    refine xe_d2 hf (fun a1 a2 hg hf => ?_)
    have hC : ([0, 1, 2] : List Nat).map (fun i => (wd_Columns_settle cA q0 q1 q2 i_many i_heights i_weights)[i]?) = (wd_Columns_move cA q0 q1 q2 i_many i_heights i_weights).map some := rfl
    refine xv_afterV (ws' := (wd_Columns_settle cA q0 q1 q2 i_many a1 a2)) (isC := [0, 1, 2]) (ps := [some 0, some 1, some 2]) (va_runV (As := [.int (Int32.ofInt s1), .int (Int32.ofInt s2)]) (rest := []) ⟨hx, hb, hml, hown, hts⟩ (c_Columns_move l ev dC dI cA q0 q1 q2 hg H.size) (cwV 2 hts (zgV zw_881 zw_851 zw_852 zw_106 zw_853) rfl rfl rfl hd_Columns_move ⟨Nat.le_of_ble_eq_true rfl, Nat.le_of_ble_eq_true rfl⟩) (xv_preV (T := TX1) (N := 3) hE hA hS hK hP hD (isC := [0, 1, 2]) (by decide +kernel) hC (q0 := 0) (ci := 1) rfl rfl) rfl rfl hl.1 rfl (lv_room (Nat.le_of_ble_eq_true rfl)) dX1_settle_45 ⟨Nat.le_refl _, Nat.le_refl _⟩) hP hD hS hA (by decide +kernel) rfl hC rfl rfl (fun H locs hP hD hS => ?_)
    refine xi_iinc hx hb dX1_settle_48 hl (k := 2) rfl (by decide) hf (fun v3 ls hl hf => ?_)
    have hl : lv_has ls 4 [(2, .int (Int32.ofInt v3)), (0, .ref q0), (1, .int (Int32.ofInt x1))] := hl
    refine lv_goto (tgt := 2) hx hb dX1_settle_51 (by decide) ?_
    exact ih2 _ _ _ _ _ _ _ hf hP hD hS (lv_sub hl [1, 2, 0] rfl)
  have b_2 : ∀ (k2 : Int → Int → (Nat → Int) → (Nat → Int) → Option (Int × (Nat → Int) × (Nat → Int))) (_ : ∀ (x1 : Int) (x2 : Int) (i_heights : Nat → Int) (i_weights : Nat → Int) (H : Heap) (locs : List Loc) (ls : Array Slot), k2 x1 x2 i_heights i_weights = some out → va_P (dC, dI) vwCl (wd_Columns_settle cA q0 q1 q2 i_many i_heights i_weights) H → va_D A (wd_Columns_settle cA q0 q1 q2 i_many i_heights i_weights) → va_S A s.heap H locs → lv_has ls 4 [(0, .ref q0), (1, .int (Int32.ofInt x1)), (2, .int (Int32.ofInt x2))] → W p l e rm_Columns_settle s m args below meth c H locs 0 0 Q (F0 m 2 ls [])), ∀ (x1 : Int) (x2 : Int) (i_heights : Nat → Int) (i_weights : Nat → Int) (H : Heap) (locs : List Loc) (ls : Array Slot), f_Columns_settle_2_b i_many k2 x1 x2 i_heights i_weights = some out → va_P (dC, dI) vwCl (wd_Columns_settle cA q0 q1 q2 i_many i_heights i_weights) H → va_D A (wd_Columns_settle cA q0 q1 q2 i_many i_heights i_weights) → va_S A s.heap H locs → lv_has ls 4 [(0, .ref q0), (1, .int (Int32.ofInt x1)), (2, .int (Int32.ofInt x2))] → W p l e rm_Columns_settle s m args below meth c H locs 0 0 Q (F0 m 2 ls []) := by
    intro k2 ih2 x1 x2 i_heights i_weights H locs ls hf hP hD hS hl
    unfold f_Columns_settle_2_b at hf
    refine lv_iload_n hx hb dX1_settle_2 rfl (lv_at hl 2 rfl) ?_
    refine lv_sipush (v := Int32.ofInt 600) hx hb dX1_settle_3 (by decide) ?_
    refine xi_icmp_ge (tgt := 54) hx hb dX1_settle_6 (by decide) hf (fun hf => ?_) (fun hf => ?_)
    · refine lv_sipush (v := Int32.ofInt 600) hx hb dX1_settle_54 (by decide) ?_
      obtain rfl := Option.some.inj hf
      exact hret _ _ _ _ rfl dX1_settle_57 hP hD hS
    · refine lv_aload_n hx hb dX1_settle_9 rfl (lv_at hl 0 rfl) ?_
      refine lv_iload_n hx hb dX1_settle_10 rfl (lv_at hl 1 rfl) ?_
      refine xe_d1 hf (fun v1 hg hf => ?_)
      have hC : ([0, 1] : List Nat).map (fun i => (wd_Columns_settle cA q0 q1 q2 i_many i_heights i_weights)[i]?) = (wd_Columns_lowestSteep cA q0 q1 q2 i_many i_heights).map some := rfl
      refine xv_afterI (ws' := (wd_Columns_settle cA q0 q1 q2 i_many i_heights i_weights)) (isC := [0, 1]) (ps := [some 0, some 1, none]) (va_runV (As := [.int (Int32.ofInt x1)]) (rest := []) ⟨hx, hb, hml, hown, hts⟩ (c_Columns_lowestSteep l ev dC dI cA q0 q1 q2 hg H.size) (cwV 1 hts (zgV zw_880 zw_865 zw_866 zw_106 zw_867) rfl rfl rfl hd_Columns_lowestSteep ⟨Nat.le_of_ble_eq_true rfl, Nat.le_of_ble_eq_true rfl⟩) (xv_preV (T := TX1) (N := 3) hE hA hS hK hP hD (isC := [0, 1]) (by decide +kernel) hC (q0 := 0) (ci := 1) rfl rfl) rfl rfl hl.1 rfl (lv_room (Nat.le_of_ble_eq_true rfl)) dX1_settle_11 ⟨Nat.le_refl _, Nat.le_refl _⟩) hP hD hS hA (by decide +kernel) rfl hC rfl rfl (fun H locs hP hD hS => ?_)
      refine lv_istore_n (lv' := [(3, .int (Int32.ofInt v1)), (0, .ref q0), (1, .int (Int32.ofInt x1)), (2, .int (Int32.ofInt x2))]) hx hb dX1_settle_14 rfl hl (by decide) rfl (fun ls hl => ?_)
      refine lv_iload_n hx hb dX1_settle_15 rfl (lv_at hl 0 rfl) ?_
      refine lv_iconst (v := Int32.ofInt (-1)) hx hb dX1_settle_16 rfl ?_
      refine xi_icmp_ne (tgt := 22) hx hb dX1_settle_17 (by decide) hf (fun hf => ?_) (fun hf => ?_)
      · refine lv_aload_n hx hb dX1_settle_22 rfl (lv_at hl 1 rfl) ?_
        refine lv_iload_n hx hb dX1_settle_23 rfl (lv_at hl 0 rfl) ?_
        refine lv_aload_n hx hb dX1_settle_24 rfl (lv_at hl 1 rfl) ?_
        refine lv_iload_n hx hb dX1_settle_25 rfl (lv_at hl 0 rfl) ?_
        refine lv_iload_n hx hb dX1_settle_26 rfl (lv_at hl 0 rfl) ?_
        refine lv_iconst (v := Int32.ofInt 1) hx hb dX1_settle_27 rfl ?_
        refine xi_isub hx hb dX1_settle_28 hf (fun v2 hf => ?_)
        refine lv_iload_n hx hb dX1_settle_29 rfl (lv_at hl 2 rfl) ?_
        refine xe_d1 hf (fun v3 hg hf => ?_)
        have hC : ([0, 1] : List Nat).map (fun i => (wd_Columns_settle cA q0 q1 q2 i_many i_heights i_weights)[i]?) = (wd_Columns_isSteep cA q0 q1 q2 i_many i_heights).map some := rfl
        refine xv_afterI (ws' := (wd_Columns_settle cA q0 q1 q2 i_many i_heights i_weights)) (isC := [0, 1]) (ps := [some 0, some 1, none]) (va_runV (As := [.int (Int32.ofInt v1), .int (Int32.ofInt v2), .int (Int32.ofInt x1)]) (rest := [.int (Int32.ofInt v1), .ref q0]) ⟨hx, hb, hml, hown, hts⟩ (c_Columns_isSteep l ev dC dI cA q0 q1 q2 hg H.size) (cwV 3 hts (zgV zw_868 zw_869 zw_870 zw_106 zw_871) rfl rfl rfl hd_Columns_isSteep ⟨Nat.le_of_ble_eq_true rfl, Nat.le_of_ble_eq_true rfl⟩) (xv_preV (T := TX1) (N := 3) hE hA hS hK hP hD (isC := [0, 1]) (by decide +kernel) hC (q0 := 0) (ci := 1) rfl rfl) rfl rfl hl.1 rfl (lv_room (Nat.le_of_ble_eq_true rfl)) dX1_settle_30 ⟨Nat.le_refl _, Nat.le_refl _⟩) hP hD hS hA (by decide +kernel) rfl hC rfl rfl (fun H locs hP hD hS => ?_)
        refine xi_if_eq (tgt := 42) hx hb dX1_settle_33 (by decide) hf (fun hf => ?_) (fun hf => ?_)
        · refine lv_iload_n hx hb dX1_settle_42 rfl (lv_at hl 0 rfl) ?_
          refine lv_iconst (v := Int32.ofInt 1) hx hb dX1_settle_43 rfl ?_
          refine xi_iadd hx hb dX1_settle_44 hf (fun v4 hf => ?_)
          exact b_45 _ ih2 _ _ _ _ _ _ _ _ _ hf hP hD hS (lv_sub hl [1, 2, 3] rfl)
        · refine lv_iload_n hx hb dX1_settle_36 rfl (lv_at hl 0 rfl) ?_
          refine lv_iconst (v := Int32.ofInt 1) hx hb dX1_settle_37 rfl ?_
          refine xi_isub hx hb dX1_settle_38 hf (fun v5 hf => ?_)
          refine lv_goto (tgt := 45) hx hb dX1_settle_39 (by decide) ?_
          exact b_45 _ ih2 _ _ _ _ _ _ _ _ _ hf hP hD hS (lv_sub hl [1, 2, 3] rfl)
      · refine lv_iload_n hx hb dX1_settle_20 rfl (lv_at hl 3 rfl) ?_
        obtain rfl := Option.some.inj hf
        exact hret _ _ _ _ rfl dX1_settle_21 hP hD hS
  have l_2 : ∀ (n : Nat), ∀ (x1 : Int) (x2 : Int) (i_heights : Nat → Int) (i_weights : Nat → Int) (H : Heap) (locs : List Loc) (ls : Array Slot), f_Columns_settle_2 i_many n x1 x2 i_heights i_weights = some out → va_P (dC, dI) vwCl (wd_Columns_settle cA q0 q1 q2 i_many i_heights i_weights) H → va_D A (wd_Columns_settle cA q0 q1 q2 i_many i_heights i_weights) → va_S A s.heap H locs → lv_has ls 4 [(0, .ref q0), (1, .int (Int32.ofInt x1)), (2, .int (Int32.ofInt x2))] → W p l e rm_Columns_settle s m args below meth c H locs 0 0 Q (F0 m 2 ls []) := by
    intro n
    induction n with
    | zero => intro x1 x2 i_heights i_weights H locs ls hf hP hD hS hl; exact nomatch hf
    | succ n ih => intro x1 x2 i_heights i_weights H locs ls hf hP hD hS hl; exact b_2 (f_Columns_settle_2 i_many n) ih x1 x2 i_heights i_weights H locs ls hf hP hD hS hl
  unfold f_Columns_settle at hf
  refine lv_iconst (v := Int32.ofInt 0) hx hb dX1_settle_0 rfl ?_
  refine lv_istore_n (lv' := [(2, .int (Int32.ofInt 0)), (0, .ref q0), (1, .int (Int32.ofInt x1))]) hx hb dX1_settle_1 rfl hl (by decide) rfl (fun ls hl => ?_)
  exact l_2  _ _ _ _ _ _ _ _ hf hP hD hS (lv_sub hl [1, 2, 0] rfl)
