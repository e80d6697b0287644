theorem dX4_split_0 : decode cX4_split 0 = .ok (.iconst 0, 1) := by decide +kernel
theorem dX4_split_1 : decode cX4_split 1 = .ok (.istore_n 3, 1) := by decide +kernel
theorem dX4_split_2 : decode cX4_split 2 = .ok (.iconst 0, 1) := by decide +kernel
theorem dX4_split_3 : decode cX4_split 3 = .ok (.istore 4, 2) := by decide +kernel
theorem dX4_split_5 : decode cX4_split 5 = .ok (.iconst 0, 1) := by decide +kernel
theorem dX4_split_6 : decode cX4_split 6 = .ok (.istore 5, 2) := by decide +kernel
theorem dX4_split_8 : decode cX4_split 8 = .ok (.iload 5, 2) := by decide +kernel
theorem dX4_split_10 : decode cX4_split 10 = .ok (.iload_n 2, 1) := by decide +kernel
theorem dX4_split_11 : decode cX4_split 11 = .ok (.if_icmp .ge 113, 3) := by decide +kernel
theorem dX4_split_14 : decode cX4_split 14 = .ok (.iload 5, 2) := by decide +kernel
theorem dX4_split_16 : decode cX4_split 16 = .ok (.iload 4, 2) := by decide +kernel
theorem dX4_split_18 : decode cX4_split 18 = .ok (.if_icmp .lt 100, 3) := by decide +kernel
theorem dX4_split_21 : decode cX4_split 21 = .ok (.aload_n 1, 1) := by decide +kernel
theorem dX4_split_22 : decode cX4_split 22 = .ok (.iload 5, 2) := by decide +kernel
theorem dX4_split_24 : decode cX4_split 24 = .ok (.iaload, 1) := by decide +kernel
theorem dX4_split_25 : decode cX4_split 25 = .ok (.bipush 32, 2) := by decide +kernel
theorem dX4_split_27 : decode cX4_split 27 = .ok (.if_icmp .ne 6, 3) := by decide +kernel
theorem dX4_split_30 : decode cX4_split 30 = .ok (.goto 88, 3) := by decide +kernel
theorem dX4_split_33 : decode cX4_split 33 = .ok (.iload 5, 2) := by decide +kernel
theorem dX4_split_35 : decode cX4_split 35 = .ok (.iconst 1, 1) := by decide +kernel
theorem dX4_split_36 : decode cX4_split 36 = .ok (.iadd, 1) := by decide +kernel
theorem dX4_split_37 : decode cX4_split 37 = .ok (.istore 4, 2) := by decide +kernel
theorem dX4_split_39 : decode cX4_split 39 = .ok (.iload 4, 2) := by decide +kernel
theorem dX4_split_41 : decode cX4_split 41 = .ok (.iload_n 2, 1) := by decide +kernel
theorem dX4_split_42 : decode cX4_split 42 = .ok (.if_icmp .ge 23, 3) := by decide +kernel
theorem dX4_split_45 : decode cX4_split 45 = .ok (.aload_n 1, 1) := by decide +kernel
theorem dX4_split_46 : decode cX4_split 46 = .ok (.iload 5, 2) := by decide +kernel
theorem dX4_split_48 : decode cX4_split 48 = .ok (.iaload, 1) := by decide +kernel
theorem dX4_split_49 : decode cX4_split 49 = .ok (.invokestatic 78, 3) := by decide +kernel
theorem dX4_split_52 : decode cX4_split 52 = .ok (.ifCond .eq 13, 3) := by decide +kernel
theorem dX4_split_55 : decode cX4_split 55 = .ok (.aload_n 1, 1) := by decide +kernel
theorem dX4_split_56 : decode cX4_split 56 = .ok (.iload 4, 2) := by decide +kernel
theorem dX4_split_58 : decode cX4_split 58 = .ok (.iaload, 1) := by decide +kernel
theorem dX4_split_59 : decode cX4_split 59 = .ok (.invokestatic 78, 3) := by decide +kernel
theorem dX4_split_62 : decode cX4_split 62 = .ok (.ifCond .ne 29, 3) := by decide +kernel
theorem dX4_split_65 : decode cX4_split 65 = .ok (.iload 4, 2) := by decide +kernel
theorem dX4_split_67 : decode cX4_split 67 = .ok (.iload_n 2, 1) := by decide +kernel
theorem dX4_split_68 : decode cX4_split 68 = .ok (.if_icmp .ge 29, 3) := by decide +kernel
theorem dX4_split_71 : decode cX4_split 71 = .ok (.aload_n 1, 1) := by decide +kernel
theorem dX4_split_72 : decode cX4_split 72 = .ok (.iload 5, 2) := by decide +kernel
theorem dX4_split_74 : decode cX4_split 74 = .ok (.iaload, 1) := by decide +kernel
theorem dX4_split_75 : decode cX4_split 75 = .ok (.invokestatic 81, 3) := by decide +kernel
theorem dX4_split_78 : decode cX4_split 78 = .ok (.ifCond .eq 19, 3) := by decide +kernel
theorem dX4_split_81 : decode cX4_split 81 = .ok (.aload_n 1, 1) := by decide +kernel
theorem dX4_split_82 : decode cX4_split 82 = .ok (.iload 4, 2) := by decide +kernel
theorem dX4_split_84 : decode cX4_split 84 = .ok (.iaload, 1) := by decide +kernel
theorem dX4_split_85 : decode cX4_split 85 = .ok (.invokestatic 81, 3) := by decide +kernel
theorem dX4_split_88 : decode cX4_split 88 = .ok (.ifCond .eq 9, 3) := by decide +kernel
theorem dX4_split_91 : decode cX4_split 91 = .ok (.iinc 4 1, 3) := by decide +kernel
theorem dX4_split_94 : decode cX4_split 94 = .ok (.goto (-55), 3) := by decide +kernel
theorem dX4_split_97 : decode cX4_split 97 = .ok (.aload_n 0, 1) := by decide +kernel
theorem dX4_split_98 : decode cX4_split 98 = .ok (.getfield 22, 3) := by decide +kernel
theorem dX4_split_101 : decode cX4_split 101 = .ok (.iload_n 3, 1) := by decide +kernel
theorem dX4_split_102 : decode cX4_split 102 = .ok (.iload 5, 2) := by decide +kernel
theorem dX4_split_104 : decode cX4_split 104 = .ok (.iastore, 1) := by decide +kernel
theorem dX4_split_105 : decode cX4_split 105 = .ok (.aload_n 0, 1) := by decide +kernel
theorem dX4_split_106 : decode cX4_split 106 = .ok (.aload_n 1, 1) := by decide +kernel
theorem dX4_split_107 : decode cX4_split 107 = .ok (.iload 5, 2) := by decide +kernel
theorem dX4_split_109 : decode cX4_split 109 = .ok (.iload 4, 2) := by decide +kernel
theorem dX4_split_111 : decode cX4_split 111 = .ok (.iload_n 3, 1) := by decide +kernel
theorem dX4_split_112 : decode cX4_split 112 = .ok (.invokevirtual 84, 3) := by decide +kernel
theorem dX4_split_115 : decode cX4_split 115 = .ok (.iinc 3 1, 3) := by decide +kernel
theorem dX4_split_118 : decode cX4_split 118 = .ok (.iinc 5 1, 3) := by decide +kernel
theorem dX4_split_121 : decode cX4_split 121 = .ok (.goto (-113), 3) := by decide +kernel
theorem dX4_split_124 : decode cX4_split 124 = .ok (.aload_n 0, 1) := by decide +kernel
theorem dX4_split_125 : decode cX4_split 125 = .ok (.getfield 22, 3) := by decide +kernel
theorem dX4_split_128 : decode cX4_split 128 = .ok (.iload_n 3, 1) := by decide +kernel
theorem dX4_split_129 : decode cX4_split 129 = .ok (.iload_n 2, 1) := by decide +kernel
theorem dX4_split_130 : decode cX4_split 130 = .ok (.iastore, 1) := by decide +kernel
theorem dX4_split_131 : decode cX4_split 131 = .ok (.aload_n 0, 1) := by decide +kernel
theorem dX4_split_132 : decode cX4_split 132 = .ok (.getfield 19, 3) := by decide +kernel
theorem dX4_split_135 : decode cX4_split 135 = .ok (.iload_n 3, 1) := by decide +kernel
theorem dX4_split_136 : decode cX4_split 136 = .ok (.sipush 257, 3) := by decide +kernel
theorem dX4_split_139 : decode cX4_split 139 = .ok (.iastore, 1) := by decide +kernel
theorem dX4_split_140 : decode cX4_split 140 = .ok (.return_, 1) := by decide +kernel
theorem zw_4 : (Jvm.Cond.selects "HillSchool$LawReader" ({ cls := "HillSchool$LawReader", name := "note", desc := "([IIII)V" } : Jvm.MethodName) ({ cls := "HillSchool$LawReader", name := "note", desc := "([IIII)V" } : Jvm.MethodName)) ∈ zall := zmemG (zmj_0 4 rfl) rfl
theorem zw_253 : (Jvm.Cond.fieldLink "HillSchool$LawReader" (22 : Nat) "HillSchool$LawReader" "places" "[I") ∈ zall := zmemG (zmj_1 150 rfl) rfl
theorem zw_659 : (Jvm.Cond.code ({ cls := "HillSchool$LawReader", name := "split", desc := "([II)V" } : Jvm.MethodName) prog_6_method_12_code (6 : Nat) (Option.none : Option Jvm.ClassFile.FieldType)) ∈ zall := zmemG (zmj_3 76 rfl) rfl
theorem zw_666 : (Jvm.Cond.methodLink "HillSchool$LawReader" (84 : Nat) ({ cls := "HillSchool$LawReader", name := "note", desc := "([IIII)V" } : Jvm.MethodName)) ∈ zall := zmemG (zmj_3 83 rfl) rfl
theorem zw_668 : (Jvm.Cond.instanceMethod ({ cls := "HillSchool$LawReader", name := "note", desc := "([IIII)V" } : Jvm.MethodName)) ∈ zall := zmemG (zmj_3 85 rfl) rfl
abbrev w_LawReader_split : List Cond := .code yX4_split cX4_split 6 none :: zall
abbrev rm_LawReader_split : Room := { frames := 7, cells := 0, slots := 0, locals := 155 }
theorem hd_LawReader_split : yX4_split.cls = "HillSchool$LawReader" ∧ yX4_split.cls ≠ "java/lang/invoke/MethodHandle" ∧ yX4_split.cls ≠ "java/lang/invoke/VarHandle" ∧ (parseMethodDescriptor yX4_split.desc).map (fun d => d.parameters.length) = some 2 := by decide +kernel
def wd_LawReader_split (cA : Nat → ClassId) (q0 q1 q2 q3 q4 q5 : Nat) (u0 u1 u2 : Int) (i_a1 : Nat → Int) (i_tokens : Nat → Int) (i_places : Nat → Int) (i_values : Nat → Int) : va_W := [(q0, .inr (4, [.ref q1, .int (Int32.ofInt u0), .ref q2, .ref q3, .ref q4, .int (Int32.ofInt u1), .int (Int32.ofInt u2)])), (q5, .inl (cA 0, 400, .inl (za i_a1))), (q2, .inl (cA 0, 401, .inl (za i_tokens))), (q3, .inl (cA 0, 401, .inl (za i_places))), (q4, .inl (cA 0, 401, .inl (za i_values)))]
def wf_LawReader_split (cA : Nat → ClassId) (q0 q1 q2 q3 q4 q5 : Nat) (u0 u1 u2 : Int) (i_a1 : Nat → Int) (o : (Nat → Int) × (Nat → Int) × (Nat → Int)) : va_W := wd_LawReader_split cA q0 q1 q2 q3 q4 q5 u0 u1 u2 i_a1 o.1 o.2.1 o.2.2
def f_LawReader_split_118 (i_a1 : Nat → Int) (k8 : Int → Int → Int → Int → (Nat → Int) → (Nat → Int) → (Nat → Int) → Option ((Nat → Int) × (Nat → Int) × (Nat → Int))) (x2 : Int) (x3 : Int) (x4 : Int) (x5 : Int) (i_tokens : Nat → Int) (i_places : Nat → Int) (i_values : Nat → Int) : Option ((Nat → Int) × (Nat → Int) × (Nat → Int)) :=
  zn (x5 + 1) fun v1 =>
  k8 x2 x3 x4 v1 i_tokens i_places i_values
def f_LawReader_split_97 (i_a1 : Nat → Int) (k8 : Int → Int → Int → Int → (Nat → Int) → (Nat → Int) → (Nat → Int) → Option ((Nat → Int) × (Nat → Int) × (Nat → Int))) (x2 : Int) (x3 : Int) (x4 : Int) (x5 : Int) (i_tokens : Nat → Int) (i_places : Nat → Int) (i_values : Nat → Int) : Option ((Nat → Int) × (Nat → Int) × (Nat → Int)) :=
  zs 401 i_places x3 x5 fun a1 =>
  zd2 (f_LawReader_note x5 x4 x3 i_a1 i_tokens i_values) fun a2 a3 =>
  zn (x3 + 1) fun v4 =>
  f_LawReader_split_118 i_a1 k8 x2 v4 x4 x5 a2 a1 a3
def f_LawReader_split_91 (i_a1 : Nat → Int) (k8 : Int → Int → Int → Int → (Nat → Int) → (Nat → Int) → (Nat → Int) → Option ((Nat → Int) × (Nat → Int) × (Nat → Int))) (k39 : Int → Int → Int → Int → (Nat → Int) → (Nat → Int) → (Nat → Int) → Option ((Nat → Int) × (Nat → Int) × (Nat → Int))) (x2 : Int) (x3 : Int) (x4 : Int) (x5 : Int) (i_tokens : Nat → Int) (i_places : Nat → Int) (i_values : Nat → Int) : Option ((Nat → Int) × (Nat → Int) × (Nat → Int)) :=
  zn (x4 + 1) fun v1 =>
  k39 x2 x3 v1 x5 i_tokens i_places i_values
def f_LawReader_split_65 (i_a1 : Nat → Int) (k8 : Int → Int → Int → Int → (Nat → Int) → (Nat → Int) → (Nat → Int) → Option ((Nat → Int) × (Nat → Int) × (Nat → Int))) (k39 : Int → Int → Int → Int → (Nat → Int) → (Nat → Int) → (Nat → Int) → Option ((Nat → Int) × (Nat → Int) × (Nat → Int))) (x2 : Int) (x3 : Int) (x4 : Int) (x5 : Int) (i_tokens : Nat → Int) (i_places : Nat → Int) (i_values : Nat → Int) : Option ((Nat → Int) × (Nat → Int) × (Nat → Int)) :=
  if zi_w x2 ≤ zi_w x4 then
    f_LawReader_split_97 i_a1 k8 x2 x3 x4 x5 i_tokens i_places i_values
  else
    zg 400 i_a1 x5 fun v1 =>
    zd1 (f_LawReader_isDigit v1) fun v2 =>
    if zi_w v2 = 0 then
      f_LawReader_split_97 i_a1 k8 x2 x3 x4 x5 i_tokens i_places i_values
    else
      zg 400 i_a1 x4 fun v3 =>
      zd1 (f_LawReader_isDigit v3) fun v4 =>
      if zi_w v4 = 0 then
        f_LawReader_split_97 i_a1 k8 x2 x3 x4 x5 i_tokens i_places i_values
      else
        f_LawReader_split_91 i_a1 k8 k39 x2 x3 x4 x5 i_tokens i_places i_values
def f_LawReader_split_39_b (i_a1 : Nat → Int) (k8 : Int → Int → Int → Int → (Nat → Int) → (Nat → Int) → (Nat → Int) → Option ((Nat → Int) × (Nat → Int) × (Nat → Int))) (k39 : Int → Int → Int → Int → (Nat → Int) → (Nat → Int) → (Nat → Int) → Option ((Nat → Int) × (Nat → Int) × (Nat → Int))) (x2 : Int) (x3 : Int) (x4 : Int) (x5 : Int) (i_tokens : Nat → Int) (i_places : Nat → Int) (i_values : Nat → Int) : Option ((Nat → Int) × (Nat → Int) × (Nat → Int)) :=
  if zi_w x2 ≤ zi_w x4 then
    f_LawReader_split_65 i_a1 k8 k39 x2 x3 x4 x5 i_tokens i_places i_values
  else
    zg 400 i_a1 x5 fun v1 =>
    zd1 (f_LawReader_isLetter v1) fun v2 =>
    if zi_w v2 = 0 then
      f_LawReader_split_65 i_a1 k8 k39 x2 x3 x4 x5 i_tokens i_places i_values
    else
      zg 400 i_a1 x4 fun v3 =>
      zd1 (f_LawReader_isLetter v3) fun v4 =>
      if zi_w v4 ≠ 0 then
        f_LawReader_split_91 i_a1 k8 k39 x2 x3 x4 x5 i_tokens i_places i_values
      else
        f_LawReader_split_65 i_a1 k8 k39 x2 x3 x4 x5 i_tokens i_places i_values
def f_LawReader_split_39 (i_a1 : Nat → Int) (k8 : Int → Int → Int → Int → (Nat → Int) → (Nat → Int) → (Nat → Int) → Option ((Nat → Int) × (Nat → Int) × (Nat → Int))) : Nat → Int → Int → Int → Int → (Nat → Int) → (Nat → Int) → (Nat → Int) → Option ((Nat → Int) × (Nat → Int) × (Nat → Int))
  | 0 => fun _ _ _ _ _ _ _ => none
  | n + 1 => fun y0 y1 y2 y3 y4 y5 y6 => f_LawReader_split_39_b i_a1 k8 (f_LawReader_split_39 i_a1 k8 n) y0 y1 y2 y3 y4 y5 y6
def f_LawReader_split_8_b (i_a1 : Nat → Int) (k8 : Int → Int → Int → Int → (Nat → Int) → (Nat → Int) → (Nat → Int) → Option ((Nat → Int) × (Nat → Int) × (Nat → Int))) (x2 : Int) (x3 : Int) (x4 : Int) (x5 : Int) (i_tokens : Nat → Int) (i_places : Nat → Int) (i_values : Nat → Int) : Option ((Nat → Int) × (Nat → Int) × (Nat → Int)) :=
  if zi_w x2 ≤ zi_w x5 then
    zs 401 i_places x3 x2 fun a1 =>
    zs 401 i_tokens x3 257 fun a2 =>
    some (a2, a1, i_values)
  else
    if zi_w x5 < zi_w x4 then
      f_LawReader_split_118 i_a1 k8 x2 x3 x4 x5 i_tokens i_places i_values
    else
      zg 400 i_a1 x5 fun v3 =>
      if zi_w v3 ≠ zi_w 32 then
        zn (x5 + 1) fun v4 =>
        f_LawReader_split_39 i_a1 k8 zfu x2 x3 v4 x5 i_tokens i_places i_values
      else
        f_LawReader_split_118 i_a1 k8 x2 x3 x4 x5 i_tokens i_places i_values
def f_LawReader_split_8 (i_a1 : Nat → Int) : Nat → Int → Int → Int → Int → (Nat → Int) → (Nat → Int) → (Nat → Int) → Option ((Nat → Int) × (Nat → Int) × (Nat → Int))
  | 0 => fun _ _ _ _ _ _ _ => none
  | n + 1 => fun y0 y1 y2 y3 y4 y5 y6 => f_LawReader_split_8_b i_a1 (f_LawReader_split_8 i_a1 n) y0 y1 y2 y3 y4 y5 y6
def f_LawReader_split (x2 : Int) (i_a1 : Nat → Int) (i_tokens : Nat → Int) (i_places : Nat → Int) (i_values : Nat → Int) : Option ((Nat → Int) × (Nat → Int) × (Nat → Int)) :=
  f_LawReader_split_8 i_a1 zfu x2 0 0 0 i_tokens i_places i_values
set_option maxHeartbeats 4000000 in
set_option maxRecDepth 100000 in
theorem c_LawReader_split (l : Launch) (ev : zEv) (dC : Nat → ClassId) (dI : Nat → Nat → Nat) (cA : Nat → ClassId) (q0 q1 q2 q3 q4 q5 : Nat) (u0 u1 u2 : Int) {x2 : Int} {i_a1 : Nat → Int} {i_tokens : Nat → Int} {i_places : Nat → Int} {i_values : Nat → Int} {out : (Nat → Int) × (Nat → Int) × (Nat → Int)} (hf : f_LawReader_split x2 i_a1 i_tokens i_places i_values = some out) : xc_V l ev (dC, dI) vwCl (tyl cA) yX4_split w_LawReader_split rm_LawReader_split [.ref q0, .ref q5, .int (Int32.ofInt x2)] (wd_LawReader_split cA q0 q1 q2 q3 q4 q5 u0 u1 u2 i_a1 i_tokens i_places i_values) (wf_LawReader_split cA q0 q1 q2 q3 q4 q5 u0 u1 u2 i_a1 out) := by
  refine xv_startV (cc := cX4_split) (maxL := 6) (by decide +kernel) rfl (Nat.le_of_ble_eq_true rfl) ?_
  intro p e s m args below meth c A Q H ls hx hb hml hts hown hK hA hP hD hS hl hE hret
  have hown : s.vm.findClass "HillSchool$LawReader" = some m.cls := hown
  have hz : ∀ w ∈ zall, w.before args s = true := fun w h => hts w (List.mem_cons_of_mem _ h)
  have hl : lv_has ls 6 [(0, .ref q0), (1, .ref q5), (2, .int (Int32.ofInt x2))] := hl
  have b_118 : ∀ (k8 : Int → Int → Int → Int → (Nat → Int) → (Nat → Int) → (Nat → Int) → Option ((Nat → Int) × (Nat → Int) × (Nat → Int))) (_ : ∀ (x2 : Int) (x3 : Int) (x4 : Int) (x5 : Int) (i_tokens : Nat → Int) (i_places : Nat → Int) (i_values : Nat → Int) (H : Heap) (locs : List Loc) (ls : Array Slot), k8 x2 x3 x4 x5 i_tokens i_places i_values = some out → va_P (dC, dI) vwCl (wd_LawReader_split cA q0 q1 q2 q3 q4 q5 u0 u1 u2 i_a1 i_tokens i_places i_values) H → va_D A (wd_LawReader_split cA q0 q1 q2 q3 q4 q5 u0 u1 u2 i_a1 i_tokens i_places i_values) → va_S A s.heap H locs → lv_has ls 6 [(0, .ref q0), (1, .ref q5), (2, .int (Int32.ofInt x2)), (3, .int (Int32.ofInt x3)), (4, .int (Int32.ofInt x4)), (5, .int (Int32.ofInt x5))] → W p l e rm_LawReader_split s m args below meth c H locs 0 0 Q (F0 m 8 ls [])), ∀ (x2 : Int) (x3 : Int) (x4 : Int) (x5 : Int) (i_tokens : Nat → Int) (i_places : Nat → Int) (i_values : Nat → Int) (H : Heap) (locs : List Loc) (ls : Array Slot), f_LawReader_split_118 i_a1 k8 x2 x3 x4 x5 i_tokens i_places i_values = some out → va_P (dC, dI) vwCl (wd_LawReader_split cA q0 q1 q2 q3 q4 q5 u0 u1 u2 i_a1 i_tokens i_places i_values) H → va_D A (wd_LawReader_split cA q0 q1 q2 q3 q4 q5 u0 u1 u2 i_a1 i_tokens i_places i_values) → va_S A s.heap H locs → lv_has ls 6 [(0, .ref q0), (1, .ref q5), (2, .int (Int32.ofInt x2)), (3, .int (Int32.ofInt x3)), (4, .int (Int32.ofInt x4)), (5, .int (Int32.ofInt x5))] → W p l e rm_LawReader_split s m args below meth c H locs 0 0 Q (F0 m 118 ls []) := by
    intro k8 ih8 x2 x3 x4 x5 i_tokens i_places i_values H locs ls hf hP hD hS hl
    unfold f_LawReader_split_118 at hf
    refine xi_iinc hx hb dX4_split_118 hl (k := 5) rfl (by decide) hf (fun v1 ls hl hf => ?_)
    have hl : lv_has ls 6 [(5, .int (Int32.ofInt v1)), (0, .ref q0), (1, .ref q5), (2, .int (Int32.ofInt x2)), (3, .int (Int32.ofInt x3)), (4, .int (Int32.ofInt x4))] := hl
    refine lv_goto (tgt := 8) hx hb dX4_split_121 (by decide) ?_
    exact ih8 _ _ _ _ _ _ _ _ _ _ hf hP hD hS (lv_sub hl [1, 2, 3, 4, 5, 0] rfl)
  have b_97 : ∀ (k8 : Int → Int → Int → Int → (Nat → Int) → (Nat → Int) → (Nat → Int) → Option ((Nat → Int) × (Nat → Int) × (Nat → Int))) (_ : ∀ (x2 : Int) (x3 : Int) (x4 : Int) (x5 : Int) (i_tokens : Nat → Int) (i_places : Nat → Int) (i_values : Nat → Int) (H : Heap) (locs : List Loc) (ls : Array Slot), k8 x2 x3 x4 x5 i_tokens i_places i_values = some out → va_P (dC, dI) vwCl (wd_LawReader_split cA q0 q1 q2 q3 q4 q5 u0 u1 u2 i_a1 i_tokens i_places i_values) H → va_D A (wd_LawReader_split cA q0 q1 q2 q3 q4 q5 u0 u1 u2 i_a1 i_tokens i_places i_values) → va_S A s.heap H locs → lv_has ls 6 [(0, .ref q0), (1, .ref q5), (2, .int (Int32.ofInt x2)), (3, .int (Int32.ofInt x3)), (4, .int (Int32.ofInt x4)), (5, .int (Int32.ofInt x5))] → W p l e rm_LawReader_split s m args below meth c H locs 0 0 Q (F0 m 8 ls [])), ∀ (x2 : Int) (x3 : Int) (x4 : Int) (x5 : Int) (i_tokens : Nat → Int) (i_places : Nat → Int) (i_values : Nat → Int) (H : Heap) (locs : List Loc) (ls : Array Slot), f_LawReader_split_97 i_a1 k8 x2 x3 x4 x5 i_tokens i_places i_values = some out → va_P (dC, dI) vwCl (wd_LawReader_split cA q0 q1 q2 q3 q4 q5 u0 u1 u2 i_a1 i_tokens i_places i_values) H → va_D A (wd_LawReader_split cA q0 q1 q2 q3 q4 q5 u0 u1 u2 i_a1 i_tokens i_places i_values) → va_S A s.heap H locs → lv_has ls 6 [(0, .ref q0), (1, .ref q5), (2, .int (Int32.ofInt x2)), (3, .int (Int32.ofInt x3)), (4, .int (Int32.ofInt x4)), (5, .int (Int32.ofInt x5))] → W p l e rm_LawReader_split s m args below meth c H locs 0 0 Q (F0 m 97 ls []) := by
    intro k8 ih8 x2 x3 x4 x5 i_tokens i_places i_values H locs ls hf hP hD hS hl
    unfold f_LawReader_split_97 at hf
    refine lv_aload_n hx hb dX4_split_97 rfl (lv_at hl 0 rfl) ?_
    refine va_get (D := (dC, dI)) (ci := 4) (v := .ref q3) (C := RX4) (T := TX4) (N := 7) hx hb hz zi_X4 hown hK hP 0 rfl rfl 3 (by decide) (hz _ zw_253) (fun _ h9 => h9) rfl dX4_split_98 ?_
    refine lv_iload_n hx hb dX4_split_101 rfl (lv_at hl 3 rfl) ?_
    refine lv_iload hx hb dX4_split_102 (lv_at hl 5 rfl) ?_
    refine xi_iast hx hb hK hP hD hS 3 0 rfl rfl dX4_split_104 hf (fun a1 H locs hP hD hS hf => ?_)
    have hP : va_P (dC, dI) vwCl (wd_LawReader_split cA q0 q1 q2 q3 q4 q5 u0 u1 u2 i_a1 i_tokens a1 i_values) H := hP
    have hD : va_D A (wd_LawReader_split cA q0 q1 q2 q3 q4 q5 u0 u1 u2 i_a1 i_tokens a1 i_values) := hD
    refine lv_aload_n hx hb dX4_split_105 rfl (lv_at hl 0 rfl) ?_
    refine lv_aload_n hx hb dX4_split_106 rfl (lv_at hl 1 rfl) ?_
    refine lv_iload hx hb dX4_split_107 (lv_at hl 5 rfl) ?_
    refine lv_iload hx hb dX4_split_109 (lv_at hl 4 rfl) ?_
    refine lv_iload_n hx hb dX4_split_111 rfl (lv_at hl 3 rfl) ?_
    refine xe_d2 hf (fun a2 a3 hg hf => ?_)
    have hC : ([0, 1, 2, 4] : List Nat).map (fun i => (wd_LawReader_split cA q0 q1 q2 q3 q4 q5 u0 u1 u2 i_a1 i_tokens a1 i_values)[i]?) = (wd_LawReader_note cA q0 q1 q2 q3 q4 q5 u0 u1 u2 i_a1 i_tokens i_values).map some := rfl
    refine xv_afterV (ws' := (wd_LawReader_split cA q0 q1 q2 q3 q4 q5 u0 u1 u2 i_a1 a2 a1 a3)) (isC := [0, 1, 2, 4]) (ps := [some 0, some 1, some 2, none, some 3]) (va_runV (As := [.ref q5, .int (Int32.ofInt x5), .int (Int32.ofInt x4), .int (Int32.ofInt x3)]) (rest := []) ⟨hx, hb, hml, hown, hts⟩ (c_LawReader_note l ev dC dI cA q0 q1 q2 q3 q4 q5 u0 u1 u2 hg H.size) (cwV 4 hts (zgV zw_666 zw_668 zw_4 zw_107 zw_669) rfl rfl rfl hd_LawReader_note ⟨Nat.le_of_ble_eq_true rfl, Nat.le_of_ble_eq_true rfl⟩) (xv_preV (T := TX4) (N := 7) hE hA hS hK hP hD (isC := [0, 1, 2, 4]) (by decide +kernel) hC (q0 := 0) (ci := 4) rfl rfl) rfl rfl hl.1 rfl (lv_room (Nat.le_of_ble_eq_true rfl)) dX4_split_112 ⟨Nat.le_refl _, Nat.le_refl _⟩) hP hD hS hA (by decide +kernel) rfl hC rfl rfl (fun H locs hP hD hS => ?_)
    refine xi_iinc hx hb dX4_split_115 hl (k := 3) rfl (by decide) hf (fun v4 ls hl hf => ?_)
    have hl : lv_has ls 6 [(3, .int (Int32.ofInt v4)), (0, .ref q0), (1, .ref q5), (2, .int (Int32.ofInt x2)), (4, .int (Int32.ofInt x4)), (5, .int (Int32.ofInt x5))] := hl
    exact b_118 _ ih8 _ _ _ _ _ _ _ _ _ _ hf hP hD hS (lv_sub hl [1, 2, 3, 0, 4, 5] rfl)
  have b_91 : ∀ (k8 : Int → Int → Int → Int → (Nat → Int) → (Nat → Int) → (Nat → Int) → Option ((Nat → Int) × (Nat → Int) × (Nat → Int))) (_ : ∀ (x2 : Int) (x3 : Int) (x4 : Int) (x5 : Int) (i_tokens : Nat → Int) (i_places : Nat → Int) (i_values : Nat → Int) (H : Heap) (locs : List Loc) (ls : Array Slot), k8 x2 x3 x4 x5 i_tokens i_places i_values = some out → va_P (dC, dI) vwCl (wd_LawReader_split cA q0 q1 q2 q3 q4 q5 u0 u1 u2 i_a1 i_tokens i_places i_values) H → va_D A (wd_LawReader_split cA q0 q1 q2 q3 q4 q5 u0 u1 u2 i_a1 i_tokens i_places i_values) → va_S A s.heap H locs → lv_has ls 6 [(0, .ref q0), (1, .ref q5), (2, .int (Int32.ofInt x2)), (3, .int (Int32.ofInt x3)), (4, .int (Int32.ofInt x4)), (5, .int (Int32.ofInt x5))] → W p l e rm_LawReader_split s m args below meth c H locs 0 0 Q (F0 m 8 ls [])), ∀ (k39 : Int → Int → Int → Int → (Nat → Int) → (Nat → Int) → (Nat → Int) → Option ((Nat → Int) × (Nat → Int) × (Nat → Int))) (_ : ∀ (x2 : Int) (x3 : Int) (x4 : Int) (x5 : Int) (i_tokens : Nat → Int) (i_places : Nat → Int) (i_values : Nat → Int) (H : Heap) (locs : List Loc) (ls : Array Slot), k39 x2 x3 x4 x5 i_tokens i_places i_values = some out → va_P (dC, dI) vwCl (wd_LawReader_split cA q0 q1 q2 q3 q4 q5 u0 u1 u2 i_a1 i_tokens i_places i_values) H → va_D A (wd_LawReader_split cA q0 q1 q2 q3 q4 q5 u0 u1 u2 i_a1 i_tokens i_places i_values) → va_S A s.heap H locs → lv_has ls 6 [(0, .ref q0), (1, .ref q5), (2, .int (Int32.ofInt x2)), (3, .int (Int32.ofInt x3)), (4, .int (Int32.ofInt x4)), (5, .int (Int32.ofInt x5))] → W p l e rm_LawReader_split s m args below meth c H locs 0 0 Q (F0 m 39 ls [])), ∀ (x2 : Int) (x3 : Int) (x4 : Int) (x5 : Int) (i_tokens : Nat → Int) (i_places : Nat → Int) (i_values : Nat → Int) (H : Heap) (locs : List Loc) (ls : Array Slot), f_LawReader_split_91 i_a1 k8 k39 x2 x3 x4 x5 i_tokens i_places i_values = some out → va_P (dC, dI) vwCl (wd_LawReader_split cA q0 q1 q2 q3 q4 q5 u0 u1 u2 i_a1 i_tokens i_places i_values) H → va_D A (wd_LawReader_split cA q0 q1 q2 q3 q4 q5 u0 u1 u2 i_a1 i_tokens i_places i_values) → va_S A s.heap H locs → lv_has ls 6 [(0, .ref q0), (1, .ref q5), (2, .int (Int32.ofInt x2)), (3, .int (Int32.ofInt x3)), (4, .int (Int32.ofInt x4)), (5, .int (Int32.ofInt x5))] → W p l e rm_LawReader_split s m args below meth c H locs 0 0 Q (F0 m 91 ls []) := by
    intro k8 ih8 k39 ih39 x2 x3 x4 x5 i_tokens i_places i_values H locs ls hf hP hD hS hl
    unfold f_LawReader_split_91 at hf
    refine xi_iinc hx hb dX4_split_91 hl (k := 4) rfl (by decide) hf (fun v1 ls hl hf => ?_)
    have hl : lv_has ls 6 [(4, .int (Int32.ofInt v1)), (0, .ref q0), (1, .ref q5), (2, .int (Int32.ofInt x2)), (3, .int (Int32.ofInt x3)), (5, .int (Int32.ofInt x5))] := hl
    refine lv_goto (tgt := 39) hx hb dX4_split_94 (by decide) ?_
    exact ih39 _ _ _ _ _ _ _ _ _ _ hf hP hD hS (lv_sub hl [1, 2, 3, 4, 0, 5] rfl)
  have b_65 : ∀ (k8 : Int → Int → Int → Int → (Nat → Int) → (Nat → Int) → (Nat → Int) → Option ((Nat → Int) × (Nat → Int) × (Nat → Int))) (_ : ∀ (x2 : Int) (x3 : Int) (x4 : Int) (x5 : Int) (i_tokens : Nat → Int) (i_places : Nat → Int) (i_values : Nat → Int) (H : Heap) (locs : List Loc) (ls : Array Slot), k8 x2 x3 x4 x5 i_tokens i_places i_values = some out → va_P (dC, dI) vwCl (wd_LawReader_split cA q0 q1 q2 q3 q4 q5 u0 u1 u2 i_a1 i_tokens i_places i_values) H → va_D A (wd_LawReader_split cA q0 q1 q2 q3 q4 q5 u0 u1 u2 i_a1 i_tokens i_places i_values) → va_S A s.heap H locs → lv_has ls 6 [(0, .ref q0), (1, .ref q5), (2, .int (Int32.ofInt x2)), (3, .int (Int32.ofInt x3)), (4, .int (Int32.ofInt x4)), (5, .int (Int32.ofInt x5))] → W p l e rm_LawReader_split s m args below meth c H locs 0 0 Q (F0 m 8 ls [])), ∀ (k39 : Int → Int → Int → Int → (Nat → Int) → (Nat → Int) → (Nat → Int) → Option ((Nat → Int) × (Nat → Int) × (Nat → Int))) (_ : ∀ (x2 : Int) (x3 : Int) (x4 : Int) (x5 : Int) (i_tokens : Nat → Int) (i_places : Nat → Int) (i_values : Nat → Int) (H : Heap) (locs : List Loc) (ls : Array Slot), k39 x2 x3 x4 x5 i_tokens i_places i_values = some out → va_P (dC, dI) vwCl (wd_LawReader_split cA q0 q1 q2 q3 q4 q5 u0 u1 u2 i_a1 i_tokens i_places i_values) H → va_D A (wd_LawReader_split cA q0 q1 q2 q3 q4 q5 u0 u1 u2 i_a1 i_tokens i_places i_values) → va_S A s.heap H locs → lv_has ls 6 [(0, .ref q0), (1, .ref q5), (2, .int (Int32.ofInt x2)), (3, .int (Int32.ofInt x3)), (4, .int (Int32.ofInt x4)), (5, .int (Int32.ofInt x5))] → W p l e rm_LawReader_split s m args below meth c H locs 0 0 Q (F0 m 39 ls [])), ∀ (x2 : Int) (x3 : Int) (x4 : Int) (x5 : Int) (i_tokens : Nat → Int) (i_places : Nat → Int) (i_values : Nat → Int) (H : Heap) (locs : List Loc) (ls : Array Slot), f_LawReader_split_65 i_a1 k8 k39 x2 x3 x4 x5 i_tokens i_places i_values = some out → va_P (dC, dI) vwCl (wd_LawReader_split cA q0 q1 q2 q3 q4 q5 u0 u1 u2 i_a1 i_tokens i_places i_values) H → va_D A (wd_LawReader_split cA q0 q1 q2 q3 q4 q5 u0 u1 u2 i_a1 i_tokens i_places i_values) → va_S A s.heap H locs → lv_has ls 6 [(0, .ref q0), (1, .ref q5), (2, .int (Int32.ofInt x2)), (3, .int (Int32.ofInt x3)), (4, .int (Int32.ofInt x4)), (5, .int (Int32.ofInt x5))] → W p l e rm_LawReader_split s m args below meth c H locs 0 0 Q (F0 m 65 ls []) := by
    intro k8 ih8 k39 ih39 x2 x3 x4 x5 i_tokens i_places i_values H locs ls hf hP hD hS hl
    unfold f_LawReader_split_65 at hf
    refine lv_iload hx hb dX4_split_65 (lv_at hl 4 rfl) ?_
    refine lv_iload_n hx hb dX4_split_67 rfl (lv_at hl 2 rfl) ?_
    refine xi_icmp_ge (tgt := 97) hx hb dX4_split_68 (by decide) hf (fun hf => ?_) (fun hf => ?_)
    · exact b_97 _ ih8 _ _ _ _ _ _ _ _ _ _ hf hP hD hS (lv_sub hl [0, 1, 2, 3, 4, 5] rfl)
    · refine lv_aload_n hx hb dX4_split_71 rfl (lv_at hl 1 rfl) ?_
      refine lv_iload hx hb dX4_split_72 (lv_at hl 5 rfl) ?_
      refine xi_iald hx hb hK hP 1 0 rfl rfl dX4_split_74 hf (fun v1 hf => ?_)
      refine xe_d1 hf (fun v2 hg hf => ?_)
      have hC : ([] : List Nat).map (fun i => (wd_LawReader_split cA q0 q1 q2 q3 q4 q5 u0 u1 u2 i_a1 i_tokens i_places i_values)[i]?) = (wd_LawReader_isDigit cA).map some := rfl
      refine xv_afterI (ws' := (wd_LawReader_split cA q0 q1 q2 q3 q4 q5 u0 u1 u2 i_a1 i_tokens i_places i_values)) (isC := []) (ps := [none, none, none, none, none]) (va_runS (As := [.int (Int32.ofInt v1)]) (rest := []) ⟨hx, hb, hml, hown, hts⟩ (c_LawReader_isDigit l ev dC dI cA hg H.size) (va_cwS 1 hts (zgS zw_663 zw_664 zw_107 zw_665) rfl rfl rfl hd_LawReader_isDigit.2 ⟨Nat.le_of_ble_eq_true rfl, Nat.le_of_ble_eq_true rfl⟩) (xv_preS hE hA hS hK hP hD (isC := []) (by decide +kernel) hC) rfl rfl hl.1 rfl (lv_room (Nat.le_of_ble_eq_true rfl)) dX4_split_75 ⟨Nat.le_refl _, Nat.le_refl _⟩) hP hD hS hA (by decide +kernel) rfl hC rfl rfl (fun H locs hP hD hS => ?_)
      refine xi_if_eq (tgt := 97) hx hb dX4_split_78 (by decide) hf (fun hf => ?_) (fun hf => ?_)
      · exact b_97 _ ih8 _ _ _ _ _ _ _ _ _ _ hf hP hD hS (lv_sub hl [0, 1, 2, 3, 4, 5] rfl)
      · refine lv_aload_n hx hb dX4_split_81 rfl (lv_at hl 1 rfl) ?_
        refine lv_iload hx hb dX4_split_82 (lv_at hl 4 rfl) ?_
        refine xi_iald hx hb hK hP 1 0 rfl rfl dX4_split_84 hf (fun v3 hf => ?_)
        refine xe_d1 hf (fun v4 hg hf => ?_)
        have hC : ([] : List Nat).map (fun i => (wd_LawReader_split cA q0 q1 q2 q3 q4 q5 u0 u1 u2 i_a1 i_tokens i_places i_values)[i]?) = (wd_LawReader_isDigit cA).map some := rfl
        refine xv_afterI (ws' := (wd_LawReader_split cA q0 q1 q2 q3 q4 q5 u0 u1 u2 i_a1 i_tokens i_places i_values)) (isC := []) (ps := [none, none, none, none, none]) (va_runS (As := [.int (Int32.ofInt v3)]) (rest := []) ⟨hx, hb, hml, hown, hts⟩ (c_LawReader_isDigit l ev dC dI cA hg H.size) (va_cwS 1 hts (zgS zw_663 zw_664 zw_107 zw_665) rfl rfl rfl hd_LawReader_isDigit.2 ⟨Nat.le_of_ble_eq_true rfl, Nat.le_of_ble_eq_true rfl⟩) (xv_preS hE hA hS hK hP hD (isC := []) (by decide +kernel) hC) rfl rfl hl.1 rfl (lv_room (Nat.le_of_ble_eq_true rfl)) dX4_split_85 ⟨Nat.le_refl _, Nat.le_refl _⟩) hP hD hS hA (by decide +kernel) rfl hC rfl rfl (fun H locs hP hD hS => ?_)
        refine xi_if_eq (tgt := 97) hx hb dX4_split_88 (by decide) hf (fun hf => ?_) (fun hf => ?_)
        · exact b_97 _ ih8 _ _ _ _ _ _ _ _ _ _ hf hP hD hS (lv_sub hl [0, 1, 2, 3, 4, 5] rfl)
        · exact b_91 _ ih8 _ ih39 _ _ _ _ _ _ _ _ _ _ hf hP hD hS (lv_sub hl [0, 1, 2, 3, 4, 5] rfl)
  have b_39 : ∀ (k8 : Int → Int → Int → Int → (Nat → Int) → (Nat → Int) → (Nat → Int) → Option ((Nat → Int) × (Nat → Int) × (Nat → Int))) (_ : ∀ (x2 : Int) (x3 : Int) (x4 : Int) (x5 : Int) (i_tokens : Nat → Int) (i_places : Nat → Int) (i_values : Nat → Int) (H : Heap) (locs : List Loc) (ls : Array Slot), k8 x2 x3 x4 x5 i_tokens i_places i_values = some out → va_P (dC, dI) vwCl (wd_LawReader_split cA q0 q1 q2 q3 q4 q5 u0 u1 u2 i_a1 i_tokens i_places i_values) H → va_D A (wd_LawReader_split cA q0 q1 q2 q3 q4 q5 u0 u1 u2 i_a1 i_tokens i_places i_values) → va_S A s.heap H locs → lv_has ls 6 [(0, .ref q0), (1, .ref q5), (2, .int (Int32.ofInt x2)), (3, .int (Int32.ofInt x3)), (4, .int (Int32.ofInt x4)), (5, .int (Int32.ofInt x5))] → W p l e rm_LawReader_split s m args below meth c H locs 0 0 Q (F0 m 8 ls [])), ∀ (k39 : Int → Int → Int → Int → (Nat → Int) → (Nat → Int) → (Nat → Int) → Option ((Nat → Int) × (Nat → Int) × (Nat → Int))) (_ : ∀ (x2 : Int) (x3 : Int) (x4 : Int) (x5 : Int) (i_tokens : Nat → Int) (i_places : Nat → Int) (i_values : Nat → Int) (H : Heap) (locs : List Loc) (ls : Array Slot), k39 x2 x3 x4 x5 i_tokens i_places i_values = some out → va_P (dC, dI) vwCl (wd_LawReader_split cA q0 q1 q2 q3 q4 q5 u0 u1 u2 i_a1 i_tokens i_places i_values) H → va_D A (wd_LawReader_split cA q0 q1 q2 q3 q4 q5 u0 u1 u2 i_a1 i_tokens i_places i_values) → va_S A s.heap H locs → lv_has ls 6 [(0, .ref q0), (1, .ref q5), (2, .int (Int32.ofInt x2)), (3, .int (Int32.ofInt x3)), (4, .int (Int32.ofInt x4)), (5, .int (Int32.ofInt x5))] → W p l e rm_LawReader_split s m args below meth c H locs 0 0 Q (F0 m 39 ls [])), ∀ (x2 : Int) (x3 : Int) (x4 : Int) (x5 : Int) (i_tokens : Nat → Int) (i_places : Nat → Int) (i_values : Nat → Int) (H : Heap) (locs : List Loc) (ls : Array Slot), f_LawReader_split_39_b i_a1 k8 k39 x2 x3 x4 x5 i_tokens i_places i_values = some out → va_P (dC, dI) vwCl (wd_LawReader_split cA q0 q1 q2 q3 q4 q5 u0 u1 u2 i_a1 i_tokens i_places i_values) H → va_D A (wd_LawReader_split cA q0 q1 q2 q3 q4 q5 u0 u1 u2 i_a1 i_tokens i_places i_values) → va_S A s.heap H locs → lv_has ls 6 [(0, .ref q0), (1, .ref q5), (2, .int (Int32.ofInt x2)), (3, .int (Int32.ofInt x3)), (4, .int (Int32.ofInt x4)), (5, .int (Int32.ofInt x5))] → W p l e rm_LawReader_split s m args below meth c H locs 0 0 Q (F0 m 39 ls []) := by
    intro k8 ih8 k39 ih39 x2 x3 x4 x5 i_tokens i_places i_values H locs ls hf hP hD hS hl
    unfold f_LawReader_split_39_b at hf
    refine lv_iload hx hb dX4_split_39 (lv_at hl 4 rfl) ?_
    refine lv_iload_n hx hb dX4_split_41 rfl (lv_at hl 2 rfl) ?_
    refine xi_icmp_ge (tgt := 65) hx hb dX4_split_42 (by decide) hf (fun hf => ?_) (fun hf => ?_)
    · exact b_65 _ ih8 _ ih39 _ _ _ _ _ _ _ _ _ _ hf hP hD hS (lv_sub hl [0, 1, 2, 3, 4, 5] rfl)
    · refine lv_aload_n hx hb dX4_split_45 rfl (lv_at hl 1 rfl) ?_
      refine lv_iload hx hb dX4_split_46 (lv_at hl 5 rfl) ?_
      refine xi_iald hx hb hK hP 1 0 rfl rfl dX4_split_48 hf (fun v1 hf => ?_)
      refine xe_d1 hf (fun v2 hg hf => ?_)
      have hC : ([] : List Nat).map (fun i => (wd_LawReader_split cA q0 q1 q2 q3 q4 q5 u0 u1 u2 i_a1 i_tokens i_places i_values)[i]?) = (wd_LawReader_isLetter cA).map some := rfl
      refine xv_afterI (ws' := (wd_LawReader_split cA q0 q1 q2 q3 q4 q5 u0 u1 u2 i_a1 i_tokens i_places i_values)) (isC := []) (ps := [none, none, none, none, none]) (va_runS (As := [.int (Int32.ofInt v1)]) (rest := []) ⟨hx, hb, hml, hown, hts⟩ (c_LawReader_isLetter l ev dC dI cA hg H.size) (va_cwS 1 hts (zgS zw_660 zw_661 zw_107 zw_662) rfl rfl rfl hd_LawReader_isLetter.2 ⟨Nat.le_of_ble_eq_true rfl, Nat.le_of_ble_eq_true rfl⟩) (xv_preS hE hA hS hK hP hD (isC := []) (by decide +kernel) hC) rfl rfl hl.1 rfl (lv_room (Nat.le_of_ble_eq_true rfl)) dX4_split_49 ⟨Nat.le_refl _, Nat.le_refl _⟩) hP hD hS hA (by decide +kernel) rfl hC rfl rfl (fun H locs hP hD hS => ?_)
      refine xi_if_eq (tgt := 65) hx hb dX4_split_52 (by decide) hf (fun hf => ?_) (fun hf => ?_)
      · exact b_65 _ ih8 _ ih39 _ _ _ _ _ _ _ _ _ _ hf hP hD hS (lv_sub hl [0, 1, 2, 3, 4, 5] rfl)
      · refine lv_aload_n hx hb dX4_split_55 rfl (lv_at hl 1 rfl) ?_
        refine lv_iload hx hb dX4_split_56 (lv_at hl 4 rfl) ?_
        refine xi_iald hx hb hK hP 1 0 rfl rfl dX4_split_58 hf (fun v3 hf => ?_)
        refine xe_d1 hf (fun v4 hg hf => ?_)
        have hC : ([] : List Nat).map (fun i => (wd_LawReader_split cA q0 q1 q2 q3 q4 q5 u0 u1 u2 i_a1 i_tokens i_places i_values)[i]?) = (wd_LawReader_isLetter cA).map some := rfl
        refine xv_afterI (ws' := (wd_LawReader_split cA q0 q1 q2 q3 q4 q5 u0 u1 u2 i_a1 i_tokens i_places i_values)) (isC := []) (ps := [none, none, none, none, none]) (va_runS (As := [.int (Int32.ofInt v3)]) (rest := []) ⟨hx, hb, hml, hown, hts⟩ (c_LawReader_isLetter l ev dC dI cA hg H.size) (va_cwS 1 hts (zgS zw_660 zw_661 zw_107 zw_662) rfl rfl rfl hd_LawReader_isLetter.2 ⟨Nat.le_of_ble_eq_true rfl, Nat.le_of_ble_eq_true rfl⟩) (xv_preS hE hA hS hK hP hD (isC := []) (by decide +kernel) hC) rfl rfl hl.1 rfl (lv_room (Nat.le_of_ble_eq_true rfl)) dX4_split_59 ⟨Nat.le_refl _, Nat.le_refl _⟩) hP hD hS hA (by decide +kernel) rfl hC rfl rfl (fun H locs hP hD hS => ?_)
        refine xi_if_ne (tgt := 91) hx hb dX4_split_62 (by decide) hf (fun hf => ?_) (fun hf => ?_)
        · exact b_91 _ ih8 _ ih39 _ _ _ _ _ _ _ _ _ _ hf hP hD hS (lv_sub hl [0, 1, 2, 3, 4, 5] rfl)
        · exact b_65 _ ih8 _ ih39 _ _ _ _ _ _ _ _ _ _ hf hP hD hS (lv_sub hl [0, 1, 2, 3, 4, 5] rfl)
  have l_39 : ∀ (k8 : Int → Int → Int → Int → (Nat → Int) → (Nat → Int) → (Nat → Int) → Option ((Nat → Int) × (Nat → Int) × (Nat → Int))) (_ : ∀ (x2 : Int) (x3 : Int) (x4 : Int) (x5 : Int) (i_tokens : Nat → Int) (i_places : Nat → Int) (i_values : Nat → Int) (H : Heap) (locs : List Loc) (ls : Array Slot), k8 x2 x3 x4 x5 i_tokens i_places i_values = some out → va_P (dC, dI) vwCl (wd_LawReader_split cA q0 q1 q2 q3 q4 q5 u0 u1 u2 i_a1 i_tokens i_places i_values) H → va_D A (wd_LawReader_split cA q0 q1 q2 q3 q4 q5 u0 u1 u2 i_a1 i_tokens i_places i_values) → va_S A s.heap H locs → lv_has ls 6 [(0, .ref q0), (1, .ref q5), (2, .int (Int32.ofInt x2)), (3, .int (Int32.ofInt x3)), (4, .int (Int32.ofInt x4)), (5, .int (Int32.ofInt x5))] → W p l e rm_LawReader_split s m args below meth c H locs 0 0 Q (F0 m 8 ls [])), ∀ (n : Nat), ∀ (x2 : Int) (x3 : Int) (x4 : Int) (x5 : Int) (i_tokens : Nat → Int) (i_places : Nat → Int) (i_values : Nat → Int) (H : Heap) (locs : List Loc) (ls : Array Slot), f_LawReader_split_39 i_a1 k8 n x2 x3 x4 x5 i_tokens i_places i_values = some out → va_P (dC, dI) vwCl (wd_LawReader_split cA q0 q1 q2 q3 q4 q5 u0 u1 u2 i_a1 i_tokens i_places i_values) H → va_D A (wd_LawReader_split cA q0 q1 q2 q3 q4 q5 u0 u1 u2 i_a1 i_tokens i_places i_values) → va_S A s.heap H locs → lv_has ls 6 [(0, .ref q0), (1, .ref q5), (2, .int (Int32.ofInt x2)), (3, .int (Int32.ofInt x3)), (4, .int (Int32.ofInt x4)), (5, .int (Int32.ofInt x5))] → W p l e rm_LawReader_split s m args below meth c H locs 0 0 Q (F0 m 39 ls []) := by
    intro k8 ih8 n
    induction n with
    | zero => intro x2 x3 x4 x5 i_tokens i_places i_values H locs ls hf hP hD hS hl; exact nomatch hf
    | succ n ih => intro x2 x3 x4 x5 i_tokens i_places i_values H locs ls hf hP hD hS hl; exact b_39 k8 ih8 (f_LawReader_split_39 i_a1 k8 n) ih x2 x3 x4 x5 i_tokens i_places i_values H locs ls hf hP hD hS hl
  have b_8 : ∀ (k8 : Int → Int → Int → Int → (Nat → Int) → (Nat → Int) → (Nat → Int) → Option ((Nat → Int) × (Nat → Int) × (Nat → Int))) (_ : ∀ (x2 : Int) (x3 : Int) (x4 : Int) (x5 : Int) (i_tokens : Nat → Int) (i_places : Nat → Int) (i_values : Nat → Int) (H : Heap) (locs : List Loc) (ls : Array Slot), k8 x2 x3 x4 x5 i_tokens i_places i_values = some out → va_P (dC, dI) vwCl (wd_LawReader_split cA q0 q1 q2 q3 q4 q5 u0 u1 u2 i_a1 i_tokens i_places i_values) H → va_D A (wd_LawReader_split cA q0 q1 q2 q3 q4 q5 u0 u1 u2 i_a1 i_tokens i_places i_values) → va_S A s.heap H locs → lv_has ls 6 [(0, .ref q0), (1, .ref q5), (2, .int (Int32.ofInt x2)), (3, .int (Int32.ofInt x3)), (4, .int (Int32.ofInt x4)), (5, .int (Int32.ofInt x5))] → W p l e rm_LawReader_split s m args below meth c H locs 0 0 Q (F0 m 8 ls [])), ∀ (x2 : Int) (x3 : Int) (x4 : Int) (x5 : Int) (i_tokens : Nat → Int) (i_places : Nat → Int) (i_values : Nat → Int) (H : Heap) (locs : List Loc) (ls : Array Slot), f_LawReader_split_8_b i_a1 k8 x2 x3 x4 x5 i_tokens i_places i_values = some out → va_P (dC, dI) vwCl (wd_LawReader_split cA q0 q1 q2 q3 q4 q5 u0 u1 u2 i_a1 i_tokens i_places i_values) H → va_D A (wd_LawReader_split cA q0 q1 q2 q3 q4 q5 u0 u1 u2 i_a1 i_tokens i_places i_values) → va_S A s.heap H locs → lv_has ls 6 [(0, .ref q0), (1, .ref q5), (2, .int (Int32.ofInt x2)), (3, .int (Int32.ofInt x3)), (4, .int (Int32.ofInt x4)), (5, .int (Int32.ofInt x5))] → W p l e rm_LawReader_split s m args below meth c H locs 0 0 Q (F0 m 8 ls []) := by
    intro k8 ih8 x2 x3 x4 x5 i_tokens i_places i_values H locs ls hf hP hD hS hl
    unfold f_LawReader_split_8_b at hf
    refine lv_iload hx hb dX4_split_8 (lv_at hl 5 rfl) ?_
    refine lv_iload_n hx hb dX4_split_10 rfl (lv_at hl 2 rfl) ?_
    refine xi_icmp_ge (tgt := 124) hx hb dX4_split_11 (by decide) hf (fun hf => ?_) (fun hf => ?_)
    · refine lv_aload_n hx hb dX4_split_124 rfl (lv_at hl 0 rfl) ?_
      refine va_get (D := (dC, dI)) (ci := 4) (v := .ref q3) (C := RX4) (T := TX4) (N := 7) hx hb hz zi_X4 hown hK hP 0 rfl rfl 3 (by decide) (hz _ zw_253) (fun _ h9 => h9) rfl dX4_split_125 ?_
      refine lv_iload_n hx hb dX4_split_128 rfl (lv_at hl 3 rfl) ?_
      refine lv_iload_n hx hb dX4_split_129 rfl (lv_at hl 2 rfl) ?_
      refine xi_iast hx hb hK hP hD hS 3 0 rfl rfl dX4_split_130 hf (fun a1 H locs hP hD hS hf => ?_)
      have hP : va_P (dC, dI) vwCl (wd_LawReader_split cA q0 q1 q2 q3 q4 q5 u0 u1 u2 i_a1 i_tokens a1 i_values) H := hP
      have hD : va_D A (wd_LawReader_split cA q0 q1 q2 q3 q4 q5 u0 u1 u2 i_a1 i_tokens a1 i_values) := hD
      refine lv_aload_n hx hb dX4_split_131 rfl (lv_at hl 0 rfl) ?_
      refine va_get (D := (dC, dI)) (ci := 4) (v := .ref q2) (C := RX4) (T := TX4) (N := 7) hx hb hz zi_X4 hown hK hP 0 rfl rfl 2 (by decide) (hz _ zw_252) (fun _ h9 => h9) rfl dX4_split_132 ?_
      refine lv_iload_n hx hb dX4_split_135 rfl (lv_at hl 3 rfl) ?_
      refine lv_sipush (v := Int32.ofInt 257) hx hb dX4_split_136 (by decide) ?_
      refine xi_iast hx hb hK hP hD hS 2 0 rfl rfl dX4_split_139 hf (fun a2 H locs hP hD hS hf => ?_)
      have hP : va_P (dC, dI) vwCl (wd_LawReader_split cA q0 q1 q2 q3 q4 q5 u0 u1 u2 i_a1 a2 a1 i_values) H := hP
      have hD : va_D A (wd_LawReader_split cA q0 q1 q2 q3 q4 q5 u0 u1 u2 i_a1 a2 a1 i_values) := hD
      obtain rfl := Option.some.inj hf
      exact hret _ _ _ _ dX4_split_140 hP hD hS
    · refine lv_iload hx hb dX4_split_14 (lv_at hl 5 rfl) ?_
      refine lv_iload hx hb dX4_split_16 (lv_at hl 4 rfl) ?_
      refine xi_icmp_lt (tgt := 118) hx hb dX4_split_18 (by decide) hf (fun hf => ?_) (fun hf => ?_)
      · exact b_118 _ ih8 _ _ _ _ _ _ _ _ _ _ hf hP hD hS (lv_sub hl [0, 1, 2, 3, 4, 5] rfl)
      · refine lv_aload_n hx hb dX4_split_21 rfl (lv_at hl 1 rfl) ?_
        refine lv_iload hx hb dX4_split_22 (lv_at hl 5 rfl) ?_
        refine xi_iald hx hb hK hP 1 0 rfl rfl dX4_split_24 hf (fun v3 hf => ?_)
        refine lv_bipush (v := Int32.ofInt 32) hx hb dX4_split_25 (by decide) ?_
        refine xi_icmp_ne (tgt := 33) hx hb dX4_split_27 (by decide) hf (fun hf => ?_) (fun hf => ?_)
        · refine lv_iload hx hb dX4_split_33 (lv_at hl 5 rfl) ?_
          refine lv_iconst (v := Int32.ofInt 1) hx hb dX4_split_35 rfl ?_
          refine xi_iadd hx hb dX4_split_36 hf (fun v4 hf => ?_)
          refine lv_istore (lv' := [(4, .int (Int32.ofInt v4)), (0, .ref q0), (1, .ref q5), (2, .int (Int32.ofInt x2)), (3, .int (Int32.ofInt x3)), (5, .int (Int32.ofInt x5))]) hx hb dX4_split_37 hl (by decide) rfl (fun ls hl => ?_)
          exact l_39 _ ih8 _ _ _ _ _ _ _ _ _ _ _ hf hP hD hS (lv_sub hl [1, 2, 3, 4, 0, 5] rfl)
        · refine lv_goto (tgt := 118) hx hb dX4_split_30 (by decide) ?_
          exact b_118 _ ih8 _ _ _ _ _ _ _ _ _ _ hf hP hD hS (lv_sub hl [0, 1, 2, 3, 4, 5] rfl)
  have l_8 : ∀ (n : Nat), ∀ (x2 : Int) (x3 : Int) (x4 : Int) (x5 : Int) (i_tokens : Nat → Int) (i_places : Nat → Int) (i_values : Nat → Int) (H : Heap) (locs : List Loc) (ls : Array Slot), f_LawReader_split_8 i_a1 n x2 x3 x4 x5 i_tokens i_places i_values = some out → va_P (dC, dI) vwCl (wd_LawReader_split cA q0 q1 q2 q3 q4 q5 u0 u1 u2 i_a1 i_tokens i_places i_values) H → va_D A (wd_LawReader_split cA q0 q1 q2 q3 q4 q5 u0 u1 u2 i_a1 i_tokens i_places i_values) → va_S A s.heap H locs → lv_has ls 6 [(0, .ref q0), (1, .ref q5), (2, .int (Int32.ofInt x2)), (3, .int (Int32.ofInt x3)), (4, .int (Int32.ofInt x4)), (5, .int (Int32.ofInt x5))] → W p l e rm_LawReader_split s m args below meth c H locs 0 0 Q (F0 m 8 ls []) := by
    intro n
    induction n with
    | zero => intro x2 x3 x4 x5 i_tokens i_places i_values H locs ls hf hP hD hS hl; exact nomatch hf
    | succ n ih => intro x2 x3 x4 x5 i_tokens i_places i_values H locs ls hf hP hD hS hl; exact b_8 (f_LawReader_split_8 i_a1 n) ih x2 x3 x4 x5 i_tokens i_places i_values H locs ls hf hP hD hS hl
  unfold f_LawReader_split at hf
  refine lv_iconst (v := Int32.ofInt 0) hx hb dX4_split_0 rfl ?_
  refine lv_istore_n (lv' := [(3, .int (Int32.ofInt 0)), (0, .ref q0), (1, .ref q5), (2, .int (Int32.ofInt x2))]) hx hb dX4_split_1 rfl hl (by decide) rfl (fun ls hl => ?_)
  refine lv_iconst (v := Int32.ofInt 0) hx hb dX4_split_2 rfl ?_
  refine lv_istore (lv' := [(4, .int (Int32.ofInt 0)), (3, .int (Int32.ofInt 0)), (0, .ref q0), (1, .ref q5), (2, .int (Int32.ofInt x2))]) hx hb dX4_split_3 hl (by decide) rfl (fun ls hl => ?_)
  refine lv_iconst (v := Int32.ofInt 0) hx hb dX4_split_5 rfl ?_
  refine lv_istore (lv' := [(5, .int (Int32.ofInt 0)), (4, .int (Int32.ofInt 0)), (3, .int (Int32.ofInt 0)), (0, .ref q0), (1, .ref q5), (2, .int (Int32.ofInt x2))]) hx hb dX4_split_6 hl (by decide) rfl (fun ls hl => ?_)
  exact l_8  _ _ _ _ _ _ _ _ _ _ _ hf hP hD hS (lv_sub hl [3, 4, 5, 2, 1, 0] rfl)
theorem dX4_read_0 : decode cX4_read 0 = .ok (.aload_n 0, 1) := by decide +kernel
theorem dX4_read_1 : decode cX4_read 1 = .ok (.aload_n 1, 1) := by decide +kernel
theorem dX4_read_2 : decode cX4_read 2 = .ok (.iconst 0, 1) := by decide +kernel
theorem dX4_read_3 : decode cX4_read 3 = .ok (.iload_n 2, 1) := by decide +kernel
theorem dX4_read_4 : decode cX4_read 4 = .ok (.sipush 400, 3) := by decide +kernel
theorem dX4_read_7 : decode cX4_read 7 = .ok (.aload_n 1, 1) := by decide +kernel
theorem dX4_read_8 : decode cX4_read 8 = .ok (.arraylength, 1) := by decide +kernel
theorem dX4_read_9 : decode cX4_read 9 = .ok (.invokestatic 34, 3) := by decide +kernel
theorem dX4_read_12 : decode cX4_read 12 = .ok (.invokestatic 34, 3) := by decide +kernel
theorem dX4_read_15 : decode cX4_read 15 = .ok (.invokestatic 40, 3) := by decide +kernel
theorem dX4_read_18 : decode cX4_read 18 = .ok (.invokevirtual 43, 3) := by decide +kernel
theorem dX4_read_21 : decode cX4_read 21 = .ok (.aload_n 0, 1) := by decide +kernel
theorem dX4_read_22 : decode cX4_read 22 = .ok (.iconst 0, 1) := by decide +kernel
theorem dX4_read_23 : decode cX4_read 23 = .ok (.putfield 15, 3) := by decide +kernel
theorem dX4_read_26 : decode cX4_read 26 = .ok (.aload_n 0, 1) := by decide +kernel
theorem dX4_read_27 : decode cX4_read 27 = .ok (.iconst 0, 1) := by decide +kernel
theorem dX4_read_28 : decode cX4_read 28 = .ok (.putfield 31, 3) := by decide +kernel
theorem dX4_read_31 : decode cX4_read 31 = .ok (.aload_n 0, 1) := by decide +kernel
theorem dX4_read_32 : decode cX4_read 32 = .ok (.iconst 0, 1) := by decide +kernel
theorem dX4_read_33 : decode cX4_read 33 = .ok (.putfield 28, 3) := by decide +kernel
theorem dX4_read_36 : decode cX4_read 36 = .ok (.iconst 0, 1) := by decide +kernel
theorem dX4_read_37 : decode cX4_read 37 = .ok (.istore_n 3, 1) := by decide +kernel
theorem dX4_read_38 : decode cX4_read 38 = .ok (.iload_n 3, 1) := by decide +kernel
theorem dX4_read_39 : decode cX4_read 39 = .ok (.bipush 12, 2) := by decide +kernel
theorem dX4_read_41 : decode cX4_read 41 = .ok (.if_icmp .ge 45, 3) := by decide +kernel
theorem dX4_read_44 : decode cX4_read 44 = .ok (.aload_n 0, 1) := by decide +kernel
theorem dX4_read_45 : decode cX4_read 45 = .ok (.invokevirtual 47, 3) := by decide +kernel
theorem dX4_read_48 : decode cX4_read 48 = .ok (.ifCond .eq 38, 3) := by decide +kernel
theorem dX4_read_51 : decode cX4_read 51 = .ok (.aload_n 0, 1) := by decide +kernel
theorem dX4_read_52 : decode cX4_read 52 = .ok (.getfield 19, 3) := by decide +kernel
theorem dX4_read_55 : decode cX4_read 55 = .ok (.aload_n 0, 1) := by decide +kernel
theorem dX4_read_56 : decode cX4_read 56 = .ok (.getfield 28, 3) := by decide +kernel
theorem dX4_read_59 : decode cX4_read 59 = .ok (.iaload, 1) := by decide +kernel
theorem dX4_read_60 : decode cX4_read 60 = .ok (.sipush 257, 3) := by decide +kernel
theorem dX4_read_63 : decode cX4_read 63 = .ok (.if_icmp .ne 5, 3) := by decide +kernel
theorem dX4_read_66 : decode cX4_read 66 = .ok (.iconst (-1), 1) := by decide +kernel
theorem dX4_read_67 : decode cX4_read 67 = .ok (.ireturn, 1) := by decide +kernel
theorem dX4_read_68 : decode cX4_read 68 = .ok (.aload_n 0, 1) := by decide +kernel
theorem dX4_read_69 : decode cX4_read 69 = .ok (.bipush 59, 2) := by decide +kernel
theorem dX4_read_71 : decode cX4_read 71 = .ok (.invokevirtual 51, 3) := by decide +kernel
theorem dX4_read_74 : decode cX4_read 74 = .ok (.ifCond .ne 6, 3) := by decide +kernel
theorem dX4_read_77 : decode cX4_read 77 = .ok (.goto 9, 3) := by decide +kernel
theorem dX4_read_80 : decode cX4_read 80 = .ok (.iinc 3 1, 3) := by decide +kernel
theorem dX4_read_83 : decode cX4_read 83 = .ok (.goto (-45), 3) := by decide +kernel
theorem dX4_read_86 : decode cX4_read 86 = .ok (.aload_n 0, 1) := by decide +kernel
theorem dX4_read_87 : decode cX4_read 87 = .ok (.getfield 22, 3) := by decide +kernel
theorem dX4_read_90 : decode cX4_read 90 = .ok (.aload_n 0, 1) := by decide +kernel
theorem dX4_read_91 : decode cX4_read 91 = .ok (.getfield 28, 3) := by decide +kernel
theorem dX4_read_94 : decode cX4_read 94 = .ok (.iaload, 1) := by decide +kernel
theorem dX4_read_95 : decode cX4_read 95 = .ok (.ireturn, 1) := by decide +kernel
theorem zw_3 : (Jvm.Cond.selects "HillSchool$LawReader" ({ cls := "HillSchool$LawReader", name := "split", desc := "([II)V" } : Jvm.MethodName) ({ cls := "HillSchool$LawReader", name := "split", desc := "([II)V" } : Jvm.MethodName)) ∈ zall := zmemG (zmj_0 3 rfl) rfl
theorem zw_5 : (Jvm.Cond.selects "HillSchool$LawReader" ({ cls := "HillSchool$LawReader", name := "readClause", desc := "()Z" } : Jvm.MethodName) ({ cls := "HillSchool$LawReader", name := "readClause", desc := "()Z" } : Jvm.MethodName)) ∈ zall := zmemG (zmj_0 5 rfl) rfl
theorem zw_116 : (Jvm.Cond.initialized "java/lang/Math") ∈ zall := zmemG (zmj_1 13 rfl) rfl
theorem zw_649 : (Jvm.Cond.code ({ cls := "HillSchool$LawReader", name := "read", desc := "([II)I" } : Jvm.MethodName) prog_6_method_2_code (4 : Nat) (Option.some Jvm.ClassFile.FieldType.int)) ∈ zall := zmemG (zmj_3 66 rfl) rfl
theorem zw_650 : (Jvm.Cond.methodLink "HillSchool$LawReader" (34 : Nat) ({ cls := "java/lang/Math", name := "min", desc := "(II)I" } : Jvm.MethodName)) ∈ zall := zmemG (zmj_3 67 rfl) rfl
theorem zw_651 : (Jvm.Cond.static ({ cls := "java/lang/Math", name := "min", desc := "(II)I" } : Jvm.MethodName)) ∈ zall := zmemG (zmj_3 68 rfl) rfl
theorem zw_652 : (Jvm.Cond.code ({ cls := "java/lang/Math", name := "min", desc := "(II)I" } : Jvm.MethodName) prog_15_method_69_code (2 : Nat) (Option.some Jvm.ClassFile.FieldType.int)) ∈ zall := zmemG (zmj_3 69 rfl) rfl
theorem zw_653 : (Jvm.Cond.methodLink "HillSchool$LawReader" (40 : Nat) ({ cls := "java/lang/Math", name := "max", desc := "(II)I" } : Jvm.MethodName)) ∈ zall := zmemG (zmj_3 70 rfl) rfl
theorem zw_654 : (Jvm.Cond.static ({ cls := "java/lang/Math", name := "max", desc := "(II)I" } : Jvm.MethodName)) ∈ zall := zmemG (zmj_3 71 rfl) rfl
theorem zw_655 : (Jvm.Cond.code ({ cls := "java/lang/Math", name := "max", desc := "(II)I" } : Jvm.MethodName) prog_15_method_65_code (2 : Nat) (Option.some Jvm.ClassFile.FieldType.int)) ∈ zall := zmemG (zmj_3 72 rfl) rfl
theorem zw_656 : (Jvm.Cond.methodLink "HillSchool$LawReader" (43 : Nat) ({ cls := "HillSchool$LawReader", name := "split", desc := "([II)V" } : Jvm.MethodName)) ∈ zall := zmemG (zmj_3 73 rfl) rfl
theorem zw_658 : (Jvm.Cond.instanceMethod ({ cls := "HillSchool$LawReader", name := "split", desc := "([II)V" } : Jvm.MethodName)) ∈ zall := zmemG (zmj_3 75 rfl) rfl
theorem zw_744 : (Jvm.Cond.methodLink "HillSchool$LawReader" (47 : Nat) ({ cls := "HillSchool$LawReader", name := "readClause", desc := "()Z" } : Jvm.MethodName)) ∈ zall := zmemG (zmj_3 161 rfl) rfl
theorem zw_746 : (Jvm.Cond.instanceMethod ({ cls := "HillSchool$LawReader", name := "readClause", desc := "()Z" } : Jvm.MethodName)) ∈ zall := zmemG (zmj_3 163 rfl) rfl
abbrev w_LawReader_read : List Cond := .code yX4_read cX4_read 4 (some .int) :: zall
abbrev rm_LawReader_read : Room := { frames := 132, cells := 0, slots := 0, locals := 3164 }
theorem hd_LawReader_read : yX4_read.cls = "HillSchool$LawReader" ∧ yX4_read.cls ≠ "java/lang/invoke/MethodHandle" ∧ yX4_read.cls ≠ "java/lang/invoke/VarHandle" ∧ (parseMethodDescriptor yX4_read.desc).map (fun d => d.parameters.length) = some 2 := by decide +kernel
def wd_LawReader_read (cA : Nat → ClassId) (q0 q1 q2 q3 q4 q5 : Nat) (i_a1 : Nat → Int) (i_ordered : Int) (i_at : Int) (i_parts : Int) (i_orders : Nat → Int) (i_tokens : Nat → Int) (i_places : Nat → Int) (i_values : Nat → Int) : va_W := [(q0, .inr (4, [.ref q1, .int (Int32.ofInt i_ordered), .ref q2, .ref q3, .ref q4, .int (Int32.ofInt i_at), .int (Int32.ofInt i_parts)])), (q5, .inl (cA 0, 400, .inl (za i_a1))), (q1, .inl (cA 0, 424, .inl (za i_orders))), (q2, .inl (cA 0, 401, .inl (za i_tokens))), (q3, .inl (cA 0, 401, .inl (za i_places))), (q4, .inl (cA 0, 401, .inl (za i_values)))]
def wf_LawReader_read (cA : Nat → ClassId) (q0 q1 q2 q3 q4 q5 : Nat) (i_a1 : Nat → Int) (o : Int × Int × Int × Int × (Nat → Int) × (Nat → Int) × (Nat → Int) × (Nat → Int)) : va_W := wd_LawReader_read cA q0 q1 q2 q3 q4 q5 i_a1 o.2.1 o.2.2.1 o.2.2.2.1 o.2.2.2.2.1 o.2.2.2.2.2.1 o.2.2.2.2.2.2.1 o.2.2.2.2.2.2.2
def f_LawReader_read_38_b (i_a1 : Nat → Int) (k38 : Int → Int → Int → Int → (Nat → Int) → (Nat → Int) → (Nat → Int) → (Nat → Int) → Option (Int × Int × Int × Int × (Nat → Int) × (Nat → Int) × (Nat → Int) × (Nat → Int))) (x3 : Int) (i_ordered : Int) (i_at : Int) (i_parts : Int) (i_orders : Nat → Int) (i_tokens : Nat → Int) (i_places : Nat → Int) (i_values : Nat → Int) : Option (Int × Int × Int × Int × (Nat → Int) × (Nat → Int) × (Nat → Int) × (Nat → Int)) :=
  if zi_w 12 ≤ zi_w x3 then
    zg 401 i_places i_at fun v1 =>
    some (v1, i_ordered, i_at, i_parts, i_orders, i_tokens, i_places, i_values)
  else
    zd5 (f_LawReader_readClause i_tokens i_values i_ordered i_at i_parts i_orders) fun v2 v3 v4 v5 a6 =>
    if zi_w v2 = 0 then
      zg 401 i_places v4 fun v7 =>
      some (v7, v3, v4, v5, a6, i_tokens, i_places, i_values)
    else
      zg 401 i_tokens v4 fun v8 =>
      if zi_w v8 ≠ zi_w 257 then
        zd2 (f_LawReader_pass 59 i_tokens v4) fun v9 v10 =>
        if zi_w v9 ≠ 0 then
          zn (x3 + 1) fun v11 =>
          k38 v11 v3 v10 v5 a6 i_tokens i_places i_values
        else
          zg 401 i_places v10 fun v12 =>
          some (v12, v3, v10, v5, a6, i_tokens, i_places, i_values)
      else
        some ((-1), v3, v4, v5, a6, i_tokens, i_places, i_values)
def f_LawReader_read_38 (i_a1 : Nat → Int) : Nat → Int → Int → Int → Int → (Nat → Int) → (Nat → Int) → (Nat → Int) → (Nat → Int) → Option (Int × Int × Int × Int × (Nat → Int) × (Nat → Int) × (Nat → Int) × (Nat → Int))
  | 0 => fun _ _ _ _ _ _ _ _ => none
  | n + 1 => fun y0 y1 y2 y3 y4 y5 y6 y7 => f_LawReader_read_38_b i_a1 (f_LawReader_read_38 i_a1 n) y0 y1 y2 y3 y4 y5 y6 y7
def f_LawReader_read (x2 : Int) (i_a1 : Nat → Int) (i_ordered : Int) (i_at : Int) (i_parts : Int) (i_orders : Nat → Int) (i_tokens : Nat → Int) (i_places : Nat → Int) (i_values : Nat → Int) : Option (Int × Int × Int × Int × (Nat → Int) × (Nat → Int) × (Nat → Int) × (Nat → Int)) :=
  zn (zi_min 400 400) fun v1 =>
  zn (zi_min x2 v1) fun v2 =>
  zn (zi_max 0 v2) fun v3 =>
  zd3 (f_LawReader_split v3 i_a1 i_tokens i_places i_values) fun a4 a5 a6 =>
  f_LawReader_read_38 i_a1 zfu 0 0 0 0 i_orders a4 a5 a6
set_option maxHeartbeats 4000000 in
set_option maxRecDepth 100000 in
theorem c_LawReader_read (l : Launch) (ev : zEv) (dC : Nat → ClassId) (dI : Nat → Nat → Nat) (cA : Nat → ClassId) (q0 q1 q2 q3 q4 q5 : Nat) {x2 : Int} {i_a1 : Nat → Int} {i_ordered : Int} {i_at : Int} {i_parts : Int} {i_orders : Nat → Int} {i_tokens : Nat → Int} {i_places : Nat → Int} {i_values : Nat → Int} {out : Int × Int × Int × Int × (Nat → Int) × (Nat → Int) × (Nat → Int) × (Nat → Int)} (hf : f_LawReader_read x2 i_a1 i_ordered i_at i_parts i_orders i_tokens i_places i_values = some out) : xc_I l ev (dC, dI) vwCl (tyl cA) yX4_read w_LawReader_read rm_LawReader_read [.ref q0, .ref q5, .int (Int32.ofInt x2)] (wd_LawReader_read cA q0 q1 q2 q3 q4 q5 i_a1 i_ordered i_at i_parts i_orders i_tokens i_places i_values) (wf_LawReader_read cA q0 q1 q2 q3 q4 q5 i_a1 out) out.1 := by
  refine xv_startI (cc := cX4_read) (maxL := 4) (rt := .int) (by decide +kernel) rfl (Nat.le_of_ble_eq_true rfl) ?_
  intro p e s m args below meth c A Q H ls hx hb hml hts hown hK hA hP hD hS hl hE hret
  have hown : s.vm.findClass "HillSchool$LawReader" = some m.cls := hown
  have hz : ∀ w ∈ zall, w.before args s = true := fun w h => hts w (List.mem_cons_of_mem _ h)
  have hl : lv_has ls 4 [(0, .ref q0), (1, .ref q5), (2, .int (Int32.ofInt x2))] := hl
  have b_38 : ∀ (k38 : Int → Int → Int → Int → (Nat → Int) → (Nat → Int) → (Nat → Int) → (Nat → Int) → Option (Int × Int × Int × Int × (Nat → Int) × (Nat → Int) × (Nat → Int) × (Nat → Int))) (_ : ∀ (x3 : Int) (i_ordered : Int) (i_at : Int) (i_parts : Int) (i_orders : Nat → Int) (i_tokens : Nat → Int) (i_places : Nat → Int) (i_values : Nat → Int) (H : Heap) (locs : List Loc) (ls : Array Slot), k38 x3 i_ordered i_at i_parts i_orders i_tokens i_places i_values = some out → va_P (dC, dI) vwCl (wd_LawReader_read cA q0 q1 q2 q3 q4 q5 i_a1 i_ordered i_at i_parts i_orders i_tokens i_places i_values) H → va_D A (wd_LawReader_read cA q0 q1 q2 q3 q4 q5 i_a1 i_ordered i_at i_parts i_orders i_tokens i_places i_values) → va_S A s.heap H locs → lv_has ls 4 [(0, .ref q0), (3, .int (Int32.ofInt x3))] → W p l e rm_LawReader_read s m args below meth c H locs 0 0 Q (F0 m 38 ls [])), ∀ (x3 : Int) (i_ordered : Int) (i_at : Int) (i_parts : Int) (i_orders : Nat → Int) (i_tokens : Nat → Int) (i_places : Nat → Int) (i_values : Nat → Int) (H : Heap) (locs : List Loc) (ls : Array Slot), f_LawReader_read_38_b i_a1 k38 x3 i_ordered i_at i_parts i_orders i_tokens i_places i_values = some out → va_P (dC, dI) vwCl (wd_LawReader_read cA q0 q1 q2 q3 q4 q5 i_a1 i_ordered i_at i_parts i_orders i_tokens i_places i_values) H → va_D A (wd_LawReader_read cA q0 q1 q2 q3 q4 q5 i_a1 i_ordered i_at i_parts i_orders i_tokens i_places i_values) → va_S A s.heap H locs → lv_has ls 4 [(0, .ref q0), (3, .int (Int32.ofInt x3))] → W p l e rm_LawReader_read s m args below meth c H locs 0 0 Q (F0 m 38 ls []) := by
    intro k38 ih38 x3 i_ordered i_at i_parts i_orders i_tokens i_places i_values H locs ls hf hP hD hS hl
    unfold f_LawReader_read_38_b at hf
    refine lv_iload_n hx hb dX4_read_38 rfl (lv_at hl 1 rfl) ?_
    refine lv_bipush (v := Int32.ofInt 12) hx hb dX4_read_39 (by decide) ?_
    refine xi_icmp_ge (tgt := 86) hx hb dX4_read_41 (by decide) hf (fun hf => ?_) (fun hf => ?_)
    · refine lv_aload_n hx hb dX4_read_86 rfl (lv_at hl 0 rfl) ?_
      refine va_get (D := (dC, dI)) (ci := 4) (v := .ref q3) (C := RX4) (T := TX4) (N := 7) hx hb hz zi_X4 hown hK hP 0 rfl rfl 3 (by decide) (hz _ zw_253) (fun _ h9 => h9) rfl dX4_read_87 ?_
      refine lv_aload_n hx hb dX4_read_90 rfl (lv_at hl 0 rfl) ?_
      refine va_get (D := (dC, dI)) (ci := 4) (v := .int (Int32.ofInt i_at)) (C := RX4) (T := TX4) (N := 7) hx hb hz zi_X4 hown hK hP 0 rfl rfl 5 (by decide) (hz _ zw_255) (fun _ h9 => h9) rfl dX4_read_91 ?_
      refine xi_iald hx hb hK hP 4 0 rfl rfl dX4_read_94 hf (fun v1 hf => ?_)
      obtain rfl := Option.some.inj hf
      exact hret _ _ _ _ rfl dX4_read_95 hP hD hS
    · refine lv_aload_n hx hb dX4_read_44 rfl (lv_at hl 0 rfl) ?_
      refine xe_d5 hf (fun v2 v3 v4 v5 a6 hg hf => ?_)
      have hC : ([0, 2, 3, 5] : List Nat).map (fun i => (wd_LawReader_read cA q0 q1 q2 q3 q4 q5 i_a1 i_ordered i_at i_parts i_orders i_tokens i_places i_values)[i]?) = (wd_LawReader_readClause cA q0 q1 q2 q3 q4 i_tokens i_values i_ordered i_at i_parts i_orders).map some := rfl
      refine xv_afterI (ws' := (wd_LawReader_read cA q0 q1 q2 q3 q4 q5 i_a1 v3 v4 v5 a6 i_tokens i_places i_values)) (isC := [0, 2, 3, 5]) (ps := [some 0, none, some 1, some 2, none, some 3]) (va_runV (As := []) (rest := []) ⟨hx, hb, hml, hown, hts⟩ (c_LawReader_readClause l ev dC dI cA q0 q1 q2 q3 q4 hg H.size) (cwV 0 hts (zgV zw_744 zw_746 zw_5 zw_107 zw_747) rfl rfl rfl hd_LawReader_readClause ⟨Nat.le_of_ble_eq_true rfl, Nat.le_of_ble_eq_true rfl⟩) (xv_preV (T := TX4) (N := 7) hE hA hS hK hP hD (isC := [0, 2, 3, 5]) (by decide +kernel) hC (q0 := 0) (ci := 4) rfl rfl) rfl rfl hl.1 rfl (lv_room (Nat.le_of_ble_eq_true rfl)) dX4_read_45 ⟨Nat.le_refl _, Nat.le_refl _⟩) hP hD hS hA (by decide +kernel) rfl hC rfl rfl (fun H locs hP hD hS => ?_)
      refine xi_if_eq (tgt := 86) hx hb dX4_read_48 (by decide) hf (fun hf => ?_) (fun hf => ?_)
      · refine lv_aload_n hx hb dX4_read_86 rfl (lv_at hl 0 rfl) ?_
        refine va_get (D := (dC, dI)) (ci := 4) (v := .ref q3) (C := RX4) (T := TX4) (N := 7) hx hb hz zi_X4 hown hK hP 0 rfl rfl 3 (by decide) (hz _ zw_253) (fun _ h9 => h9) rfl dX4_read_87 ?_
        refine lv_aload_n hx hb dX4_read_90 rfl (lv_at hl 0 rfl) ?_
        refine va_get (D := (dC, dI)) (ci := 4) (v := .int (Int32.ofInt v4)) (C := RX4) (T := TX4) (N := 7) hx hb hz zi_X4 hown hK hP 0 rfl rfl 5 (by decide) (hz _ zw_255) (fun _ h9 => h9) rfl dX4_read_91 ?_
        refine xi_iald hx hb hK hP 4 0 rfl rfl dX4_read_94 hf (fun v7 hf => ?_)
        obtain rfl := Option.some.inj hf
        exact hret _ _ _ _ rfl dX4_read_95 hP hD hS
      · refine lv_aload_n hx hb dX4_read_51 rfl (lv_at hl 0 rfl) ?_
        refine va_get (D := (dC, dI)) (ci := 4) (v := .ref q2) (C := RX4) (T := TX4) (N := 7) hx hb hz zi_X4 hown hK hP 0 rfl rfl 2 (by decide) (hz _ zw_252) (fun _ h9 => h9) rfl dX4_read_52 ?_
        refine lv_aload_n hx hb dX4_read_55 rfl (lv_at hl 0 rfl) ?_
        refine va_get (D := (dC, dI)) (ci := 4) (v := .int (Int32.ofInt v4)) (C := RX4) (T := TX4) (N := 7) hx hb hz zi_X4 hown hK hP 0 rfl rfl 5 (by decide) (hz _ zw_255) (fun _ h9 => h9) rfl dX4_read_56 ?_
        refine xi_iald hx hb hK hP 3 0 rfl rfl dX4_read_59 hf (fun v8 hf => ?_)
        refine lv_sipush (v := Int32.ofInt 257) hx hb dX4_read_60 (by decide) ?_
        refine xi_icmp_ne (tgt := 68) hx hb dX4_read_63 (by decide) hf (fun hf => ?_) (fun hf => ?_)
        · refine lv_aload_n hx hb dX4_read_68 rfl (lv_at hl 0 rfl) ?_
          refine lv_bipush (v := Int32.ofInt 59) hx hb dX4_read_69 (by decide) ?_
          refine xe_d2 hf (fun v9 v10 hg hf => ?_)
          have hC : ([0, 3] : List Nat).map (fun i => (wd_LawReader_read cA q0 q1 q2 q3 q4 q5 i_a1 v3 v4 v5 a6 i_tokens i_places i_values)[i]?) = (wd_LawReader_pass cA q0 q1 q2 q3 q4 v3 v5 i_tokens v4).map some := rfl
          refine xv_afterI (ws' := (wd_LawReader_read cA q0 q1 q2 q3 q4 q5 i_a1 v3 v10 v5 a6 i_tokens i_places i_values)) (isC := [0, 3]) (ps := [some 0, none, none, some 1, none, none]) (va_runV (As := [.int (Int32.ofInt 59)]) (rest := []) ⟨hx, hb, hml, hown, hts⟩ (c_LawReader_pass l ev dC dI cA q0 q1 q2 q3 q4 v3 v5 hg H.size) (cwV 1 hts (zgV zw_752 zw_754 zw_7 zw_107 zw_755) rfl rfl rfl hd_LawReader_pass ⟨Nat.le_of_ble_eq_true rfl, Nat.le_of_ble_eq_true rfl⟩) (xv_preV (T := TX4) (N := 7) hE hA hS hK hP hD (isC := [0, 3]) (by decide +kernel) hC (q0 := 0) (ci := 4) rfl rfl) rfl rfl hl.1 rfl (lv_room (Nat.le_of_ble_eq_true rfl)) dX4_read_71 ⟨Nat.le_refl _, Nat.le_refl _⟩) hP hD hS hA (by decide +kernel) rfl hC rfl rfl (fun H locs hP hD hS => ?_)
          refine xi_if_ne (tgt := 80) hx hb dX4_read_74 (by decide) hf (fun hf => ?_) (fun hf => ?_)
          · refine xi_iinc hx hb dX4_read_80 hl (k := 1) rfl (by decide) hf (fun v11 ls hl hf => ?_)
            have hl : lv_has ls 4 [(3, .int (Int32.ofInt v11)), (0, .ref q0)] := hl
            refine lv_goto (tgt := 38) hx hb dX4_read_83 (by decide) ?_
            exact ih38 _ _ _ _ _ _ _ _ _ _ _ hf hP hD hS (lv_sub hl [1, 0] rfl)
          · refine lv_goto (tgt := 86) hx hb dX4_read_77 (by decide) ?_
            refine lv_aload_n hx hb dX4_read_86 rfl (lv_at hl 0 rfl) ?_
            refine va_get (D := (dC, dI)) (ci := 4) (v := .ref q3) (C := RX4) (T := TX4) (N := 7) hx hb hz zi_X4 hown hK hP 0 rfl rfl 3 (by decide) (hz _ zw_253) (fun _ h9 => h9) rfl dX4_read_87 ?_
            refine lv_aload_n hx hb dX4_read_90 rfl (lv_at hl 0 rfl) ?_
            refine va_get (D := (dC, dI)) (ci := 4) (v := .int (Int32.ofInt v10)) (C := RX4) (T := TX4) (N := 7) hx hb hz zi_X4 hown hK hP 0 rfl rfl 5 (by decide) (hz _ zw_255) (fun _ h9 => h9) rfl dX4_read_91 ?_
            refine xi_iald hx hb hK hP 4 0 rfl rfl dX4_read_94 hf (fun v12 hf => ?_)
            obtain rfl := Option.some.inj hf
            exact hret _ _ _ _ rfl dX4_read_95 hP hD hS
        · refine lv_iconst (v := Int32.ofInt (-1)) hx hb dX4_read_66 rfl ?_
          obtain rfl := Option.some.inj hf
          exact hret _ _ _ _ rfl dX4_read_67 hP hD hS
  have l_38 : ∀ (n : Nat), ∀ (x3 : Int) (i_ordered : Int) (i_at : Int) (i_parts : Int) (i_orders : Nat → Int) (i_tokens : Nat → Int) (i_places : Nat → Int) (i_values : Nat → Int) (H : Heap) (locs : List Loc) (ls : Array Slot), f_LawReader_read_38 i_a1 n x3 i_ordered i_at i_parts i_orders i_tokens i_places i_values = some out → va_P (dC, dI) vwCl (wd_LawReader_read cA q0 q1 q2 q3 q4 q5 i_a1 i_ordered i_at i_parts i_orders i_tokens i_places i_values) H → va_D A (wd_LawReader_read cA q0 q1 q2 q3 q4 q5 i_a1 i_ordered i_at i_parts i_orders i_tokens i_places i_values) → va_S A s.heap H locs → lv_has ls 4 [(0, .ref q0), (3, .int (Int32.ofInt x3))] → W p l e rm_LawReader_read s m args below meth c H locs 0 0 Q (F0 m 38 ls []) := by
    intro n
    induction n with
    | zero => intro x3 i_ordered i_at i_parts i_orders i_tokens i_places i_values H locs ls hf hP hD hS hl; exact nomatch hf
    | succ n ih => intro x3 i_ordered i_at i_parts i_orders i_tokens i_places i_values H locs ls hf hP hD hS hl; exact b_38 (f_LawReader_read_38 i_a1 n) ih x3 i_ordered i_at i_parts i_orders i_tokens i_places i_values H locs ls hf hP hD hS hl
  unfold f_LawReader_read at hf
  refine lv_aload_n hx hb dX4_read_0 rfl (lv_at hl 0 rfl) ?_
  refine lv_aload_n hx hb dX4_read_1 rfl (lv_at hl 1 rfl) ?_
  refine lv_iconst (v := Int32.ofInt 0) hx hb dX4_read_2 rfl ?_
  refine lv_iload_n hx hb dX4_read_3 rfl (lv_at hl 2 rfl) ?_
  refine lv_sipush (v := Int32.ofInt 400) hx hb dX4_read_4 (by decide) ?_
  refine lv_aload_n hx hb dX4_read_7 rfl (lv_at hl 1 rfl) ?_
  refine va_alen (v := Int32.ofInt 400) hx hb hK hP 1 0 rfl rfl (show Int32.ofNat 400 = Int32.ofInt 400 by decide +kernel) dX4_read_8 ?_
  refine xi_mmin hx hb (hml.trans hl.1.symm) hown (hz _ zw_650) (hz _ zw_651) (hz _ zw_116) (hz _ zw_652) (Nat.le_of_ble_eq_true rfl) (Nat.le_of_ble_eq_true rfl) (Nat.zero_le _) (Nat.zero_le _) dX4_read_9 hf (fun v1 hf => ?_)
  refine xi_mmin hx hb (hml.trans hl.1.symm) hown (hz _ zw_650) (hz _ zw_651) (hz _ zw_116) (hz _ zw_652) (Nat.le_of_ble_eq_true rfl) (Nat.le_of_ble_eq_true rfl) (Nat.zero_le _) (Nat.zero_le _) dX4_read_12 hf (fun v2 hf => ?_)
  refine xi_mmax hx hb (hml.trans hl.1.symm) hown (hz _ zw_653) (hz _ zw_654) (hz _ zw_116) (hz _ zw_655) (Nat.le_of_ble_eq_true rfl) (Nat.le_of_ble_eq_true rfl) (Nat.zero_le _) (Nat.zero_le _) dX4_read_15 hf (fun v3 hf => ?_)
  refine xe_d3 hf (fun a4 a5 a6 hg hf => ?_)
  have hC : ([0, 1, 3, 4, 5] : List Nat).map (fun i => (wd_LawReader_read cA q0 q1 q2 q3 q4 q5 i_a1 i_ordered i_at i_parts i_orders i_tokens i_places i_values)[i]?) = (wd_LawReader_split cA q0 q1 q2 q3 q4 q5 i_ordered i_at i_parts i_a1 i_tokens i_places i_values).map some := rfl
  refine xv_afterV (ws' := (wd_LawReader_read cA q0 q1 q2 q3 q4 q5 i_a1 i_ordered i_at i_parts i_orders a4 a5 a6)) (isC := [0, 1, 3, 4, 5]) (ps := [some 0, some 1, none, some 2, some 3, some 4]) (va_runV (As := [.ref q5, .int (Int32.ofInt v3)]) (rest := []) ⟨hx, hb, hml, hown, hts⟩ (c_LawReader_split l ev dC dI cA q0 q1 q2 q3 q4 q5 i_ordered i_at i_parts hg H.size) (cwV 2 hts (zgV zw_656 zw_658 zw_3 zw_107 zw_659) rfl rfl rfl hd_LawReader_split ⟨Nat.le_of_ble_eq_true rfl, Nat.le_of_ble_eq_true rfl⟩) (xv_preV (T := TX4) (N := 7) hE hA hS hK hP hD (isC := [0, 1, 3, 4, 5]) (by decide +kernel) hC (q0 := 0) (ci := 4) rfl rfl) rfl rfl hl.1 rfl (lv_room (Nat.le_of_ble_eq_true rfl)) dX4_read_18 ⟨Nat.le_refl _, Nat.le_refl _⟩) hP hD hS hA (by decide +kernel) rfl hC rfl rfl (fun H locs hP hD hS => ?_)
  refine lv_aload_n hx hb dX4_read_21 rfl (lv_at hl 0 rfl) ?_
  refine lv_iconst (v := Int32.ofInt 0) hx hb dX4_read_22 rfl ?_
  refine va_put (D := (dC, dI)) (ci := 4) (v := .int (Int32.ofInt 0)) (ty := .int) (C := RX4) (T := TX4) (N := 7) hx hb hz zi_X4 tyX4 tyX4_ok nmX4 hown hK hP hD hS 0 rfl rfl 1 (by decide) (hz _ zw_250) (fun _ h9 => h9) rfl (by decide +kernel) rfl rfl (Nat.le_of_ble_eq_true rfl) dX4_read_23 (fun H locs hP hD hS => ?_)
  have hP : va_P (dC, dI) vwCl (wd_LawReader_read cA q0 q1 q2 q3 q4 q5 i_a1 0 i_at i_parts i_orders a4 a5 a6) H := hP
  have hD : va_D A (wd_LawReader_read cA q0 q1 q2 q3 q4 q5 i_a1 0 i_at i_parts i_orders a4 a5 a6) := hD
  refine lv_aload_n hx hb dX4_read_26 rfl (lv_at hl 0 rfl) ?_
  refine lv_iconst (v := Int32.ofInt 0) hx hb dX4_read_27 rfl ?_
  refine va_put (D := (dC, dI)) (ci := 4) (v := .int (Int32.ofInt 0)) (ty := .int) (C := RX4) (T := TX4) (N := 7) hx hb hz zi_X4 tyX4 tyX4_ok nmX4 hown hK hP hD hS 0 rfl rfl 6 (by decide) (hz _ zw_256) (fun _ h9 => h9) rfl (by decide +kernel) rfl rfl (Nat.le_of_ble_eq_true rfl) dX4_read_28 (fun H locs hP hD hS => ?_)
  have hP : va_P (dC, dI) vwCl (wd_LawReader_read cA q0 q1 q2 q3 q4 q5 i_a1 0 i_at 0 i_orders a4 a5 a6) H := hP
  have hD : va_D A (wd_LawReader_read cA q0 q1 q2 q3 q4 q5 i_a1 0 i_at 0 i_orders a4 a5 a6) := hD
  refine lv_aload_n hx hb dX4_read_31 rfl (lv_at hl 0 rfl) ?_
  refine lv_iconst (v := Int32.ofInt 0) hx hb dX4_read_32 rfl ?_
  refine va_put (D := (dC, dI)) (ci := 4) (v := .int (Int32.ofInt 0)) (ty := .int) (C := RX4) (T := TX4) (N := 7) hx hb hz zi_X4 tyX4 tyX4_ok nmX4 hown hK hP hD hS 0 rfl rfl 5 (by decide) (hz _ zw_255) (fun _ h9 => h9) rfl (by decide +kernel) rfl rfl (Nat.le_of_ble_eq_true rfl) dX4_read_33 (fun H locs hP hD hS => ?_)
  have hP : va_P (dC, dI) vwCl (wd_LawReader_read cA q0 q1 q2 q3 q4 q5 i_a1 0 0 0 i_orders a4 a5 a6) H := hP
  have hD : va_D A (wd_LawReader_read cA q0 q1 q2 q3 q4 q5 i_a1 0 0 0 i_orders a4 a5 a6) := hD
  refine lv_iconst (v := Int32.ofInt 0) hx hb dX4_read_36 rfl ?_
  refine lv_istore_n (lv' := [(3, .int (Int32.ofInt 0)), (0, .ref q0), (1, .ref q5), (2, .int (Int32.ofInt x2))]) hx hb dX4_read_37 rfl hl (by decide) rfl (fun ls hl => ?_)
  exact l_38  _ _ _ _ _ _ _ _ _ _ _ _ hf hP hD hS (lv_sub hl [1, 0] rfl)
theorem dX10_law_0 : decode cX10_law 0 = .ok (.aload_n 0, 1) := by decide +kernel
theorem dX10_law_1 : decode cX10_law 1 = .ok (.getfield 28, 3) := by decide +kernel
theorem dX10_law_4 : decode cX10_law 4 = .ok (.istore_n 1, 1) := by decide +kernel
theorem dX10_law_5 : decode cX10_law 5 = .ok (.aload_n 0, 1) := by decide +kernel
theorem dX10_law_6 : decode cX10_law 6 = .ok (.iconst 0, 1) := by decide +kernel
theorem dX10_law_7 : decode cX10_law 7 = .ok (.putfield 28, 3) := by decide +kernel
theorem dX10_law_10 : decode cX10_law 10 = .ok (.aload_n 0, 1) := by decide +kernel
theorem dX10_law_11 : decode cX10_law 11 = .ok (.getfield 10, 3) := by decide +kernel
theorem dX10_law_14 : decode cX10_law 14 = .ok (.getfield 183, 3) := by decide +kernel
theorem dX10_law_17 : decode cX10_law 17 = .ok (.bipush 6, 2) := by decide +kernel
theorem dX10_law_19 : decode cX10_law 19 = .ok (.if_icmp .lt 10, 3) := by decide +kernel
theorem dX10_law_22 : decode cX10_law 22 = .ok (.aload_n 0, 1) := by decide +kernel
theorem dX10_law_23 : decode cX10_law 23 = .ok (.bipush (-5), 2) := by decide +kernel
theorem dX10_law_25 : decode cX10_law 25 = .ok (.invokevirtual 109, 3) := by decide +kernel
theorem dX10_law_28 : decode cX10_law 28 = .ok (.ireturn, 1) := by decide +kernel
theorem dX10_law_29 : decode cX10_law 29 = .ok (.aload_n 0, 1) := by decide +kernel
theorem dX10_law_30 : decode cX10_law 30 = .ok (.aload_n 0, 1) := by decide +kernel
theorem dX10_law_31 : decode cX10_law 31 = .ok (.getfield 47, 3) := by decide +kernel
theorem dX10_law_34 : decode cX10_law 34 = .ok (.aload_n 0, 1) := by decide +kernel
theorem dX10_law_35 : decode cX10_law 35 = .ok (.getfield 24, 3) := by decide +kernel
theorem dX10_law_38 : decode cX10_law 38 = .ok (.iload_n 1, 1) := by decide +kernel
theorem dX10_law_39 : decode cX10_law 39 = .ok (.invokevirtual 186, 3) := by decide +kernel
theorem dX10_law_42 : decode cX10_law 42 = .ok (.putfield 32, 3) := by decide +kernel
theorem dX10_law_45 : decode cX10_law 45 = .ok (.aload_n 0, 1) := by decide +kernel
theorem dX10_law_46 : decode cX10_law 46 = .ok (.getfield 32, 3) := by decide +kernel
theorem dX10_law_49 : decode cX10_law 49 = .ok (.iconst (-1), 1) := by decide +kernel
theorem dX10_law_50 : decode cX10_law 50 = .ok (.if_icmp .eq 10, 3) := by decide +kernel
theorem dX10_law_53 : decode cX10_law 53 = .ok (.aload_n 0, 1) := by decide +kernel
theorem dX10_law_54 : decode cX10_law 54 = .ok (.bipush (-6), 2) := by decide +kernel
theorem dX10_law_56 : decode cX10_law 56 = .ok (.invokevirtual 109, 3) := by decide +kernel
theorem dX10_law_59 : decode cX10_law 59 = .ok (.ireturn, 1) := by decide +kernel
theorem dX10_law_60 : decode cX10_law 60 = .ok (.aload_n 0, 1) := by decide +kernel
theorem dX10_law_61 : decode cX10_law 61 = .ok (.aload_n 0, 1) := by decide +kernel
theorem dX10_law_62 : decode cX10_law 62 = .ok (.getfield 10, 3) := by decide +kernel
theorem dX10_law_65 : decode cX10_law 65 = .ok (.aload_n 0, 1) := by decide +kernel
theorem dX10_law_66 : decode cX10_law 66 = .ok (.getfield 47, 3) := by decide +kernel
theorem dX10_law_69 : decode cX10_law 69 = .ok (.invokevirtual 190, 3) := by decide +kernel
theorem dX10_law_72 : decode cX10_law 72 = .ok (.invokevirtual 119, 3) := by decide +kernel
theorem dX10_law_75 : decode cX10_law 75 = .ok (.ireturn, 1) := by decide +kernel
theorem zw_198 : (Jvm.Cond.fieldLinkNest "HillSchool" (183 : Nat) "HillSchool$Hill" "laws" "I" "HillSchool") ∈ znest := zmemH (zmj_1 95 rfl) rfl
theorem zw_482 : (Jvm.Cond.fieldLink "HillSchool" (32 : Nat) "HillSchool" "latestFault" "I") ∈ zall := zmemG (zmj_2 139 rfl) rfl
theorem zw_486 : (Jvm.Cond.fieldLink "HillSchool" (47 : Nat) "HillSchool" "reader" "LHillSchool$LawReader;") ∈ zall := zmemG (zmj_2 143 rfl) rfl
theorem zw_645 : (Jvm.Cond.code ({ cls := "HillSchool", name := "law", desc := "()I" } : Jvm.MethodName) prog_1_method_16_code (2 : Nat) (Option.some Jvm.ClassFile.FieldType.int)) ∈ zall := zmemG (zmj_3 62 rfl) rfl
theorem zw_646 : (Jvm.Cond.methodLink "HillSchool" (186 : Nat) ({ cls := "HillSchool$LawReader", name := "read", desc := "([II)I" } : Jvm.MethodName)) ∈ zall := zmemG (zmj_3 63 rfl) rfl
theorem zw_647 : (Jvm.Cond.instanceMethod ({ cls := "HillSchool$LawReader", name := "read", desc := "([II)I" } : Jvm.MethodName)) ∈ zall := zmemG (zmj_3 64 rfl) rfl
theorem zw_648 : (Jvm.Cond.selects "HillSchool$LawReader" ({ cls := "HillSchool$LawReader", name := "read", desc := "([II)I" } : Jvm.MethodName) ({ cls := "HillSchool$LawReader", name := "read", desc := "([II)I" } : Jvm.MethodName)) ∈ zall := zmemG (zmj_3 65 rfl) rfl
theorem zw_779 : (Jvm.Cond.methodLink "HillSchool" (190 : Nat) ({ cls := "HillSchool$Hill", name := "enact", desc := "(LHillSchool$LawReader;)I" } : Jvm.MethodName)) ∈ zall := zmemG (zmj_3 196 rfl) rfl
theorem zw_780 : (Jvm.Cond.instanceMethod ({ cls := "HillSchool$Hill", name := "enact", desc := "(LHillSchool$LawReader;)I" } : Jvm.MethodName)) ∈ zall := zmemG (zmj_3 197 rfl) rfl
theorem zw_781 : (Jvm.Cond.selects "HillSchool$Hill" ({ cls := "HillSchool$Hill", name := "enact", desc := "(LHillSchool$LawReader;)I" } : Jvm.MethodName) ({ cls := "HillSchool$Hill", name := "enact", desc := "(LHillSchool$LawReader;)I" } : Jvm.MethodName)) ∈ zall := zmemG (zmj_3 198 rfl) rfl
abbrev w_HS_law : List Cond := .code yX10_law cX10_law 2 (some .int) :: zall
abbrev rm_HS_law : Room := { frames := 133, cells := 0, slots := 0, locals := 3187 }
theorem hd_HS_law : yX10_law.cls = "HillSchool" ∧ yX10_law.cls ≠ "java/lang/invoke/MethodHandle" ∧ yX10_law.cls ≠ "java/lang/invoke/VarHandle" ∧ (parseMethodDescriptor yX10_law.desc).map (fun d => d.parameters.length) = some 0 := by decide +kernel
def wd_HS_law (cA : Nat → ClassId) (q0 q1 q2 q3 q4 q5 q6 q7 q8 q9 q10 q11 q12 q13 q14 q15 q16 q17 q18 q19 q20 q21 q22 q23 q24 q25 : Nat) (u0 u1 u2 u3 : Int) (i_tape : Nat → Int) (i_taped : Int) (i_latestFault : Int) (i_latestStatus : Int) (i_hill_laws : Int) (i_hill_changes : Int) (i_refusals : Nat → Int) (i_reader_ordered : Int) (i_reader_at : Int) (i_reader_parts : Int) (i_hill_orders : Nat → Int) (i_hill_ordered : Nat → Int) (i_reader_orders : Nat → Int) (i_reader_tokens : Nat → Int) (i_reader_places : Nat → Int) (i_reader_values : Nat → Int) : va_W := [(q0, .inr (10, [.ref q1, .ref q2, .ref q3, .ref q4, .int (Int32.ofInt i_taped), .int (Int32.ofInt i_latestFault), .int (Int32.ofInt u0), .ref q5, .int (Int32.ofInt i_latestStatus), .ref q6, .ref q7, .ref q8, .ref q9, .ref q10, .ref q11, .ref q12])), (q1, .inr (2, [.ref q13, .int (Int32.ofInt u1), .ref q14, .ref q15, .ref q16, .int (Int32.ofInt u2), .ref q17, .ref q18, .ref q19, .int (Int32.ofInt i_hill_laws), .ref q20, .ref q21, .int (Int32.ofInt u3), .int (Int32.ofInt i_hill_changes)])), (q4, .inl (cA 0, 400, .inl (za i_tape))), (q5, .inl (cA 0, 7, .inl (za i_refusals))), (q6, .inr (4, [.ref q22, .int (Int32.ofInt i_reader_ordered), .ref q23, .ref q24, .ref q25, .int (Int32.ofInt i_reader_at), .int (Int32.ofInt i_reader_parts)])), (q20, .inl (cA 0, 2544, .inl (za i_hill_orders))), (q21, .inl (cA 0, 6, .inl (za i_hill_ordered))), (q22, .inl (cA 0, 424, .inl (za i_reader_orders))), (q23, .inl (cA 0, 401, .inl (za i_reader_tokens))), (q24, .inl (cA 0, 401, .inl (za i_reader_places))), (q25, .inl (cA 0, 401, .inl (za i_reader_values)))]
def wf_HS_law (cA : Nat → ClassId) (q0 q1 q2 q3 q4 q5 q6 q7 q8 q9 q10 q11 q12 q13 q14 q15 q16 q17 q18 q19 q20 q21 q22 q23 q24 q25 : Nat) (u0 u1 u2 u3 : Int) (i_tape : Nat → Int) (o : Int × Int × Int × Int × Int × Int × (Nat → Int) × Int × Int × Int × (Nat → Int) × (Nat → Int) × (Nat → Int) × (Nat → Int) × (Nat → Int) × (Nat → Int)) : va_W := wd_HS_law cA q0 q1 q2 q3 q4 q5 q6 q7 q8 q9 q10 q11 q12 q13 q14 q15 q16 q17 q18 q19 q20 q21 q22 q23 q24 q25 u0 u1 u2 u3 i_tape o.2.1 o.2.2.1 o.2.2.2.1 o.2.2.2.2.1 o.2.2.2.2.2.1 o.2.2.2.2.2.2.1 o.2.2.2.2.2.2.2.1 o.2.2.2.2.2.2.2.2.1 o.2.2.2.2.2.2.2.2.2.1 o.2.2.2.2.2.2.2.2.2.2.1 o.2.2.2.2.2.2.2.2.2.2.2.1 o.2.2.2.2.2.2.2.2.2.2.2.2.1 o.2.2.2.2.2.2.2.2.2.2.2.2.2.1 o.2.2.2.2.2.2.2.2.2.2.2.2.2.2.1 o.2.2.2.2.2.2.2.2.2.2.2.2.2.2.2
def f_HS_law (i_tape : Nat → Int) (i_taped : Int) (i_latestFault : Int) (i_latestStatus : Int) (i_hill_laws : Int) (i_hill_changes : Int) (i_refusals : Nat → Int) (i_reader_ordered : Int) (i_reader_at : Int) (i_reader_parts : Int) (i_hill_orders : Nat → Int) (i_hill_ordered : Nat → Int) (i_reader_orders : Nat → Int) (i_reader_tokens : Nat → Int) (i_reader_places : Nat → Int) (i_reader_values : Nat → Int) : Option (Int × Int × Int × Int × Int × Int × (Nat → Int) × Int × Int × Int × (Nat → Int) × (Nat → Int) × (Nat → Int) × (Nat → Int) × (Nat → Int) × (Nat → Int)) :=
  if zi_w i_hill_laws < zi_w 6 then
    zd8 (f_LawReader_read i_taped i_tape i_reader_ordered i_reader_at i_reader_parts i_reader_orders i_reader_tokens i_reader_places i_reader_values) fun v1 v2 v3 v4 a5 a6 a7 a8 =>
    if zi_w v1 = zi_w (-1) then
      zd4 (f_Hill_enact v2 a5 i_hill_laws i_hill_orders i_hill_ordered) fun v9 v10 a11 a12 =>
      zd3 (f_HS_accept v9 i_latestStatus i_hill_changes) fun v13 v14 v15 =>
      some (v13, 0, v1, v14, v10, v15, i_refusals, v2, v3, v4, a11, a12, a5, a6, a7, a8)
    else
      zd3 (f_HS_refuse (-6) i_latestStatus i_refusals) fun v16 v17 a18 =>
      some (v16, 0, v1, v17, i_hill_laws, i_hill_changes, a18, v2, v3, v4, i_hill_orders, i_hill_ordered, a5, a6, a7, a8)
  else
    zd3 (f_HS_refuse (-5) i_latestStatus i_refusals) fun v19 v20 a21 =>
    some (v19, 0, i_latestFault, v20, i_hill_laws, i_hill_changes, a21, i_reader_ordered, i_reader_at, i_reader_parts, i_hill_orders, i_hill_ordered, i_reader_orders, i_reader_tokens, i_reader_places, i_reader_values)
set_option maxHeartbeats 4000000 in
set_option maxRecDepth 100000 in
theorem c_HS_law (l : Launch) (ev : zEv) (dC : Nat → ClassId) (dI : Nat → Nat → Nat) (cA : Nat → ClassId) (q0 q1 q2 q3 q4 q5 q6 q7 q8 q9 q10 q11 q12 q13 q14 q15 q16 q17 q18 q19 q20 q21 q22 q23 q24 q25 : Nat) (u0 u1 u2 u3 : Int) {i_tape : Nat → Int} {i_taped : Int} {i_latestFault : Int} {i_latestStatus : Int} {i_hill_laws : Int} {i_hill_changes : Int} {i_refusals : Nat → Int} {i_reader_ordered : Int} {i_reader_at : Int} {i_reader_parts : Int} {i_hill_orders : Nat → Int} {i_hill_ordered : Nat → Int} {i_reader_orders : Nat → Int} {i_reader_tokens : Nat → Int} {i_reader_places : Nat → Int} {i_reader_values : Nat → Int} {out : Int × Int × Int × Int × Int × Int × (Nat → Int) × Int × Int × Int × (Nat → Int) × (Nat → Int) × (Nat → Int) × (Nat → Int) × (Nat → Int) × (Nat → Int)} (hf : f_HS_law i_tape i_taped i_latestFault i_latestStatus i_hill_laws i_hill_changes i_refusals i_reader_ordered i_reader_at i_reader_parts i_hill_orders i_hill_ordered i_reader_orders i_reader_tokens i_reader_places i_reader_values = some out) : xc_I l ev (dC, dI) vwCl (tyl cA) yX10_law w_HS_law rm_HS_law [.ref q0] (wd_HS_law cA q0 q1 q2 q3 q4 q5 q6 q7 q8 q9 q10 q11 q12 q13 q14 q15 q16 q17 q18 q19 q20 q21 q22 q23 q24 q25 u0 u1 u2 u3 i_tape i_taped i_latestFault i_latestStatus i_hill_laws i_hill_changes i_refusals i_reader_ordered i_reader_at i_reader_parts i_hill_orders i_hill_ordered i_reader_orders i_reader_tokens i_reader_places i_reader_values) (wf_HS_law cA q0 q1 q2 q3 q4 q5 q6 q7 q8 q9 q10 q11 q12 q13 q14 q15 q16 q17 q18 q19 q20 q21 q22 q23 q24 q25 u0 u1 u2 u3 i_tape out) out.1 := by
  refine xv_startI (cc := cX10_law) (maxL := 2) (rt := .int) (by decide +kernel) rfl (Nat.le_of_ble_eq_true rfl) ?_
  intro p e s m args below meth c A Q H ls hx hb hml hts hown hK hA hP hD hS hl hE hret
  have hown : s.vm.findClass "HillSchool" = some m.cls := hown
  have hz : ∀ w ∈ zall, w.before args s = true := fun w h => hts w (List.mem_cons_of_mem _ h)
  have hl : lv_has ls 2 [(0, .ref q0)] := hl
  unfold f_HS_law at hf
  refine lv_aload_n hx hb dX10_law_0 rfl (lv_at hl 0 rfl) ?_
  refine va_get (D := (dC, dI)) (ci := 10) (v := .int (Int32.ofInt i_taped)) (C := RX10) (T := TX10) (N := 16) hx hb hz zi_X10 hown hK hP 0 rfl rfl 4 (by decide) (hz _ zw_481) (fun _ h9 => h9) rfl dX10_law_1 ?_
  refine lv_istore_n (lv' := [(1, .int (Int32.ofInt i_taped)), (0, .ref q0)]) hx hb dX10_law_4 rfl hl (by decide) rfl (fun ls hl => ?_)
  refine lv_aload_n hx hb dX10_law_5 rfl (lv_at hl 1 rfl) ?_
  refine lv_iconst (v := Int32.ofInt 0) hx hb dX10_law_6 rfl ?_
  refine va_put (D := (dC, dI)) (ci := 10) (v := .int (Int32.ofInt 0)) (ty := .int) (C := RX10) (T := TX10) (N := 16) hx hb hz zi_X10 tyX10 tyX10_ok nmX10 hown hK hP hD hS 0 rfl rfl 4 (by decide) (hz _ zw_481) (fun _ h9 => h9) rfl (by decide +kernel) rfl rfl (Nat.le_of_ble_eq_true rfl) dX10_law_7 (fun H locs hP hD hS => ?_)
  have hP : va_P (dC, dI) vwCl (wd_HS_law cA q0 q1 q2 q3 q4 q5 q6 q7 q8 q9 q10 q11 q12 q13 q14 q15 q16 q17 q18 q19 q20 q21 q22 q23 q24 q25 u0 u1 u2 u3 i_tape 0 i_latestFault i_latestStatus i_hill_laws i_hill_changes i_refusals i_reader_ordered i_reader_at i_reader_parts i_hill_orders i_hill_ordered i_reader_orders i_reader_tokens i_reader_places i_reader_values) H := hP
  have hD : va_D A (wd_HS_law cA q0 q1 q2 q3 q4 q5 q6 q7 q8 q9 q10 q11 q12 q13 q14 q15 q16 q17 q18 q19 q20 q21 q22 q23 q24 q25 u0 u1 u2 u3 i_tape 0 i_latestFault i_latestStatus i_hill_laws i_hill_changes i_refusals i_reader_ordered i_reader_at i_reader_parts i_hill_orders i_hill_ordered i_reader_orders i_reader_tokens i_reader_places i_reader_values) := hD
  refine lv_aload_n hx hb dX10_law_10 rfl (lv_at hl 1 rfl) ?_
  refine va_get (D := (dC, dI)) (ci := 10) (v := .ref q1) (C := RX10) (T := TX10) (N := 16) hx hb hz zi_X10 hown hK hP 0 rfl rfl 0 (by decide) (hz _ zw_477) (fun _ h9 => h9) rfl dX10_law_11 ?_
  refine va_getN (D := (dC, dI)) (ci := 2) (v := .int (Int32.ofInt i_hill_laws)) (C := RX2) (T := TX2) (N := 14) hx hb hz zi_X2 hown hK hP 1 rfl rfl 9 (by decide) (va_Nw.use rfl (hE.1.1 _ zw_198)) (fun _ h9 => h9) rfl dX10_law_14 ?_
  refine lv_bipush (v := Int32.ofInt 6) hx hb dX10_law_17 (by decide) ?_
  refine xi_icmp_lt (tgt := 29) hx hb dX10_law_19 (by decide) hf (fun hf => ?_) (fun hf => ?_)
  · refine lv_aload_n hx hb dX10_law_29 rfl (lv_at hl 1 rfl) ?_
    refine lv_aload_n hx hb dX10_law_30 rfl (lv_at hl 1 rfl) ?_
    refine va_get (D := (dC, dI)) (ci := 10) (v := .ref q6) (C := RX10) (T := TX10) (N := 16) hx hb hz zi_X10 hown hK hP 0 rfl rfl 9 (by decide) (hz _ zw_486) (fun _ h9 => h9) rfl dX10_law_31 ?_
    refine lv_aload_n hx hb dX10_law_34 rfl (lv_at hl 1 rfl) ?_
    refine va_get (D := (dC, dI)) (ci := 10) (v := .ref q4) (C := RX10) (T := TX10) (N := 16) hx hb hz zi_X10 hown hK hP 0 rfl rfl 3 (by decide) (hz _ zw_480) (fun _ h9 => h9) rfl dX10_law_35 ?_
    refine lv_iload_n hx hb dX10_law_38 rfl (lv_at hl 0 rfl) ?_
    refine xe_d8 hf (fun v1 v2 v3 v4 a5 a6 a7 a8 hg hf => ?_)
    have hC : ([4, 2, 7, 8, 9, 10] : List Nat).map (fun i => (wd_HS_law cA q0 q1 q2 q3 q4 q5 q6 q7 q8 q9 q10 q11 q12 q13 q14 q15 q16 q17 q18 q19 q20 q21 q22 q23 q24 q25 u0 u1 u2 u3 i_tape 0 i_latestFault i_latestStatus i_hill_laws i_hill_changes i_refusals i_reader_ordered i_reader_at i_reader_parts i_hill_orders i_hill_ordered i_reader_orders i_reader_tokens i_reader_places i_reader_values)[i]?) = (wd_LawReader_read cA q6 q22 q23 q24 q25 q4 i_tape i_reader_ordered i_reader_at i_reader_parts i_reader_orders i_reader_tokens i_reader_places i_reader_values).map some := rfl
    refine xv_afterI (ws' := (wd_HS_law cA q0 q1 q2 q3 q4 q5 q6 q7 q8 q9 q10 q11 q12 q13 q14 q15 q16 q17 q18 q19 q20 q21 q22 q23 q24 q25 u0 u1 u2 u3 i_tape 0 i_latestFault i_latestStatus i_hill_laws i_hill_changes i_refusals v2 v3 v4 i_hill_orders i_hill_ordered a5 a6 a7 a8)) (isC := [4, 2, 7, 8, 9, 10]) (ps := [none, none, some 1, none, some 0, none, none, some 2, some 3, some 4, some 5]) (va_runV (As := [.ref q4, .int (Int32.ofInt i_taped)]) (rest := [.ref q0]) ⟨hx, hb, hml, hown, hts⟩ (c_LawReader_read l ev dC dI cA q6 q22 q23 q24 q25 q4 hg H.size) (cwV 2 hts (zgV zw_646 zw_647 zw_648 zw_107 zw_649) rfl rfl rfl hd_LawReader_read ⟨Nat.le_of_ble_eq_true rfl, Nat.le_of_ble_eq_true rfl⟩) (xv_preV (T := TX4) (N := 7) hE hA hS hK hP hD (isC := [4, 2, 7, 8, 9, 10]) (by decide +kernel) hC (q0 := 4) (ci := 4) rfl rfl) rfl rfl hl.1 rfl (lv_room (Nat.le_of_ble_eq_true rfl)) dX10_law_39 ⟨Nat.le_refl _, Nat.le_refl _⟩) hP hD hS hA (by decide +kernel) rfl hC rfl rfl (fun H locs hP hD hS => ?_)
    refine va_put (D := (dC, dI)) (ci := 10) (v := .int (Int32.ofInt v1)) (ty := .int) (C := RX10) (T := TX10) (N := 16) hx hb hz zi_X10 tyX10 tyX10_ok nmX10 hown hK hP hD hS 0 rfl rfl 5 (by decide) (hz _ zw_482) (fun _ h9 => h9) rfl (by decide +kernel) rfl rfl (Nat.le_of_ble_eq_true rfl) dX10_law_42 (fun H locs hP hD hS => ?_)
    have hP : va_P (dC, dI) vwCl (wd_HS_law cA q0 q1 q2 q3 q4 q5 q6 q7 q8 q9 q10 q11 q12 q13 q14 q15 q16 q17 q18 q19 q20 q21 q22 q23 q24 q25 u0 u1 u2 u3 i_tape 0 v1 i_latestStatus i_hill_laws i_hill_changes i_refusals v2 v3 v4 i_hill_orders i_hill_ordered a5 a6 a7 a8) H := hP
    have hD : va_D A (wd_HS_law cA q0 q1 q2 q3 q4 q5 q6 q7 q8 q9 q10 q11 q12 q13 q14 q15 q16 q17 q18 q19 q20 q21 q22 q23 q24 q25 u0 u1 u2 u3 i_tape 0 v1 i_latestStatus i_hill_laws i_hill_changes i_refusals v2 v3 v4 i_hill_orders i_hill_ordered a5 a6 a7 a8) := hD
    refine lv_aload_n hx hb dX10_law_45 rfl (lv_at hl 1 rfl) ?_
    refine va_get (D := (dC, dI)) (ci := 10) (v := .int (Int32.ofInt v1)) (C := RX10) (T := TX10) (N := 16) hx hb hz zi_X10 hown hK hP 0 rfl rfl 5 (by decide) (hz _ zw_482) (fun _ h9 => h9) rfl dX10_law_46 ?_
    refine lv_iconst (v := Int32.ofInt (-1)) hx hb dX10_law_49 rfl ?_
    refine xi_icmp_eq (tgt := 60) hx hb dX10_law_50 (by decide) hf (fun hf => ?_) (fun hf => ?_)
    · refine lv_aload_n hx hb dX10_law_60 rfl (lv_at hl 1 rfl) ?_
      refine lv_aload_n hx hb dX10_law_61 rfl (lv_at hl 1 rfl) ?_
      refine va_get (D := (dC, dI)) (ci := 10) (v := .ref q1) (C := RX10) (T := TX10) (N := 16) hx hb hz zi_X10 hown hK hP 0 rfl rfl 0 (by decide) (hz _ zw_477) (fun _ h9 => h9) rfl dX10_law_62 ?_
      refine lv_aload_n hx hb dX10_law_65 rfl (lv_at hl 1 rfl) ?_
      refine va_get (D := (dC, dI)) (ci := 10) (v := .ref q6) (C := RX10) (T := TX10) (N := 16) hx hb hz zi_X10 hown hK hP 0 rfl rfl 9 (by decide) (hz _ zw_486) (fun _ h9 => h9) rfl dX10_law_66 ?_
      refine xe_d4 hf (fun v9 v10 a11 a12 hg hf => ?_)
      have hC : ([1, 4, 5, 6, 7] : List Nat).map (fun i => (wd_HS_law cA q0 q1 q2 q3 q4 q5 q6 q7 q8 q9 q10 q11 q12 q13 q14 q15 q16 q17 q18 q19 q20 q21 q22 q23 q24 q25 u0 u1 u2 u3 i_tape 0 v1 i_latestStatus i_hill_laws i_hill_changes i_refusals v2 v3 v4 i_hill_orders i_hill_ordered a5 a6 a7 a8)[i]?) = (wd_Hill_enact cA q1 q13 q14 q15 q16 q17 q18 q19 q20 q21 q6 q22 q23 q24 q25 u1 u2 u3 i_hill_changes v3 v4 v2 a5 i_hill_laws i_hill_orders i_hill_ordered).map some := rfl
      refine xv_afterI (ws' := (wd_HS_law cA q0 q1 q2 q3 q4 q5 q6 q7 q8 q9 q10 q11 q12 q13 q14 q15 q16 q17 q18 q19 q20 q21 q22 q23 q24 q25 u0 u1 u2 u3 i_tape 0 v1 i_latestStatus v10 i_hill_changes i_refusals v2 v3 v4 a11 a12 a5 a6 a7 a8)) (isC := [1, 4, 5, 6, 7]) (ps := [none, some 0, none, none, some 1, some 2, some 3, some 4, none, none, none]) (va_runV (As := [.ref q6]) (rest := [.ref q0]) ⟨hx, hb, hml, hown, hts⟩ (c_Hill_enact l ev dC dI cA q1 q13 q14 q15 q16 q17 q18 q19 q20 q21 q6 q22 q23 q24 q25 u1 u2 u3 i_hill_changes v3 v4 hg H.size) (cwV 1 hts (zgV zw_779 zw_780 zw_781 zw_105 zw_782) rfl rfl rfl hd_Hill_enact ⟨Nat.le_of_ble_eq_true rfl, Nat.le_of_ble_eq_true rfl⟩) (xv_preV (T := TX2) (N := 14) hE hA hS hK hP hD (isC := [1, 4, 5, 6, 7]) (by decide +kernel) hC (q0 := 1) (ci := 2) rfl rfl) rfl rfl hl.1 rfl (lv_room (Nat.le_of_ble_eq_true rfl)) dX10_law_69 ⟨Nat.le_refl _, Nat.le_refl _⟩) hP hD hS hA (by decide +kernel) rfl hC rfl rfl (fun H locs hP hD hS => ?_)
      refine xe_d3 hf (fun v13 v14 v15 hg hf => ?_)
      have hC : ([0, 1] : List Nat).map (fun i => (wd_HS_law cA q0 q1 q2 q3 q4 q5 q6 q7 q8 q9 q10 q11 q12 q13 q14 q15 q16 q17 q18 q19 q20 q21 q22 q23 q24 q25 u0 u1 u2 u3 i_tape 0 v1 i_latestStatus v10 i_hill_changes i_refusals v2 v3 v4 a11 a12 a5 a6 a7 a8)[i]?) = (wd_HS_accept cA q0 q1 q2 q3 q4 q5 q6 q7 q8 q9 q10 q11 q12 q13 q14 q15 q16 q17 q18 q19 q20 q21 0 v1 u0 u1 u2 v10 u3 i_latestStatus i_hill_changes).map some := rfl
      refine xv_afterI (ws' := (wd_HS_law cA q0 q1 q2 q3 q4 q5 q6 q7 q8 q9 q10 q11 q12 q13 q14 q15 q16 q17 q18 q19 q20 q21 q22 q23 q24 q25 u0 u1 u2 u3 i_tape 0 v1 v14 v10 v15 i_refusals v2 v3 v4 a11 a12 a5 a6 a7 a8)) (isC := [0, 1]) (ps := [some 0, some 1, none, none, none, none, none, none, none, none, none]) (va_runV (As := [.int (Int32.ofInt v9)]) (rest := []) ⟨hx, hb, hml, hown, hts⟩ (c_HS_accept l ev dC dI cA q0 q1 q2 q3 q4 q5 q6 q7 q8 q9 q10 q11 q12 q13 q14 q15 q16 q17 q18 q19 q20 q21 0 v1 u0 u1 u2 v10 u3 hg H.size) (cwV 1 hts (zgV zw_538 zw_540 zw_1 zw_104 zw_541) rfl rfl rfl hd_HS_accept ⟨Nat.le_of_ble_eq_true rfl, Nat.le_of_ble_eq_true rfl⟩) (xv_preV (T := TX10) (N := 16) hE hA hS hK hP hD (isC := [0, 1]) (by decide +kernel) hC (q0 := 0) (ci := 10) rfl rfl) rfl rfl hl.1 rfl (lv_room (Nat.le_of_ble_eq_true rfl)) dX10_law_72 ⟨Nat.le_refl _, Nat.le_refl _⟩) hP hD hS hA (by decide +kernel) rfl hC rfl rfl (fun H locs hP hD hS => ?_)
      obtain rfl := Option.some.inj hf
      exact hret _ _ _ _ rfl dX10_law_75 hP hD hS
    · refine lv_aload_n hx hb dX10_law_53 rfl (lv_at hl 1 rfl) ?_
      refine lv_bipush (v := Int32.ofInt (-6)) hx hb dX10_law_54 (by decide) ?_
      refine xe_d3 hf (fun v16 v17 a18 hg hf => ?_)
      have hC : ([0, 3] : List Nat).map (fun i => (wd_HS_law cA q0 q1 q2 q3 q4 q5 q6 q7 q8 q9 q10 q11 q12 q13 q14 q15 q16 q17 q18 q19 q20 q21 q22 q23 q24 q25 u0 u1 u2 u3 i_tape 0 v1 i_latestStatus i_hill_laws i_hill_changes i_refusals v2 v3 v4 i_hill_orders i_hill_ordered a5 a6 a7 a8)[i]?) = (wd_HS_refuse cA q0 q1 q2 q3 q4 q5 q6 q7 q8 q9 q10 q11 q12 0 v1 u0 i_latestStatus i_refusals).map some := rfl
      refine xv_afterI (ws' := (wd_HS_law cA q0 q1 q2 q3 q4 q5 q6 q7 q8 q9 q10 q11 q12 q13 q14 q15 q16 q17 q18 q19 q20 q21 q22 q23 q24 q25 u0 u1 u2 u3 i_tape 0 v1 v17 i_hill_laws i_hill_changes a18 v2 v3 v4 i_hill_orders i_hill_ordered a5 a6 a7 a8)) (isC := [0, 3]) (ps := [some 0, none, none, some 1, none, none, none, none, none, none, none]) (va_runV (As := [.int (Int32.ofInt (-6))]) (rest := []) ⟨hx, hb, hml, hown, hts⟩ (c_HS_refuse l ev dC dI cA q0 q1 q2 q3 q4 q5 q6 q7 q8 q9 q10 q11 q12 0 v1 u0 hg H.size) (cwV 1 hts (zgV zw_534 zw_536 zw_0 zw_104 zw_537) rfl rfl rfl hd_HS_refuse ⟨Nat.le_of_ble_eq_true rfl, Nat.le_of_ble_eq_true rfl⟩) (xv_preV (T := TX10) (N := 16) hE hA hS hK hP hD (isC := [0, 3]) (by decide +kernel) hC (q0 := 0) (ci := 10) rfl rfl) rfl rfl hl.1 rfl (lv_room (Nat.le_of_ble_eq_true rfl)) dX10_law_56 ⟨Nat.le_refl _, Nat.le_refl _⟩) hP hD hS hA (by decide +kernel) rfl hC rfl rfl (fun H locs hP hD hS => ?_)
      obtain rfl := Option.some.inj hf
      exact hret _ _ _ _ rfl dX10_law_59 hP hD hS
  · refine lv_aload_n hx hb dX10_law_22 rfl (lv_at hl 1 rfl) ?_
    refine lv_bipush (v := Int32.ofInt (-5)) hx hb dX10_law_23 (by decide) ?_
    refine xe_d3 hf (fun v19 v20 a21 hg hf => ?_)
    have hC : ([0, 3] : List Nat).map (fun i => (wd_HS_law cA q0 q1 q2 q3 q4 q5 q6 q7 q8 q9 q10 q11 q12 q13 q14 q15 q16 q17 q18 q19 q20 q21 q22 q23 q24 q25 u0 u1 u2 u3 i_tape 0 i_latestFault i_latestStatus i_hill_laws i_hill_changes i_refusals i_reader_ordered i_reader_at i_reader_parts i_hill_orders i_hill_ordered i_reader_orders i_reader_tokens i_reader_places i_reader_values)[i]?) = (wd_HS_refuse cA q0 q1 q2 q3 q4 q5 q6 q7 q8 q9 q10 q11 q12 0 i_latestFault u0 i_latestStatus i_refusals).map some := rfl
    refine xv_afterI (ws' := (wd_HS_law cA q0 q1 q2 q3 q4 q5 q6 q7 q8 q9 q10 q11 q12 q13 q14 q15 q16 q17 q18 q19 q20 q21 q22 q23 q24 q25 u0 u1 u2 u3 i_tape 0 i_latestFault v20 i_hill_laws i_hill_changes a21 i_reader_ordered i_reader_at i_reader_parts i_hill_orders i_hill_ordered i_reader_orders i_reader_tokens i_reader_places i_reader_values)) (isC := [0, 3]) (ps := [some 0, none, none, some 1, none, none, none, none, none, none, none]) (va_runV (As := [.int (Int32.ofInt (-5))]) (rest := []) ⟨hx, hb, hml, hown, hts⟩ (c_HS_refuse l ev dC dI cA q0 q1 q2 q3 q4 q5 q6 q7 q8 q9 q10 q11 q12 0 i_latestFault u0 hg H.size) (cwV 1 hts (zgV zw_534 zw_536 zw_0 zw_104 zw_537) rfl rfl rfl hd_HS_refuse ⟨Nat.le_of_ble_eq_true rfl, Nat.le_of_ble_eq_true rfl⟩) (xv_preV (T := TX10) (N := 16) hE hA hS hK hP hD (isC := [0, 3]) (by decide +kernel) hC (q0 := 0) (ci := 10) rfl rfl) rfl rfl hl.1 rfl (lv_room (Nat.le_of_ble_eq_true rfl)) dX10_law_25 ⟨Nat.le_refl _, Nat.le_refl _⟩) hP hD hS hA (by decide +kernel) rfl hC rfl rfl (fun H locs hP hD hS => ?_)
    obtain rfl := Option.some.inj hf
    exact hret _ _ _ _ rfl dX10_law_28 hP hD hS
theorem dX10_fault_0 : decode cX10_fault 0 = .ok (.aload_n 0, 1) := by decide +kernel
theorem dX10_fault_1 : decode cX10_fault 1 = .ok (.getfield 32, 3) := by decide +kernel
theorem dX10_fault_4 : decode cX10_fault 4 = .ok (.ireturn, 1) := by decide +kernel
theorem zw_790 : (Jvm.Cond.code ({ cls := "HillSchool", name := "fault", desc := "()I" } : Jvm.MethodName) prog_1_method_17_code (1 : Nat) (Option.some Jvm.ClassFile.FieldType.int)) ∈ zall := zmemG (zmj_3 207 rfl) rfl
abbrev w_HS_fault : List Cond := .code yX10_fault cX10_fault 1 (some .int) :: zall
abbrev rm_HS_fault : Room := { frames := 0, cells := 0, slots := 0, locals := 0 }
theorem hd_HS_fault : yX10_fault.cls = "HillSchool" ∧ yX10_fault.cls ≠ "java/lang/invoke/MethodHandle" ∧ yX10_fault.cls ≠ "java/lang/invoke/VarHandle" ∧ (parseMethodDescriptor yX10_fault.desc).map (fun d => d.parameters.length) = some 0 := by decide +kernel
def wd_HS_fault (cA : Nat → ClassId) (q0 q1 q2 q3 q4 q5 q6 q7 q8 q9 q10 q11 q12 : Nat) (u0 u1 u2 : Int) (i_latestFault : Int)  : va_W := [(q0, .inr (10, [.ref q1, .ref q2, .ref q3, .ref q4, .int (Int32.ofInt u0), .int (Int32.ofInt i_latestFault), .int (Int32.ofInt u1), .ref q5, .int (Int32.ofInt u2), .ref q6, .ref q7, .ref q8, .ref q9, .ref q10, .ref q11, .ref q12]))]
def wf_HS_fault (cA : Nat → ClassId) (q0 q1 q2 q3 q4 q5 q6 q7 q8 q9 q10 q11 q12 : Nat) (u0 u1 u2 : Int) (i_latestFault : Int) (o : Int) : va_W := wd_HS_fault cA q0 q1 q2 q3 q4 q5 q6 q7 q8 q9 q10 q11 q12 u0 u1 u2 i_latestFault
def f_HS_fault (i_latestFault : Int) : Option (Int) :=
  some i_latestFault
set_option maxHeartbeats 4000000 in
set_option maxRecDepth 100000 in
theorem c_HS_fault (l : Launch) (ev : zEv) (dC : Nat → ClassId) (dI : Nat → Nat → Nat) (cA : Nat → ClassId) (q0 q1 q2 q3 q4 q5 q6 q7 q8 q9 q10 q11 q12 : Nat) (u0 u1 u2 : Int) {i_latestFault : Int} {out : Int} (hf : f_HS_fault i_latestFault = some out) : xc_I l ev (dC, dI) vwCl (tyl cA) yX10_fault w_HS_fault rm_HS_fault [.ref q0] (wd_HS_fault cA q0 q1 q2 q3 q4 q5 q6 q7 q8 q9 q10 q11 q12 u0 u1 u2 i_latestFault) (wf_HS_fault cA q0 q1 q2 q3 q4 q5 q6 q7 q8 q9 q10 q11 q12 u0 u1 u2 i_latestFault out) out := by
  refine xv_startI (cc := cX10_fault) (maxL := 1) (rt := .int) (by decide +kernel) rfl (Nat.le_of_ble_eq_true rfl) ?_
  intro p e s m args below meth c A Q H ls hx hb hml hts hown hK hA hP hD hS hl hE hret
  have hown : s.vm.findClass "HillSchool" = some m.cls := hown
  have hz : ∀ w ∈ zall, w.before args s = true := fun w h => hts w (List.mem_cons_of_mem _ h)
  have hl : lv_has ls 1 [(0, .ref q0)] := hl
  unfold f_HS_fault at hf
  refine lv_aload_n hx hb dX10_fault_0 rfl (lv_at hl 0 rfl) ?_
  refine va_get (D := (dC, dI)) (ci := 10) (v := .int (Int32.ofInt i_latestFault)) (C := RX10) (T := TX10) (N := 16) hx hb hz zi_X10 hown hK hP 0 rfl rfl 5 (by decide) (hz _ zw_482) (fun _ h9 => h9) rfl dX10_fault_1 ?_
  obtain rfl := Option.some.inj hf
  exact hret _ _ _ _ rfl dX10_fault_4 hP hD hS
theorem dX10_force_0 : decode cX10_force 0 = .ok (.iload_n 1, 1) := by decide +kernel
theorem dX10_force_1 : decode cX10_force 1 = .ok (.iconst (-1), 1) := by decide +kernel
theorem dX10_force_2 : decode cX10_force 2 = .ok (.if_icmp .eq 25, 3) := by decide +kernel
theorem dX10_force_5 : decode cX10_force 5 = .ok (.iload_n 1, 1) := by decide +kernel
theorem dX10_force_6 : decode cX10_force 6 = .ok (.ifCond .lt 14, 3) := by decide +kernel
theorem dX10_force_9 : decode cX10_force 9 = .ok (.iload_n 1, 1) := by decide +kernel
theorem dX10_force_10 : decode cX10_force 10 = .ok (.aload_n 0, 1) := by decide +kernel
theorem dX10_force_11 : decode cX10_force 11 = .ok (.getfield 10, 3) := by decide +kernel
theorem dX10_force_14 : decode cX10_force 14 = .ok (.getfield 183, 3) := by decide +kernel
theorem dX10_force_17 : decode cX10_force 17 = .ok (.if_icmp .lt 10, 3) := by decide +kernel
theorem dX10_force_20 : decode cX10_force 20 = .ok (.aload_n 0, 1) := by decide +kernel
theorem dX10_force_21 : decode cX10_force 21 = .ok (.bipush (-2), 2) := by decide +kernel
theorem dX10_force_23 : decode cX10_force 23 = .ok (.invokevirtual 109, 3) := by decide +kernel
theorem dX10_force_26 : decode cX10_force 26 = .ok (.ireturn, 1) := by decide +kernel
theorem dX10_force_27 : decode cX10_force 27 = .ok (.aload_n 0, 1) := by decide +kernel
theorem dX10_force_28 : decode cX10_force 28 = .ok (.getfield 10, 3) := by decide +kernel
theorem dX10_force_31 : decode cX10_force 31 = .ok (.getfield 194, 3) := by decide +kernel
theorem dX10_force_34 : decode cX10_force 34 = .ok (.istore_n 2, 1) := by decide +kernel
theorem dX10_force_35 : decode cX10_force 35 = .ok (.aload_n 0, 1) := by decide +kernel
theorem dX10_force_36 : decode cX10_force 36 = .ok (.getfield 10, 3) := by decide +kernel
theorem dX10_force_39 : decode cX10_force 39 = .ok (.iload_n 1, 1) := by decide +kernel
theorem dX10_force_40 : decode cX10_force 40 = .ok (.putfield 194, 3) := by decide +kernel
theorem dX10_force_43 : decode cX10_force 43 = .ok (.aload_n 0, 1) := by decide +kernel
theorem dX10_force_44 : decode cX10_force 44 = .ok (.iload_n 2, 1) := by decide +kernel
theorem dX10_force_45 : decode cX10_force 45 = .ok (.invokevirtual 119, 3) := by decide +kernel
theorem dX10_force_48 : decode cX10_force 48 = .ok (.ireturn, 1) := by decide +kernel
theorem zw_205 : (Jvm.Cond.fieldLinkNest "HillSchool" (194 : Nat) "HillSchool$Hill" "inForce" "I" "HillSchool") ∈ znest := zmemH (zmj_1 102 rfl) rfl
theorem zw_794 : (Jvm.Cond.code ({ cls := "HillSchool", name := "force", desc := "(I)I" } : Jvm.MethodName) prog_1_method_18_code (3 : Nat) (Option.some Jvm.ClassFile.FieldType.int)) ∈ zall := zmemG (zmj_3 211 rfl) rfl
abbrev w_HS_force : List Cond := .code yX10_force cX10_force 3 (some .int) :: zall
abbrev rm_HS_force : Room := { frames := 1, cells := 0, slots := 0, locals := 21 }
theorem hd_HS_force : yX10_force.cls = "HillSchool" ∧ yX10_force.cls ≠ "java/lang/invoke/MethodHandle" ∧ yX10_force.cls ≠ "java/lang/invoke/VarHandle" ∧ (parseMethodDescriptor yX10_force.desc).map (fun d => d.parameters.length) = some 1 := by decide +kernel
def wd_HS_force (cA : Nat → ClassId) (q0 q1 q2 q3 q4 q5 q6 q7 q8 q9 q10 q11 q12 q13 q14 q15 q16 q17 q18 q19 q20 q21 : Nat) (u0 u1 u2 u3 u4 : Int) (i_hill_laws : Int) (i_latestStatus : Int) (i_hill_inForce : Int) (i_hill_changes : Int) (i_refusals : Nat → Int) : va_W := [(q0, .inr (10, [.ref q1, .ref q2, .ref q3, .ref q4, .int (Int32.ofInt u0), .int (Int32.ofInt u1), .int (Int32.ofInt u2), .ref q5, .int (Int32.ofInt i_latestStatus), .ref q6, .ref q7, .ref q8, .ref q9, .ref q10, .ref q11, .ref q12])), (q1, .inr (2, [.ref q13, .int (Int32.ofInt u3), .ref q14, .ref q15, .ref q16, .int (Int32.ofInt u4), .ref q17, .ref q18, .ref q19, .int (Int32.ofInt i_hill_laws), .ref q20, .ref q21, .int (Int32.ofInt i_hill_inForce), .int (Int32.ofInt i_hill_changes)])), (q5, .inl (cA 0, 7, .inl (za i_refusals)))]
def wf_HS_force (cA : Nat → ClassId) (q0 q1 q2 q3 q4 q5 q6 q7 q8 q9 q10 q11 q12 q13 q14 q15 q16 q17 q18 q19 q20 q21 : Nat) (u0 u1 u2 u3 u4 : Int) (i_hill_laws : Int) (o : Int × Int × Int × Int × (Nat → Int)) : va_W := wd_HS_force cA q0 q1 q2 q3 q4 q5 q6 q7 q8 q9 q10 q11 q12 q13 q14 q15 q16 q17 q18 q19 q20 q21 u0 u1 u2 u3 u4 i_hill_laws o.2.1 o.2.2.1 o.2.2.2.1 o.2.2.2.2
def f_HS_force_27 (i_hill_laws : Int) (x1 : Int) (i_latestStatus : Int) (i_hill_inForce : Int) (i_hill_changes : Int) (i_refusals : Nat → Int) : Option (Int × Int × Int × Int × (Nat → Int)) :=
  zd3 (f_HS_accept i_hill_inForce i_latestStatus i_hill_changes) fun v1 v2 v3 =>
  some (v1, v2, x1, v3, i_refusals)
def f_HS_force_20 (i_hill_laws : Int) (i_latestStatus : Int) (i_hill_inForce : Int) (i_hill_changes : Int) (i_refusals : Nat → Int) : Option (Int × Int × Int × Int × (Nat → Int)) :=
  zd3 (f_HS_refuse (-2) i_latestStatus i_refusals) fun v1 v2 a3 =>
  some (v1, v2, i_hill_inForce, i_hill_changes, a3)
def f_HS_force (x1 : Int) (i_hill_laws : Int) (i_latestStatus : Int) (i_hill_inForce : Int) (i_hill_changes : Int) (i_refusals : Nat → Int) : Option (Int × Int × Int × Int × (Nat → Int)) :=
  if zi_w x1 = zi_w (-1) then
    f_HS_force_27 i_hill_laws x1 i_latestStatus i_hill_inForce i_hill_changes i_refusals
  else
    if zi_w x1 < 0 then
      f_HS_force_20 i_hill_laws i_latestStatus i_hill_inForce i_hill_changes i_refusals
    else
      if zi_w x1 < zi_w i_hill_laws then
        f_HS_force_27 i_hill_laws x1 i_latestStatus i_hill_inForce i_hill_changes i_refusals
      else
        f_HS_force_20 i_hill_laws i_latestStatus i_hill_inForce i_hill_changes i_refusals
set_option maxHeartbeats 4000000 in
set_option maxRecDepth 100000 in
theorem c_HS_force (l : Launch) (ev : zEv) (dC : Nat → ClassId) (dI : Nat → Nat → Nat) (cA : Nat → ClassId) (q0 q1 q2 q3 q4 q5 q6 q7 q8 q9 q10 q11 q12 q13 q14 q15 q16 q17 q18 q19 q20 q21 : Nat) (u0 u1 u2 u3 u4 : Int) {x1 : Int} {i_hill_laws : Int} {i_latestStatus : Int} {i_hill_inForce : Int} {i_hill_changes : Int} {i_refusals : Nat → Int} {out : Int × Int × Int × Int × (Nat → Int)} (hf : f_HS_force x1 i_hill_laws i_latestStatus i_hill_inForce i_hill_changes i_refusals = some out) : xc_I l ev (dC, dI) vwCl (tyl cA) yX10_force w_HS_force rm_HS_force [.ref q0, .int (Int32.ofInt x1)] (wd_HS_force cA q0 q1 q2 q3 q4 q5 q6 q7 q8 q9 q10 q11 q12 q13 q14 q15 q16 q17 q18 q19 q20 q21 u0 u1 u2 u3 u4 i_hill_laws i_latestStatus i_hill_inForce i_hill_changes i_refusals) (wf_HS_force cA q0 q1 q2 q3 q4 q5 q6 q7 q8 q9 q10 q11 q12 q13 q14 q15 q16 q17 q18 q19 q20 q21 u0 u1 u2 u3 u4 i_hill_laws out) out.1 := by
  refine xv_startI (cc := cX10_force) (maxL := 3) (rt := .int) (by decide +kernel) rfl (Nat.le_of_ble_eq_true rfl) ?_
  intro p e s m args below meth c A Q H ls hx hb hml hts hown hK hA hP hD hS hl hE hret
  have hown : s.vm.findClass "HillSchool" = some m.cls := hown
  have hz : ∀ w ∈ zall, w.before args s = true := fun w h => hts w (List.mem_cons_of_mem _ h)
  have hl : lv_has ls 3 [(0, .ref q0), (1, .int (Int32.ofInt x1))] := hl
  have b_27 : ∀ (x1 : Int) (i_latestStatus : Int) (i_hill_inForce : Int) (i_hill_changes : Int) (i_refusals : Nat → Int) (H : Heap) (locs : List Loc) (ls : Array Slot), f_HS_force_27 i_hill_laws x1 i_latestStatus i_hill_inForce i_hill_changes i_refusals = some out → va_P (dC, dI) vwCl (wd_HS_force cA q0 q1 q2 q3 q4 q5 q6 q7 q8 q9 q10 q11 q12 q13 q14 q15 q16 q17 q18 q19 q20 q21 u0 u1 u2 u3 u4 i_hill_laws i_latestStatus i_hill_inForce i_hill_changes i_refusals) H → va_D A (wd_HS_force cA q0 q1 q2 q3 q4 q5 q6 q7 q8 q9 q10 q11 q12 q13 q14 q15 q16 q17 q18 q19 q20 q21 u0 u1 u2 u3 u4 i_hill_laws i_latestStatus i_hill_inForce i_hill_changes i_refusals) → va_S A s.heap H locs → lv_has ls 3 [(0, .ref q0), (1, .int (Int32.ofInt x1))] → W p l e rm_HS_force s m args below meth c H locs 0 0 Q (F0 m 27 ls []) := by
    intro x1 i_latestStatus i_hill_inForce i_hill_changes i_refusals H locs ls hf hP hD hS hl
    unfold f_HS_force_27 at hf
    refine lv_aload_n hx hb dX10_force_27 rfl (lv_at hl 0 rfl) ?_
    refine va_get (D := (dC, dI)) (ci := 10) (v := .ref q1) (C := RX10) (T := TX10) (N := 16) hx hb hz zi_X10 hown hK hP 0 rfl rfl 0 (by decide) (hz _ zw_477) (fun _ h9 => h9) rfl dX10_force_28 ?_
    refine va_getN (D := (dC, dI)) (ci := 2) (v := .int (Int32.ofInt i_hill_inForce)) (C := RX2) (T := TX2) (N := 14) hx hb hz zi_X2 hown hK hP 1 rfl rfl 12 (by decide) (va_Nw.use rfl (hE.1.1 _ zw_205)) (fun _ h9 => h9) rfl dX10_force_31 ?_
    refine lv_istore_n (lv' := [(2, .int (Int32.ofInt i_hill_inForce)), (0, .ref q0), (1, .int (Int32.ofInt x1))]) hx hb dX10_force_34 rfl hl (by decide) rfl (fun ls hl => ?_)
    refine lv_aload_n hx hb dX10_force_35 rfl (lv_at hl 1 rfl) ?_
    refine va_get (D := (dC, dI)) (ci := 10) (v := .ref q1) (C := RX10) (T := TX10) (N := 16) hx hb hz zi_X10 hown hK hP 0 rfl rfl 0 (by decide) (hz _ zw_477) (fun _ h9 => h9) rfl dX10_force_36 ?_
    refine lv_iload_n hx hb dX10_force_39 rfl (lv_at hl 2 rfl) ?_
    refine va_putN (D := (dC, dI)) (ci := 2) (v := .int (Int32.ofInt x1)) (ty := .int) (C := RX2) (T := TX2) (N := 14) hx hb hz zi_X2 tyX2 tyX2_ok nmX2 hown hK hP hD hS 1 rfl rfl 12 (by decide) (va_Nw.use rfl (hE.1.1 _ zw_205)) (fun _ h9 => h9) rfl (by decide +kernel) rfl rfl (Nat.le_of_ble_eq_true rfl) dX10_force_40 (fun H locs hP hD hS => ?_)
    have hP : va_P (dC, dI) vwCl (wd_HS_force cA q0 q1 q2 q3 q4 q5 q6 q7 q8 q9 q10 q11 q12 q13 q14 q15 q16 q17 q18 q19 q20 q21 u0 u1 u2 u3 u4 i_hill_laws i_latestStatus x1 i_hill_changes i_refusals) H := hP
    have hD : va_D A (wd_HS_force cA q0 q1 q2 q3 q4 q5 q6 q7 q8 q9 q10 q11 q12 q13 q14 q15 q16 q17 q18 q19 q20 q21 u0 u1 u2 u3 u4 i_hill_laws i_latestStatus x1 i_hill_changes i_refusals) := hD
    refine lv_aload_n hx hb dX10_force_43 rfl (lv_at hl 1 rfl) ?_
    refine lv_iload_n hx hb dX10_force_44 rfl (lv_at hl 0 rfl) ?_
    refine xe_d3 hf (fun v1 v2 v3 hg hf => ?_)
    have hC : ([0, 1] : List Nat).map (fun i => (wd_HS_force cA q0 q1 q2 q3 q4 q5 q6 q7 q8 q9 q10 q11 q12 q13 q14 q15 q16 q17 q18 q19 q20 q21 u0 u1 u2 u3 u4 i_hill_laws i_latestStatus x1 i_hill_changes i_refusals)[i]?) = (wd_HS_accept cA q0 q1 q2 q3 q4 q5 q6 q7 q8 q9 q10 q11 q12 q13 q14 q15 q16 q17 q18 q19 q20 q21 u0 u1 u2 u3 u4 i_hill_laws x1 i_latestStatus i_hill_changes).map some := rfl
    refine xv_afterI (ws' := (wd_HS_force cA q0 q1 q2 q3 q4 q5 q6 q7 q8 q9 q10 q11 q12 q13 q14 q15 q16 q17 q18 q19 q20 q21 u0 u1 u2 u3 u4 i_hill_laws v2 x1 v3 i_refusals)) (isC := [0, 1]) (ps := [some 0, some 1, none]) (va_runV (As := [.int (Int32.ofInt i_hill_inForce)]) (rest := []) ⟨hx, hb, hml, hown, hts⟩ (c_HS_accept l ev dC dI cA q0 q1 q2 q3 q4 q5 q6 q7 q8 q9 q10 q11 q12 q13 q14 q15 q16 q17 q18 q19 q20 q21 u0 u1 u2 u3 u4 i_hill_laws x1 hg H.size) (cwV 1 hts (zgV zw_538 zw_540 zw_1 zw_104 zw_541) rfl rfl rfl hd_HS_accept ⟨Nat.le_of_ble_eq_true rfl, Nat.le_of_ble_eq_true rfl⟩) (xv_preV (T := TX10) (N := 16) hE hA hS hK hP hD (isC := [0, 1]) (by decide +kernel) hC (q0 := 0) (ci := 10) rfl rfl) rfl rfl hl.1 rfl (lv_room (Nat.le_of_ble_eq_true rfl)) dX10_force_45 ⟨Nat.le_refl _, Nat.le_refl _⟩) hP hD hS hA (by decide +kernel) rfl hC rfl rfl (fun H locs hP hD hS => ?_)
    obtain rfl := Option.some.inj hf
    exact hret _ _ _ _ rfl dX10_force_48 hP hD hS
  have b_20 : ∀ (i_latestStatus : Int) (i_hill_inForce : Int) (i_hill_changes : Int) (i_refusals : Nat → Int) (H : Heap) (locs : List Loc) (ls : Array Slot), f_HS_force_20 i_hill_laws i_latestStatus i_hill_inForce i_hill_changes i_refusals = some out → va_P (dC, dI) vwCl (wd_HS_force cA q0 q1 q2 q3 q4 q5 q6 q7 q8 q9 q10 q11 q12 q13 q14 q15 q16 q17 q18 q19 q20 q21 u0 u1 u2 u3 u4 i_hill_laws i_latestStatus i_hill_inForce i_hill_changes i_refusals) H → va_D A (wd_HS_force cA q0 q1 q2 q3 q4 q5 q6 q7 q8 q9 q10 q11 q12 q13 q14 q15 q16 q17 q18 q19 q20 q21 u0 u1 u2 u3 u4 i_hill_laws i_latestStatus i_hill_inForce i_hill_changes i_refusals) → va_S A s.heap H locs → lv_has ls 3 [(0, .ref q0)] → W p l e rm_HS_force s m args below meth c H locs 0 0 Q (F0 m 20 ls []) := by
    intro i_latestStatus i_hill_inForce i_hill_changes i_refusals H locs ls hf hP hD hS hl
    unfold f_HS_force_20 at hf
    refine lv_aload_n hx hb dX10_force_20 rfl (lv_at hl 0 rfl) ?_
    refine lv_bipush (v := Int32.ofInt (-2)) hx hb dX10_force_21 (by decide) ?_
    refine xe_d3 hf (fun v1 v2 a3 hg hf => ?_)
    have hC : ([0, 2] : List Nat).map (fun i => (wd_HS_force cA q0 q1 q2 q3 q4 q5 q6 q7 q8 q9 q10 q11 q12 q13 q14 q15 q16 q17 q18 q19 q20 q21 u0 u1 u2 u3 u4 i_hill_laws i_latestStatus i_hill_inForce i_hill_changes i_refusals)[i]?) = (wd_HS_refuse cA q0 q1 q2 q3 q4 q5 q6 q7 q8 q9 q10 q11 q12 u0 u1 u2 i_latestStatus i_refusals).map some := rfl
    refine xv_afterI (ws' := (wd_HS_force cA q0 q1 q2 q3 q4 q5 q6 q7 q8 q9 q10 q11 q12 q13 q14 q15 q16 q17 q18 q19 q20 q21 u0 u1 u2 u3 u4 i_hill_laws v2 i_hill_inForce i_hill_changes a3)) (isC := [0, 2]) (ps := [some 0, none, some 1]) (va_runV (As := [.int (Int32.ofInt (-2))]) (rest := []) ⟨hx, hb, hml, hown, hts⟩ (c_HS_refuse l ev dC dI cA q0 q1 q2 q3 q4 q5 q6 q7 q8 q9 q10 q11 q12 u0 u1 u2 hg H.size) (cwV 1 hts (zgV zw_534 zw_536 zw_0 zw_104 zw_537) rfl rfl rfl hd_HS_refuse ⟨Nat.le_of_ble_eq_true rfl, Nat.le_of_ble_eq_true rfl⟩) (xv_preV (T := TX10) (N := 16) hE hA hS hK hP hD (isC := [0, 2]) (by decide +kernel) hC (q0 := 0) (ci := 10) rfl rfl) rfl rfl hl.1 rfl (lv_room (Nat.le_of_ble_eq_true rfl)) dX10_force_23 ⟨Nat.le_refl _, Nat.le_refl _⟩) hP hD hS hA (by decide +kernel) rfl hC rfl rfl (fun H locs hP hD hS => ?_)
    obtain rfl := Option.some.inj hf
    exact hret _ _ _ _ rfl dX10_force_26 hP hD hS
  unfold f_HS_force at hf
  refine lv_iload_n hx hb dX10_force_0 rfl (lv_at hl 1 rfl) ?_
  refine lv_iconst (v := Int32.ofInt (-1)) hx hb dX10_force_1 rfl ?_
  refine xi_icmp_eq (tgt := 27) hx hb dX10_force_2 (by decide) hf (fun hf => ?_) (fun hf => ?_)
  · exact b_27  _ _ _ _ _ _ _ _ hf hP hD hS (lv_sub hl [0, 1] rfl)
  · refine lv_iload_n hx hb dX10_force_5 rfl (lv_at hl 1 rfl) ?_
    refine xi_if_lt (tgt := 20) hx hb dX10_force_6 (by decide) hf (fun hf => ?_) (fun hf => ?_)
    · exact b_20  _ _ _ _ _ _ _ hf hP hD hS (lv_sub hl [0] rfl)
    · refine lv_iload_n hx hb dX10_force_9 rfl (lv_at hl 1 rfl) ?_
      refine lv_aload_n hx hb dX10_force_10 rfl (lv_at hl 0 rfl) ?_
      refine va_get (D := (dC, dI)) (ci := 10) (v := .ref q1) (C := RX10) (T := TX10) (N := 16) hx hb hz zi_X10 hown hK hP 0 rfl rfl 0 (by decide) (hz _ zw_477) (fun _ h9 => h9) rfl dX10_force_11 ?_
      refine va_getN (D := (dC, dI)) (ci := 2) (v := .int (Int32.ofInt i_hill_laws)) (C := RX2) (T := TX2) (N := 14) hx hb hz zi_X2 hown hK hP 1 rfl rfl 9 (by decide) (va_Nw.use rfl (hE.1.1 _ zw_198)) (fun _ h9 => h9) rfl dX10_force_14 ?_
      refine xi_icmp_lt (tgt := 27) hx hb dX10_force_17 (by decide) hf (fun hf => ?_) (fun hf => ?_)
      · exact b_27  _ _ _ _ _ _ _ _ hf hP hD hS (lv_sub hl [0, 1] rfl)
      · exact b_20  _ _ _ _ _ _ _ hf hP hD hS (lv_sub hl [0] rfl)
theorem dX2_isAble_0 : decode cX2_isAble 0 = .ok (.aload_n 0, 1) := by decide +kernel
theorem dX2_isAble_1 : decode cX2_isAble 1 = .ok (.iload_n 1, 1) := by decide +kernel
theorem dX2_isAble_2 : decode cX2_isAble 2 = .ok (.invokevirtual 78, 3) := by decide +kernel
theorem dX2_isAble_5 : decode cX2_isAble 5 = .ok (.ifCond .eq 26, 3) := by decide +kernel
theorem dX2_isAble_8 : decode cX2_isAble 8 = .ok (.aload_n 0, 1) := by decide +kernel
theorem dX2_isAble_9 : decode cX2_isAble 9 = .ok (.getfield 26, 3) := by decide +kernel
theorem dX2_isAble_12 : decode cX2_isAble 12 = .ok (.iload_n 1, 1) := by decide +kernel
theorem dX2_isAble_13 : decode cX2_isAble 13 = .ok (.iaload, 1) := by decide +kernel
theorem dX2_isAble_14 : decode cX2_isAble 14 = .ok (.ifCond .ne 17, 3) := by decide +kernel
theorem dX2_isAble_17 : decode cX2_isAble 17 = .ok (.aload_n 0, 1) := by decide +kernel
theorem dX2_isAble_18 : decode cX2_isAble 18 = .ok (.getfield 22, 3) := by decide +kernel
theorem dX2_isAble_21 : decode cX2_isAble 21 = .ok (.iload_n 1, 1) := by decide +kernel
theorem dX2_isAble_22 : decode cX2_isAble 22 = .ok (.iaload, 1) := by decide +kernel
theorem dX2_isAble_23 : decode cX2_isAble 23 = .ok (.iload_n 2, 1) := by decide +kernel
theorem dX2_isAble_24 : decode cX2_isAble 24 = .ok (.if_icmp .lt 7, 3) := by decide +kernel
theorem dX2_isAble_27 : decode cX2_isAble 27 = .ok (.iconst 1, 1) := by decide +kernel
theorem dX2_isAble_28 : decode cX2_isAble 28 = .ok (.goto 4, 3) := by decide +kernel
theorem dX2_isAble_31 : decode cX2_isAble 31 = .ok (.iconst 0, 1) := by decide +kernel
theorem dX2_isAble_32 : decode cX2_isAble 32 = .ok (.ireturn, 1) := by decide +kernel
theorem zw_816 : (Jvm.Cond.code ({ cls := "HillSchool$Hill", name := "isAble", desc := "(II)Z" } : Jvm.MethodName) prog_4_method_6_code (3 : Nat) (Option.some Jvm.ClassFile.FieldType.boolean)) ∈ zall := zmemG (zmj_3 233 rfl) rfl
theorem zw_817 : (Jvm.Cond.methodLink "HillSchool$Hill" (78 : Nat) ({ cls := "HillSchool$Hill", name := "hasChild", desc := "(I)Z" } : Jvm.MethodName)) ∈ zall := zmemG (zmj_3 234 rfl) rfl
abbrev w_Hill_isAble : List Cond := .code yX2_isAble cX2_isAble 3 (some .boolean) :: zall
abbrev rm_Hill_isAble : Room := { frames := 1, cells := 0, slots := 0, locals := 21 }
theorem hd_Hill_isAble : yX2_isAble.cls = "HillSchool$Hill" ∧ yX2_isAble.cls ≠ "java/lang/invoke/MethodHandle" ∧ yX2_isAble.cls ≠ "java/lang/invoke/VarHandle" ∧ (parseMethodDescriptor yX2_isAble.desc).map (fun d => d.parameters.length) = some 2 := by decide +kernel
def wd_Hill_isAble (cA : Nat → ClassId) (q0 q1 q2 q3 q4 q5 q6 q7 q8 q9 : Nat) (u0 u1 u2 u3 : Int) (i_children : Int) (i_strengths : Nat → Int) (i_expelled : Nat → Int)  : va_W := [(q0, .inr (2, [.ref q1, .int (Int32.ofInt i_children), .ref q2, .ref q3, .ref q4, .int (Int32.ofInt u0), .ref q5, .ref q6, .ref q7, .int (Int32.ofInt u1), .ref q8, .ref q9, .int (Int32.ofInt u2), .int (Int32.ofInt u3)])), (q2, .inl (cA 0, 6, .inl (za i_strengths))), (q3, .inl (cA 0, 6, .inl (za i_expelled)))]
def wf_Hill_isAble (cA : Nat → ClassId) (q0 q1 q2 q3 q4 q5 q6 q7 q8 q9 : Nat) (u0 u1 u2 u3 : Int) (i_children : Int) (i_strengths : Nat → Int) (i_expelled : Nat → Int) (o : Int) : va_W := wd_Hill_isAble cA q0 q1 q2 q3 q4 q5 q6 q7 q8 q9 u0 u1 u2 u3 i_children i_strengths i_expelled
def f_Hill_isAble (x1 : Int) (x2 : Int) (i_children : Int) (i_strengths : Nat → Int) (i_expelled : Nat → Int) : Option (Int) :=
  zd1 (f_Hill_hasChild x1 i_children) fun v1 =>
  if zi_w v1 = 0 then
    some 0
  else
    zg 6 i_expelled x1 fun v2 =>
    if zi_w v2 ≠ 0 then
      some 0
    else
      zg 6 i_strengths x1 fun v3 =>
      if zi_w v3 < zi_w x2 then
        some 0
      else
        some 1
set_option maxHeartbeats 4000000 in
set_option maxRecDepth 100000 in
theorem c_Hill_isAble (l : Launch) (ev : zEv) (dC : Nat → ClassId) (dI : Nat → Nat → Nat) (cA : Nat → ClassId) (q0 q1 q2 q3 q4 q5 q6 q7 q8 q9 : Nat) (u0 u1 u2 u3 : Int) {x1 x2 : Int} {i_children : Int} {i_strengths : Nat → Int} {i_expelled : Nat → Int} {out : Int} (hf : f_Hill_isAble x1 x2 i_children i_strengths i_expelled = some out) : xc_I l ev (dC, dI) vwCl (tyl cA) yX2_isAble w_Hill_isAble rm_Hill_isAble [.ref q0, .int (Int32.ofInt x1), .int (Int32.ofInt x2)] (wd_Hill_isAble cA q0 q1 q2 q3 q4 q5 q6 q7 q8 q9 u0 u1 u2 u3 i_children i_strengths i_expelled) (wf_Hill_isAble cA q0 q1 q2 q3 q4 q5 q6 q7 q8 q9 u0 u1 u2 u3 i_children i_strengths i_expelled out) out := by
  refine xv_startI (cc := cX2_isAble) (maxL := 3) (rt := .boolean) (by decide +kernel) rfl (Nat.le_of_ble_eq_true rfl) ?_
  intro p e s m args below meth c A Q H ls hx hb hml hts hown hK hA hP hD hS hl hE hret
  have hown : s.vm.findClass "HillSchool$Hill" = some m.cls := hown
  have hz : ∀ w ∈ zall, w.before args s = true := fun w h => hts w (List.mem_cons_of_mem _ h)
  have hl : lv_has ls 3 [(0, .ref q0), (1, .int (Int32.ofInt x1)), (2, .int (Int32.ofInt x2))] := hl
  unfold f_Hill_isAble at hf
  refine lv_aload_n hx hb dX2_isAble_0 rfl (lv_at hl 0 rfl) ?_
  refine lv_iload_n hx hb dX2_isAble_1 rfl (lv_at hl 1 rfl) ?_
  refine xe_d1 hf (fun v1 hg hf => ?_)
  have hC : ([0] : List Nat).map (fun i => (wd_Hill_isAble cA q0 q1 q2 q3 q4 q5 q6 q7 q8 q9 u0 u1 u2 u3 i_children i_strengths i_expelled)[i]?) = (wd_Hill_hasChild cA q0 q1 q2 q3 q4 q5 q6 q7 q8 q9 u0 u1 u2 u3 i_children).map some := rfl
  refine xv_afterI (ws' := (wd_Hill_isAble cA q0 q1 q2 q3 q4 q5 q6 q7 q8 q9 u0 u1 u2 u3 i_children i_strengths i_expelled)) (isC := [0]) (ps := [some 0, none, none]) (va_runV (As := [.int (Int32.ofInt x1)]) (rest := []) ⟨hx, hb, hml, hown, hts⟩ (c_Hill_hasChild l ev dC dI cA q0 q1 q2 q3 q4 q5 q6 q7 q8 q9 u0 u1 u2 u3 hg H.size) (cwV 1 hts (zgV zw_817 zw_602 zw_603 zw_105 zw_604) rfl rfl rfl hd_Hill_hasChild ⟨Nat.le_of_ble_eq_true rfl, Nat.le_of_ble_eq_true rfl⟩) (xv_preV (T := TX2) (N := 14) hE hA hS hK hP hD (isC := [0]) (by decide +kernel) hC (q0 := 0) (ci := 2) rfl rfl) rfl rfl hl.1 rfl (lv_room (Nat.le_of_ble_eq_true rfl)) dX2_isAble_2 ⟨Nat.le_refl _, Nat.le_refl _⟩) hP hD hS hA (by decide +kernel) rfl hC rfl rfl (fun H locs hP hD hS => ?_)
  refine xi_if_eq (tgt := 31) hx hb dX2_isAble_5 (by decide) hf (fun hf => ?_) (fun hf => ?_)
  · refine lv_iconst (v := Int32.ofInt 0) hx hb dX2_isAble_31 rfl ?_
    obtain rfl := Option.some.inj hf
    exact hret _ _ _ _ zz_b0 dX2_isAble_32 hP hD hS
  · refine lv_aload_n hx hb dX2_isAble_8 rfl (lv_at hl 0 rfl) ?_
    refine va_get (D := (dC, dI)) (ci := 2) (v := .ref q3) (C := RX2) (T := TX2) (N := 14) hx hb hz zi_X2 hown hK hP 0 rfl rfl 3 (by decide) (hz _ zw_180) (fun _ h9 => h9) rfl dX2_isAble_9 ?_
    refine lv_iload_n hx hb dX2_isAble_12 rfl (lv_at hl 1 rfl) ?_
    refine xi_iald hx hb hK hP 2 0 rfl rfl dX2_isAble_13 hf (fun v2 hf => ?_)
    refine xi_if_ne (tgt := 31) hx hb dX2_isAble_14 (by decide) hf (fun hf => ?_) (fun hf => ?_)
    · refine lv_iconst (v := Int32.ofInt 0) hx hb dX2_isAble_31 rfl ?_
      obtain rfl := Option.some.inj hf
      exact hret _ _ _ _ zz_b0 dX2_isAble_32 hP hD hS
    · refine lv_aload_n hx hb dX2_isAble_17 rfl (lv_at hl 0 rfl) ?_
      refine va_get (D := (dC, dI)) (ci := 2) (v := .ref q2) (C := RX2) (T := TX2) (N := 14) hx hb hz zi_X2 hown hK hP 0 rfl rfl 2 (by decide) (hz _ zw_177) (fun _ h9 => h9) rfl dX2_isAble_18 ?_
      refine lv_iload_n hx hb dX2_isAble_21 rfl (lv_at hl 1 rfl) ?_
      refine xi_iald hx hb hK hP 1 0 rfl rfl dX2_isAble_22 hf (fun v3 hf => ?_)
      refine lv_iload_n hx hb dX2_isAble_23 rfl (lv_at hl 2 rfl) ?_
      refine xi_icmp_lt (tgt := 31) hx hb dX2_isAble_24 (by decide) hf (fun hf => ?_) (fun hf => ?_)
      · refine lv_iconst (v := Int32.ofInt 0) hx hb dX2_isAble_31 rfl ?_
        obtain rfl := Option.some.inj hf
        exact hret _ _ _ _ zz_b0 dX2_isAble_32 hP hD hS
      · refine lv_iconst (v := Int32.ofInt 1) hx hb dX2_isAble_27 rfl ?_
        refine lv_goto (tgt := 32) hx hb dX2_isAble_28 (by decide) ?_
        obtain rfl := Option.some.inj hf
        exact hret _ _ _ _ zz_b1 dX2_isAble_32 hP hD hS
theorem dX3_pop_0 : decode cX3_pop 0 = .ok (.aload_n 0, 1) := by decide +kernel
theorem dX3_pop_1 : decode cX3_pop 1 = .ok (.getfield 18, 3) := by decide +kernel
theorem dX3_pop_4 : decode cX3_pop 4 = .ok (.ifCond .gt 5, 3) := by decide +kernel
theorem dX3_pop_7 : decode cX3_pop 7 = .ok (.iconst 0, 1) := by decide +kernel
theorem dX3_pop_8 : decode cX3_pop 8 = .ok (.ireturn, 1) := by decide +kernel
theorem dX3_pop_9 : decode cX3_pop 9 = .ok (.aload_n 0, 1) := by decide +kernel
theorem dX3_pop_10 : decode cX3_pop 10 = .ok (.dup, 1) := by decide +kernel
theorem dX3_pop_11 : decode cX3_pop 11 = .ok (.getfield 18, 3) := by decide +kernel
theorem dX3_pop_14 : decode cX3_pop 14 = .ok (.iconst 1, 1) := by decide +kernel
theorem dX3_pop_15 : decode cX3_pop 15 = .ok (.isub, 1) := by decide +kernel
theorem dX3_pop_16 : decode cX3_pop 16 = .ok (.putfield 18, 3) := by decide +kernel
theorem dX3_pop_19 : decode cX3_pop 19 = .ok (.aload_n 0, 1) := by decide +kernel
theorem dX3_pop_20 : decode cX3_pop 20 = .ok (.getfield 15, 3) := by decide +kernel
theorem dX3_pop_23 : decode cX3_pop 23 = .ok (.aload_n 0, 1) := by decide +kernel
theorem dX3_pop_24 : decode cX3_pop 24 = .ok (.getfield 18, 3) := by decide +kernel
theorem dX3_pop_27 : decode cX3_pop 27 = .ok (.iaload, 1) := by decide +kernel
theorem dX3_pop_28 : decode cX3_pop 28 = .ok (.ireturn, 1) := by decide +kernel
theorem zw_281 : (Jvm.Cond.fieldLink "HillSchool$Judge" (15 : Nat) "HillSchool$Judge" "pile" "[I") ∈ zall := zmemG (zmj_1 178 rfl) rfl
theorem zw_282 : (Jvm.Cond.fieldLink "HillSchool$Judge" (18 : Nat) "HillSchool$Judge" "piled" "I") ∈ zall := zmemG (zmj_1 179 rfl) rfl
theorem zw_832 : (Jvm.Cond.code ({ cls := "HillSchool$Judge", name := "pop", desc := "()I" } : Jvm.MethodName) prog_5_method_7_code (1 : Nat) (Option.some Jvm.ClassFile.FieldType.int)) ∈ zall := zmemG (zmj_4 9 rfl) rfl
abbrev w_Judge_pop : List Cond := .code yX3_pop cX3_pop 1 (some .int) :: zall
abbrev rm_Judge_pop : Room := { frames := 0, cells := 0, slots := 0, locals := 0 }
theorem hd_Judge_pop : yX3_pop.cls = "HillSchool$Judge" ∧ yX3_pop.cls ≠ "java/lang/invoke/MethodHandle" ∧ yX3_pop.cls ≠ "java/lang/invoke/VarHandle" ∧ (parseMethodDescriptor yX3_pop.desc).map (fun d => d.parameters.length) = some 0 := by decide +kernel
def wd_Judge_pop (cA : Nat → ClassId) (q0 q1 q2 q3 : Nat) (u0 u1 : Int) (i_pile : Nat → Int) (i_piled : Int) : va_W := [(q0, .inr (3, [.ref q1, .ref q2, .ref q3, .int (Int32.ofInt i_piled), .int (Int32.ofInt u0), .int (Int32.ofInt u1)])), (q3, .inl (cA 0, 32, .inl (za i_pile)))]
def wf_Judge_pop (cA : Nat → ClassId) (q0 q1 q2 q3 : Nat) (u0 u1 : Int) (i_pile : Nat → Int) (o : Int × Int) : va_W := wd_Judge_pop cA q0 q1 q2 q3 u0 u1 i_pile o.2
def f_Judge_pop (i_pile : Nat → Int) (i_piled : Int) : Option (Int × Int) :=
  if 0 < zi_w i_piled then
    zn (i_piled - 1) fun v1 =>
    zg 32 i_pile v1 fun v2 =>
    some (v2, v1)
  else
    some (0, i_piled)
set_option maxHeartbeats 4000000 in
set_option maxRecDepth 100000 in
theorem c_Judge_pop (l : Launch) (ev : zEv) (dC : Nat → ClassId) (dI : Nat → Nat → Nat) (cA : Nat → ClassId) (q0 q1 q2 q3 : Nat) (u0 u1 : Int) {i_pile : Nat → Int} {i_piled : Int} {out : Int × Int} (hf : f_Judge_pop i_pile i_piled = some out) : xc_I l ev (dC, dI) vwCl (tyl cA) yX3_pop w_Judge_pop rm_Judge_pop [.ref q0] (wd_Judge_pop cA q0 q1 q2 q3 u0 u1 i_pile i_piled) (wf_Judge_pop cA q0 q1 q2 q3 u0 u1 i_pile out) out.1 := by
  refine xv_startI (cc := cX3_pop) (maxL := 1) (rt := .int) (by decide +kernel) rfl (Nat.le_of_ble_eq_true rfl) ?_
  intro p e s m args below meth c A Q H ls hx hb hml hts hown hK hA hP hD hS hl hE hret
  have hown : s.vm.findClass "HillSchool$Judge" = some m.cls := hown
  have hz : ∀ w ∈ zall, w.before args s = true := fun w h => hts w (List.mem_cons_of_mem _ h)
  have hl : lv_has ls 1 [(0, .ref q0)] := hl
  unfold f_Judge_pop at hf
  refine lv_aload_n hx hb dX3_pop_0 rfl (lv_at hl 0 rfl) ?_
  refine va_get (D := (dC, dI)) (ci := 3) (v := .int (Int32.ofInt i_piled)) (C := RX3) (T := TX3) (N := 6) hx hb hz zi_X3 hown hK hP 0 rfl rfl 3 (by decide) (hz _ zw_282) (fun _ h9 => h9) rfl dX3_pop_1 ?_
  refine xi_if_gt (tgt := 9) hx hb dX3_pop_4 (by decide) hf (fun hf => ?_) (fun hf => ?_)
  · refine lv_aload_n hx hb dX3_pop_9 rfl (lv_at hl 0 rfl) ?_
    refine lv_dup hx hb dX3_pop_10 rfl ?_
    refine va_get (D := (dC, dI)) (ci := 3) (v := .int (Int32.ofInt i_piled)) (C := RX3) (T := TX3) (N := 6) hx hb hz zi_X3 hown hK hP 0 rfl rfl 3 (by decide) (hz _ zw_282) (fun _ h9 => h9) rfl dX3_pop_11 ?_
    refine lv_iconst (v := Int32.ofInt 1) hx hb dX3_pop_14 rfl ?_
    refine xi_isub hx hb dX3_pop_15 hf (fun v1 hf => ?_)
    refine va_put (D := (dC, dI)) (ci := 3) (v := .int (Int32.ofInt v1)) (ty := .int) (C := RX3) (T := TX3) (N := 6) hx hb hz zi_X3 tyX3 tyX3_ok nmX3 hown hK hP hD hS 0 rfl rfl 3 (by decide) (hz _ zw_282) (fun _ h9 => h9) rfl (by decide +kernel) rfl rfl (Nat.le_of_ble_eq_true rfl) dX3_pop_16 (fun H locs hP hD hS => ?_)
    have hP : va_P (dC, dI) vwCl (wd_Judge_pop cA q0 q1 q2 q3 u0 u1 i_pile v1) H := hP
    have hD : va_D A (wd_Judge_pop cA q0 q1 q2 q3 u0 u1 i_pile v1) := hD
    refine lv_aload_n hx hb dX3_pop_19 rfl (lv_at hl 0 rfl) ?_
    refine va_get (D := (dC, dI)) (ci := 3) (v := .ref q3) (C := RX3) (T := TX3) (N := 6) hx hb hz zi_X3 hown hK hP 0 rfl rfl 2 (by decide) (hz _ zw_281) (fun _ h9 => h9) rfl dX3_pop_20 ?_
    refine lv_aload_n hx hb dX3_pop_23 rfl (lv_at hl 0 rfl) ?_
    refine va_get (D := (dC, dI)) (ci := 3) (v := .int (Int32.ofInt v1)) (C := RX3) (T := TX3) (N := 6) hx hb hz zi_X3 hown hK hP 0 rfl rfl 3 (by decide) (hz _ zw_282) (fun _ h9 => h9) rfl dX3_pop_24 ?_
    refine xi_iald hx hb hK hP 1 0 rfl rfl dX3_pop_27 hf (fun v2 hf => ?_)
    obtain rfl := Option.some.inj hf
    exact hret _ _ _ _ rfl dX3_pop_28 hP hD hS
  · refine lv_iconst (v := Int32.ofInt 0) hx hb dX3_pop_7 rfl ?_
    obtain rfl := Option.some.inj hf
    exact hret _ _ _ _ rfl dX3_pop_8 hP hD hS
theorem dX3_worked_0 : decode cX3_worked 0 = .ok (.iload_n 0, 1) := by decide +kernel
theorem dX3_worked_1 : decode cX3_worked 1 = .ok (.tableswitch 103 3 9 #[79, 87, 95, 103, 43, 55, 67], 43) := by decide +kernel
theorem dX3_worked_44 : decode cX3_worked 44 = .ok (.lload_n 1, 1) := by decide +kernel
theorem dX3_worked_45 : decode cX3_worked 45 = .ok (.lload_n 3, 1) := by decide +kernel
theorem dX3_worked_46 : decode cX3_worked 46 = .ok (.lcmp, 1) := by decide +kernel
theorem dX3_worked_47 : decode cX3_worked 47 = .ok (.ifCond .ge 7, 3) := by decide +kernel
theorem dX3_worked_50 : decode cX3_worked 50 = .ok (.iconst 1, 1) := by decide +kernel
theorem dX3_worked_51 : decode cX3_worked 51 = .ok (.goto 4, 3) := by decide +kernel
theorem dX3_worked_54 : decode cX3_worked 54 = .ok (.iconst 0, 1) := by decide +kernel
theorem dX3_worked_55 : decode cX3_worked 55 = .ok (.ireturn, 1) := by decide +kernel
theorem dX3_worked_56 : decode cX3_worked 56 = .ok (.lload_n 1, 1) := by decide +kernel
theorem dX3_worked_57 : decode cX3_worked 57 = .ok (.lload_n 3, 1) := by decide +kernel
theorem dX3_worked_58 : decode cX3_worked 58 = .ok (.lcmp, 1) := by decide +kernel
theorem dX3_worked_59 : decode cX3_worked 59 = .ok (.ifCond .le 7, 3) := by decide +kernel
theorem dX3_worked_62 : decode cX3_worked 62 = .ok (.iconst 1, 1) := by decide +kernel
theorem dX3_worked_63 : decode cX3_worked 63 = .ok (.goto 4, 3) := by decide +kernel
theorem dX3_worked_66 : decode cX3_worked 66 = .ok (.iconst 0, 1) := by decide +kernel
theorem dX3_worked_67 : decode cX3_worked 67 = .ok (.ireturn, 1) := by decide +kernel
theorem dX3_worked_68 : decode cX3_worked 68 = .ok (.lload_n 1, 1) := by decide +kernel
theorem dX3_worked_69 : decode cX3_worked 69 = .ok (.lload_n 3, 1) := by decide +kernel
theorem dX3_worked_70 : decode cX3_worked 70 = .ok (.lcmp, 1) := by decide +kernel
theorem dX3_worked_71 : decode cX3_worked 71 = .ok (.ifCond .ne 7, 3) := by decide +kernel
theorem dX3_worked_74 : decode cX3_worked 74 = .ok (.iconst 1, 1) := by decide +kernel
theorem dX3_worked_75 : decode cX3_worked 75 = .ok (.goto 4, 3) := by decide +kernel
theorem dX3_worked_78 : decode cX3_worked 78 = .ok (.iconst 0, 1) := by decide +kernel
theorem dX3_worked_79 : decode cX3_worked 79 = .ok (.ireturn, 1) := by decide +kernel
theorem dX3_worked_80 : decode cX3_worked 80 = .ok (.lload_n 1, 1) := by decide +kernel
theorem dX3_worked_81 : decode cX3_worked 81 = .ok (.lload_n 3, 1) := by decide +kernel
theorem dX3_worked_82 : decode cX3_worked 82 = .ok (.ladd, 1) := by decide +kernel
theorem dX3_worked_83 : decode cX3_worked 83 = .ok (.lstore 5, 2) := by decide +kernel
theorem dX3_worked_85 : decode cX3_worked 85 = .ok (.goto 33, 3) := by decide +kernel
theorem dX3_worked_88 : decode cX3_worked 88 = .ok (.lload_n 1, 1) := by decide +kernel
theorem dX3_worked_89 : decode cX3_worked 89 = .ok (.lload_n 3, 1) := by decide +kernel
theorem dX3_worked_90 : decode cX3_worked 90 = .ok (.lsub, 1) := by decide +kernel
theorem dX3_worked_91 : decode cX3_worked 91 = .ok (.lstore 5, 2) := by decide +kernel
theorem dX3_worked_93 : decode cX3_worked 93 = .ok (.goto 25, 3) := by decide +kernel
theorem dX3_worked_96 : decode cX3_worked 96 = .ok (.lload_n 1, 1) := by decide +kernel
theorem dX3_worked_97 : decode cX3_worked 97 = .ok (.lload_n 3, 1) := by decide +kernel
theorem dX3_worked_98 : decode cX3_worked 98 = .ok (.lmul, 1) := by decide +kernel
theorem dX3_worked_99 : decode cX3_worked 99 = .ok (.lstore 5, 2) := by decide +kernel
theorem dX3_worked_101 : decode cX3_worked 101 = .ok (.goto 17, 3) := by decide +kernel
theorem dX3_worked_104 : decode cX3_worked 104 = .ok (.lload_n 3, 1) := by decide +kernel
theorem dX3_worked_105 : decode cX3_worked 105 = .ok (.lconst 0, 1) := by decide +kernel
theorem dX3_worked_106 : decode cX3_worked 106 = .ok (.lcmp, 1) := by decide +kernel
theorem dX3_worked_107 : decode cX3_worked 107 = .ok (.ifCond .ne 6, 3) := by decide +kernel
theorem dX3_worked_110 : decode cX3_worked 110 = .ok (.ldc 100, 2) := by decide +kernel
theorem dX3_worked_112 : decode cX3_worked 112 = .ok (.ireturn, 1) := by decide +kernel
theorem dX3_worked_113 : decode cX3_worked 113 = .ok (.lload_n 1, 1) := by decide +kernel
theorem dX3_worked_114 : decode cX3_worked 114 = .ok (.lload_n 3, 1) := by decide +kernel
theorem dX3_worked_115 : decode cX3_worked 115 = .ok (.ldiv, 1) := by decide +kernel
theorem dX3_worked_116 : decode cX3_worked 116 = .ok (.lstore 5, 2) := by decide +kernel
theorem dX3_worked_118 : decode cX3_worked 118 = .ok (.lload 5, 2) := by decide +kernel
theorem dX3_worked_120 : decode cX3_worked 120 = .ok (.ldc2_w 101, 3) := by decide +kernel
theorem dX3_worked_123 : decode cX3_worked 123 = .ok (.lcmp, 1) := by decide +kernel
theorem dX3_worked_124 : decode cX3_worked 124 = .ok (.ifCond .gt 12, 3) := by decide +kernel
theorem dX3_worked_127 : decode cX3_worked 127 = .ok (.lload 5, 2) := by decide +kernel
theorem dX3_worked_129 : decode cX3_worked 129 = .ok (.ldc2_w 103, 3) := by decide +kernel
theorem dX3_worked_132 : decode cX3_worked 132 = .ok (.lcmp, 1) := by decide +kernel
theorem dX3_worked_133 : decode cX3_worked 133 = .ok (.ifCond .ge 8, 3) := by decide +kernel
theorem dX3_worked_136 : decode cX3_worked 136 = .ok (.ldc 100, 2) := by decide +kernel
theorem dX3_worked_138 : decode cX3_worked 138 = .ok (.goto 6, 3) := by decide +kernel
theorem dX3_worked_141 : decode cX3_worked 141 = .ok (.lload 5, 2) := by decide +kernel
theorem dX3_worked_143 : decode cX3_worked 143 = .ok (.l2i, 1) := by decide +kernel
theorem dX3_worked_144 : decode cX3_worked 144 = .ok (.ireturn, 1) := by decide +kernel
theorem zw_837 : (Jvm.Cond.code ({ cls := "HillSchool$Judge", name := "worked", desc := "(IJJ)I" } : Jvm.MethodName) prog_5_method_5_code (7 : Nat) (Option.some Jvm.ClassFile.FieldType.int)) ∈ zall := zmemG (zmj_4 14 rfl) rfl
theorem zw_838 : (Jvm.Cond.constant "HillSchool$Judge" (100 : Nat) (-2000000000 : Int32)) ∈ zall := zmemG (zmj_4 15 rfl) rfl
theorem zw_839 : (Jvm.Cond.constantLong "HillSchool$Judge" (101 : Nat) (1000000000 : Int64)) ∈ zall := zmemG (zmj_4 16 rfl) rfl
theorem zw_840 : (Jvm.Cond.constantLong "HillSchool$Judge" (103 : Nat) (-1000000000 : Int64)) ∈ zall := zmemG (zmj_4 17 rfl) rfl
abbrev w_Judge_worked : List Cond := .code yX3_worked cX3_worked 7 (some .int) :: zall
abbrev rm_Judge_worked : Room := { frames := 0, cells := 0, slots := 0, locals := 0 }
theorem hd_Judge_worked : yX3_worked.cls = yX3_worked.cls ∧ yX3_worked.cls ≠ "java/lang/invoke/MethodHandle" ∧ yX3_worked.cls ≠ "java/lang/invoke/VarHandle" ∧ (parseMethodDescriptor yX3_worked.desc).map (fun d => d.parameters.length) = some 3 := by decide +kernel
def wd_Judge_worked (cA : Nat → ClassId)   : va_W := []
def wf_Judge_worked (cA : Nat → ClassId)  (o : Int) : va_W := wd_Judge_worked cA
def f_Judge_worked_118  (x5 : Int) : Option (Int) :=
  if zl_w 1000000000 < zl_w x5 then
    some (-2000000000)
  else
    if zl_w (-1000000000) ≤ zl_w x5 then
      some x5
    else
      some (-2000000000)
def f_Judge_worked (x0 : Int) (x1 : Int) (x3 : Int) : Option (Int) :=
  if zi_w x0 = 3 then
    zn (x1 + x3) fun v1 =>
    f_Judge_worked_118 v1
  else if zi_w x0 = 4 then
    zn (x1 - x3) fun v2 =>
    f_Judge_worked_118 v2
  else if zi_w x0 = 5 then
    zn (x1 * x3) fun v3 =>
    f_Judge_worked_118 v3
  else if zi_w x0 = 6 then
    if zl_w x3 ≠ zl_w 0 then
      if zl_w x3 = 0 then none else zn (zl_div x1 x3) fun v4 =>
      f_Judge_worked_118 v4
    else
      some (-2000000000)
  else if zi_w x0 = 7 then
    if zl_w x3 ≤ zl_w x1 then
      some 0
    else
      some 1
  else if zi_w x0 = 8 then
    if zl_w x1 ≤ zl_w x3 then
      some 0
    else
      some 1
  else if zi_w x0 = 9 then
    if zl_w x1 ≠ zl_w x3 then
      some 0
    else
      some 1
  else
    if zl_w x3 ≠ zl_w 0 then
      if zl_w x3 = 0 then none else zn (zl_div x1 x3) fun v5 =>
      f_Judge_worked_118 v5
    else
      some (-2000000000)
set_option maxHeartbeats 4000000 in
set_option maxRecDepth 100000 in
theorem c_Judge_worked (l : Launch) (ev : zEv) (dC : Nat → ClassId) (dI : Nat → Nat → Nat) (cA : Nat → ClassId) {x0 x1 x3 : Int} {out : Int} (hf : f_Judge_worked x0 x1 x3 = some out) : xc_I l ev (dC, dI) vwCl (tyl cA) yX3_worked w_Judge_worked rm_Judge_worked [.int (Int32.ofInt x0), .long (Int64.ofInt x1), .long (Int64.ofInt x3)] (wd_Judge_worked cA) (wf_Judge_worked cA out) out := by
  refine xv_startI (cc := cX3_worked) (maxL := 7) (rt := .int) (by decide +kernel) rfl (Nat.le_of_ble_eq_true rfl) ?_
  intro p e s m args below meth c A Q H ls hx hb hml hts hown hK hA hP hD hS hl hE hret
  have hown : s.vm.findClass "HillSchool$Judge" = some m.cls := hown
  have hz : ∀ w ∈ zall, w.before args s = true := fun w h => hts w (List.mem_cons_of_mem _ h)
  have hl : lv_has ls 7 [(0, .int (Int32.ofInt x0)), (1, .long (Int64.ofInt x1)), (3, .long (Int64.ofInt x3))] := hl
  have b_118 : ∀ (x5 : Int) (H : Heap) (locs : List Loc) (ls : Array Slot), f_Judge_worked_118 x5 = some out → va_P (dC, dI) vwCl (wd_Judge_worked cA) H → va_D A (wd_Judge_worked cA) → va_S A s.heap H locs → lv_has ls 7 [(5, .long (Int64.ofInt x5))] → W p l e rm_Judge_worked s m args below meth c H locs 0 0 Q (F0 m 118 ls []) := by
    intro x5 H locs ls hf hP hD hS hl
    unfold f_Judge_worked_118 at hf
    refine lv_lload hx hb dX3_worked_118 (lv_at hl 0 rfl) ?_
    refine lv_ldc2 (v := Int64.ofInt 1000000000) hx hb hown (hz _ zw_839) dX3_worked_120 ?_
    refine xl_cmp_gt (tgt := 136) hx hb dX3_worked_123 dX3_worked_124 (by decide) hf (fun hf => ?_) (fun hf => ?_)
    · refine lv_ldc (v := Int32.ofInt (-2000000000)) hx hb hown (hz _ zw_838) dX3_worked_136 ?_
      refine lv_goto (tgt := 144) hx hb dX3_worked_138 (by decide) ?_
      obtain rfl := Option.some.inj hf
      exact hret _ _ _ _ rfl dX3_worked_144 hP hD hS
    · refine lv_lload hx hb dX3_worked_127 (lv_at hl 0 rfl) ?_
      refine lv_ldc2 (v := Int64.ofInt (-1000000000)) hx hb hown (hz _ zw_840) dX3_worked_129 ?_
      refine xl_cmp_ge (tgt := 141) hx hb dX3_worked_132 dX3_worked_133 (by decide) hf (fun hf => ?_) (fun hf => ?_)
      · refine lv_lload hx hb dX3_worked_141 (lv_at hl 0 rfl) ?_
        refine xl_l2i hx hb dX3_worked_143 ?_
        obtain rfl := Option.some.inj hf
        exact hret _ _ _ _ rfl dX3_worked_144 hP hD hS
      · refine lv_ldc (v := Int32.ofInt (-2000000000)) hx hb hown (hz _ zw_838) dX3_worked_136 ?_
        refine lv_goto (tgt := 144) hx hb dX3_worked_138 (by decide) ?_
        obtain rfl := Option.some.inj hf
        exact hret _ _ _ _ rfl dX3_worked_144 hP hD hS
  unfold f_Judge_worked at hf
  refine lv_iload_n hx hb dX3_worked_0 rfl (lv_at hl 0 rfl) ?_
  refine xz_if hf (fun hc hf => ?_) (fun hn0 hf => ?_)
  · refine xi_tin (tgt := 80) hx hb dX3_worked_1 hc (by decide) (by decide) rfl (by decide) ?_
    refine lv_lload_n hx hb dX3_worked_80 rfl (lv_at hl 1 rfl) ?_
    refine lv_lload_n hx hb dX3_worked_81 rfl (lv_at hl 2 rfl) ?_
    refine xl_ladd hx hb dX3_worked_82 hf (fun v1 hf => ?_)
    refine lv_lstore (lv' := [(5, .long (Int64.ofInt v1)), (0, .int (Int32.ofInt x0)), (1, .long (Int64.ofInt x1)), (3, .long (Int64.ofInt x3))]) hx hb dX3_worked_83 hl (by decide) rfl (fun ls hl => ?_)
    refine lv_goto (tgt := 118) hx hb dX3_worked_85 (by decide) ?_
    exact b_118  _ _ _ _ hf hP hD hS (lv_sub hl [0] rfl)
  refine xz_if hf (fun hc hf => ?_) (fun hn1 hf => ?_)
  · refine xi_tin (tgt := 88) hx hb dX3_worked_1 hc (by decide) (by decide) rfl (by decide) ?_
    refine lv_lload_n hx hb dX3_worked_88 rfl (lv_at hl 1 rfl) ?_
    refine lv_lload_n hx hb dX3_worked_89 rfl (lv_at hl 2 rfl) ?_
    refine xl_lsub hx hb dX3_worked_90 hf (fun v2 hf => ?_)
    refine lv_lstore (lv' := [(5, .long (Int64.ofInt v2)), (0, .int (Int32.ofInt x0)), (1, .long (Int64.ofInt x1)), (3, .long (Int64.ofInt x3))]) hx hb dX3_worked_91 hl (by decide) rfl (fun ls hl => ?_)
    refine lv_goto (tgt := 118) hx hb dX3_worked_93 (by decide) ?_
    exact b_118  _ _ _ _ hf hP hD hS (lv_sub hl [0] rfl)
  refine xz_if hf (fun hc hf => ?_) (fun hn2 hf => ?_)
  · refine xi_tin (tgt := 96) hx hb dX3_worked_1 hc (by decide) (by decide) rfl (by decide) ?_
    refine lv_lload_n hx hb dX3_worked_96 rfl (lv_at hl 1 rfl) ?_
    refine lv_lload_n hx hb dX3_worked_97 rfl (lv_at hl 2 rfl) ?_
    refine xl_lmul hx hb dX3_worked_98 hf (fun v3 hf => ?_)
    refine lv_lstore (lv' := [(5, .long (Int64.ofInt v3)), (0, .int (Int32.ofInt x0)), (1, .long (Int64.ofInt x1)), (3, .long (Int64.ofInt x3))]) hx hb dX3_worked_99 hl (by decide) rfl (fun ls hl => ?_)
    refine lv_goto (tgt := 118) hx hb dX3_worked_101 (by decide) ?_
    exact b_118  _ _ _ _ hf hP hD hS (lv_sub hl [0] rfl)
  refine xz_if hf (fun hc hf => ?_) (fun hn3 hf => ?_)
  · refine xi_tin (tgt := 104) hx hb dX3_worked_1 hc (by decide) (by decide) rfl (by decide) ?_
    refine lv_lload_n hx hb dX3_worked_104 rfl (lv_at hl 2 rfl) ?_
    refine lv_lconst (v := Int64.ofInt 0) hx hb dX3_worked_105 (by decide) ?_
    refine xl_cmp_ne (tgt := 113) hx hb dX3_worked_106 dX3_worked_107 (by decide) hf (fun hf => ?_) (fun hf => ?_)
    · refine lv_lload_n hx hb dX3_worked_113 rfl (lv_at hl 1 rfl) ?_
      refine lv_lload_n hx hb dX3_worked_114 rfl (lv_at hl 2 rfl) ?_
      refine xl_ldiv hx hb dX3_worked_115 hf (fun v4 hf => ?_)
      refine lv_lstore (lv' := [(5, .long (Int64.ofInt v4)), (0, .int (Int32.ofInt x0)), (1, .long (Int64.ofInt x1)), (3, .long (Int64.ofInt x3))]) hx hb dX3_worked_116 hl (by decide) rfl (fun ls hl => ?_)
      exact b_118  _ _ _ _ hf hP hD hS (lv_sub hl [0] rfl)
    · refine lv_ldc (v := Int32.ofInt (-2000000000)) hx hb hown (hz _ zw_838) dX3_worked_110 ?_
      obtain rfl := Option.some.inj hf
      exact hret _ _ _ _ rfl dX3_worked_112 hP hD hS
  refine xz_if hf (fun hc hf => ?_) (fun hn4 hf => ?_)
  · refine xi_tin (tgt := 44) hx hb dX3_worked_1 hc (by decide) (by decide) rfl (by decide) ?_
    refine lv_lload_n hx hb dX3_worked_44 rfl (lv_at hl 1 rfl) ?_
    refine lv_lload_n hx hb dX3_worked_45 rfl (lv_at hl 2 rfl) ?_
    refine xl_cmp_ge (tgt := 54) hx hb dX3_worked_46 dX3_worked_47 (by decide) hf (fun hf => ?_) (fun hf => ?_)
    · refine lv_iconst (v := Int32.ofInt 0) hx hb dX3_worked_54 rfl ?_
      obtain rfl := Option.some.inj hf
      exact hret _ _ _ _ rfl dX3_worked_55 hP hD hS
    · refine lv_iconst (v := Int32.ofInt 1) hx hb dX3_worked_50 rfl ?_
      refine lv_goto (tgt := 55) hx hb dX3_worked_51 (by decide) ?_
      obtain rfl := Option.some.inj hf
      exact hret _ _ _ _ rfl dX3_worked_55 hP hD hS
  refine xz_if hf (fun hc hf => ?_) (fun hn5 hf => ?_)
  · refine xi_tin (tgt := 56) hx hb dX3_worked_1 hc (by decide) (by decide) rfl (by decide) ?_
    refine lv_lload_n hx hb dX3_worked_56 rfl (lv_at hl 1 rfl) ?_
    refine lv_lload_n hx hb dX3_worked_57 rfl (lv_at hl 2 rfl) ?_
    refine xl_cmp_le (tgt := 66) hx hb dX3_worked_58 dX3_worked_59 (by decide) hf (fun hf => ?_) (fun hf => ?_)
    · refine lv_iconst (v := Int32.ofInt 0) hx hb dX3_worked_66 rfl ?_
      obtain rfl := Option.some.inj hf
      exact hret _ _ _ _ rfl dX3_worked_67 hP hD hS
    · refine lv_iconst (v := Int32.ofInt 1) hx hb dX3_worked_62 rfl ?_
      refine lv_goto (tgt := 67) hx hb dX3_worked_63 (by decide) ?_
      obtain rfl := Option.some.inj hf
      exact hret _ _ _ _ rfl dX3_worked_67 hP hD hS
  refine xz_if hf (fun hc hf => ?_) (fun hn6 hf => ?_)
  · refine xi_tin (tgt := 68) hx hb dX3_worked_1 hc (by decide) (by decide) rfl (by decide) ?_
    refine lv_lload_n hx hb dX3_worked_68 rfl (lv_at hl 1 rfl) ?_
    refine lv_lload_n hx hb dX3_worked_69 rfl (lv_at hl 2 rfl) ?_
    refine xl_cmp_ne (tgt := 78) hx hb dX3_worked_70 dX3_worked_71 (by decide) hf (fun hf => ?_) (fun hf => ?_)
    · refine lv_iconst (v := Int32.ofInt 0) hx hb dX3_worked_78 rfl ?_
      obtain rfl := Option.some.inj hf
      exact hret _ _ _ _ rfl dX3_worked_79 hP hD hS
    · refine lv_iconst (v := Int32.ofInt 1) hx hb dX3_worked_74 rfl ?_
      refine lv_goto (tgt := 79) hx hb dX3_worked_75 (by decide) ?_
      obtain rfl := Option.some.inj hf
      exact hret _ _ _ _ rfl dX3_worked_79 hP hD hS
  refine xi_tout (tgt := 104) hx hb dX3_worked_1 (by omega) (by decide) ?_
  refine lv_lload_n hx hb dX3_worked_104 rfl (lv_at hl 2 rfl) ?_
  refine lv_lconst (v := Int64.ofInt 0) hx hb dX3_worked_105 (by decide) ?_
  refine xl_cmp_ne (tgt := 113) hx hb dX3_worked_106 dX3_worked_107 (by decide) hf (fun hf => ?_) (fun hf => ?_)
  · refine lv_lload_n hx hb dX3_worked_113 rfl (lv_at hl 1 rfl) ?_
    refine lv_lload_n hx hb dX3_worked_114 rfl (lv_at hl 2 rfl) ?_
    refine xl_ldiv hx hb dX3_worked_115 hf (fun v5 hf => ?_)
    refine lv_lstore (lv' := [(5, .long (Int64.ofInt v5)), (0, .int (Int32.ofInt x0)), (1, .long (Int64.ofInt x1)), (3, .long (Int64.ofInt x3))]) hx hb dX3_worked_116 hl (by decide) rfl (fun ls hl => ?_)
    exact b_118  _ _ _ _ hf hP hD hS (lv_sub hl [0] rfl)
  · refine lv_ldc (v := Int32.ofInt (-2000000000)) hx hb hown (hz _ zw_838) dX3_worked_110 ?_
    obtain rfl := Option.some.inj hf
    exact hret _ _ _ _ rfl dX3_worked_112 hP hD hS
theorem dX3_push_0 : decode cX3_push 0 = .ok (.aload_n 0, 1) := by decide +kernel
theorem dX3_push_1 : decode cX3_push 1 = .ok (.getfield 18, 3) := by decide +kernel
theorem dX3_push_4 : decode cX3_push 4 = .ok (.bipush 32, 2) := by decide +kernel
theorem dX3_push_6 : decode cX3_push 6 = .ok (.if_icmp .ge 23, 3) := by decide +kernel
theorem dX3_push_9 : decode cX3_push 9 = .ok (.aload_n 0, 1) := by decide +kernel
theorem dX3_push_10 : decode cX3_push 10 = .ok (.getfield 15, 3) := by decide +kernel
theorem dX3_push_13 : decode cX3_push 13 = .ok (.aload_n 0, 1) := by decide +kernel
theorem dX3_push_14 : decode cX3_push 14 = .ok (.getfield 18, 3) := by decide +kernel
theorem dX3_push_17 : decode cX3_push 17 = .ok (.iload_n 1, 1) := by decide +kernel
theorem dX3_push_18 : decode cX3_push 18 = .ok (.iastore, 1) := by decide +kernel
theorem dX3_push_19 : decode cX3_push 19 = .ok (.aload_n 0, 1) := by decide +kernel
theorem dX3_push_20 : decode cX3_push 20 = .ok (.dup, 1) := by decide +kernel
theorem dX3_push_21 : decode cX3_push 21 = .ok (.getfield 18, 3) := by decide +kernel
theorem dX3_push_24 : decode cX3_push 24 = .ok (.iconst 1, 1) := by decide +kernel
theorem dX3_push_25 : decode cX3_push 25 = .ok (.iadd, 1) := by decide +kernel
theorem dX3_push_26 : decode cX3_push 26 = .ok (.putfield 18, 3) := by decide +kernel
theorem dX3_push_29 : decode cX3_push 29 = .ok (.return_, 1) := by decide +kernel
theorem zw_828 : (Jvm.Cond.code ({ cls := "HillSchool$Judge", name := "push", desc := "(I)V" } : Jvm.MethodName) prog_5_method_6_code (2 : Nat) (Option.none : Option Jvm.ClassFile.FieldType)) ∈ zall := zmemG (zmj_4 5 rfl) rfl
abbrev w_Judge_push : List Cond := .code yX3_push cX3_push 2 none :: zall
abbrev rm_Judge_push : Room := { frames := 0, cells := 0, slots := 0, locals := 0 }
theorem hd_Judge_push : yX3_push.cls = "HillSchool$Judge" ∧ yX3_push.cls ≠ "java/lang/invoke/MethodHandle" ∧ yX3_push.cls ≠ "java/lang/invoke/VarHandle" ∧ (parseMethodDescriptor yX3_push.desc).map (fun d => d.parameters.length) = some 1 := by decide +kernel
def wd_Judge_push (cA : Nat → ClassId) (q0 q1 q2 q3 : Nat) (u0 u1 : Int)  (i_piled : Int) (i_pile : Nat → Int) : va_W := [(q0, .inr (3, [.ref q1, .ref q2, .ref q3, .int (Int32.ofInt i_piled), .int (Int32.ofInt u0), .int (Int32.ofInt u1)])), (q3, .inl (cA 0, 32, .inl (za i_pile)))]
def wf_Judge_push (cA : Nat → ClassId) (q0 q1 q2 q3 : Nat) (u0 u1 : Int)  (o : Int × (Nat → Int)) : va_W := wd_Judge_push cA q0 q1 q2 q3 u0 u1 o.1 o.2
def f_Judge_push (x1 : Int) (i_piled : Int) (i_pile : Nat → Int) : Option (Int × (Nat → Int)) :=
  if zi_w 32 ≤ zi_w i_piled then
    some (i_piled, i_pile)
  else
    zs 32 i_pile i_piled x1 fun a1 =>
    zn (i_piled + 1) fun v2 =>
    some (v2, a1)
set_option maxHeartbeats 4000000 in
set_option maxRecDepth 100000 in
theorem c_Judge_push (l : Launch) (ev : zEv) (dC : Nat → ClassId) (dI : Nat → Nat → Nat) (cA : Nat → ClassId) (q0 q1 q2 q3 : Nat) (u0 u1 : Int) {x1 : Int} {i_piled : Int} {i_pile : Nat → Int} {out : Int × (Nat → Int)} (hf : f_Judge_push x1 i_piled i_pile = some out) : xc_V l ev (dC, dI) vwCl (tyl cA) yX3_push w_Judge_push rm_Judge_push [.ref q0, .int (Int32.ofInt x1)] (wd_Judge_push cA q0 q1 q2 q3 u0 u1 i_piled i_pile) (wf_Judge_push cA q0 q1 q2 q3 u0 u1 out) := by
  refine xv_startV (cc := cX3_push) (maxL := 2) (by decide +kernel) rfl (Nat.le_of_ble_eq_true rfl) ?_
  intro p e s m args below meth c A Q H ls hx hb hml hts hown hK hA hP hD hS hl hE hret
  have hown : s.vm.findClass "HillSchool$Judge" = some m.cls := hown
  have hz : ∀ w ∈ zall, w.before args s = true := fun w h => hts w (List.mem_cons_of_mem _ h)
  have hl : lv_has ls 2 [(0, .ref q0), (1, .int (Int32.ofInt x1))] := hl
  unfold f_Judge_push at hf
  refine lv_aload_n hx hb dX3_push_0 rfl (lv_at hl 0 rfl) ?_
  refine va_get (D := (dC, dI)) (ci := 3) (v := .int (Int32.ofInt i_piled)) (C := RX3) (T := TX3) (N := 6) hx hb hz zi_X3 hown hK hP 0 rfl rfl 3 (by decide) (hz _ zw_282) (fun _ h9 => h9) rfl dX3_push_1 ?_
  refine lv_bipush (v := Int32.ofInt 32) hx hb dX3_push_4 (by decide) ?_
  refine xi_icmp_ge (tgt := 29) hx hb dX3_push_6 (by decide) hf (fun hf => ?_) (fun hf => ?_)
  · obtain rfl := Option.some.inj hf
    exact hret _ _ _ _ dX3_push_29 hP hD hS
  · refine lv_aload_n hx hb dX3_push_9 rfl (lv_at hl 0 rfl) ?_
    refine va_get (D := (dC, dI)) (ci := 3) (v := .ref q3) (C := RX3) (T := TX3) (N := 6) hx hb hz zi_X3 hown hK hP 0 rfl rfl 2 (by decide) (hz _ zw_281) (fun _ h9 => h9) rfl dX3_push_10 ?_
    refine lv_aload_n hx hb dX3_push_13 rfl (lv_at hl 0 rfl) ?_
    refine va_get (D := (dC, dI)) (ci := 3) (v := .int (Int32.ofInt i_piled)) (C := RX3) (T := TX3) (N := 6) hx hb hz zi_X3 hown hK hP 0 rfl rfl 3 (by decide) (hz _ zw_282) (fun _ h9 => h9) rfl dX3_push_14 ?_
    refine lv_iload_n hx hb dX3_push_17 rfl (lv_at hl 1 rfl) ?_
    refine xi_iast hx hb hK hP hD hS 1 0 rfl rfl dX3_push_18 hf (fun a1 H locs hP hD hS hf => ?_)
    have hP : va_P (dC, dI) vwCl (wd_Judge_push cA q0 q1 q2 q3 u0 u1 i_piled a1) H := hP
    have hD : va_D A (wd_Judge_push cA q0 q1 q2 q3 u0 u1 i_piled a1) := hD
    refine lv_aload_n hx hb dX3_push_19 rfl (lv_at hl 0 rfl) ?_
    refine lv_dup hx hb dX3_push_20 rfl ?_
    refine va_get (D := (dC, dI)) (ci := 3) (v := .int (Int32.ofInt i_piled)) (C := RX3) (T := TX3) (N := 6) hx hb hz zi_X3 hown hK hP 0 rfl rfl 3 (by decide) (hz _ zw_282) (fun _ h9 => h9) rfl dX3_push_21 ?_
    refine lv_iconst (v := Int32.ofInt 1) hx hb dX3_push_24 rfl ?_
    refine xi_iadd hx hb dX3_push_25 hf (fun v2 hf => ?_)
    refine va_put (D := (dC, dI)) (ci := 3) (v := .int (Int32.ofInt v2)) (ty := .int) (C := RX3) (T := TX3) (N := 6) hx hb hz zi_X3 tyX3 tyX3_ok nmX3 hown hK hP hD hS 0 rfl rfl 3 (by decide) (hz _ zw_282) (fun _ h9 => h9) rfl (by decide +kernel) rfl rfl (Nat.le_of_ble_eq_true rfl) dX3_push_26 (fun H locs hP hD hS => ?_)
    have hP : va_P (dC, dI) vwCl (wd_Judge_push cA q0 q1 q2 q3 u0 u1 v2 a1) H := hP
    have hD : va_D A (wd_Judge_push cA q0 q1 q2 q3 u0 u1 v2 a1) := hD
    obtain rfl := Option.some.inj hf
    exact hret _ _ _ _ dX3_push_29 hP hD hS
theorem dX3_hear_0 : decode cX3_hear 0 = .ok (.iconst 0, 1) := by decide +kernel
theorem dX3_hear_1 : decode cX3_hear 1 = .ok (.istore_n 3, 1) := by decide +kernel
theorem dX3_hear_2 : decode cX3_hear 2 = .ok (.iconst 0, 1) := by decide +kernel
theorem dX3_hear_3 : decode cX3_hear 3 = .ok (.istore 4, 2) := by decide +kernel
theorem dX3_hear_5 : decode cX3_hear 5 = .ok (.iconst 0, 1) := by decide +kernel
theorem dX3_hear_6 : decode cX3_hear 6 = .ok (.istore 5, 2) := by decide +kernel
theorem dX3_hear_8 : decode cX3_hear 8 = .ok (.iload 5, 2) := by decide +kernel
theorem dX3_hear_10 : decode cX3_hear 10 = .ok (.iload_n 2, 1) := by decide +kernel
theorem dX3_hear_11 : decode cX3_hear 11 = .ok (.if_icmp .ge 333, 3) := by decide +kernel
theorem dX3_hear_14 : decode cX3_hear 14 = .ok (.iload 5, 2) := by decide +kernel
theorem dX3_hear_16 : decode cX3_hear 16 = .ok (.iload_n 3, 1) := by decide +kernel
theorem dX3_hear_17 : decode cX3_hear 17 = .ok (.if_icmp .ge 6, 3) := by decide +kernel
theorem dX3_hear_20 : decode cX3_hear 20 = .ok (.goto 318, 3) := by decide +kernel
theorem dX3_hear_23 : decode cX3_hear 23 = .ok (.aload_n 0, 1) := by decide +kernel
theorem dX3_hear_24 : decode cX3_hear 24 = .ok (.getfield 29, 3) := by decide +kernel
theorem dX3_hear_27 : decode cX3_hear 27 = .ok (.getfield 78, 3) := by decide +kernel
theorem dX3_hear_30 : decode cX3_hear 30 = .ok (.iload_n 1, 1) := by decide +kernel
theorem dX3_hear_31 : decode cX3_hear 31 = .ok (.iload 5, 2) := by decide +kernel
theorem dX3_hear_33 : decode cX3_hear 33 = .ok (.iadd, 1) := by decide +kernel
theorem dX3_hear_34 : decode cX3_hear 34 = .ok (.iaload, 1) := by decide +kernel
theorem dX3_hear_35 : decode cX3_hear 35 = .ok (.bipush 15, 2) := by decide +kernel
theorem dX3_hear_37 : decode cX3_hear 37 = .ok (.iand, 1) := by decide +kernel
theorem dX3_hear_38 : decode cX3_hear 38 = .ok (.istore 6, 2) := by decide +kernel
theorem dX3_hear_40 : decode cX3_hear 40 = .ok (.aload_n 0, 1) := by decide +kernel
theorem dX3_hear_41 : decode cX3_hear 41 = .ok (.getfield 29, 3) := by decide +kernel
theorem dX3_hear_44 : decode cX3_hear 44 = .ok (.getfield 78, 3) := by decide +kernel
theorem dX3_hear_47 : decode cX3_hear 47 = .ok (.iload_n 1, 1) := by decide +kernel
theorem dX3_hear_48 : decode cX3_hear 48 = .ok (.iload 5, 2) := by decide +kernel
theorem dX3_hear_50 : decode cX3_hear 50 = .ok (.iadd, 1) := by decide +kernel
theorem dX3_hear_51 : decode cX3_hear 51 = .ok (.iaload, 1) := by decide +kernel
theorem dX3_hear_52 : decode cX3_hear 52 = .ok (.iconst 4, 1) := by decide +kernel
theorem dX3_hear_53 : decode cX3_hear 53 = .ok (.ishr, 1) := by decide +kernel
theorem dX3_hear_54 : decode cX3_hear 54 = .ok (.istore 7, 2) := by decide +kernel
theorem dX3_hear_56 : decode cX3_hear 56 = .ok (.iload 6, 2) := by decide +kernel
theorem dX3_hear_58 : decode cX3_hear 58 = .ok (.tableswitch 239 0 14 #[74, 86, 95, 239, 239, 239, 239, 239, 239, 239, 125, 138, 138, 173, 212], 74) := by decide +kernel
theorem dX3_hear_132 : decode cX3_hear 132 = .ok (.aload_n 0, 1) := by decide +kernel
theorem dX3_hear_133 : decode cX3_hear 133 = .ok (.iconst 0, 1) := by decide +kernel
theorem dX3_hear_134 : decode cX3_hear 134 = .ok (.putfield 18, 3) := by decide +kernel
theorem dX3_hear_137 : decode cX3_hear 137 = .ok (.iload 7, 2) := by decide +kernel
theorem dX3_hear_139 : decode cX3_hear 139 = .ok (.istore 4, 2) := by decide +kernel
theorem dX3_hear_141 : decode cX3_hear 141 = .ok (.goto 197, 3) := by decide +kernel
theorem dX3_hear_144 : decode cX3_hear 144 = .ok (.aload_n 0, 1) := by decide +kernel
theorem dX3_hear_145 : decode cX3_hear 145 = .ok (.iload 7, 2) := by decide +kernel
theorem dX3_hear_147 : decode cX3_hear 147 = .ok (.invokevirtual 81, 3) := by decide +kernel
theorem dX3_hear_150 : decode cX3_hear 150 = .ok (.goto 188, 3) := by decide +kernel
theorem dX3_hear_153 : decode cX3_hear 153 = .ok (.aload_n 0, 1) := by decide +kernel
theorem dX3_hear_154 : decode cX3_hear 154 = .ok (.iload 7, 2) := by decide +kernel
theorem dX3_hear_156 : decode cX3_hear 156 = .ok (.ifCond .lt 20, 3) := by decide +kernel
theorem dX3_hear_159 : decode cX3_hear 159 = .ok (.iload 7, 2) := by decide +kernel
theorem dX3_hear_161 : decode cX3_hear 161 = .ok (.bipush 8, 2) := by decide +kernel
theorem dX3_hear_163 : decode cX3_hear 163 = .ok (.if_icmp .ge 13, 3) := by decide +kernel
theorem dX3_hear_166 : decode cX3_hear 166 = .ok (.aload_n 0, 1) := by decide +kernel
theorem dX3_hear_167 : decode cX3_hear 167 = .ok (.getfield 11, 3) := by decide +kernel
theorem dX3_hear_170 : decode cX3_hear 170 = .ok (.iload 7, 2) := by decide +kernel
theorem dX3_hear_172 : decode cX3_hear 172 = .ok (.iaload, 1) := by decide +kernel
theorem dX3_hear_173 : decode cX3_hear 173 = .ok (.goto 4, 3) := by decide +kernel
theorem dX3_hear_176 : decode cX3_hear 176 = .ok (.iconst 0, 1) := by decide +kernel
theorem dX3_hear_177 : decode cX3_hear 177 = .ok (.invokevirtual 81, 3) := by decide +kernel
theorem dX3_hear_180 : decode cX3_hear 180 = .ok (.goto 158, 3) := by decide +kernel
theorem dX3_hear_183 : decode cX3_hear 183 = .ok (.aload_n 0, 1) := by decide +kernel
theorem dX3_hear_184 : decode cX3_hear 184 = .ok (.iconst 1, 1) := by decide +kernel
theorem dX3_hear_185 : decode cX3_hear 185 = .ok (.aload_n 0, 1) := by decide +kernel
theorem dX3_hear_186 : decode cX3_hear 186 = .ok (.invokevirtual 85, 3) := by decide +kernel
theorem dX3_hear_189 : decode cX3_hear 189 = .ok (.isub, 1) := by decide +kernel
theorem dX3_hear_190 : decode cX3_hear 190 = .ok (.invokevirtual 81, 3) := by decide +kernel
theorem dX3_hear_193 : decode cX3_hear 193 = .ok (.goto 145, 3) := by decide +kernel
theorem dX3_hear_196 : decode cX3_hear 196 = .ok (.aload_n 0, 1) := by decide +kernel
theorem dX3_hear_197 : decode cX3_hear 197 = .ok (.invokevirtual 85, 3) := by decide +kernel
theorem dX3_hear_200 : decode cX3_hear 200 = .ok (.istore 8, 2) := by decide +kernel
theorem dX3_hear_202 : decode cX3_hear 202 = .ok (.iload 8, 2) := by decide +kernel
theorem dX3_hear_204 : decode cX3_hear 204 = .ok (.iload 6, 2) := by decide +kernel
theorem dX3_hear_206 : decode cX3_hear 206 = .ok (.bipush 12, 2) := by decide +kernel
theorem dX3_hear_208 : decode cX3_hear 208 = .ok (.if_icmp .ne 7, 3) := by decide +kernel
theorem dX3_hear_211 : decode cX3_hear 211 = .ok (.iconst 1, 1) := by decide +kernel
theorem dX3_hear_212 : decode cX3_hear 212 = .ok (.goto 4, 3) := by decide +kernel
theorem dX3_hear_215 : decode cX3_hear 215 = .ok (.iconst 0, 1) := by decide +kernel
theorem dX3_hear_216 : decode cX3_hear 216 = .ok (.if_icmp .ne 122, 3) := by decide +kernel
theorem dX3_hear_219 : decode cX3_hear 219 = .ok (.aload_n 0, 1) := by decide +kernel
theorem dX3_hear_220 : decode cX3_hear 220 = .ok (.iload 8, 2) := by decide +kernel
theorem dX3_hear_222 : decode cX3_hear 222 = .ok (.invokevirtual 81, 3) := by decide +kernel
theorem dX3_hear_225 : decode cX3_hear 225 = .ok (.iload 7, 2) := by decide +kernel
theorem dX3_hear_227 : decode cX3_hear 227 = .ok (.istore_n 3, 1) := by decide +kernel
theorem dX3_hear_228 : decode cX3_hear 228 = .ok (.goto 110, 3) := by decide +kernel
theorem dX3_hear_231 : decode cX3_hear 231 = .ok (.aload_n 0, 1) := by decide +kernel
theorem dX3_hear_232 : decode cX3_hear 232 = .ok (.invokevirtual 85, 3) := by decide +kernel
theorem dX3_hear_235 : decode cX3_hear 235 = .ok (.istore 8, 2) := by decide +kernel
theorem dX3_hear_237 : decode cX3_hear 237 = .ok (.aload_n 0, 1) := by decide +kernel
theorem dX3_hear_238 : decode cX3_hear 238 = .ok (.iload 8, 2) := by decide +kernel
theorem dX3_hear_240 : decode cX3_hear 240 = .ok (.iconst 1, 1) := by decide +kernel
theorem dX3_hear_241 : decode cX3_hear 241 = .ok (.if_icmp .ne 19, 3) := by decide +kernel
theorem dX3_hear_244 : decode cX3_hear 244 = .ok (.iconst 0, 1) := by decide +kernel
theorem dX3_hear_245 : decode cX3_hear 245 = .ok (.bipush 99, 2) := by decide +kernel
theorem dX3_hear_247 : decode cX3_hear 247 = .ok (.aload_n 0, 1) := by decide +kernel
theorem dX3_hear_248 : decode cX3_hear 248 = .ok (.invokevirtual 85, 3) := by decide +kernel
theorem dX3_hear_251 : decode cX3_hear 251 = .ok (.invokestatic 89, 3) := by decide +kernel
theorem dX3_hear_254 : decode cX3_hear 254 = .ok (.invokestatic 93, 3) := by decide +kernel
theorem dX3_hear_257 : decode cX3_hear 257 = .ok (.goto 7, 3) := by decide +kernel
theorem dX3_hear_260 : decode cX3_hear 260 = .ok (.aload_n 0, 1) := by decide +kernel
theorem dX3_hear_261 : decode cX3_hear 261 = .ok (.getfield 22, 3) := by decide +kernel
theorem dX3_hear_264 : decode cX3_hear 264 = .ok (.putfield 22, 3) := by decide +kernel
theorem dX3_hear_267 : decode cX3_hear 267 = .ok (.goto 71, 3) := by decide +kernel
theorem dX3_hear_270 : decode cX3_hear 270 = .ok (.aload_n 0, 1) := by decide +kernel
theorem dX3_hear_271 : decode cX3_hear 271 = .ok (.aload_n 0, 1) := by decide +kernel
theorem dX3_hear_272 : decode cX3_hear 272 = .ok (.invokevirtual 85, 3) := by decide +kernel
theorem dX3_hear_275 : decode cX3_hear 275 = .ok (.iconst 1, 1) := by decide +kernel
theorem dX3_hear_276 : decode cX3_hear 276 = .ok (.if_icmp .eq 10, 3) := by decide +kernel
theorem dX3_hear_279 : decode cX3_hear 279 = .ok (.aload_n 0, 1) := by decide +kernel
theorem dX3_hear_280 : decode cX3_hear 280 = .ok (.getfield 25, 3) := by decide +kernel
theorem dX3_hear_283 : decode cX3_hear 283 = .ok (.ifCond .eq 7, 3) := by decide +kernel
theorem dX3_hear_286 : decode cX3_hear 286 = .ok (.iconst 1, 1) := by decide +kernel
theorem dX3_hear_287 : decode cX3_hear 287 = .ok (.goto 4, 3) := by decide +kernel
theorem dX3_hear_290 : decode cX3_hear 290 = .ok (.iconst 0, 1) := by decide +kernel
theorem dX3_hear_291 : decode cX3_hear 291 = .ok (.putfield 25, 3) := by decide +kernel
theorem dX3_hear_294 : decode cX3_hear 294 = .ok (.goto 44, 3) := by decide +kernel
theorem dX3_hear_297 : decode cX3_hear 297 = .ok (.aload_n 0, 1) := by decide +kernel
theorem dX3_hear_298 : decode cX3_hear 298 = .ok (.invokevirtual 85, 3) := by decide +kernel
theorem dX3_hear_301 : decode cX3_hear 301 = .ok (.istore 8, 2) := by decide +kernel
theorem dX3_hear_303 : decode cX3_hear 303 = .ok (.iload 6, 2) := by decide +kernel
theorem dX3_hear_305 : decode cX3_hear 305 = .ok (.aload_n 0, 1) := by decide +kernel
theorem dX3_hear_306 : decode cX3_hear 306 = .ok (.invokevirtual 85, 3) := by decide +kernel
theorem dX3_hear_309 : decode cX3_hear 309 = .ok (.i2l, 1) := by decide +kernel
theorem dX3_hear_310 : decode cX3_hear 310 = .ok (.iload 8, 2) := by decide +kernel
theorem dX3_hear_312 : decode cX3_hear 312 = .ok (.i2l, 1) := by decide +kernel
theorem dX3_hear_313 : decode cX3_hear 313 = .ok (.invokestatic 96, 3) := by decide +kernel
theorem dX3_hear_316 : decode cX3_hear 316 = .ok (.istore 8, 2) := by decide +kernel
theorem dX3_hear_318 : decode cX3_hear 318 = .ok (.aload_n 0, 1) := by decide +kernel
theorem dX3_hear_319 : decode cX3_hear 319 = .ok (.iload 8, 2) := by decide +kernel
theorem dX3_hear_321 : decode cX3_hear 321 = .ok (.invokevirtual 81, 3) := by decide +kernel
theorem dX3_hear_324 : decode cX3_hear 324 = .ok (.iload 8, 2) := by decide +kernel
theorem dX3_hear_326 : decode cX3_hear 326 = .ok (.ldc 100, 2) := by decide +kernel
theorem dX3_hear_328 : decode cX3_hear 328 = .ok (.if_icmp .ne 8, 3) := by decide +kernel
theorem dX3_hear_331 : decode cX3_hear 331 = .ok (.iload 4, 2) := by decide +kernel
theorem dX3_hear_333 : decode cX3_hear 333 = .ok (.goto 4, 3) := by decide +kernel
theorem dX3_hear_336 : decode cX3_hear 336 = .ok (.iload_n 3, 1) := by decide +kernel
theorem dX3_hear_337 : decode cX3_hear 337 = .ok (.istore_n 3, 1) := by decide +kernel
theorem dX3_hear_338 : decode cX3_hear 338 = .ok (.iinc 5 1, 3) := by decide +kernel
theorem dX3_hear_341 : decode cX3_hear 341 = .ok (.goto (-333), 3) := by decide +kernel
theorem dX3_hear_344 : decode cX3_hear 344 = .ok (.return_, 1) := by decide +kernel
theorem zw_15 : (Jvm.Cond.selects "HillSchool$Judge" ({ cls := "HillSchool$Judge", name := "push", desc := "(I)V" } : Jvm.MethodName) ({ cls := "HillSchool$Judge", name := "push", desc := "(I)V" } : Jvm.MethodName)) ∈ zall := zmemG (zmj_0 15 rfl) rfl
theorem zw_16 : (Jvm.Cond.selects "HillSchool$Judge" ({ cls := "HillSchool$Judge", name := "pop", desc := "()I" } : Jvm.MethodName) ({ cls := "HillSchool$Judge", name := "pop", desc := "()I" } : Jvm.MethodName)) ∈ zall := zmemG (zmj_0 16 rfl) rfl
theorem zw_108 : (Jvm.Cond.initialized "HillSchool$Judge") ∈ zall := zmemG (zmj_1 5 rfl) rfl
theorem zw_200 : (Jvm.Cond.fieldLinkNest "HillSchool$Judge" (78 : Nat) "HillSchool$Hill" "orders" "[I" "HillSchool") ∈ znest := zmemH (zmj_1 97 rfl) rfl
theorem zw_279 : (Jvm.Cond.fieldLink "HillSchool$Judge" (29 : Nat) "HillSchool$Judge" "hill" "LHillSchool$Hill;") ∈ zall := zmemG (zmj_1 176 rfl) rfl
theorem zw_280 : (Jvm.Cond.fieldLink "HillSchool$Judge" (11 : Nat) "HillSchool$Judge" "words" "[I") ∈ zall := zmemG (zmj_1 177 rfl) rfl
theorem zw_283 : (Jvm.Cond.fieldLink "HillSchool$Judge" (22 : Nat) "HillSchool$Judge" "tiring" "I") ∈ zall := zmemG (zmj_1 180 rfl) rfl
theorem zw_284 : (Jvm.Cond.fieldLink "HillSchool$Judge" (25 : Nat) "HillSchool$Judge" "barred" "Z") ∈ zall := zmemG (zmj_1 181 rfl) rfl
theorem zw_824 : (Jvm.Cond.code ({ cls := "HillSchool$Judge", name := "hear", desc := "(II)V" } : Jvm.MethodName) prog_5_method_4_code (9 : Nat) (Option.none : Option Jvm.ClassFile.FieldType)) ∈ zall := zmemG (zmj_4 1 rfl) rfl
theorem zw_825 : (Jvm.Cond.methodLink "HillSchool$Judge" (81 : Nat) ({ cls := "HillSchool$Judge", name := "push", desc := "(I)V" } : Jvm.MethodName)) ∈ zall := zmemG (zmj_4 2 rfl) rfl
theorem zw_827 : (Jvm.Cond.instanceMethod ({ cls := "HillSchool$Judge", name := "push", desc := "(I)V" } : Jvm.MethodName)) ∈ zall := zmemG (zmj_4 4 rfl) rfl
theorem zw_829 : (Jvm.Cond.methodLink "HillSchool$Judge" (85 : Nat) ({ cls := "HillSchool$Judge", name := "pop", desc := "()I" } : Jvm.MethodName)) ∈ zall := zmemG (zmj_4 6 rfl) rfl
theorem zw_831 : (Jvm.Cond.instanceMethod ({ cls := "HillSchool$Judge", name := "pop", desc := "()I" } : Jvm.MethodName)) ∈ zall := zmemG (zmj_4 8 rfl) rfl
theorem zw_833 : (Jvm.Cond.methodLink "HillSchool$Judge" (89 : Nat) ({ cls := "java/lang/Math", name := "min", desc := "(II)I" } : Jvm.MethodName)) ∈ zall := zmemG (zmj_4 10 rfl) rfl
theorem zw_834 : (Jvm.Cond.methodLink "HillSchool$Judge" (93 : Nat) ({ cls := "java/lang/Math", name := "max", desc := "(II)I" } : Jvm.MethodName)) ∈ zall := zmemG (zmj_4 11 rfl) rfl
theorem zw_835 : (Jvm.Cond.methodLink "HillSchool$Judge" (96 : Nat) ({ cls := "HillSchool$Judge", name := "worked", desc := "(IJJ)I" } : Jvm.MethodName)) ∈ zall := zmemG (zmj_4 12 rfl) rfl
theorem zw_836 : (Jvm.Cond.static ({ cls := "HillSchool$Judge", name := "worked", desc := "(IJJ)I" } : Jvm.MethodName)) ∈ zall := zmemG (zmj_4 13 rfl) rfl
abbrev w_Judge_hear : List Cond := .code yX3_hear cX3_hear 9 none :: zall
abbrev rm_Judge_hear : Room := { frames := 2, cells := 0, slots := 0, locals := 60 }
theorem hd_Judge_hear : yX3_hear.cls = "HillSchool$Judge" ∧ yX3_hear.cls ≠ "java/lang/invoke/MethodHandle" ∧ yX3_hear.cls ≠ "java/lang/invoke/VarHandle" ∧ (parseMethodDescriptor yX3_hear.desc).map (fun d => d.parameters.length) = some 2 := by decide +kernel
def wd_Judge_hear (cA : Nat → ClassId) (q0 q1 q2 q3 q4 q5 q6 q7 q8 q9 q10 q11 q12 : Nat) (u0 u1 u2 u3 u4 : Int) (i_words : Nat → Int) (i_hill_orders : Nat → Int) (i_piled : Int) (i_tiring : Int) (i_barred : Int) (i_pile : Nat → Int) : va_W := [(q0, .inr (3, [.ref q1, .ref q2, .ref q3, .int (Int32.ofInt i_piled), .int (Int32.ofInt i_tiring), .int (Int32.ofInt i_barred)])), (q1, .inr (2, [.ref q4, .int (Int32.ofInt u0), .ref q5, .ref q6, .ref q7, .int (Int32.ofInt u1), .ref q8, .ref q9, .ref q10, .int (Int32.ofInt u2), .ref q11, .ref q12, .int (Int32.ofInt u3), .int (Int32.ofInt u4)])), (q2, .inl (cA 0, 8, .inl (za i_words))), (q3, .inl (cA 0, 32, .inl (za i_pile))), (q11, .inl (cA 0, 2544, .inl (za i_hill_orders)))]
def wf_Judge_hear (cA : Nat → ClassId) (q0 q1 q2 q3 q4 q5 q6 q7 q8 q9 q10 q11 q12 : Nat) (u0 u1 u2 u3 u4 : Int) (i_words : Nat → Int) (i_hill_orders : Nat → Int) (o : Int × Int × Int × (Nat → Int)) : va_W := wd_Judge_hear cA q0 q1 q2 q3 q4 q5 q6 q7 q8 q9 q10 q11 q12 u0 u1 u2 u3 u4 i_words i_hill_orders o.1 o.2.1 o.2.2.1 o.2.2.2
def f_Judge_hear_338 (i_words : Nat → Int) (i_hill_orders : Nat → Int) (k8 : Int → Int → Int → Int → Int → Int → Int → Int → (Nat → Int) → Option (Int × Int × Int × (Nat → Int))) (x1 : Int) (x2 : Int) (x3 : Int) (x4 : Int) (x5 : Int) (i_piled : Int) (i_tiring : Int) (i_barred : Int) (i_pile : Nat → Int) : Option (Int × Int × Int × (Nat → Int)) :=
  zn (x5 + 1) fun v1 =>
  k8 x1 x2 x3 x4 v1 i_piled i_tiring i_barred i_pile
def f_Judge_hear_177 (i_words : Nat → Int) (i_hill_orders : Nat → Int) (k8 : Int → Int → Int → Int → Int → Int → Int → Int → (Nat → Int) → Option (Int × Int × Int × (Nat → Int))) (x1 : Int) (x2 : Int) (x3 : Int) (x4 : Int) (x5 : Int) (s1 : Int) (i_piled : Int) (i_tiring : Int) (i_barred : Int) (i_pile : Nat → Int) : Option (Int × Int × Int × (Nat → Int)) :=
  zd2 (f_Judge_push s1 i_piled i_pile) fun v1 a2 =>
  f_Judge_hear_338 i_words i_hill_orders k8 x1 x2 x3 x4 x5 v1 i_tiring i_barred a2
def f_Judge_hear_176 (i_words : Nat → Int) (i_hill_orders : Nat → Int) (k8 : Int → Int → Int → Int → Int → Int → Int → Int → (Nat → Int) → Option (Int × Int × Int × (Nat → Int))) (x1 : Int) (x2 : Int) (x3 : Int) (x4 : Int) (x5 : Int) (i_piled : Int) (i_tiring : Int) (i_barred : Int) (i_pile : Nat → Int) : Option (Int × Int × Int × (Nat → Int)) :=
  f_Judge_hear_177 i_words i_hill_orders k8 x1 x2 x3 x4 x5 0 i_piled i_tiring i_barred i_pile
def f_Judge_hear_216 (i_words : Nat → Int) (i_hill_orders : Nat → Int) (k8 : Int → Int → Int → Int → Int → Int → Int → Int → (Nat → Int) → Option (Int × Int × Int × (Nat → Int))) (x1 : Int) (x2 : Int) (x3 : Int) (x4 : Int) (x5 : Int) (x7 : Int) (x8 : Int) (s0 : Int) (s1 : Int) (i_piled : Int) (i_tiring : Int) (i_barred : Int) (i_pile : Nat → Int) : Option (Int × Int × Int × (Nat → Int)) :=
  if zi_w s0 ≠ zi_w s1 then
    f_Judge_hear_338 i_words i_hill_orders k8 x1 x2 x3 x4 x5 i_piled i_tiring i_barred i_pile
  else
    zd2 (f_Judge_push x8 i_piled i_pile) fun v1 a2 =>
    f_Judge_hear_338 i_words i_hill_orders k8 x1 x2 x7 x4 x5 v1 i_tiring i_barred a2
def f_Judge_hear_264 (i_words : Nat → Int) (i_hill_orders : Nat → Int) (k8 : Int → Int → Int → Int → Int → Int → Int → Int → (Nat → Int) → Option (Int × Int × Int × (Nat → Int))) (x1 : Int) (x2 : Int) (x3 : Int) (x4 : Int) (x5 : Int) (s1 : Int) (i_piled : Int) (i_tiring : Int) (i_barred : Int) (i_pile : Nat → Int) : Option (Int × Int × Int × (Nat → Int)) :=
  f_Judge_hear_338 i_words i_hill_orders k8 x1 x2 x3 x4 x5 i_piled s1 i_barred i_pile
def f_Judge_hear_291 (i_words : Nat → Int) (i_hill_orders : Nat → Int) (k8 : Int → Int → Int → Int → Int → Int → Int → Int → (Nat → Int) → Option (Int × Int × Int × (Nat → Int))) (x1 : Int) (x2 : Int) (x3 : Int) (x4 : Int) (x5 : Int) (s1 : Int) (i_piled : Int) (i_tiring : Int) (i_barred : Int) (i_pile : Nat → Int) : Option (Int × Int × Int × (Nat → Int)) :=
  if ¬ (zi_w s1 = 0 ∨ zi_w s1 = 1) then none else
  f_Judge_hear_338 i_words i_hill_orders k8 x1 x2 x3 x4 x5 i_piled i_tiring s1 i_pile
def f_Judge_hear_286 (i_words : Nat → Int) (i_hill_orders : Nat → Int) (k8 : Int → Int → Int → Int → Int → Int → Int → Int → (Nat → Int) → Option (Int × Int × Int × (Nat → Int))) (x1 : Int) (x2 : Int) (x3 : Int) (x4 : Int) (x5 : Int) (i_piled : Int) (i_tiring : Int) (i_barred : Int) (i_pile : Nat → Int) : Option (Int × Int × Int × (Nat → Int)) :=
  f_Judge_hear_291 i_words i_hill_orders k8 x1 x2 x3 x4 x5 1 i_piled i_tiring i_barred i_pile
def f_Judge_hear_337 (i_words : Nat → Int) (i_hill_orders : Nat → Int) (k8 : Int → Int → Int → Int → Int → Int → Int → Int → (Nat → Int) → Option (Int × Int × Int × (Nat → Int))) (x1 : Int) (x2 : Int) (x4 : Int) (x5 : Int) (s0 : Int) (i_piled : Int) (i_tiring : Int) (i_barred : Int) (i_pile : Nat → Int) : Option (Int × Int × Int × (Nat → Int)) :=
  f_Judge_hear_338 i_words i_hill_orders k8 x1 x2 s0 x4 x5 i_piled i_tiring i_barred i_pile
def f_Judge_hear_8_b (i_words : Nat → Int) (i_hill_orders : Nat → Int) (k8 : Int → Int → Int → Int → Int → Int → Int → Int → (Nat → Int) → Option (Int × Int × Int × (Nat → Int))) (x1 : Int) (x2 : Int) (x3 : Int) (x4 : Int) (x5 : Int) (i_piled : Int) (i_tiring : Int) (i_barred : Int) (i_pile : Nat → Int) : Option (Int × Int × Int × (Nat → Int)) :=
  if zi_w x2 ≤ zi_w x5 then
    some (i_piled, i_tiring, i_barred, i_pile)
  else
    if zi_w x3 ≤ zi_w x5 then
      zn (x1 + x5) fun v1 =>
      zg 2544 i_hill_orders v1 fun v2 =>
      zn (zi_and v2 15) fun v3 =>
      zn (x1 + x5) fun v4 =>
      zg 2544 i_hill_orders v4 fun v5 =>
      zn (zi_shr v5 4) fun v6 =>
      if zi_w v3 = 0 then
        f_Judge_hear_338 i_words i_hill_orders k8 x1 x2 x3 v6 x5 0 i_tiring i_barred i_pile
      else if zi_w v3 = 1 then
        zd2 (f_Judge_push v6 i_piled i_pile) fun v7 a8 =>
        f_Judge_hear_338 i_words i_hill_orders k8 x1 x2 x3 x4 x5 v7 i_tiring i_barred a8
      else if zi_w v3 = 2 then
        if zi_w v6 < 0 then
          f_Judge_hear_176 i_words i_hill_orders k8 x1 x2 x3 x4 x5 i_piled i_tiring i_barred i_pile
        else
          if zi_w 8 ≤ zi_w v6 then
            f_Judge_hear_176 i_words i_hill_orders k8 x1 x2 x3 x4 x5 i_piled i_tiring i_barred i_pile
          else
            zg 8 i_words v6 fun v9 =>
            f_Judge_hear_177 i_words i_hill_orders k8 x1 x2 x3 x4 x5 v9 i_piled i_tiring i_barred i_pile
      else if zi_w v3 = 3 then
        zd2 (f_Judge_pop i_pile i_piled) fun v10 v11 =>
        zd2 (f_Judge_pop i_pile v11) fun v12 v13 =>
        zn (zi_w v12) fun v14 =>
        zn (zi_w v10) fun v15 =>
        zd1 (f_Judge_worked v3 v14 v15) fun v16 =>
        zd2 (f_Judge_push v16 v13 i_pile) fun v17 a18 =>
        if zi_w v16 ≠ zi_w (-2000000000) then
          f_Judge_hear_337 i_words i_hill_orders k8 x1 x2 x4 x5 x3 v17 i_tiring i_barred a18
        else
          f_Judge_hear_337 i_words i_hill_orders k8 x1 x2 x4 x5 x4 v17 i_tiring i_barred a18
      else if zi_w v3 = 4 then
        zd2 (f_Judge_pop i_pile i_piled) fun v19 v20 =>
        zd2 (f_Judge_pop i_pile v20) fun v21 v22 =>
        zn (zi_w v21) fun v23 =>
        zn (zi_w v19) fun v24 =>
        zd1 (f_Judge_worked v3 v23 v24) fun v25 =>
        zd2 (f_Judge_push v25 v22 i_pile) fun v26 a27 =>
        if zi_w v25 ≠ zi_w (-2000000000) then
          f_Judge_hear_337 i_words i_hill_orders k8 x1 x2 x4 x5 x3 v26 i_tiring i_barred a27
        else
          f_Judge_hear_337 i_words i_hill_orders k8 x1 x2 x4 x5 x4 v26 i_tiring i_barred a27
      else if zi_w v3 = 5 then
        zd2 (f_Judge_pop i_pile i_piled) fun v28 v29 =>
        zd2 (f_Judge_pop i_pile v29) fun v30 v31 =>
        zn (zi_w v30) fun v32 =>
        zn (zi_w v28) fun v33 =>
        zd1 (f_Judge_worked v3 v32 v33) fun v34 =>
        zd2 (f_Judge_push v34 v31 i_pile) fun v35 a36 =>
        if zi_w v34 ≠ zi_w (-2000000000) then
          f_Judge_hear_337 i_words i_hill_orders k8 x1 x2 x4 x5 x3 v35 i_tiring i_barred a36
        else
          f_Judge_hear_337 i_words i_hill_orders k8 x1 x2 x4 x5 x4 v35 i_tiring i_barred a36
      else if zi_w v3 = 6 then
        zd2 (f_Judge_pop i_pile i_piled) fun v37 v38 =>
        zd2 (f_Judge_pop i_pile v38) fun v39 v40 =>
        zn (zi_w v39) fun v41 =>
        zn (zi_w v37) fun v42 =>
        zd1 (f_Judge_worked v3 v41 v42) fun v43 =>
        zd2 (f_Judge_push v43 v40 i_pile) fun v44 a45 =>
        if zi_w v43 ≠ zi_w (-2000000000) then
          f_Judge_hear_337 i_words i_hill_orders k8 x1 x2 x4 x5 x3 v44 i_tiring i_barred a45
        else
          f_Judge_hear_337 i_words i_hill_orders k8 x1 x2 x4 x5 x4 v44 i_tiring i_barred a45
      else if zi_w v3 = 7 then
        zd2 (f_Judge_pop i_pile i_piled) fun v46 v47 =>
        zd2 (f_Judge_pop i_pile v47) fun v48 v49 =>
        zn (zi_w v48) fun v50 =>
        zn (zi_w v46) fun v51 =>
        zd1 (f_Judge_worked v3 v50 v51) fun v52 =>
        zd2 (f_Judge_push v52 v49 i_pile) fun v53 a54 =>
        if zi_w v52 ≠ zi_w (-2000000000) then
          f_Judge_hear_337 i_words i_hill_orders k8 x1 x2 x4 x5 x3 v53 i_tiring i_barred a54
        else
          f_Judge_hear_337 i_words i_hill_orders k8 x1 x2 x4 x5 x4 v53 i_tiring i_barred a54
      else if zi_w v3 = 8 then
        zd2 (f_Judge_pop i_pile i_piled) fun v55 v56 =>
        zd2 (f_Judge_pop i_pile v56) fun v57 v58 =>
        zn (zi_w v57) fun v59 =>
        zn (zi_w v55) fun v60 =>
        zd1 (f_Judge_worked v3 v59 v60) fun v61 =>
        zd2 (f_Judge_push v61 v58 i_pile) fun v62 a63 =>
        if zi_w v61 ≠ zi_w (-2000000000) then
          f_Judge_hear_337 i_words i_hill_orders k8 x1 x2 x4 x5 x3 v62 i_tiring i_barred a63
        else
          f_Judge_hear_337 i_words i_hill_orders k8 x1 x2 x4 x5 x4 v62 i_tiring i_barred a63
      else if zi_w v3 = 9 then
        zd2 (f_Judge_pop i_pile i_piled) fun v64 v65 =>
        zd2 (f_Judge_pop i_pile v65) fun v66 v67 =>
        zn (zi_w v66) fun v68 =>
        zn (zi_w v64) fun v69 =>
        zd1 (f_Judge_worked v3 v68 v69) fun v70 =>
        zd2 (f_Judge_push v70 v67 i_pile) fun v71 a72 =>
        if zi_w v70 ≠ zi_w (-2000000000) then
          f_Judge_hear_337 i_words i_hill_orders k8 x1 x2 x4 x5 x3 v71 i_tiring i_barred a72
        else
          f_Judge_hear_337 i_words i_hill_orders k8 x1 x2 x4 x5 x4 v71 i_tiring i_barred a72
      else if zi_w v3 = 10 then
        zd2 (f_Judge_pop i_pile i_piled) fun v73 v74 =>
        zn (1 - v73) fun v75 =>
        zd2 (f_Judge_push v75 v74 i_pile) fun v76 a77 =>
        f_Judge_hear_338 i_words i_hill_orders k8 x1 x2 x3 x4 x5 v76 i_tiring i_barred a77
      else if zi_w v3 = 11 then
        zd2 (f_Judge_pop i_pile i_piled) fun v78 v79 =>
        if zi_w v3 ≠ zi_w 12 then
          f_Judge_hear_216 i_words i_hill_orders k8 x1 x2 x3 x4 x5 v6 v78 v78 0 v79 i_tiring i_barred i_pile
        else
          f_Judge_hear_216 i_words i_hill_orders k8 x1 x2 x3 x4 x5 v6 v78 v78 1 v79 i_tiring i_barred i_pile
      else if zi_w v3 = 12 then
        zd2 (f_Judge_pop i_pile i_piled) fun v80 v81 =>
        if zi_w v3 ≠ zi_w 12 then
          f_Judge_hear_216 i_words i_hill_orders k8 x1 x2 x3 x4 x5 v6 v80 v80 0 v81 i_tiring i_barred i_pile
        else
          f_Judge_hear_216 i_words i_hill_orders k8 x1 x2 x3 x4 x5 v6 v80 v80 1 v81 i_tiring i_barred i_pile
      else if zi_w v3 = 13 then
        zd2 (f_Judge_pop i_pile i_piled) fun v82 v83 =>
        if zi_w v82 ≠ zi_w 1 then
          f_Judge_hear_264 i_words i_hill_orders k8 x1 x2 x3 x4 x5 i_tiring v83 i_tiring i_barred i_pile
        else
          zd2 (f_Judge_pop i_pile v83) fun v84 v85 =>
          zn (zi_min 99 v84) fun v86 =>
          zn (zi_max 0 v86) fun v87 =>
          f_Judge_hear_264 i_words i_hill_orders k8 x1 x2 x3 x4 x5 v87 v85 i_tiring i_barred i_pile
      else if zi_w v3 = 14 then
        zd2 (f_Judge_pop i_pile i_piled) fun v88 v89 =>
        if zi_w v88 = zi_w 1 then
          f_Judge_hear_286 i_words i_hill_orders k8 x1 x2 x3 x4 x5 v89 i_tiring i_barred i_pile
        else
          if zi_w i_barred = 0 then
            f_Judge_hear_291 i_words i_hill_orders k8 x1 x2 x3 x4 x5 0 v89 i_tiring i_barred i_pile
          else
            f_Judge_hear_286 i_words i_hill_orders k8 x1 x2 x3 x4 x5 v89 i_tiring i_barred i_pile
      else
        zd2 (f_Judge_pop i_pile i_piled) fun v90 v91 =>
        zd2 (f_Judge_pop i_pile v91) fun v92 v93 =>
        zn (zi_w v92) fun v94 =>
        zn (zi_w v90) fun v95 =>
        zd1 (f_Judge_worked v3 v94 v95) fun v96 =>
        zd2 (f_Judge_push v96 v93 i_pile) fun v97 a98 =>
        if zi_w v96 ≠ zi_w (-2000000000) then
          f_Judge_hear_337 i_words i_hill_orders k8 x1 x2 x4 x5 x3 v97 i_tiring i_barred a98
        else
          f_Judge_hear_337 i_words i_hill_orders k8 x1 x2 x4 x5 x4 v97 i_tiring i_barred a98
    else
      f_Judge_hear_338 i_words i_hill_orders k8 x1 x2 x3 x4 x5 i_piled i_tiring i_barred i_pile
def f_Judge_hear_8 (i_words : Nat → Int) (i_hill_orders : Nat → Int) : Nat → Int → Int → Int → Int → Int → Int → Int → Int → (Nat → Int) → Option (Int × Int × Int × (Nat → Int))
  | 0 => fun _ _ _ _ _ _ _ _ _ => none
  | n + 1 => fun y0 y1 y2 y3 y4 y5 y6 y7 y8 => f_Judge_hear_8_b i_words i_hill_orders (f_Judge_hear_8 i_words i_hill_orders n) y0 y1 y2 y3 y4 y5 y6 y7 y8
def f_Judge_hear (x1 : Int) (x2 : Int) (i_words : Nat → Int) (i_hill_orders : Nat → Int) (i_piled : Int) (i_tiring : Int) (i_barred : Int) (i_pile : Nat → Int) : Option (Int × Int × Int × (Nat → Int)) :=
  f_Judge_hear_8 i_words i_hill_orders zfu x1 x2 0 0 0 i_piled i_tiring i_barred i_pile
set_option maxHeartbeats 4000000 in
set_option maxRecDepth 100000 in
theorem c_Judge_hear (l : Launch) (ev : zEv) (dC : Nat → ClassId) (dI : Nat → Nat → Nat) (cA : Nat → ClassId) (q0 q1 q2 q3 q4 q5 q6 q7 q8 q9 q10 q11 q12 : Nat) (u0 u1 u2 u3 u4 : Int) {x1 x2 : Int} {i_words : Nat → Int} {i_hill_orders : Nat → Int} {i_piled : Int} {i_tiring : Int} {i_barred : Int} {i_pile : Nat → Int} {out : Int × Int × Int × (Nat → Int)} (hf : f_Judge_hear x1 x2 i_words i_hill_orders i_piled i_tiring i_barred i_pile = some out) : xc_V l ev (dC, dI) vwCl (tyl cA) yX3_hear w_Judge_hear rm_Judge_hear [.ref q0, .int (Int32.ofInt x1), .int (Int32.ofInt x2)] (wd_Judge_hear cA q0 q1 q2 q3 q4 q5 q6 q7 q8 q9 q10 q11 q12 u0 u1 u2 u3 u4 i_words i_hill_orders i_piled i_tiring i_barred i_pile) (wf_Judge_hear cA q0 q1 q2 q3 q4 q5 q6 q7 q8 q9 q10 q11 q12 u0 u1 u2 u3 u4 i_words i_hill_orders out) := by
  refine xv_startV (cc := cX3_hear) (maxL := 9) (by decide +kernel) rfl (Nat.le_of_ble_eq_true rfl) ?_
  intro p e s m args below meth c A Q H ls hx hb hml hts hown hK hA hP hD hS hl hE hret
  have hown : s.vm.findClass "HillSchool$Judge" = some m.cls := hown
  have hz : ∀ w ∈ zall, w.before args s = true := fun w h => hts w (List.mem_cons_of_mem _ h)
  have hl : lv_has ls 9 [(0, .ref q0), (1, .int (Int32.ofInt x1)), (2, .int (Int32.ofInt x2))] := hl
  have b_338 : ∀ (k8 : Int → Int → Int → Int → Int → Int → Int → Int → (Nat → Int) → Option (Int × Int × Int × (Nat → Int))) (_ : ∀ (x1 : Int) (x2 : Int) (x3 : Int) (x4 : Int) (x5 : Int) (i_piled : Int) (i_tiring : Int) (i_barred : Int) (i_pile : Nat → Int) (H : Heap) (locs : List Loc) (ls : Array Slot), k8 x1 x2 x3 x4 x5 i_piled i_tiring i_barred i_pile = some out → va_P (dC, dI) vwCl (wd_Judge_hear cA q0 q1 q2 q3 q4 q5 q6 q7 q8 q9 q10 q11 q12 u0 u1 u2 u3 u4 i_words i_hill_orders i_piled i_tiring i_barred i_pile) H → va_D A (wd_Judge_hear cA q0 q1 q2 q3 q4 q5 q6 q7 q8 q9 q10 q11 q12 u0 u1 u2 u3 u4 i_words i_hill_orders i_piled i_tiring i_barred i_pile) → va_S A s.heap H locs → lv_has ls 9 [(0, .ref q0), (1, .int (Int32.ofInt x1)), (2, .int (Int32.ofInt x2)), (3, .int (Int32.ofInt x3)), (4, .int (Int32.ofInt x4)), (5, .int (Int32.ofInt x5))] → W p l e rm_Judge_hear s m args below meth c H locs 0 0 Q (F0 m 8 ls [])), ∀ (x1 : Int) (x2 : Int) (x3 : Int) (x4 : Int) (x5 : Int) (i_piled : Int) (i_tiring : Int) (i_barred : Int) (i_pile : Nat → Int) (H : Heap) (locs : List Loc) (ls : Array Slot), f_Judge_hear_338 i_words i_hill_orders k8 x1 x2 x3 x4 x5 i_piled i_tiring i_barred i_pile = some out → va_P (dC, dI) vwCl (wd_Judge_hear cA q0 q1 q2 q3 q4 q5 q6 q7 q8 q9 q10 q11 q12 u0 u1 u2 u3 u4 i_words i_hill_orders i_piled i_tiring i_barred i_pile) H → va_D A (wd_Judge_hear cA q0 q1 q2 q3 q4 q5 q6 q7 q8 q9 q10 q11 q12 u0 u1 u2 u3 u4 i_words i_hill_orders i_piled i_tiring i_barred i_pile) → va_S A s.heap H locs → lv_has ls 9 [(0, .ref q0), (1, .int (Int32.ofInt x1)), (2, .int (Int32.ofInt x2)), (3, .int (Int32.ofInt x3)), (4, .int (Int32.ofInt x4)), (5, .int (Int32.ofInt x5))] → W p l e rm_Judge_hear s m args below meth c H locs 0 0 Q (F0 m 338 ls []) := by
    intro k8 ih8 x1 x2 x3 x4 x5 i_piled i_tiring i_barred i_pile H locs ls hf hP hD hS hl
    unfold f_Judge_hear_338 at hf
    refine xi_iinc hx hb dX3_hear_338 hl (k := 5) rfl (by decide) hf (fun v1 ls hl hf => ?_)
    have hl : lv_has ls 9 [(5, .int (Int32.ofInt v1)), (0, .ref q0), (1, .int (Int32.ofInt x1)), (2, .int (Int32.ofInt x2)), (3, .int (Int32.ofInt x3)), (4, .int (Int32.ofInt x4))] := hl
    refine lv_goto (tgt := 8) hx hb dX3_hear_341 (by decide) ?_
    exact ih8 _ _ _ _ _ _ _ _ _ _ _ _ hf hP hD hS (lv_sub hl [1, 2, 3, 4, 5, 0] rfl)
  have b_177 : ∀ (k8 : Int → Int → Int → Int → Int → Int → Int → Int → (Nat → Int) → Option (Int × Int × Int × (Nat → Int))) (_ : ∀ (x1 : Int) (x2 : Int) (x3 : Int) (x4 : Int) (x5 : Int) (i_piled : Int) (i_tiring : Int) (i_barred : Int) (i_pile : Nat → Int) (H : Heap) (locs : List Loc) (ls : Array Slot), k8 x1 x2 x3 x4 x5 i_piled i_tiring i_barred i_pile = some out → va_P (dC, dI) vwCl (wd_Judge_hear cA q0 q1 q2 q3 q4 q5 q6 q7 q8 q9 q10 q11 q12 u0 u1 u2 u3 u4 i_words i_hill_orders i_piled i_tiring i_barred i_pile) H → va_D A (wd_Judge_hear cA q0 q1 q2 q3 q4 q5 q6 q7 q8 q9 q10 q11 q12 u0 u1 u2 u3 u4 i_words i_hill_orders i_piled i_tiring i_barred i_pile) → va_S A s.heap H locs → lv_has ls 9 [(0, .ref q0), (1, .int (Int32.ofInt x1)), (2, .int (Int32.ofInt x2)), (3, .int (Int32.ofInt x3)), (4, .int (Int32.ofInt x4)), (5, .int (Int32.ofInt x5))] → W p l e rm_Judge_hear s m args below meth c H locs 0 0 Q (F0 m 8 ls [])), ∀ (x1 : Int) (x2 : Int) (x3 : Int) (x4 : Int) (x5 : Int) (s1 : Int) (i_piled : Int) (i_tiring : Int) (i_barred : Int) (i_pile : Nat → Int) (H : Heap) (locs : List Loc) (ls : Array Slot), f_Judge_hear_177 i_words i_hill_orders k8 x1 x2 x3 x4 x5 s1 i_piled i_tiring i_barred i_pile = some out → va_P (dC, dI) vwCl (wd_Judge_hear cA q0 q1 q2 q3 q4 q5 q6 q7 q8 q9 q10 q11 q12 u0 u1 u2 u3 u4 i_words i_hill_orders i_piled i_tiring i_barred i_pile) H → va_D A (wd_Judge_hear cA q0 q1 q2 q3 q4 q5 q6 q7 q8 q9 q10 q11 q12 u0 u1 u2 u3 u4 i_words i_hill_orders i_piled i_tiring i_barred i_pile) → va_S A s.heap H locs → lv_has ls 9 [(0, .ref q0), (1, .int (Int32.ofInt x1)), (2, .int (Int32.ofInt x2)), (3, .int (Int32.ofInt x3)), (4, .int (Int32.ofInt x4)), (5, .int (Int32.ofInt x5))] → W p l e rm_Judge_hear s m args below meth c H locs 0 0 Q (F0 m 177 ls [.int (Int32.ofInt s1), .ref q0]) := by
    intro k8 ih8 x1 x2 x3 x4 x5 s1 i_piled i_tiring i_barred i_pile H locs ls hf hP hD hS hl
    unfold f_Judge_hear_177 at hf
    refine xe_d2 hf (fun v1 a2 hg hf => ?_)
    have hC : ([0, 3] : List Nat).map (fun i => (wd_Judge_hear cA q0 q1 q2 q3 q4 q5 q6 q7 q8 q9 q10 q11 q12 u0 u1 u2 u3 u4 i_words i_hill_orders i_piled i_tiring i_barred i_pile)[i]?) = (wd_Judge_push cA q0 q1 q2 q3 i_tiring i_barred i_piled i_pile).map some := rfl
    refine xv_afterV (ws' := (wd_Judge_hear cA q0 q1 q2 q3 q4 q5 q6 q7 q8 q9 q10 q11 q12 u0 u1 u2 u3 u4 i_words i_hill_orders v1 i_tiring i_barred a2)) (isC := [0, 3]) (ps := [some 0, none, none, some 1, none]) (va_runV (As := [.int (Int32.ofInt s1)]) (rest := []) ⟨hx, hb, hml, hown, hts⟩ (c_Judge_push l ev dC dI cA q0 q1 q2 q3 i_tiring i_barred hg H.size) (cwV 1 hts (zgV zw_825 zw_827 zw_15 zw_108 zw_828) rfl rfl rfl hd_Judge_push ⟨Nat.le_of_ble_eq_true rfl, Nat.le_of_ble_eq_true rfl⟩) (xv_preV (T := TX3) (N := 6) hE hA hS hK hP hD (isC := [0, 3]) (by decide +kernel) hC (q0 := 0) (ci := 3) rfl rfl) rfl rfl hl.1 rfl (lv_room (Nat.le_of_ble_eq_true rfl)) dX3_hear_177 ⟨Nat.le_refl _, Nat.le_refl _⟩) hP hD hS hA (by decide +kernel) rfl hC rfl rfl (fun H locs hP hD hS => ?_)
    refine lv_goto (tgt := 338) hx hb dX3_hear_180 (by decide) ?_
    exact b_338 _ ih8 _ _ _ _ _ _ _ _ _ _ _ _ hf hP hD hS (lv_sub hl [0, 1, 2, 3, 4, 5] rfl)
  have b_176 : ∀ (k8 : Int → Int → Int → Int → Int → Int → Int → Int → (Nat → Int) → Option (Int × Int × Int × (Nat → Int))) (_ : ∀ (x1 : Int) (x2 : Int) (x3 : Int) (x4 : Int) (x5 : Int) (i_piled : Int) (i_tiring : Int) (i_barred : Int) (i_pile : Nat → Int) (H : Heap) (locs : List Loc) (ls : Array Slot), k8 x1 x2 x3 x4 x5 i_piled i_tiring i_barred i_pile = some out → va_P (dC, dI) vwCl (wd_Judge_hear cA q0 q1 q2 q3 q4 q5 q6 q7 q8 q9 q10 q11 q12 u0 u1 u2 u3 u4 i_words i_hill_orders i_piled i_tiring i_barred i_pile) H → va_D A (wd_Judge_hear cA q0 q1 q2 q3 q4 q5 q6 q7 q8 q9 q10 q11 q12 u0 u1 u2 u3 u4 i_words i_hill_orders i_piled i_tiring i_barred i_pile) → va_S A s.heap H locs → lv_has ls 9 [(0, .ref q0), (1, .int (Int32.ofInt x1)), (2, .int (Int32.ofInt x2)), (3, .int (Int32.ofInt x3)), (4, .int (Int32.ofInt x4)), (5, .int (Int32.ofInt x5))] → W p l e rm_Judge_hear s m args below meth c H locs 0 0 Q (F0 m 8 ls [])), ∀ (x1 : Int) (x2 : Int) (x3 : Int) (x4 : Int) (x5 : Int) (i_piled : Int) (i_tiring : Int) (i_barred : Int) (i_pile : Nat → Int) (H : Heap) (locs : List Loc) (ls : Array Slot), f_Judge_hear_176 i_words i_hill_orders k8 x1 x2 x3 x4 x5 i_piled i_tiring i_barred i_pile = some out → va_P (dC, dI) vwCl (wd_Judge_hear cA q0 q1 q2 q3 q4 q5 q6 q7 q8 q9 q10 q11 q12 u0 u1 u2 u3 u4 i_words i_hill_orders i_piled i_tiring i_barred i_pile) H → va_D A (wd_Judge_hear cA q0 q1 q2 q3 q4 q5 q6 q7 q8 q9 q10 q11 q12 u0 u1 u2 u3 u4 i_words i_hill_orders i_piled i_tiring i_barred i_pile) → va_S A s.heap H locs → lv_has ls 9 [(0, .ref q0), (1, .int (Int32.ofInt x1)), (2, .int (Int32.ofInt x2)), (3, .int (Int32.ofInt x3)), (4, .int (Int32.ofInt x4)), (5, .int (Int32.ofInt x5))] → W p l e rm_Judge_hear s m args below meth c H locs 0 0 Q (F0 m 176 ls [.ref q0]) := by
    intro k8 ih8 x1 x2 x3 x4 x5 i_piled i_tiring i_barred i_pile H locs ls hf hP hD hS hl
    unfold f_Judge_hear_176 at hf
    refine lv_iconst (v := Int32.ofInt 0) hx hb dX3_hear_176 rfl ?_
    exact b_177 _ ih8 _ _ _ _ _ _ _ _ _ _ _ _ _ hf hP hD hS (lv_sub hl [0, 1, 2, 3, 4, 5] rfl)
  have b_216 : ∀ (k8 : Int → Int → Int → Int → Int → Int → Int → Int → (Nat → Int) → Option (Int × Int × Int × (Nat → Int))) (_ : ∀ (x1 : Int) (x2 : Int) (x3 : Int) (x4 : Int) (x5 : Int) (i_piled : Int) (i_tiring : Int) (i_barred : Int) (i_pile : Nat → Int) (H : Heap) (locs : List Loc) (ls : Array Slot), k8 x1 x2 x3 x4 x5 i_piled i_tiring i_barred i_pile = some out → va_P (dC, dI) vwCl (wd_Judge_hear cA q0 q1 q2 q3 q4 q5 q6 q7 q8 q9 q10 q11 q12 u0 u1 u2 u3 u4 i_words i_hill_orders i_piled i_tiring i_barred i_pile) H → va_D A (wd_Judge_hear cA q0 q1 q2 q3 q4 q5 q6 q7 q8 q9 q10 q11 q12 u0 u1 u2 u3 u4 i_words i_hill_orders i_piled i_tiring i_barred i_pile) → va_S A s.heap H locs → lv_has ls 9 [(0, .ref q0), (1, .int (Int32.ofInt x1)), (2, .int (Int32.ofInt x2)), (3, .int (Int32.ofInt x3)), (4, .int (Int32.ofInt x4)), (5, .int (Int32.ofInt x5))] → W p l e rm_Judge_hear s m args below meth c H locs 0 0 Q (F0 m 8 ls [])), ∀ (x1 : Int) (x2 : Int) (x3 : Int) (x4 : Int) (x5 : Int) (x7 : Int) (x8 : Int) (s0 : Int) (s1 : Int) (i_piled : Int) (i_tiring : Int) (i_barred : Int) (i_pile : Nat → Int) (H : Heap) (locs : List Loc) (ls : Array Slot), f_Judge_hear_216 i_words i_hill_orders k8 x1 x2 x3 x4 x5 x7 x8 s0 s1 i_piled i_tiring i_barred i_pile = some out → va_P (dC, dI) vwCl (wd_Judge_hear cA q0 q1 q2 q3 q4 q5 q6 q7 q8 q9 q10 q11 q12 u0 u1 u2 u3 u4 i_words i_hill_orders i_piled i_tiring i_barred i_pile) H → va_D A (wd_Judge_hear cA q0 q1 q2 q3 q4 q5 q6 q7 q8 q9 q10 q11 q12 u0 u1 u2 u3 u4 i_words i_hill_orders i_piled i_tiring i_barred i_pile) → va_S A s.heap H locs → lv_has ls 9 [(0, .ref q0), (1, .int (Int32.ofInt x1)), (2, .int (Int32.ofInt x2)), (3, .int (Int32.ofInt x3)), (4, .int (Int32.ofInt x4)), (5, .int (Int32.ofInt x5)), (7, .int (Int32.ofInt x7)), (8, .int (Int32.ofInt x8))] → W p l e rm_Judge_hear s m args below meth c H locs 0 0 Q (F0 m 216 ls [.int (Int32.ofInt s1), .int (Int32.ofInt s0)]) := by
    intro k8 ih8 x1 x2 x3 x4 x5 x7 x8 s0 s1 i_piled i_tiring i_barred i_pile H locs ls hf hP hD hS hl
    unfold f_Judge_hear_216 at hf
    refine xi_icmp_ne (tgt := 338) hx hb dX3_hear_216 (by decide) hf (fun hf => ?_) (fun hf => ?_)
    · exact b_338 _ ih8 _ _ _ _ _ _ _ _ _ _ _ _ hf hP hD hS (lv_sub hl [0, 1, 2, 3, 4, 5] rfl)
    · refine lv_aload_n hx hb dX3_hear_219 rfl (lv_at hl 0 rfl) ?_
      refine lv_iload hx hb dX3_hear_220 (lv_at hl 7 rfl) ?_
      refine xe_d2 hf (fun v1 a2 hg hf => ?_)
      have hC : ([0, 3] : List Nat).map (fun i => (wd_Judge_hear cA q0 q1 q2 q3 q4 q5 q6 q7 q8 q9 q10 q11 q12 u0 u1 u2 u3 u4 i_words i_hill_orders i_piled i_tiring i_barred i_pile)[i]?) = (wd_Judge_push cA q0 q1 q2 q3 i_tiring i_barred i_piled i_pile).map some := rfl
      refine xv_afterV (ws' := (wd_Judge_hear cA q0 q1 q2 q3 q4 q5 q6 q7 q8 q9 q10 q11 q12 u0 u1 u2 u3 u4 i_words i_hill_orders v1 i_tiring i_barred a2)) (isC := [0, 3]) (ps := [some 0, none, none, some 1, none]) (va_runV (As := [.int (Int32.ofInt x8)]) (rest := []) ⟨hx, hb, hml, hown, hts⟩ (c_Judge_push l ev dC dI cA q0 q1 q2 q3 i_tiring i_barred hg H.size) (cwV 1 hts (zgV zw_825 zw_827 zw_15 zw_108 zw_828) rfl rfl rfl hd_Judge_push ⟨Nat.le_of_ble_eq_true rfl, Nat.le_of_ble_eq_true rfl⟩) (xv_preV (T := TX3) (N := 6) hE hA hS hK hP hD (isC := [0, 3]) (by decide +kernel) hC (q0 := 0) (ci := 3) rfl rfl) rfl rfl hl.1 rfl (lv_room (Nat.le_of_ble_eq_true rfl)) dX3_hear_222 ⟨Nat.le_refl _, Nat.le_refl _⟩) hP hD hS hA (by decide +kernel) rfl hC rfl rfl (fun H locs hP hD hS => ?_)
      refine lv_iload hx hb dX3_hear_225 (lv_at hl 6 rfl) ?_
      refine lv_istore_n (lv' := [(3, .int (Int32.ofInt x7)), (0, .ref q0), (1, .int (Int32.ofInt x1)), (2, .int (Int32.ofInt x2)), (4, .int (Int32.ofInt x4)), (5, .int (Int32.ofInt x5)), (7, .int (Int32.ofInt x7)), (8, .int (Int32.ofInt x8))]) hx hb dX3_hear_227 rfl hl (by decide) rfl (fun ls hl => ?_)
      refine lv_goto (tgt := 338) hx hb dX3_hear_228 (by decide) ?_
      exact b_338 _ ih8 _ _ _ _ _ _ _ _ _ _ _ _ hf hP hD hS (lv_sub hl [1, 2, 3, 0, 4, 5] rfl)
  have b_264 : ∀ (k8 : Int → Int → Int → Int → Int → Int → Int → Int → (Nat → Int) → Option (Int × Int × Int × (Nat → Int))) (_ : ∀ (x1 : Int) (x2 : Int) (x3 : Int) (x4 : Int) (x5 : Int) (i_piled : Int) (i_tiring : Int) (i_barred : Int) (i_pile : Nat → Int) (H : Heap) (locs : List Loc) (ls : Array Slot), k8 x1 x2 x3 x4 x5 i_piled i_tiring i_barred i_pile = some out → va_P (dC, dI) vwCl (wd_Judge_hear cA q0 q1 q2 q3 q4 q5 q6 q7 q8 q9 q10 q11 q12 u0 u1 u2 u3 u4 i_words i_hill_orders i_piled i_tiring i_barred i_pile) H → va_D A (wd_Judge_hear cA q0 q1 q2 q3 q4 q5 q6 q7 q8 q9 q10 q11 q12 u0 u1 u2 u3 u4 i_words i_hill_orders i_piled i_tiring i_barred i_pile) → va_S A s.heap H locs → lv_has ls 9 [(0, .ref q0), (1, .int (Int32.ofInt x1)), (2, .int (Int32.ofInt x2)), (3, .int (Int32.ofInt x3)), (4, .int (Int32.ofInt x4)), (5, .int (Int32.ofInt x5))] → W p l e rm_Judge_hear s m args below meth c H locs 0 0 Q (F0 m 8 ls [])), ∀ (x1 : Int) (x2 : Int) (x3 : Int) (x4 : Int) (x5 : Int) (s1 : Int) (i_piled : Int) (i_tiring : Int) (i_barred : Int) (i_pile : Nat → Int) (H : Heap) (locs : List Loc) (ls : Array Slot), f_Judge_hear_264 i_words i_hill_orders k8 x1 x2 x3 x4 x5 s1 i_piled i_tiring i_barred i_pile = some out → va_P (dC, dI) vwCl (wd_Judge_hear cA q0 q1 q2 q3 q4 q5 q6 q7 q8 q9 q10 q11 q12 u0 u1 u2 u3 u4 i_words i_hill_orders i_piled i_tiring i_barred i_pile) H → va_D A (wd_Judge_hear cA q0 q1 q2 q3 q4 q5 q6 q7 q8 q9 q10 q11 q12 u0 u1 u2 u3 u4 i_words i_hill_orders i_piled i_tiring i_barred i_pile) → va_S A s.heap H locs → lv_has ls 9 [(0, .ref q0), (1, .int (Int32.ofInt x1)), (2, .int (Int32.ofInt x2)), (3, .int (Int32.ofInt x3)), (4, .int (Int32.ofInt x4)), (5, .int (Int32.ofInt x5))] → W p l e rm_Judge_hear s m args below meth c H locs 0 0 Q (F0 m 264 ls [.int (Int32.ofInt s1), .ref q0]) := by
    intro k8 ih8 x1 x2 x3 x4 x5 s1 i_piled i_tiring i_barred i_pile H locs ls hf hP hD hS hl
    unfold f_Judge_hear_264 at hf
    refine va_put (D := (dC, dI)) (ci := 3) (v := .int (Int32.ofInt s1)) (ty := .int) (C := RX3) (T := TX3) (N := 6) hx hb hz zi_X3 tyX3 tyX3_ok nmX3 hown hK hP hD hS 0 rfl rfl 4 (by decide) (hz _ zw_283) (fun _ h9 => h9) rfl (by decide +kernel) rfl rfl (Nat.le_of_ble_eq_true rfl) dX3_hear_264 (fun H locs hP hD hS => ?_)
    have hP : va_P (dC, dI) vwCl (wd_Judge_hear cA q0 q1 q2 q3 q4 q5 q6 q7 q8 q9 q10 q11 q12 u0 u1 u2 u3 u4 i_words i_hill_orders i_piled s1 i_barred i_pile) H := hP
    have hD : va_D A (wd_Judge_hear cA q0 q1 q2 q3 q4 q5 q6 q7 q8 q9 q10 q11 q12 u0 u1 u2 u3 u4 i_words i_hill_orders i_piled s1 i_barred i_pile) := hD
    refine lv_goto (tgt := 338) hx hb dX3_hear_267 (by decide) ?_
    exact b_338 _ ih8 _ _ _ _ _ _ _ _ _ _ _ _ hf hP hD hS (lv_sub hl [0, 1, 2, 3, 4, 5] rfl)
  have b_291 : ∀ (k8 : Int → Int → Int → Int → Int → Int → Int → Int → (Nat → Int) → Option (Int × Int × Int × (Nat → Int))) (_ : ∀ (x1 : Int) (x2 : Int) (x3 : Int) (x4 : Int) (x5 : Int) (i_piled : Int) (i_tiring : Int) (i_barred : Int) (i_pile : Nat → Int) (H : Heap) (locs : List Loc) (ls : Array Slot), k8 x1 x2 x3 x4 x5 i_piled i_tiring i_barred i_pile = some out → va_P (dC, dI) vwCl (wd_Judge_hear cA q0 q1 q2 q3 q4 q5 q6 q7 q8 q9 q10 q11 q12 u0 u1 u2 u3 u4 i_words i_hill_orders i_piled i_tiring i_barred i_pile) H → va_D A (wd_Judge_hear cA q0 q1 q2 q3 q4 q5 q6 q7 q8 q9 q10 q11 q12 u0 u1 u2 u3 u4 i_words i_hill_orders i_piled i_tiring i_barred i_pile) → va_S A s.heap H locs → lv_has ls 9 [(0, .ref q0), (1, .int (Int32.ofInt x1)), (2, .int (Int32.ofInt x2)), (3, .int (Int32.ofInt x3)), (4, .int (Int32.ofInt x4)), (5, .int (Int32.ofInt x5))] → W p l e rm_Judge_hear s m args below meth c H locs 0 0 Q (F0 m 8 ls [])), ∀ (x1 : Int) (x2 : Int) (x3 : Int) (x4 : Int) (x5 : Int) (s1 : Int) (i_piled : Int) (i_tiring : Int) (i_barred : Int) (i_pile : Nat → Int) (H : Heap) (locs : List Loc) (ls : Array Slot), f_Judge_hear_291 i_words i_hill_orders k8 x1 x2 x3 x4 x5 s1 i_piled i_tiring i_barred i_pile = some out → va_P (dC, dI) vwCl (wd_Judge_hear cA q0 q1 q2 q3 q4 q5 q6 q7 q8 q9 q10 q11 q12 u0 u1 u2 u3 u4 i_words i_hill_orders i_piled i_tiring i_barred i_pile) H → va_D A (wd_Judge_hear cA q0 q1 q2 q3 q4 q5 q6 q7 q8 q9 q10 q11 q12 u0 u1 u2 u3 u4 i_words i_hill_orders i_piled i_tiring i_barred i_pile) → va_S A s.heap H locs → lv_has ls 9 [(0, .ref q0), (1, .int (Int32.ofInt x1)), (2, .int (Int32.ofInt x2)), (3, .int (Int32.ofInt x3)), (4, .int (Int32.ofInt x4)), (5, .int (Int32.ofInt x5))] → W p l e rm_Judge_hear s m args below meth c H locs 0 0 Q (F0 m 291 ls [.int (Int32.ofInt s1), .ref q0]) := by
    intro k8 ih8 x1 x2 x3 x4 x5 s1 i_piled i_tiring i_barred i_pile H locs ls hf hP hD hS hl
    unfold f_Judge_hear_291 at hf
    obtain ⟨hzb, hf⟩ := xz_q hf
    refine va_put (D := (dC, dI)) (ci := 3) (v := .int (Int32.ofInt s1)) (ty := .boolean) (C := RX3) (T := TX3) (N := 6) hx hb hz zi_X3 tyX3 tyX3_ok nmX3 hown hK hP hD hS 0 rfl rfl 5 (by decide) (hz _ zw_284) (fun _ h9 => h9) rfl (by decide +kernel) (zz_bool hzb) (zz_fitb hzb) (Nat.le_of_ble_eq_true rfl) dX3_hear_291 (fun H locs hP hD hS => ?_)
    have hP : va_P (dC, dI) vwCl (wd_Judge_hear cA q0 q1 q2 q3 q4 q5 q6 q7 q8 q9 q10 q11 q12 u0 u1 u2 u3 u4 i_words i_hill_orders i_piled i_tiring s1 i_pile) H := hP
    have hD : va_D A (wd_Judge_hear cA q0 q1 q2 q3 q4 q5 q6 q7 q8 q9 q10 q11 q12 u0 u1 u2 u3 u4 i_words i_hill_orders i_piled i_tiring s1 i_pile) := hD
    refine lv_goto (tgt := 338) hx hb dX3_hear_294 (by decide) ?_
    exact b_338 _ ih8 _ _ _ _ _ _ _ _ _ _ _ _ hf hP hD hS (lv_sub hl [0, 1, 2, 3, 4, 5] rfl)
  have b_286 : ∀ (k8 : Int → Int → Int → Int → Int → Int → Int → Int → (Nat → Int) → Option (Int × Int × Int × (Nat → Int))) (_ : ∀ (x1 : Int) (x2 : Int) (x3 : Int) (x4 : Int) (x5 : Int) (i_piled : Int) (i_tiring : Int) (i_barred : Int) (i_pile : Nat → Int) (H : Heap) (locs : List Loc) (ls : Array Slot), k8 x1 x2 x3 x4 x5 i_piled i_tiring i_barred i_pile = some out → va_P (dC, dI) vwCl (wd_Judge_hear cA q0 q1 q2 q3 q4 q5 q6 q7 q8 q9 q10 q11 q12 u0 u1 u2 u3 u4 i_words i_hill_orders i_piled i_tiring i_barred i_pile) H → va_D A (wd_Judge_hear cA q0 q1 q2 q3 q4 q5 q6 q7 q8 q9 q10 q11 q12 u0 u1 u2 u3 u4 i_words i_hill_orders i_piled i_tiring i_barred i_pile) → va_S A s.heap H locs → lv_has ls 9 [(0, .ref q0), (1, .int (Int32.ofInt x1)), (2, .int (Int32.ofInt x2)), (3, .int (Int32.ofInt x3)), (4, .int (Int32.ofInt x4)), (5, .int (Int32.ofInt x5))] → W p l e rm_Judge_hear s m args below meth c H locs 0 0 Q (F0 m 8 ls [])), ∀ (x1 : Int) (x2 : Int) (x3 : Int) (x4 : Int) (x5 : Int) (i_piled : Int) (i_tiring : Int) (i_barred : Int) (i_pile : Nat → Int) (H : Heap) (locs : List Loc) (ls : Array Slot), f_Judge_hear_286 i_words i_hill_orders k8 x1 x2 x3 x4 x5 i_piled i_tiring i_barred i_pile = some out → va_P (dC, dI) vwCl (wd_Judge_hear cA q0 q1 q2 q3 q4 q5 q6 q7 q8 q9 q10 q11 q12 u0 u1 u2 u3 u4 i_words i_hill_orders i_piled i_tiring i_barred i_pile) H → va_D A (wd_Judge_hear cA q0 q1 q2 q3 q4 q5 q6 q7 q8 q9 q10 q11 q12 u0 u1 u2 u3 u4 i_words i_hill_orders i_piled i_tiring i_barred i_pile) → va_S A s.heap H locs → lv_has ls 9 [(0, .ref q0), (1, .int (Int32.ofInt x1)), (2, .int (Int32.ofInt x2)), (3, .int (Int32.ofInt x3)), (4, .int (Int32.ofInt x4)), (5, .int (Int32.ofInt x5))] → W p l e rm_Judge_hear s m args below meth c H locs 0 0 Q (F0 m 286 ls [.ref q0]) := by
    intro k8 ih8 x1 x2 x3 x4 x5 i_piled i_tiring i_barred i_pile H locs ls hf hP hD hS hl
    unfold f_Judge_hear_286 at hf
    refine lv_iconst (v := Int32.ofInt 1) hx hb dX3_hear_286 rfl ?_
    refine lv_goto (tgt := 291) hx hb dX3_hear_287 (by decide) ?_
    exact b_291 _ ih8 _ _ _ _ _ _ _ _ _ _ _ _ _ hf hP hD hS (lv_sub hl [0, 1, 2, 3, 4, 5] rfl)
  have b_337 : ∀ (k8 : Int → Int → Int → Int → Int → Int → Int → Int → (Nat → Int) → Option (Int × Int × Int × (Nat → Int))) (_ : ∀ (x1 : Int) (x2 : Int) (x3 : Int) (x4 : Int) (x5 : Int) (i_piled : Int) (i_tiring : Int) (i_barred : Int) (i_pile : Nat → Int) (H : Heap) (locs : List Loc) (ls : Array Slot), k8 x1 x2 x3 x4 x5 i_piled i_tiring i_barred i_pile = some out → va_P (dC, dI) vwCl (wd_Judge_hear cA q0 q1 q2 q3 q4 q5 q6 q7 q8 q9 q10 q11 q12 u0 u1 u2 u3 u4 i_words i_hill_orders i_piled i_tiring i_barred i_pile) H → va_D A (wd_Judge_hear cA q0 q1 q2 q3 q4 q5 q6 q7 q8 q9 q10 q11 q12 u0 u1 u2 u3 u4 i_words i_hill_orders i_piled i_tiring i_barred i_pile) → va_S A s.heap H locs → lv_has ls 9 [(0, .ref q0), (1, .int (Int32.ofInt x1)), (2, .int (Int32.ofInt x2)), (3, .int (Int32.ofInt x3)), (4, .int (Int32.ofInt x4)), (5, .int (Int32.ofInt x5))] → W p l e rm_Judge_hear s m args below meth c H locs 0 0 Q (F0 m 8 ls [])), ∀ (x1 : Int) (x2 : Int) (x4 : Int) (x5 : Int) (s0 : Int) (i_piled : Int) (i_tiring : Int) (i_barred : Int) (i_pile : Nat → Int) (H : Heap) (locs : List Loc) (ls : Array Slot), f_Judge_hear_337 i_words i_hill_orders k8 x1 x2 x4 x5 s0 i_piled i_tiring i_barred i_pile = some out → va_P (dC, dI) vwCl (wd_Judge_hear cA q0 q1 q2 q3 q4 q5 q6 q7 q8 q9 q10 q11 q12 u0 u1 u2 u3 u4 i_words i_hill_orders i_piled i_tiring i_barred i_pile) H → va_D A (wd_Judge_hear cA q0 q1 q2 q3 q4 q5 q6 q7 q8 q9 q10 q11 q12 u0 u1 u2 u3 u4 i_words i_hill_orders i_piled i_tiring i_barred i_pile) → va_S A s.heap H locs → lv_has ls 9 [(0, .ref q0), (1, .int (Int32.ofInt x1)), (2, .int (Int32.ofInt x2)), (4, .int (Int32.ofInt x4)), (5, .int (Int32.ofInt x5))] → W p l e rm_Judge_hear s m args below meth c H locs 0 0 Q (F0 m 337 ls [.int (Int32.ofInt s0)]) := by
    intro k8 ih8 x1 x2 x4 x5 s0 i_piled i_tiring i_barred i_pile H locs ls hf hP hD hS hl
    unfold f_Judge_hear_337 at hf
    refine lv_istore_n (lv' := [(3, .int (Int32.ofInt s0)), (0, .ref q0), (1, .int (Int32.ofInt x1)), (2, .int (Int32.ofInt x2)), (4, .int (Int32.ofInt x4)), (5, .int (Int32.ofInt x5))]) hx hb dX3_hear_337 rfl hl (by decide) rfl (fun ls hl => ?_)
    exact b_338 _ ih8 _ _ _ _ _ _ _ _ _ _ _ _ hf hP hD hS (lv_sub hl [1, 2, 3, 0, 4, 5] rfl)
  have b_8 : ∀ (k8 : Int → Int → Int → Int → Int → Int → Int → Int → (Nat → Int) → Option (Int × Int × Int × (Nat → Int))) (_ : ∀ (x1 : Int) (x2 : Int) (x3 : Int) (x4 : Int) (x5 : Int) (i_piled : Int) (i_tiring : Int) (i_barred : Int) (i_pile : Nat → Int) (H : Heap) (locs : List Loc) (ls : Array Slot), k8 x1 x2 x3 x4 x5 i_piled i_tiring i_barred i_pile = some out → va_P (dC, dI) vwCl (wd_Judge_hear cA q0 q1 q2 q3 q4 q5 q6 q7 q8 q9 q10 q11 q12 u0 u1 u2 u3 u4 i_words i_hill_orders i_piled i_tiring i_barred i_pile) H → va_D A (wd_Judge_hear cA q0 q1 q2 q3 q4 q5 q6 q7 q8 q9 q10 q11 q12 u0 u1 u2 u3 u4 i_words i_hill_orders i_piled i_tiring i_barred i_pile) → va_S A s.heap H locs → lv_has ls 9 [(0, .ref q0), (1, .int (Int32.ofInt x1)), (2, .int (Int32.ofInt x2)), (3, .int (Int32.ofInt x3)), (4, .int (Int32.ofInt x4)), (5, .int (Int32.ofInt x5))] → W p l e rm_Judge_hear s m args below meth c H locs 0 0 Q (F0 m 8 ls [])), ∀ (x1 : Int) (x2 : Int) (x3 : Int) (x4 : Int) (x5 : Int) (i_piled : Int) (i_tiring : Int) (i_barred : Int) (i_pile : Nat → Int) (H : Heap) (locs : List Loc) (ls : Array Slot), f_Judge_hear_8_b i_words i_hill_orders k8 x1 x2 x3 x4 x5 i_piled i_tiring i_barred i_pile = some out → va_P (dC, dI) vwCl (wd_Judge_hear cA q0 q1 q2 q3 q4 q5 q6 q7 q8 q9 q10 q11 q12 u0 u1 u2 u3 u4 i_words i_hill_orders i_piled i_tiring i_barred i_pile) H → va_D A (wd_Judge_hear cA q0 q1 q2 q3 q4 q5 q6 q7 q8 q9 q10 q11 q12 u0 u1 u2 u3 u4 i_words i_hill_orders i_piled i_tiring i_barred i_pile) → va_S A s.heap H locs → lv_has ls 9 [(0, .ref q0), (1, .int (Int32.ofInt x1)), (2, .int (Int32.ofInt x2)), (3, .int (Int32.ofInt x3)), (4, .int (Int32.ofInt x4)), (5, .int (Int32.ofInt x5))] → W p l e rm_Judge_hear s m args below meth c H locs 0 0 Q (F0 m 8 ls []) := by
    intro k8 ih8 x1 x2 x3 x4 x5 i_piled i_tiring i_barred i_pile H locs ls hf hP hD hS hl
    unfold f_Judge_hear_8_b at hf
    refine lv_iload hx hb dX3_hear_8 (lv_at hl 5 rfl) ?_
    refine lv_iload_n hx hb dX3_hear_10 rfl (lv_at hl 2 rfl) ?_
    refine xi_icmp_ge (tgt := 344) hx hb dX3_hear_11 (by decide) hf (fun hf => ?_) (fun hf => ?_)
    · obtain rfl := Option.some.inj hf
      exact hret _ _ _ _ dX3_hear_344 hP hD hS
    · refine lv_iload hx hb dX3_hear_14 (lv_at hl 5 rfl) ?_
      refine lv_iload_n hx hb dX3_hear_16 rfl (lv_at hl 3 rfl) ?_
      refine xi_icmp_ge (tgt := 23) hx hb dX3_hear_17 (by decide) hf (fun hf => ?_) (fun hf => ?_)
      · refine lv_aload_n hx hb dX3_hear_23 rfl (lv_at hl 0 rfl) ?_
        refine va_get (D := (dC, dI)) (ci := 3) (v := .ref q1) (C := RX3) (T := TX3) (N := 6) hx hb hz zi_X3 hown hK hP 0 rfl rfl 0 (by decide) (hz _ zw_279) (fun _ h9 => h9) rfl dX3_hear_24 ?_
        refine va_getN (D := (dC, dI)) (ci := 2) (v := .ref q11) (C := RX2) (T := TX2) (N := 14) hx hb hz zi_X2 hown hK hP 1 rfl rfl 10 (by decide) (va_Nw.use rfl (hE.1.1 _ zw_200)) (fun _ h9 => h9) rfl dX3_hear_27 ?_
        refine lv_iload_n hx hb dX3_hear_30 rfl (lv_at hl 1 rfl) ?_
        refine lv_iload hx hb dX3_hear_31 (lv_at hl 5 rfl) ?_
        refine xi_iadd hx hb dX3_hear_33 hf (fun v1 hf => ?_)
        refine xi_iald hx hb hK hP 4 0 rfl rfl dX3_hear_34 hf (fun v2 hf => ?_)
        refine lv_bipush (v := Int32.ofInt 15) hx hb dX3_hear_35 (by decide) ?_
        refine xi_iand hx hb dX3_hear_37 hf (fun v3 hf => ?_)
        refine lv_istore (lv' := [(6, .int (Int32.ofInt v3)), (0, .ref q0), (1, .int (Int32.ofInt x1)), (2, .int (Int32.ofInt x2)), (3, .int (Int32.ofInt x3)), (4, .int (Int32.ofInt x4)), (5, .int (Int32.ofInt x5))]) hx hb dX3_hear_38 hl (by decide) rfl (fun ls hl => ?_)
        refine lv_aload_n hx hb dX3_hear_40 rfl (lv_at hl 1 rfl) ?_
        refine va_get (D := (dC, dI)) (ci := 3) (v := .ref q1) (C := RX3) (T := TX3) (N := 6) hx hb hz zi_X3 hown hK hP 0 rfl rfl 0 (by decide) (hz _ zw_279) (fun _ h9 => h9) rfl dX3_hear_41 ?_
        refine va_getN (D := (dC, dI)) (ci := 2) (v := .ref q11) (C := RX2) (T := TX2) (N := 14) hx hb hz zi_X2 hown hK hP 1 rfl rfl 10 (by decide) (va_Nw.use rfl (hE.1.1 _ zw_200)) (fun _ h9 => h9) rfl dX3_hear_44 ?_
        refine lv_iload_n hx hb dX3_hear_47 rfl (lv_at hl 2 rfl) ?_
        refine lv_iload hx hb dX3_hear_48 (lv_at hl 6 rfl) ?_
        refine xi_iadd hx hb dX3_hear_50 hf (fun v4 hf => ?_)
        refine xi_iald hx hb hK hP 4 0 rfl rfl dX3_hear_51 hf (fun v5 hf => ?_)
        refine lv_iconst (v := Int32.ofInt 4) hx hb dX3_hear_52 rfl ?_
        refine xi_ishr hx hb dX3_hear_53 hf (fun v6 hf => ?_)
        refine lv_istore (lv' := [(7, .int (Int32.ofInt v6)), (6, .int (Int32.ofInt v3)), (0, .ref q0), (1, .int (Int32.ofInt x1)), (2, .int (Int32.ofInt x2)), (3, .int (Int32.ofInt x3)), (4, .int (Int32.ofInt x4)), (5, .int (Int32.ofInt x5))]) hx hb dX3_hear_54 hl (by decide) rfl (fun ls hl => ?_)
        refine lv_iload hx hb dX3_hear_56 (lv_at hl 1 rfl) ?_
        refine xz_if hf (fun hc hf => ?_) (fun hn0 hf => ?_)
        · refine xi_tin (tgt := 132) hx hb dX3_hear_58 hc (by decide) (by decide) rfl (by decide) ?_
          refine lv_aload_n hx hb dX3_hear_132 rfl (lv_at hl 2 rfl) ?_
          refine lv_iconst (v := Int32.ofInt 0) hx hb dX3_hear_133 rfl ?_
          refine va_put (D := (dC, dI)) (ci := 3) (v := .int (Int32.ofInt 0)) (ty := .int) (C := RX3) (T := TX3) (N := 6) hx hb hz zi_X3 tyX3 tyX3_ok nmX3 hown hK hP hD hS 0 rfl rfl 3 (by decide) (hz _ zw_282) (fun _ h9 => h9) rfl (by decide +kernel) rfl rfl (Nat.le_of_ble_eq_true rfl) dX3_hear_134 (fun H locs hP hD hS => ?_)
          have hP : va_P (dC, dI) vwCl (wd_Judge_hear cA q0 q1 q2 q3 q4 q5 q6 q7 q8 q9 q10 q11 q12 u0 u1 u2 u3 u4 i_words i_hill_orders 0 i_tiring i_barred i_pile) H := hP
          have hD : va_D A (wd_Judge_hear cA q0 q1 q2 q3 q4 q5 q6 q7 q8 q9 q10 q11 q12 u0 u1 u2 u3 u4 i_words i_hill_orders 0 i_tiring i_barred i_pile) := hD
          refine lv_iload hx hb dX3_hear_137 (lv_at hl 0 rfl) ?_
          refine lv_istore (lv' := [(4, .int (Int32.ofInt v6)), (7, .int (Int32.ofInt v6)), (6, .int (Int32.ofInt v3)), (0, .ref q0), (1, .int (Int32.ofInt x1)), (2, .int (Int32.ofInt x2)), (3, .int (Int32.ofInt x3)), (5, .int (Int32.ofInt x5))]) hx hb dX3_hear_139 hl (by decide) rfl (fun ls hl => ?_)
          refine lv_goto (tgt := 338) hx hb dX3_hear_141 (by decide) ?_
          exact b_338 _ ih8 _ _ _ _ _ _ _ _ _ _ _ _ hf hP hD hS (lv_sub hl [3, 4, 5, 6, 0, 7] rfl)
        refine xz_if hf (fun hc hf => ?_) (fun hn1 hf => ?_)
        · refine xi_tin (tgt := 144) hx hb dX3_hear_58 hc (by decide) (by decide) rfl (by decide) ?_
          refine lv_aload_n hx hb dX3_hear_144 rfl (lv_at hl 2 rfl) ?_
          refine lv_iload hx hb dX3_hear_145 (lv_at hl 0 rfl) ?_
          refine xe_d2 hf (fun v7 a8 hg hf => ?_)
          have hC : ([0, 3] : List Nat).map (fun i => (wd_Judge_hear cA q0 q1 q2 q3 q4 q5 q6 q7 q8 q9 q10 q11 q12 u0 u1 u2 u3 u4 i_words i_hill_orders i_piled i_tiring i_barred i_pile)[i]?) = (wd_Judge_push cA q0 q1 q2 q3 i_tiring i_barred i_piled i_pile).map some := rfl
          refine xv_afterV (ws' := (wd_Judge_hear cA q0 q1 q2 q3 q4 q5 q6 q7 q8 q9 q10 q11 q12 u0 u1 u2 u3 u4 i_words i_hill_orders v7 i_tiring i_barred a8)) (isC := [0, 3]) (ps := [some 0, none, none, some 1, none]) (va_runV (As := [.int (Int32.ofInt v6)]) (rest := []) ⟨hx, hb, hml, hown, hts⟩ (c_Judge_push l ev dC dI cA q0 q1 q2 q3 i_tiring i_barred hg H.size) (cwV 1 hts (zgV zw_825 zw_827 zw_15 zw_108 zw_828) rfl rfl rfl hd_Judge_push ⟨Nat.le_of_ble_eq_true rfl, Nat.le_of_ble_eq_true rfl⟩) (xv_preV (T := TX3) (N := 6) hE hA hS hK hP hD (isC := [0, 3]) (by decide +kernel) hC (q0 := 0) (ci := 3) rfl rfl) rfl rfl hl.1 rfl (lv_room (Nat.le_of_ble_eq_true rfl)) dX3_hear_147 ⟨Nat.le_refl _, Nat.le_refl _⟩) hP hD hS hA (by decide +kernel) rfl hC rfl rfl (fun H locs hP hD hS => ?_)
          refine lv_goto (tgt := 338) hx hb dX3_hear_150 (by decide) ?_
          exact b_338 _ ih8 _ _ _ _ _ _ _ _ _ _ _ _ hf hP hD hS (lv_sub hl [2, 3, 4, 5, 6, 7] rfl)
        refine xz_if hf (fun hc hf => ?_) (fun hn2 hf => ?_)
        · refine xi_tin (tgt := 153) hx hb dX3_hear_58 hc (by decide) (by decide) rfl (by decide) ?_
          refine lv_aload_n hx hb dX3_hear_153 rfl (lv_at hl 2 rfl) ?_
          refine lv_iload hx hb dX3_hear_154 (lv_at hl 0 rfl) ?_
          refine xi_if_lt (tgt := 176) hx hb dX3_hear_156 (by decide) hf (fun hf => ?_) (fun hf => ?_)
          · exact b_176 _ ih8 _ _ _ _ _ _ _ _ _ _ _ _ hf hP hD hS (lv_sub hl [2, 3, 4, 5, 6, 7] rfl)
          · refine lv_iload hx hb dX3_hear_159 (lv_at hl 0 rfl) ?_
            refine lv_bipush (v := Int32.ofInt 8) hx hb dX3_hear_161 (by decide) ?_
            refine xi_icmp_ge (tgt := 176) hx hb dX3_hear_163 (by decide) hf (fun hf => ?_) (fun hf => ?_)
            · exact b_176 _ ih8 _ _ _ _ _ _ _ _ _ _ _ _ hf hP hD hS (lv_sub hl [2, 3, 4, 5, 6, 7] rfl)
            · refine lv_aload_n hx hb dX3_hear_166 rfl (lv_at hl 2 rfl) ?_
              refine va_get (D := (dC, dI)) (ci := 3) (v := .ref q2) (C := RX3) (T := TX3) (N := 6) hx hb hz zi_X3 hown hK hP 0 rfl rfl 1 (by decide) (hz _ zw_280) (fun _ h9 => h9) rfl dX3_hear_167 ?_
              refine lv_iload hx hb dX3_hear_170 (lv_at hl 0 rfl) ?_
              refine xi_iald hx hb hK hP 2 0 rfl rfl dX3_hear_172 hf (fun v9 hf => ?_)
              refine lv_goto (tgt := 177) hx hb dX3_hear_173 (by decide) ?_
              exact b_177 _ ih8 _ _ _ _ _ _ _ _ _ _ _ _ _ hf hP hD hS (lv_sub hl [2, 3, 4, 5, 6, 7] rfl)
        refine xz_if hf (fun hc hf => ?_) (fun hn3 hf => ?_)
        · refine xi_tin (tgt := 297) hx hb dX3_hear_58 hc (by decide) (by decide) rfl (by decide) ?_
          refine lv_aload_n hx hb dX3_hear_297 rfl (lv_at hl 2 rfl) ?_
          refine xe_d2 hf (fun v10 v11 hg hf => ?_)
          have hC : ([0, 3] : List Nat).map (fun i => (wd_Judge_hear cA q0 q1 q2 q3 q4 q5 q6 q7 q8 q9 q10 q11 q12 u0 u1 u2 u3 u4 i_words i_hill_orders i_piled i_tiring i_barred i_pile)[i]?) = (wd_Judge_pop cA q0 q1 q2 q3 i_tiring i_barred i_pile i_piled).map some := rfl
          refine xv_afterI (ws' := (wd_Judge_hear cA q0 q1 q2 q3 q4 q5 q6 q7 q8 q9 q10 q11 q12 u0 u1 u2 u3 u4 i_words i_hill_orders v11 i_tiring i_barred i_pile)) (isC := [0, 3]) (ps := [some 0, none, none, some 1, none]) (va_runV (As := []) (rest := []) ⟨hx, hb, hml, hown, hts⟩ (c_Judge_pop l ev dC dI cA q0 q1 q2 q3 i_tiring i_barred hg H.size) (cwV 0 hts (zgV zw_829 zw_831 zw_16 zw_108 zw_832) rfl rfl rfl hd_Judge_pop ⟨Nat.le_of_ble_eq_true rfl, Nat.le_of_ble_eq_true rfl⟩) (xv_preV (T := TX3) (N := 6) hE hA hS hK hP hD (isC := [0, 3]) (by decide +kernel) hC (q0 := 0) (ci := 3) rfl rfl) rfl rfl hl.1 rfl (lv_room (Nat.le_of_ble_eq_true rfl)) dX3_hear_298 ⟨Nat.le_refl _, Nat.le_refl _⟩) hP hD hS hA (by decide +kernel) rfl hC rfl rfl (fun H locs hP hD hS => ?_)
          refine lv_istore (lv' := [(8, .int (Int32.ofInt v10)), (7, .int (Int32.ofInt v6)), (6, .int (Int32.ofInt v3)), (0, .ref q0), (1, .int (Int32.ofInt x1)), (2, .int (Int32.ofInt x2)), (3, .int (Int32.ofInt x3)), (4, .int (Int32.ofInt x4)), (5, .int (Int32.ofInt x5))]) hx hb dX3_hear_301 hl (by decide) rfl (fun ls hl => ?_)
          refine lv_iload hx hb dX3_hear_303 (lv_at hl 2 rfl) ?_
          refine lv_aload_n hx hb dX3_hear_305 rfl (lv_at hl 3 rfl) ?_
          refine xe_d2 hf (fun v12 v13 hg hf => ?_)
          have hC : ([0, 3] : List Nat).map (fun i => (wd_Judge_hear cA q0 q1 q2 q3 q4 q5 q6 q7 q8 q9 q10 q11 q12 u0 u1 u2 u3 u4 i_words i_hill_orders v11 i_tiring i_barred i_pile)[i]?) = (wd_Judge_pop cA q0 q1 q2 q3 i_tiring i_barred i_pile v11).map some := rfl
          refine xv_afterI (ws' := (wd_Judge_hear cA q0 q1 q2 q3 q4 q5 q6 q7 q8 q9 q10 q11 q12 u0 u1 u2 u3 u4 i_words i_hill_orders v13 i_tiring i_barred i_pile)) (isC := [0, 3]) (ps := [some 0, none, none, some 1, none]) (va_runV (As := []) (rest := [.int (Int32.ofInt v3)]) ⟨hx, hb, hml, hown, hts⟩ (c_Judge_pop l ev dC dI cA q0 q1 q2 q3 i_tiring i_barred hg H.size) (cwV 0 hts (zgV zw_829 zw_831 zw_16 zw_108 zw_832) rfl rfl rfl hd_Judge_pop ⟨Nat.le_of_ble_eq_true rfl, Nat.le_of_ble_eq_true rfl⟩) (xv_preV (T := TX3) (N := 6) hE hA hS hK hP hD (isC := [0, 3]) (by decide +kernel) hC (q0 := 0) (ci := 3) rfl rfl) rfl rfl hl.1 rfl (lv_room (Nat.le_of_ble_eq_true rfl)) dX3_hear_306 ⟨Nat.le_refl _, Nat.le_refl _⟩) hP hD hS hA (by decide +kernel) rfl hC rfl rfl (fun H locs hP hD hS => ?_)
          refine xi_i2l hx hb dX3_hear_309 hf (fun v14 hf => ?_)
          refine lv_iload hx hb dX3_hear_310 (lv_at hl 0 rfl) ?_
          refine xi_i2l hx hb dX3_hear_312 hf (fun v15 hf => ?_)
          refine xe_d1 hf (fun v16 hg hf => ?_)
          have hC : ([] : List Nat).map (fun i => (wd_Judge_hear cA q0 q1 q2 q3 q4 q5 q6 q7 q8 q9 q10 q11 q12 u0 u1 u2 u3 u4 i_words i_hill_orders v13 i_tiring i_barred i_pile)[i]?) = (wd_Judge_worked cA).map some := rfl
          refine xv_afterI (ws' := (wd_Judge_hear cA q0 q1 q2 q3 q4 q5 q6 q7 q8 q9 q10 q11 q12 u0 u1 u2 u3 u4 i_words i_hill_orders v13 i_tiring i_barred i_pile)) (isC := []) (ps := [none, none, none, none, none]) (va_runS (As := [.int (Int32.ofInt v3), .long (Int64.ofInt v14), .long (Int64.ofInt v15)]) (rest := []) ⟨hx, hb, hml, hown, hts⟩ (c_Judge_worked l ev dC dI cA hg H.size) (va_cwS 3 hts (zgS zw_835 zw_836 zw_108 zw_837) rfl rfl rfl hd_Judge_worked.2 ⟨Nat.le_of_ble_eq_true rfl, Nat.le_of_ble_eq_true rfl⟩) (xv_preS hE hA hS hK hP hD (isC := []) (by decide +kernel) hC) rfl rfl hl.1 rfl (lv_room (Nat.le_of_ble_eq_true rfl)) dX3_hear_313 ⟨Nat.le_refl _, Nat.le_refl _⟩) hP hD hS hA (by decide +kernel) rfl hC rfl rfl (fun H locs hP hD hS => ?_)
          refine lv_istore (lv' := [(8, .int (Int32.ofInt v16)), (7, .int (Int32.ofInt v6)), (6, .int (Int32.ofInt v3)), (0, .ref q0), (1, .int (Int32.ofInt x1)), (2, .int (Int32.ofInt x2)), (3, .int (Int32.ofInt x3)), (4, .int (Int32.ofInt x4)), (5, .int (Int32.ofInt x5))]) hx hb dX3_hear_316 hl (by decide) rfl (fun ls hl => ?_)
          refine lv_aload_n hx hb dX3_hear_318 rfl (lv_at hl 3 rfl) ?_
          refine lv_iload hx hb dX3_hear_319 (lv_at hl 0 rfl) ?_
          refine xe_d2 hf (fun v17 a18 hg hf => ?_)
          have hC : ([0, 3] : List Nat).map (fun i => (wd_Judge_hear cA q0 q1 q2 q3 q4 q5 q6 q7 q8 q9 q10 q11 q12 u0 u1 u2 u3 u4 i_words i_hill_orders v13 i_tiring i_barred i_pile)[i]?) = (wd_Judge_push cA q0 q1 q2 q3 i_tiring i_barred v13 i_pile).map some := rfl
          refine xv_afterV (ws' := (wd_Judge_hear cA q0 q1 q2 q3 q4 q5 q6 q7 q8 q9 q10 q11 q12 u0 u1 u2 u3 u4 i_words i_hill_orders v17 i_tiring i_barred a18)) (isC := [0, 3]) (ps := [some 0, none, none, some 1, none]) (va_runV (As := [.int (Int32.ofInt v16)]) (rest := []) ⟨hx, hb, hml, hown, hts⟩ (c_Judge_push l ev dC dI cA q0 q1 q2 q3 i_tiring i_barred hg H.size) (cwV 1 hts (zgV zw_825 zw_827 zw_15 zw_108 zw_828) rfl rfl rfl hd_Judge_push ⟨Nat.le_of_ble_eq_true rfl, Nat.le_of_ble_eq_true rfl⟩) (xv_preV (T := TX3) (N := 6) hE hA hS hK hP hD (isC := [0, 3]) (by decide +kernel) hC (q0 := 0) (ci := 3) rfl rfl) rfl rfl hl.1 rfl (lv_room (Nat.le_of_ble_eq_true rfl)) dX3_hear_321 ⟨Nat.le_refl _, Nat.le_refl _⟩) hP hD hS hA (by decide +kernel) rfl hC rfl rfl (fun H locs hP hD hS => ?_)
          refine lv_iload hx hb dX3_hear_324 (lv_at hl 0 rfl) ?_
          refine lv_ldc (v := Int32.ofInt (-2000000000)) hx hb hown (hz _ zw_838) dX3_hear_326 ?_
          refine xi_icmp_ne (tgt := 336) hx hb dX3_hear_328 (by decide) hf (fun hf => ?_) (fun hf => ?_)
          · refine lv_iload_n hx hb dX3_hear_336 rfl (lv_at hl 6 rfl) ?_
            exact b_337 _ ih8 _ _ _ _ _ _ _ _ _ _ _ _ hf hP hD hS (lv_sub hl [3, 4, 5, 7, 8] rfl)
          · refine lv_iload hx hb dX3_hear_331 (lv_at hl 7 rfl) ?_
            refine lv_goto (tgt := 337) hx hb dX3_hear_333 (by decide) ?_
            exact b_337 _ ih8 _ _ _ _ _ _ _ _ _ _ _ _ hf hP hD hS (lv_sub hl [3, 4, 5, 7, 8] rfl)
        refine xz_if hf (fun hc hf => ?_) (fun hn4 hf => ?_)
        · refine xi_tin (tgt := 297) hx hb dX3_hear_58 hc (by decide) (by decide) rfl (by decide) ?_
          refine lv_aload_n hx hb dX3_hear_297 rfl (lv_at hl 2 rfl) ?_
          refine xe_d2 hf (fun v19 v20 hg hf => ?_)
          have hC : ([0, 3] : List Nat).map (fun i => (wd_Judge_hear cA q0 q1 q2 q3 q4 q5 q6 q7 q8 q9 q10 q11 q12 u0 u1 u2 u3 u4 i_words i_hill_orders i_piled i_tiring i_barred i_pile)[i]?) = (wd_Judge_pop cA q0 q1 q2 q3 i_tiring i_barred i_pile i_piled).map some := rfl
          refine xv_afterI (ws' := (wd_Judge_hear cA q0 q1 q2 q3 q4 q5 q6 q7 q8 q9 q10 q11 q12 u0 u1 u2 u3 u4 i_words i_hill_orders v20 i_tiring i_barred i_pile)) (isC := [0, 3]) (ps := [some 0, none, none, some 1, none]) (va_runV (As := []) (rest := []) ⟨hx, hb, hml, hown, hts⟩ (c_Judge_pop l ev dC dI cA q0 q1 q2 q3 i_tiring i_barred hg H.size) (cwV 0 hts (zgV zw_829 zw_831 zw_16 zw_108 zw_832) rfl rfl rfl hd_Judge_pop ⟨Nat.le_of_ble_eq_true rfl, Nat.le_of_ble_eq_true rfl⟩) (xv_preV (T := TX3) (N := 6) hE hA hS hK hP hD (isC := [0, 3]) (by decide +kernel) hC (q0 := 0) (ci := 3) rfl rfl) rfl rfl hl.1 rfl (lv_room (Nat.le_of_ble_eq_true rfl)) dX3_hear_298 ⟨Nat.le_refl _, Nat.le_refl _⟩) hP hD hS hA (by decide +kernel) rfl hC rfl rfl (fun H locs hP hD hS => ?_)
          refine lv_istore (lv' := [(8, .int (Int32.ofInt v19)), (7, .int (Int32.ofInt v6)), (6, .int (Int32.ofInt v3)), (0, .ref q0), (1, .int (Int32.ofInt x1)), (2, .int (Int32.ofInt x2)), (3, .int (Int32.ofInt x3)), (4, .int (Int32.ofInt x4)), (5, .int (Int32.ofInt x5))]) hx hb dX3_hear_301 hl (by decide) rfl (fun ls hl => ?_)
          refine lv_iload hx hb dX3_hear_303 (lv_at hl 2 rfl) ?_
          refine lv_aload_n hx hb dX3_hear_305 rfl (lv_at hl 3 rfl) ?_
          refine xe_d2 hf (fun v21 v22 hg hf => ?_)
          have hC : ([0, 3] : List Nat).map (fun i => (wd_Judge_hear cA q0 q1 q2 q3 q4 q5 q6 q7 q8 q9 q10 q11 q12 u0 u1 u2 u3 u4 i_words i_hill_orders v20 i_tiring i_barred i_pile)[i]?) = (wd_Judge_pop cA q0 q1 q2 q3 i_tiring i_barred i_pile v20).map some := rfl
          refine xv_afterI (ws' := (wd_Judge_hear cA q0 q1 q2 q3 q4 q5 q6 q7 q8 q9 q10 q11 q12 u0 u1 u2 u3 u4 i_words i_hill_orders v22 i_tiring i_barred i_pile)) (isC := [0, 3]) (ps := [some 0, none, none, some 1, none]) (va_runV (As := []) (rest := [.int (Int32.ofInt v3)]) ⟨hx, hb, hml, hown, hts⟩ (c_Judge_pop l ev dC dI cA q0 q1 q2 q3 i_tiring i_barred hg H.size) (cwV 0 hts (zgV zw_829 zw_831 zw_16 zw_108 zw_832) rfl rfl rfl hd_Judge_pop ⟨Nat.le_of_ble_eq_true rfl, Nat.le_of_ble_eq_true rfl⟩) (xv_preV (T := TX3) (N := 6) hE hA hS hK hP hD (isC := [0, 3]) (by decide +kernel) hC (q0 := 0) (ci := 3) rfl rfl) rfl rfl hl.1 rfl (lv_room (Nat.le_of_ble_eq_true rfl)) dX3_hear_306 ⟨Nat.le_refl _, Nat.le_refl _⟩) hP hD hS hA (by decide +kernel) rfl hC rfl rfl (fun H locs hP hD hS => ?_)
          refine xi_i2l hx hb dX3_hear_309 hf (fun v23 hf => ?_)
          refine lv_iload hx hb dX3_hear_310 (lv_at hl 0 rfl) ?_
          refine xi_i2l hx hb dX3_hear_312 hf (fun v24 hf => ?_)
          refine xe_d1 hf (fun v25 hg hf => ?_)
          have hC : ([] : List Nat).map (fun i => (wd_Judge_hear cA q0 q1 q2 q3 q4 q5 q6 q7 q8 q9 q10 q11 q12 u0 u1 u2 u3 u4 i_words i_hill_orders v22 i_tiring i_barred i_pile)[i]?) = (wd_Judge_worked cA).map some := rfl
          refine xv_afterI (ws' := (wd_Judge_hear cA q0 q1 q2 q3 q4 q5 q6 q7 q8 q9 q10 q11 q12 u0 u1 u2 u3 u4 i_words i_hill_orders v22 i_tiring i_barred i_pile)) (isC := []) (ps := [none, none, none, none, none]) (va_runS (As := [.int (Int32.ofInt v3), .long (Int64.ofInt v23), .long (Int64.ofInt v24)]) (rest := []) ⟨hx, hb, hml, hown, hts⟩ (c_Judge_worked l ev dC dI cA hg H.size) (va_cwS 3 hts (zgS zw_835 zw_836 zw_108 zw_837) rfl rfl rfl hd_Judge_worked.2 ⟨Nat.le_of_ble_eq_true rfl, Nat.le_of_ble_eq_true rfl⟩) (xv_preS hE hA hS hK hP hD (isC := []) (by decide +kernel) hC) rfl rfl hl.1 rfl (lv_room (Nat.le_of_ble_eq_true rfl)) dX3_hear_313 ⟨Nat.le_refl _, Nat.le_refl _⟩) hP hD hS hA (by decide +kernel) rfl hC rfl rfl (fun H locs hP hD hS => ?_)
          refine lv_istore (lv' := [(8, .int (Int32.ofInt v25)), (7, .int (Int32.ofInt v6)), (6, .int (Int32.ofInt v3)), (0, .ref q0), (1, .int (Int32.ofInt x1)), (2, .int (Int32.ofInt x2)), (3, .int (Int32.ofInt x3)), (4, .int (Int32.ofInt x4)), (5, .int (Int32.ofInt x5))]) hx hb dX3_hear_316 hl (by decide) rfl (fun ls hl => ?_)
          refine lv_aload_n hx hb dX3_hear_318 rfl (lv_at hl 3 rfl) ?_
          refine lv_iload hx hb dX3_hear_319 (lv_at hl 0 rfl) ?_
          refine xe_d2 hf (fun v26 a27 hg hf => ?_)
          have hC : ([0, 3] : List Nat).map (fun i => (wd_Judge_hear cA q0 q1 q2 q3 q4 q5 q6 q7 q8 q9 q10 q11 q12 u0 u1 u2 u3 u4 i_words i_hill_orders v22 i_tiring i_barred i_pile)[i]?) = (wd_Judge_push cA q0 q1 q2 q3 i_tiring i_barred v22 i_pile).map some := rfl
          refine xv_afterV (ws' := (wd_Judge_hear cA q0 q1 q2 q3 q4 q5 q6 q7 q8 q9 q10 q11 q12 u0 u1 u2 u3 u4 i_words i_hill_orders v26 i_tiring i_barred a27)) (isC := [0, 3]) (ps := [some 0, none, none, some 1, none]) (va_runV (As := [.int (Int32.ofInt v25)]) (rest := []) ⟨hx, hb, hml, hown, hts⟩ (c_Judge_push l ev dC dI cA q0 q1 q2 q3 i_tiring i_barred hg H.size) (cwV 1 hts (zgV zw_825 zw_827 zw_15 zw_108 zw_828) rfl rfl rfl hd_Judge_push ⟨Nat.le_of_ble_eq_true rfl, Nat.le_of_ble_eq_true rfl⟩) (xv_preV (T := TX3) (N := 6) hE hA hS hK hP hD (isC := [0, 3]) (by decide +kernel) hC (q0 := 0) (ci := 3) rfl rfl) rfl rfl hl.1 rfl (lv_room (Nat.le_of_ble_eq_true rfl)) dX3_hear_321 ⟨Nat.le_refl _, Nat.le_refl _⟩) hP hD hS hA (by decide +kernel) rfl hC rfl rfl (fun H locs hP hD hS => ?_)
          refine lv_iload hx hb dX3_hear_324 (lv_at hl 0 rfl) ?_
          refine lv_ldc (v := Int32.ofInt (-2000000000)) hx hb hown (hz _ zw_838) dX3_hear_326 ?_
          refine xi_icmp_ne (tgt := 336) hx hb dX3_hear_328 (by decide) hf (fun hf => ?_) (fun hf => ?_)
          · refine lv_iload_n hx hb dX3_hear_336 rfl (lv_at hl 6 rfl) ?_
            exact b_337 _ ih8 _ _ _ _ _ _ _ _ _ _ _ _ hf hP hD hS (lv_sub hl [3, 4, 5, 7, 8] rfl)
          · refine lv_iload hx hb dX3_hear_331 (lv_at hl 7 rfl) ?_
            refine lv_goto (tgt := 337) hx hb dX3_hear_333 (by decide) ?_
            exact b_337 _ ih8 _ _ _ _ _ _ _ _ _ _ _ _ hf hP hD hS (lv_sub hl [3, 4, 5, 7, 8] rfl)
        refine xz_if hf (fun hc hf => ?_) (fun hn5 hf => ?_)
        · refine xi_tin (tgt := 297) hx hb dX3_hear_58 hc (by decide) (by decide) rfl (by decide) ?_
          refine lv_aload_n hx hb dX3_hear_297 rfl (lv_at hl 2 rfl) ?_
          refine xe_d2 hf (fun v28 v29 hg hf => ?_)
          have hC : ([0, 3] : List Nat).map (fun i => (wd_Judge_hear cA q0 q1 q2 q3 q4 q5 q6 q7 q8 q9 q10 q11 q12 u0 u1 u2 u3 u4 i_words i_hill_orders i_piled i_tiring i_barred i_pile)[i]?) = (wd_Judge_pop cA q0 q1 q2 q3 i_tiring i_barred i_pile i_piled).map some := rfl
          refine xv_afterI (ws' := (wd_Judge_hear cA q0 q1 q2 q3 q4 q5 q6 q7 q8 q9 q10 q11 q12 u0 u1 u2 u3 u4 i_words i_hill_orders v29 i_tiring i_barred i_pile)) (isC := [0, 3]) (ps := [some 0, none, none, some 1, none]) (va_runV (As := []) (rest := []) ⟨hx, hb, hml, hown, hts⟩ (c_Judge_pop l ev dC dI cA q0 q1 q2 q3 i_tiring i_barred hg H.size) (cwV 0 hts (zgV zw_829 zw_831 zw_16 zw_108 zw_832) rfl rfl rfl hd_Judge_pop ⟨Nat.le_of_ble_eq_true rfl, Nat.le_of_ble_eq_true rfl⟩) (xv_preV (T := TX3) (N := 6) hE hA hS hK hP hD (isC := [0, 3]) (by decide +kernel) hC (q0 := 0) (ci := 3) rfl rfl) rfl rfl hl.1 rfl (lv_room (Nat.le_of_ble_eq_true rfl)) dX3_hear_298 ⟨Nat.le_refl _, Nat.le_refl _⟩) hP hD hS hA (by decide +kernel) rfl hC rfl rfl (fun H locs hP hD hS => ?_)
          refine lv_istore (lv' := [(8, .int (Int32.ofInt v28)), (7, .int (Int32.ofInt v6)), (6, .int (Int32.ofInt v3)), (0, .ref q0), (1, .int (Int32.ofInt x1)), (2, .int (Int32.ofInt x2)), (3, .int (Int32.ofInt x3)), (4, .int (Int32.ofInt x4)), (5, .int (Int32.ofInt x5))]) hx hb dX3_hear_301 hl (by decide) rfl (fun ls hl => ?_)
          refine lv_iload hx hb dX3_hear_303 (lv_at hl 2 rfl) ?_
          refine lv_aload_n hx hb dX3_hear_305 rfl (lv_at hl 3 rfl) ?_
          refine xe_d2 hf (fun v30 v31 hg hf => ?_)
          have hC : ([0, 3] : List Nat).map (fun i => (wd_Judge_hear cA q0 q1 q2 q3 q4 q5 q6 q7 q8 q9 q10 q11 q12 u0 u1 u2 u3 u4 i_words i_hill_orders v29 i_tiring i_barred i_pile)[i]?) = (wd_Judge_pop cA q0 q1 q2 q3 i_tiring i_barred i_pile v29).map some := rfl
          refine xv_afterI (ws' := (wd_Judge_hear cA q0 q1 q2 q3 q4 q5 q6 q7 q8 q9 q10 q11 q12 u0 u1 u2 u3 u4 i_words i_hill_orders v31 i_tiring i_barred i_pile)) (isC := [0, 3]) (ps := [some 0, none, none, some 1, none]) (va_runV (As := []) (rest := [.int (Int32.ofInt v3)]) ⟨hx, hb, hml, hown, hts⟩ (c_Judge_pop l ev dC dI cA q0 q1 q2 q3 i_tiring i_barred hg H.size) (cwV 0 hts (zgV zw_829 zw_831 zw_16 zw_108 zw_832) rfl rfl rfl hd_Judge_pop ⟨Nat.le_of_ble_eq_true rfl, Nat.le_of_ble_eq_true rfl⟩) (xv_preV (T := TX3) (N := 6) hE hA hS hK hP hD (isC := [0, 3]) (by decide +kernel) hC (q0 := 0) (ci := 3) rfl rfl) rfl rfl hl.1 rfl (lv_room (Nat.le_of_ble_eq_true rfl)) dX3_hear_306 ⟨Nat.le_refl _, Nat.le_refl _⟩) hP hD hS hA (by decide +kernel) rfl hC rfl rfl (fun H locs hP hD hS => ?_)
          refine xi_i2l hx hb dX3_hear_309 hf (fun v32 hf => ?_)
          refine lv_iload hx hb dX3_hear_310 (lv_at hl 0 rfl) ?_
          refine xi_i2l hx hb dX3_hear_312 hf (fun v33 hf => ?_)
          refine xe_d1 hf (fun v34 hg hf => ?_)
          have hC : ([] : List Nat).map (fun i => (wd_Judge_hear cA q0 q1 q2 q3 q4 q5 q6 q7 q8 q9 q10 q11 q12 u0 u1 u2 u3 u4 i_words i_hill_orders v31 i_tiring i_barred i_pile)[i]?) = (wd_Judge_worked cA).map some := rfl
          refine xv_afterI (ws' := (wd_Judge_hear cA q0 q1 q2 q3 q4 q5 q6 q7 q8 q9 q10 q11 q12 u0 u1 u2 u3 u4 i_words i_hill_orders v31 i_tiring i_barred i_pile)) (isC := []) (ps := [none, none, none, none, none]) (va_runS (As := [.int (Int32.ofInt v3), .long (Int64.ofInt v32), .long (Int64.ofInt v33)]) (rest := []) ⟨hx, hb, hml, hown, hts⟩ (c_Judge_worked l ev dC dI cA hg H.size) (va_cwS 3 hts (zgS zw_835 zw_836 zw_108 zw_837) rfl rfl rfl hd_Judge_worked.2 ⟨Nat.le_of_ble_eq_true rfl, Nat.le_of_ble_eq_true rfl⟩) (xv_preS hE hA hS hK hP hD (isC := []) (by decide +kernel) hC) rfl rfl hl.1 rfl (lv_room (Nat.le_of_ble_eq_true rfl)) dX3_hear_313 ⟨Nat.le_refl _, Nat.le_refl _⟩) hP hD hS hA (by decide +kernel) rfl hC rfl rfl (fun H locs hP hD hS => ?_)
          refine lv_istore (lv' := [(8, .int (Int32.ofInt v34)), (7, .int (Int32.ofInt v6)), (6, .int (Int32.ofInt v3)), (0, .ref q0), (1, .int (Int32.ofInt x1)), (2, .int (Int32.ofInt x2)), (3, .int (Int32.ofInt x3)), (4, .int (Int32.ofInt x4)), (5, .int (Int32.ofInt x5))]) hx hb dX3_hear_316 hl (by decide) rfl (fun ls hl => ?_)
          refine lv_aload_n hx hb dX3_hear_318 rfl (lv_at hl 3 rfl) ?_
          refine lv_iload hx hb dX3_hear_319 (lv_at hl 0 rfl) ?_
          refine xe_d2 hf (fun v35 a36 hg hf => ?_)
          have hC : ([0, 3] : List Nat).map (fun i => (wd_Judge_hear cA q0 q1 q2 q3 q4 q5 q6 q7 q8 q9 q10 q11 q12 u0 u1 u2 u3 u4 i_words i_hill_orders v31 i_tiring i_barred i_pile)[i]?) = (wd_Judge_push cA q0 q1 q2 q3 i_tiring i_barred v31 i_pile).map some := rfl
          refine xv_afterV (ws' := (wd_Judge_hear cA q0 q1 q2 q3 q4 q5 q6 q7 q8 q9 q10 q11 q12 u0 u1 u2 u3 u4 i_words i_hill_orders v35 i_tiring i_barred a36)) (isC := [0, 3]) (ps := [some 0, none, none, some 1, none]) (va_runV (As := [.int (Int32.ofInt v34)]) (rest := []) ⟨hx, hb, hml, hown, hts⟩ (c_Judge_push l ev dC dI cA q0 q1 q2 q3 i_tiring i_barred hg H.size) (cwV 1 hts (zgV zw_825 zw_827 zw_15 zw_108 zw_828) rfl rfl rfl hd_Judge_push ⟨Nat.le_of_ble_eq_true rfl, Nat.le_of_ble_eq_true rfl⟩) (xv_preV (T := TX3) (N := 6) hE hA hS hK hP hD (isC := [0, 3]) (by decide +kernel) hC (q0 := 0) (ci := 3) rfl rfl) rfl rfl hl.1 rfl (lv_room (Nat.le_of_ble_eq_true rfl)) dX3_hear_321 ⟨Nat.le_refl _, Nat.le_refl _⟩) hP hD hS hA (by decide +kernel) rfl hC rfl rfl (fun H locs hP hD hS => ?_)
          refine lv_iload hx hb dX3_hear_324 (lv_at hl 0 rfl) ?_
          refine lv_ldc (v := Int32.ofInt (-2000000000)) hx hb hown (hz _ zw_838) dX3_hear_326 ?_
          refine xi_icmp_ne (tgt := 336) hx hb dX3_hear_328 (by decide) hf (fun hf => ?_) (fun hf => ?_)
          · refine lv_iload_n hx hb dX3_hear_336 rfl (lv_at hl 6 rfl) ?_
            exact b_337 _ ih8 _ _ _ _ _ _ _ _ _ _ _ _ hf hP hD hS (lv_sub hl [3, 4, 5, 7, 8] rfl)
          · refine lv_iload hx hb dX3_hear_331 (lv_at hl 7 rfl) ?_
            refine lv_goto (tgt := 337) hx hb dX3_hear_333 (by decide) ?_
            exact b_337 _ ih8 _ _ _ _ _ _ _ _ _ _ _ _ hf hP hD hS (lv_sub hl [3, 4, 5, 7, 8] rfl)
        refine xz_if hf (fun hc hf => ?_) (fun hn6 hf => ?_)
        · refine xi_tin (tgt := 297) hx hb dX3_hear_58 hc (by decide) (by decide) rfl (by decide) ?_
          refine lv_aload_n hx hb dX3_hear_297 rfl (lv_at hl 2 rfl) ?_
          refine xe_d2 hf (fun v37 v38 hg hf => ?_)
          have hC : ([0, 3] : List Nat).map (fun i => (wd_Judge_hear cA q0 q1 q2 q3 q4 q5 q6 q7 q8 q9 q10 q11 q12 u0 u1 u2 u3 u4 i_words i_hill_orders i_piled i_tiring i_barred i_pile)[i]?) = (wd_Judge_pop cA q0 q1 q2 q3 i_tiring i_barred i_pile i_piled).map some := rfl
          refine xv_afterI (ws' := (wd_Judge_hear cA q0 q1 q2 q3 q4 q5 q6 q7 q8 q9 q10 q11 q12 u0 u1 u2 u3 u4 i_words i_hill_orders v38 i_tiring i_barred i_pile)) (isC := [0, 3]) (ps := [some 0, none, none, some 1, none]) (va_runV (As := []) (rest := []) ⟨hx, hb, hml, hown, hts⟩ (c_Judge_pop l ev dC dI cA q0 q1 q2 q3 i_tiring i_barred hg H.size) (cwV 0 hts (zgV zw_829 zw_831 zw_16 zw_108 zw_832) rfl rfl rfl hd_Judge_pop ⟨Nat.le_of_ble_eq_true rfl, Nat.le_of_ble_eq_true rfl⟩) (xv_preV (T := TX3) (N := 6) hE hA hS hK hP hD (isC := [0, 3]) (by decide +kernel) hC (q0 := 0) (ci := 3) rfl rfl) rfl rfl hl.1 rfl (lv_room (Nat.le_of_ble_eq_true rfl)) dX3_hear_298 ⟨Nat.le_refl _, Nat.le_refl _⟩) hP hD hS hA (by decide +kernel) rfl hC rfl rfl (fun H locs hP hD hS => ?_)
          refine lv_istore (lv' := [(8, .int (Int32.ofInt v37)), (7, .int (Int32.ofInt v6)), (6, .int (Int32.ofInt v3)), (0, .ref q0), (1, .int (Int32.ofInt x1)), (2, .int (Int32.ofInt x2)), (3, .int (Int32.ofInt x3)), (4, .int (Int32.ofInt x4)), (5, .int (Int32.ofInt x5))]) hx hb dX3_hear_301 hl (by decide) rfl (fun ls hl => ?_)
          refine lv_iload hx hb dX3_hear_303 (lv_at hl 2 rfl) ?_
          refine lv_aload_n hx hb dX3_hear_305 rfl (lv_at hl 3 rfl) ?_
          refine xe_d2 hf (fun v39 v40 hg hf => ?_)
          have hC : ([0, 3] : List Nat).map (fun i => (wd_Judge_hear cA q0 q1 q2 q3 q4 q5 q6 q7 q8 q9 q10 q11 q12 u0 u1 u2 u3 u4 i_words i_hill_orders v38 i_tiring i_barred i_pile)[i]?) = (wd_Judge_pop cA q0 q1 q2 q3 i_tiring i_barred i_pile v38).map some := rfl
          refine xv_afterI (ws' := (wd_Judge_hear cA q0 q1 q2 q3 q4 q5 q6 q7 q8 q9 q10 q11 q12 u0 u1 u2 u3 u4 i_words i_hill_orders v40 i_tiring i_barred i_pile)) (isC := [0, 3]) (ps := [some 0, none, none, some 1, none]) (va_runV (As := []) (rest := [.int (Int32.ofInt v3)]) ⟨hx, hb, hml, hown, hts⟩ (c_Judge_pop l ev dC dI cA q0 q1 q2 q3 i_tiring i_barred hg H.size) (cwV 0 hts (zgV zw_829 zw_831 zw_16 zw_108 zw_832) rfl rfl rfl hd_Judge_pop ⟨Nat.le_of_ble_eq_true rfl, Nat.le_of_ble_eq_true rfl⟩) (xv_preV (T := TX3) (N := 6) hE hA hS hK hP hD (isC := [0, 3]) (by decide +kernel) hC (q0 := 0) (ci := 3) rfl rfl) rfl rfl hl.1 rfl (lv_room (Nat.le_of_ble_eq_true rfl)) dX3_hear_306 ⟨Nat.le_refl _, Nat.le_refl _⟩) hP hD hS hA (by decide +kernel) rfl hC rfl rfl (fun H locs hP hD hS => ?_)
          refine xi_i2l hx hb dX3_hear_309 hf (fun v41 hf => ?_)
          refine lv_iload hx hb dX3_hear_310 (lv_at hl 0 rfl) ?_
          refine xi_i2l hx hb dX3_hear_312 hf (fun v42 hf => ?_)
          refine xe_d1 hf (fun v43 hg hf => ?_)
          have hC : ([] : List Nat).map (fun i => (wd_Judge_hear cA q0 q1 q2 q3 q4 q5 q6 q7 q8 q9 q10 q11 q12 u0 u1 u2 u3 u4 i_words i_hill_orders v40 i_tiring i_barred i_pile)[i]?) = (wd_Judge_worked cA).map some := rfl
          refine xv_afterI (ws' := (wd_Judge_hear cA q0 q1 q2 q3 q4 q5 q6 q7 q8 q9 q10 q11 q12 u0 u1 u2 u3 u4 i_words i_hill_orders v40 i_tiring i_barred i_pile)) (isC := []) (ps := [none, none, none, none, none]) (va_runS (As := [.int (Int32.ofInt v3), .long (Int64.ofInt v41), .long (Int64.ofInt v42)]) (rest := []) ⟨hx, hb, hml, hown, hts⟩ (c_Judge_worked l ev dC dI cA hg H.size) (va_cwS 3 hts (zgS zw_835 zw_836 zw_108 zw_837) rfl rfl rfl hd_Judge_worked.2 ⟨Nat.le_of_ble_eq_true rfl, Nat.le_of_ble_eq_true rfl⟩) (xv_preS hE hA hS hK hP hD (isC := []) (by decide +kernel) hC) rfl rfl hl.1 rfl (lv_room (Nat.le_of_ble_eq_true rfl)) dX3_hear_313 ⟨Nat.le_refl _, Nat.le_refl _⟩) hP hD hS hA (by decide +kernel) rfl hC rfl rfl (fun H locs hP hD hS => ?_)
          refine lv_istore (lv' := [(8, .int (Int32.ofInt v43)), (7, .int (Int32.ofInt v6)), (6, .int (Int32.ofInt v3)), (0, .ref q0), (1, .int (Int32.ofInt x1)), (2, .int (Int32.ofInt x2)), (3, .int (Int32.ofInt x3)), (4, .int (Int32.ofInt x4)), (5, .int (Int32.ofInt x5))]) hx hb dX3_hear_316 hl (by decide) rfl (fun ls hl => ?_)
          refine lv_aload_n hx hb dX3_hear_318 rfl (lv_at hl 3 rfl) ?_
          refine lv_iload hx hb dX3_hear_319 (lv_at hl 0 rfl) ?_
          refine xe_d2 hf (fun v44 a45 hg hf => ?_)
          have hC : ([0, 3] : List Nat).map (fun i => (wd_Judge_hear cA q0 q1 q2 q3 q4 q5 q6 q7 q8 q9 q10 q11 q12 u0 u1 u2 u3 u4 i_words i_hill_orders v40 i_tiring i_barred i_pile)[i]?) = (wd_Judge_push cA q0 q1 q2 q3 i_tiring i_barred v40 i_pile).map some := rfl
          refine xv_afterV (ws' := (wd_Judge_hear cA q0 q1 q2 q3 q4 q5 q6 q7 q8 q9 q10 q11 q12 u0 u1 u2 u3 u4 i_words i_hill_orders v44 i_tiring i_barred a45)) (isC := [0, 3]) (ps := [some 0, none, none, some 1, none]) (va_runV (As := [.int (Int32.ofInt v43)]) (rest := []) ⟨hx, hb, hml, hown, hts⟩ (c_Judge_push l ev dC dI cA q0 q1 q2 q3 i_tiring i_barred hg H.size) (cwV 1 hts (zgV zw_825 zw_827 zw_15 zw_108 zw_828) rfl rfl rfl hd_Judge_push ⟨Nat.le_of_ble_eq_true rfl, Nat.le_of_ble_eq_true rfl⟩) (xv_preV (T := TX3) (N := 6) hE hA hS hK hP hD (isC := [0, 3]) (by decide +kernel) hC (q0 := 0) (ci := 3) rfl rfl) rfl rfl hl.1 rfl (lv_room (Nat.le_of_ble_eq_true rfl)) dX3_hear_321 ⟨Nat.le_refl _, Nat.le_refl _⟩) hP hD hS hA (by decide +kernel) rfl hC rfl rfl (fun H locs hP hD hS => ?_)
          refine lv_iload hx hb dX3_hear_324 (lv_at hl 0 rfl) ?_
          refine lv_ldc (v := Int32.ofInt (-2000000000)) hx hb hown (hz _ zw_838) dX3_hear_326 ?_
          refine xi_icmp_ne (tgt := 336) hx hb dX3_hear_328 (by decide) hf (fun hf => ?_) (fun hf => ?_)
          · refine lv_iload_n hx hb dX3_hear_336 rfl (lv_at hl 6 rfl) ?_
            exact b_337 _ ih8 _ _ _ _ _ _ _ _ _ _ _ _ hf hP hD hS (lv_sub hl [3, 4, 5, 7, 8] rfl)
          · refine lv_iload hx hb dX3_hear_331 (lv_at hl 7 rfl) ?_
            refine lv_goto (tgt := 337) hx hb dX3_hear_333 (by decide) ?_
            exact b_337 _ ih8 _ _ _ _ _ _ _ _ _ _ _ _ hf hP hD hS (lv_sub hl [3, 4, 5, 7, 8] rfl)
        refine xz_if hf (fun hc hf => ?_) (fun hn7 hf => ?_)
        · refine xi_tin (tgt := 297) hx hb dX3_hear_58 hc (by decide) (by decide) rfl (by decide) ?_
          refine lv_aload_n hx hb dX3_hear_297 rfl (lv_at hl 2 rfl) ?_
          refine xe_d2 hf (fun v46 v47 hg hf => ?_)
          have hC : ([0, 3] : List Nat).map (fun i => (wd_Judge_hear cA q0 q1 q2 q3 q4 q5 q6 q7 q8 q9 q10 q11 q12 u0 u1 u2 u3 u4 i_words i_hill_orders i_piled i_tiring i_barred i_pile)[i]?) = (wd_Judge_pop cA q0 q1 q2 q3 i_tiring i_barred i_pile i_piled).map some := rfl
          refine xv_afterI (ws' := (wd_Judge_hear cA q0 q1 q2 q3 q4 q5 q6 q7 q8 q9 q10 q11 q12 u0 u1 u2 u3 u4 i_words i_hill_orders v47 i_tiring i_barred i_pile)) (isC := [0, 3]) (ps := [some 0, none, none, some 1, none]) (va_runV (As := []) (rest := []) ⟨hx, hb, hml, hown, hts⟩ (c_Judge_pop l ev dC dI cA q0 q1 q2 q3 i_tiring i_barred hg H.size) (cwV 0 hts (zgV zw_829 zw_831 zw_16 zw_108 zw_832) rfl rfl rfl hd_Judge_pop ⟨Nat.le_of_ble_eq_true rfl, Nat.le_of_ble_eq_true rfl⟩) (xv_preV (T := TX3) (N := 6) hE hA hS hK hP hD (isC := [0, 3]) (by decide +kernel) hC (q0 := 0) (ci := 3) rfl rfl) rfl rfl hl.1 rfl (lv_room (Nat.le_of_ble_eq_true rfl)) dX3_hear_298 ⟨Nat.le_refl _, Nat.le_refl _⟩) hP hD hS hA (by decide +kernel) rfl hC rfl rfl (fun H locs hP hD hS => ?_)
          refine lv_istore (lv' := [(8, .int (Int32.ofInt v46)), (7, .int (Int32.ofInt v6)), (6, .int (Int32.ofInt v3)), (0, .ref q0), (1, .int (Int32.ofInt x1)), (2, .int (Int32.ofInt x2)), (3, .int (Int32.ofInt x3)), (4, .int (Int32.ofInt x4)), (5, .int (Int32.ofInt x5))]) hx hb dX3_hear_301 hl (by decide) rfl (fun ls hl => ?_)
          refine lv_iload hx hb dX3_hear_303 (lv_at hl 2 rfl) ?_
          refine lv_aload_n hx hb dX3_hear_305 rfl (lv_at hl 3 rfl) ?_
          refine xe_d2 hf (fun v48 v49 hg hf => ?_)
          have hC : ([0, 3] : List Nat).map (fun i => (wd_Judge_hear cA q0 q1 q2 q3 q4 q5 q6 q7 q8 q9 q10 q11 q12 u0 u1 u2 u3 u4 i_words i_hill_orders v47 i_tiring i_barred i_pile)[i]?) = (wd_Judge_pop cA q0 q1 q2 q3 i_tiring i_barred i_pile v47).map some := rfl
          refine xv_afterI (ws' := (wd_Judge_hear cA q0 q1 q2 q3 q4 q5 q6 q7 q8 q9 q10 q11 q12 u0 u1 u2 u3 u4 i_words i_hill_orders v49 i_tiring i_barred i_pile)) (isC := [0, 3]) (ps := [some 0, none, none, some 1, none]) (va_runV (As := []) (rest := [.int (Int32.ofInt v3)]) ⟨hx, hb, hml, hown, hts⟩ (c_Judge_pop l ev dC dI cA q0 q1 q2 q3 i_tiring i_barred hg H.size) (cwV 0 hts (zgV zw_829 zw_831 zw_16 zw_108 zw_832) rfl rfl rfl hd_Judge_pop ⟨Nat.le_of_ble_eq_true rfl, Nat.le_of_ble_eq_true rfl⟩) (xv_preV (T := TX3) (N := 6) hE hA hS hK hP hD (isC := [0, 3]) (by decide +kernel) hC (q0 := 0) (ci := 3) rfl rfl) rfl rfl hl.1 rfl (lv_room (Nat.le_of_ble_eq_true rfl)) dX3_hear_306 ⟨Nat.le_refl _, Nat.le_refl _⟩) hP hD hS hA (by decide +kernel) rfl hC rfl rfl (fun H locs hP hD hS => ?_)
          refine xi_i2l hx hb dX3_hear_309 hf (fun v50 hf => ?_)
          refine lv_iload hx hb dX3_hear_310 (lv_at hl 0 rfl) ?_
          refine xi_i2l hx hb dX3_hear_312 hf (fun v51 hf => ?_)
          refine xe_d1 hf (fun v52 hg hf => ?_)
          have hC : ([] : List Nat).map (fun i => (wd_Judge_hear cA q0 q1 q2 q3 q4 q5 q6 q7 q8 q9 q10 q11 q12 u0 u1 u2 u3 u4 i_words i_hill_orders v49 i_tiring i_barred i_pile)[i]?) = (wd_Judge_worked cA).map some := rfl
          refine xv_afterI (ws' := (wd_Judge_hear cA q0 q1 q2 q3 q4 q5 q6 q7 q8 q9 q10 q11 q12 u0 u1 u2 u3 u4 i_words i_hill_orders v49 i_tiring i_barred i_pile)) (isC := []) (ps := [none, none, none, none, none]) (va_runS (As := [.int (Int32.ofInt v3), .long (Int64.ofInt v50), .long (Int64.ofInt v51)]) (rest := []) ⟨hx, hb, hml, hown, hts⟩ (c_Judge_worked l ev dC dI cA hg H.size) (va_cwS 3 hts (zgS zw_835 zw_836 zw_108 zw_837) rfl rfl rfl hd_Judge_worked.2 ⟨Nat.le_of_ble_eq_true rfl, Nat.le_of_ble_eq_true rfl⟩) (xv_preS hE hA hS hK hP hD (isC := []) (by decide +kernel) hC) rfl rfl hl.1 rfl (lv_room (Nat.le_of_ble_eq_true rfl)) dX3_hear_313 ⟨Nat.le_refl _, Nat.le_refl _⟩) hP hD hS hA (by decide +kernel) rfl hC rfl rfl (fun H locs hP hD hS => ?_)
          refine lv_istore (lv' := [(8, .int (Int32.ofInt v52)), (7, .int (Int32.ofInt v6)), (6, .int (Int32.ofInt v3)), (0, .ref q0), (1, .int (Int32.ofInt x1)), (2, .int (Int32.ofInt x2)), (3, .int (Int32.ofInt x3)), (4, .int (Int32.ofInt x4)), (5, .int (Int32.ofInt x5))]) hx hb dX3_hear_316 hl (by decide) rfl (fun ls hl => ?_)
          refine lv_aload_n hx hb dX3_hear_318 rfl (lv_at hl 3 rfl) ?_
          refine lv_iload hx hb dX3_hear_319 (lv_at hl 0 rfl) ?_
          refine xe_d2 hf (fun v53 a54 hg hf => ?_)
          have hC : ([0, 3] : List Nat).map (fun i => (wd_Judge_hear cA q0 q1 q2 q3 q4 q5 q6 q7 q8 q9 q10 q11 q12 u0 u1 u2 u3 u4 i_words i_hill_orders v49 i_tiring i_barred i_pile)[i]?) = (wd_Judge_push cA q0 q1 q2 q3 i_tiring i_barred v49 i_pile).map some := rfl
          refine xv_afterV (ws' := (wd_Judge_hear cA q0 q1 q2 q3 q4 q5 q6 q7 q8 q9 q10 q11 q12 u0 u1 u2 u3 u4 i_words i_hill_orders v53 i_tiring i_barred a54)) (isC := [0, 3]) (ps := [some 0, none, none, some 1, none]) (va_runV (As := [.int (Int32.ofInt v52)]) (rest := []) ⟨hx, hb, hml, hown, hts⟩ (c_Judge_push l ev dC dI cA q0 q1 q2 q3 i_tiring i_barred hg H.size) (cwV 1 hts (zgV zw_825 zw_827 zw_15 zw_108 zw_828) rfl rfl rfl hd_Judge_push ⟨Nat.le_of_ble_eq_true rfl, Nat.le_of_ble_eq_true rfl⟩) (xv_preV (T := TX3) (N := 6) hE hA hS hK hP hD (isC := [0, 3]) (by decide +kernel) hC (q0 := 0) (ci := 3) rfl rfl) rfl rfl hl.1 rfl (lv_room (Nat.le_of_ble_eq_true rfl)) dX3_hear_321 ⟨Nat.le_refl _, Nat.le_refl _⟩) hP hD hS hA (by decide +kernel) rfl hC rfl rfl (fun H locs hP hD hS => ?_)
          refine lv_iload hx hb dX3_hear_324 (lv_at hl 0 rfl) ?_
          refine lv_ldc (v := Int32.ofInt (-2000000000)) hx hb hown (hz _ zw_838) dX3_hear_326 ?_
          refine xi_icmp_ne (tgt := 336) hx hb dX3_hear_328 (by decide) hf (fun hf => ?_) (fun hf => ?_)
          · refine lv_iload_n hx hb dX3_hear_336 rfl (lv_at hl 6 rfl) ?_
            exact b_337 _ ih8 _ _ _ _ _ _ _ _ _ _ _ _ hf hP hD hS (lv_sub hl [3, 4, 5, 7, 8] rfl)
          · refine lv_iload hx hb dX3_hear_331 (lv_at hl 7 rfl) ?_
            refine lv_goto (tgt := 337) hx hb dX3_hear_333 (by decide) ?_
            exact b_337 _ ih8 _ _ _ _ _ _ _ _ _ _ _ _ hf hP hD hS (lv_sub hl [3, 4, 5, 7, 8] rfl)
        refine xz_if hf (fun hc hf => ?_) (fun hn8 hf => ?_)
        · refine xi_tin (tgt := 297) hx hb dX3_hear_58 hc (by decide) (by decide) rfl (by decide) ?_
          refine lv_aload_n hx hb dX3_hear_297 rfl (lv_at hl 2 rfl) ?_
          refine xe_d2 hf (fun v55 v56 hg hf => ?_)
          have hC : ([0, 3] : List Nat).map (fun i => (wd_Judge_hear cA q0 q1 q2 q3 q4 q5 q6 q7 q8 q9 q10 q11 q12 u0 u1 u2 u3 u4 i_words i_hill_orders i_piled i_tiring i_barred i_pile)[i]?) = (wd_Judge_pop cA q0 q1 q2 q3 i_tiring i_barred i_pile i_piled).map some := rfl
          refine xv_afterI (ws' := (wd_Judge_hear cA q0 q1 q2 q3 q4 q5 q6 q7 q8 q9 q10 q11 q12 u0 u1 u2 u3 u4 i_words i_hill_orders v56 i_tiring i_barred i_pile)) (isC := [0, 3]) (ps := [some 0, none, none, some 1, none]) (va_runV (As := []) (rest := []) ⟨hx, hb, hml, hown, hts⟩ (c_Judge_pop l ev dC dI cA q0 q1 q2 q3 i_tiring i_barred hg H.size) (cwV 0 hts (zgV zw_829 zw_831 zw_16 zw_108 zw_832) rfl rfl rfl hd_Judge_pop ⟨Nat.le_of_ble_eq_true rfl, Nat.le_of_ble_eq_true rfl⟩) (xv_preV (T := TX3) (N := 6) hE hA hS hK hP hD (isC := [0, 3]) (by decide +kernel) hC (q0 := 0) (ci := 3) rfl rfl) rfl rfl hl.1 rfl (lv_room (Nat.le_of_ble_eq_true rfl)) dX3_hear_298 ⟨Nat.le_refl _, Nat.le_refl _⟩) hP hD hS hA (by decide +kernel) rfl hC rfl rfl (fun H locs hP hD hS => ?_)
          refine lv_istore (lv' := [(8, .int (Int32.ofInt v55)), (7, .int (Int32.ofInt v6)), (6, .int (Int32.ofInt v3)), (0, .ref q0), (1, .int (Int32.ofInt x1)), (2, .int (Int32.ofInt x2)), (3, .int (Int32.ofInt x3)), (4, .int (Int32.ofInt x4)), (5, .int (Int32.ofInt x5))]) hx hb dX3_hear_301 hl (by decide) rfl (fun ls hl => ?_)
          refine lv_iload hx hb dX3_hear_303 (lv_at hl 2 rfl) ?_
          refine lv_aload_n hx hb dX3_hear_305 rfl (lv_at hl 3 rfl) ?_
          refine xe_d2 hf (fun v57 v58 hg hf => ?_)
          have hC : ([0, 3] : List Nat).map (fun i => (wd_Judge_hear cA q0 q1 q2 q3 q4 q5 q6 q7 q8 q9 q10 q11 q12 u0 u1 u2 u3 u4 i_words i_hill_orders v56 i_tiring i_barred i_pile)[i]?) = (wd_Judge_pop cA q0 q1 q2 q3 i_tiring i_barred i_pile v56).map some := rfl
          refine xv_afterI (ws' := (wd_Judge_hear cA q0 q1 q2 q3 q4 q5 q6 q7 q8 q9 q10 q11 q12 u0 u1 u2 u3 u4 i_words i_hill_orders v58 i_tiring i_barred i_pile)) (isC := [0, 3]) (ps := [some 0, none, none, some 1, none]) (va_runV (As := []) (rest := [.int (Int32.ofInt v3)]) ⟨hx, hb, hml, hown, hts⟩ (c_Judge_pop l ev dC dI cA q0 q1 q2 q3 i_tiring i_barred hg H.size) (cwV 0 hts (zgV zw_829 zw_831 zw_16 zw_108 zw_832) rfl rfl rfl hd_Judge_pop ⟨Nat.le_of_ble_eq_true rfl, Nat.le_of_ble_eq_true rfl⟩) (xv_preV (T := TX3) (N := 6) hE hA hS hK hP hD (isC := [0, 3]) (by decide +kernel) hC (q0 := 0) (ci := 3) rfl rfl) rfl rfl hl.1 rfl (lv_room (Nat.le_of_ble_eq_true rfl)) dX3_hear_306 ⟨Nat.le_refl _, Nat.le_refl _⟩) hP hD hS hA (by decide +kernel) rfl hC rfl rfl (fun H locs hP hD hS => ?_)
          refine xi_i2l hx hb dX3_hear_309 hf (fun v59 hf => ?_)
          refine lv_iload hx hb dX3_hear_310 (lv_at hl 0 rfl) ?_
          refine xi_i2l hx hb dX3_hear_312 hf (fun v60 hf => ?_)
          refine xe_d1 hf (fun v61 hg hf => ?_)
          have hC : ([] : List Nat).map (fun i => (wd_Judge_hear cA q0 q1 q2 q3 q4 q5 q6 q7 q8 q9 q10 q11 q12 u0 u1 u2 u3 u4 i_words i_hill_orders v58 i_tiring i_barred i_pile)[i]?) = (wd_Judge_worked cA).map some := rfl
          refine xv_afterI (ws' := (wd_Judge_hear cA q0 q1 q2 q3 q4 q5 q6 q7 q8 q9 q10 q11 q12 u0 u1 u2 u3 u4 i_words i_hill_orders v58 i_tiring i_barred i_pile)) (isC := []) (ps := [none, none, none, none, none]) (va_runS (As := [.int (Int32.ofInt v3), .long (Int64.ofInt v59), .long (Int64.ofInt v60)]) (rest := []) ⟨hx, hb, hml, hown, hts⟩ (c_Judge_worked l ev dC dI cA hg H.size) (va_cwS 3 hts (zgS zw_835 zw_836 zw_108 zw_837) rfl rfl rfl hd_Judge_worked.2 ⟨Nat.le_of_ble_eq_true rfl, Nat.le_of_ble_eq_true rfl⟩) (xv_preS hE hA hS hK hP hD (isC := []) (by decide +kernel) hC) rfl rfl hl.1 rfl (lv_room (Nat.le_of_ble_eq_true rfl)) dX3_hear_313 ⟨Nat.le_refl _, Nat.le_refl _⟩) hP hD hS hA (by decide +kernel) rfl hC rfl rfl (fun H locs hP hD hS => ?_)
          refine lv_istore (lv' := [(8, .int (Int32.ofInt v61)), (7, .int (Int32.ofInt v6)), (6, .int (Int32.ofInt v3)), (0, .ref q0), (1, .int (Int32.ofInt x1)), (2, .int (Int32.ofInt x2)), (3, .int (Int32.ofInt x3)), (4, .int (Int32.ofInt x4)), (5, .int (Int32.ofInt x5))]) hx hb dX3_hear_316 hl (by decide) rfl (fun ls hl => ?_)
          refine lv_aload_n hx hb dX3_hear_318 rfl (lv_at hl 3 rfl) ?_
          refine lv_iload hx hb dX3_hear_319 (lv_at hl 0 rfl) ?_
          refine xe_d2 hf (fun v62 a63 hg hf => ?_)
          have hC : ([0, 3] : List Nat).map (fun i => (wd_Judge_hear cA q0 q1 q2 q3 q4 q5 q6 q7 q8 q9 q10 q11 q12 u0 u1 u2 u3 u4 i_words i_hill_orders v58 i_tiring i_barred i_pile)[i]?) = (wd_Judge_push cA q0 q1 q2 q3 i_tiring i_barred v58 i_pile).map some := rfl
          refine xv_afterV (ws' := (wd_Judge_hear cA q0 q1 q2 q3 q4 q5 q6 q7 q8 q9 q10 q11 q12 u0 u1 u2 u3 u4 i_words i_hill_orders v62 i_tiring i_barred a63)) (isC := [0, 3]) (ps := [some 0, none, none, some 1, none]) (va_runV (As := [.int (Int32.ofInt v61)]) (rest := []) ⟨hx, hb, hml, hown, hts⟩ (c_Judge_push l ev dC dI cA q0 q1 q2 q3 i_tiring i_barred hg H.size) (cwV 1 hts (zgV zw_825 zw_827 zw_15 zw_108 zw_828) rfl rfl rfl hd_Judge_push ⟨Nat.le_of_ble_eq_true rfl, Nat.le_of_ble_eq_true rfl⟩) (xv_preV (T := TX3) (N := 6) hE hA hS hK hP hD (isC := [0, 3]) (by decide +kernel) hC (q0 := 0) (ci := 3) rfl rfl) rfl rfl hl.1 rfl (lv_room (Nat.le_of_ble_eq_true rfl)) dX3_hear_321 ⟨Nat.le_refl _, Nat.le_refl _⟩) hP hD hS hA (by decide +kernel) rfl hC rfl rfl (fun H locs hP hD hS => ?_)
          refine lv_iload hx hb dX3_hear_324 (lv_at hl 0 rfl) ?_
          refine lv_ldc (v := Int32.ofInt (-2000000000)) hx hb hown (hz _ zw_838) dX3_hear_326 ?_
          refine xi_icmp_ne (tgt := 336) hx hb dX3_hear_328 (by decide) hf (fun hf => ?_) (fun hf => ?_)
          · refine lv_iload_n hx hb dX3_hear_336 rfl (lv_at hl 6 rfl) ?_
            exact b_337 _ ih8 _ _ _ _ _ _ _ _ _ _ _ _ hf hP hD hS (lv_sub hl [3, 4, 5, 7, 8] rfl)
          · refine lv_iload hx hb dX3_hear_331 (lv_at hl 7 rfl) ?_
            refine lv_goto (tgt := 337) hx hb dX3_hear_333 (by decide) ?_
            exact b_337 _ ih8 _ _ _ _ _ _ _ _ _ _ _ _ hf hP hD hS (lv_sub hl [3, 4, 5, 7, 8] rfl)
        refine xz_if hf (fun hc hf => ?_) (fun hn9 hf => ?_)
        · refine xi_tin (tgt := 297) hx hb dX3_hear_58 hc (by decide) (by decide) rfl (by decide) ?_
          refine lv_aload_n hx hb dX3_hear_297 rfl (lv_at hl 2 rfl) ?_
          refine xe_d2 hf (fun v64 v65 hg hf => ?_)
          have hC : ([0, 3] : List Nat).map (fun i => (wd_Judge_hear cA q0 q1 q2 q3 q4 q5 q6 q7 q8 q9 q10 q11 q12 u0 u1 u2 u3 u4 i_words i_hill_orders i_piled i_tiring i_barred i_pile)[i]?) = (wd_Judge_pop cA q0 q1 q2 q3 i_tiring i_barred i_pile i_piled).map some := rfl
          refine xv_afterI (ws' := (wd_Judge_hear cA q0 q1 q2 q3 q4 q5 q6 q7 q8 q9 q10 q11 q12 u0 u1 u2 u3 u4 i_words i_hill_orders v65 i_tiring i_barred i_pile)) (isC := [0, 3]) (ps := [some 0, none, none, some 1, none]) (va_runV (As := []) (rest := []) ⟨hx, hb, hml, hown, hts⟩ (c_Judge_pop l ev dC dI cA q0 q1 q2 q3 i_tiring i_barred hg H.size) (cwV 0 hts (zgV zw_829 zw_831 zw_16 zw_108 zw_832) rfl rfl rfl hd_Judge_pop ⟨Nat.le_of_ble_eq_true rfl, Nat.le_of_ble_eq_true rfl⟩) (xv_preV (T := TX3) (N := 6) hE hA hS hK hP hD (isC := [0, 3]) (by decide +kernel) hC (q0 := 0) (ci := 3) rfl rfl) rfl rfl hl.1 rfl (lv_room (Nat.le_of_ble_eq_true rfl)) dX3_hear_298 ⟨Nat.le_refl _, Nat.le_refl _⟩) hP hD hS hA (by decide +kernel) rfl hC rfl rfl (fun H locs hP hD hS => ?_)
          refine lv_istore (lv' := [(8, .int (Int32.ofInt v64)), (7, .int (Int32.ofInt v6)), (6, .int (Int32.ofInt v3)), (0, .ref q0), (1, .int (Int32.ofInt x1)), (2, .int (Int32.ofInt x2)), (3, .int (Int32.ofInt x3)), (4, .int (Int32.ofInt x4)), (5, .int (Int32.ofInt x5))]) hx hb dX3_hear_301 hl (by decide) rfl (fun ls hl => ?_)
          refine lv_iload hx hb dX3_hear_303 (lv_at hl 2 rfl) ?_
          refine lv_aload_n hx hb dX3_hear_305 rfl (lv_at hl 3 rfl) ?_
          refine xe_d2 hf (fun v66 v67 hg hf => ?_)
          have hC : ([0, 3] : List Nat).map (fun i => (wd_Judge_hear cA q0 q1 q2 q3 q4 q5 q6 q7 q8 q9 q10 q11 q12 u0 u1 u2 u3 u4 i_words i_hill_orders v65 i_tiring i_barred i_pile)[i]?) = (wd_Judge_pop cA q0 q1 q2 q3 i_tiring i_barred i_pile v65).map some := rfl
          refine xv_afterI (ws' := (wd_Judge_hear cA q0 q1 q2 q3 q4 q5 q6 q7 q8 q9 q10 q11 q12 u0 u1 u2 u3 u4 i_words i_hill_orders v67 i_tiring i_barred i_pile)) (isC := [0, 3]) (ps := [some 0, none, none, some 1, none]) (va_runV (As := []) (rest := [.int (Int32.ofInt v3)]) ⟨hx, hb, hml, hown, hts⟩ (c_Judge_pop l ev dC dI cA q0 q1 q2 q3 i_tiring i_barred hg H.size) (cwV 0 hts (zgV zw_829 zw_831 zw_16 zw_108 zw_832) rfl rfl rfl hd_Judge_pop ⟨Nat.le_of_ble_eq_true rfl, Nat.le_of_ble_eq_true rfl⟩) (xv_preV (T := TX3) (N := 6) hE hA hS hK hP hD (isC := [0, 3]) (by decide +kernel) hC (q0 := 0) (ci := 3) rfl rfl) rfl rfl hl.1 rfl (lv_room (Nat.le_of_ble_eq_true rfl)) dX3_hear_306 ⟨Nat.le_refl _, Nat.le_refl _⟩) hP hD hS hA (by decide +kernel) rfl hC rfl rfl (fun H locs hP hD hS => ?_)
          refine xi_i2l hx hb dX3_hear_309 hf (fun v68 hf => ?_)
          refine lv_iload hx hb dX3_hear_310 (lv_at hl 0 rfl) ?_
          refine xi_i2l hx hb dX3_hear_312 hf (fun v69 hf => ?_)
          refine xe_d1 hf (fun v70 hg hf => ?_)
          have hC : ([] : List Nat).map (fun i => (wd_Judge_hear cA q0 q1 q2 q3 q4 q5 q6 q7 q8 q9 q10 q11 q12 u0 u1 u2 u3 u4 i_words i_hill_orders v67 i_tiring i_barred i_pile)[i]?) = (wd_Judge_worked cA).map some := rfl
          refine xv_afterI (ws' := (wd_Judge_hear cA q0 q1 q2 q3 q4 q5 q6 q7 q8 q9 q10 q11 q12 u0 u1 u2 u3 u4 i_words i_hill_orders v67 i_tiring i_barred i_pile)) (isC := []) (ps := [none, none, none, none, none]) (va_runS (As := [.int (Int32.ofInt v3), .long (Int64.ofInt v68), .long (Int64.ofInt v69)]) (rest := []) ⟨hx, hb, hml, hown, hts⟩ (c_Judge_worked l ev dC dI cA hg H.size) (va_cwS 3 hts (zgS zw_835 zw_836 zw_108 zw_837) rfl rfl rfl hd_Judge_worked.2 ⟨Nat.le_of_ble_eq_true rfl, Nat.le_of_ble_eq_true rfl⟩) (xv_preS hE hA hS hK hP hD (isC := []) (by decide +kernel) hC) rfl rfl hl.1 rfl (lv_room (Nat.le_of_ble_eq_true rfl)) dX3_hear_313 ⟨Nat.le_refl _, Nat.le_refl _⟩) hP hD hS hA (by decide +kernel) rfl hC rfl rfl (fun H locs hP hD hS => ?_)
          refine lv_istore (lv' := [(8, .int (Int32.ofInt v70)), (7, .int (Int32.ofInt v6)), (6, .int (Int32.ofInt v3)), (0, .ref q0), (1, .int (Int32.ofInt x1)), (2, .int (Int32.ofInt x2)), (3, .int (Int32.ofInt x3)), (4, .int (Int32.ofInt x4)), (5, .int (Int32.ofInt x5))]) hx hb dX3_hear_316 hl (by decide) rfl (fun ls hl => ?_)
          refine lv_aload_n hx hb dX3_hear_318 rfl (lv_at hl 3 rfl) ?_
          refine lv_iload hx hb dX3_hear_319 (lv_at hl 0 rfl) ?_
          refine xe_d2 hf (fun v71 a72 hg hf => ?_)
          have hC : ([0, 3] : List Nat).map (fun i => (wd_Judge_hear cA q0 q1 q2 q3 q4 q5 q6 q7 q8 q9 q10 q11 q12 u0 u1 u2 u3 u4 i_words i_hill_orders v67 i_tiring i_barred i_pile)[i]?) = (wd_Judge_push cA q0 q1 q2 q3 i_tiring i_barred v67 i_pile).map some := rfl
          refine xv_afterV (ws' := (wd_Judge_hear cA q0 q1 q2 q3 q4 q5 q6 q7 q8 q9 q10 q11 q12 u0 u1 u2 u3 u4 i_words i_hill_orders v71 i_tiring i_barred a72)) (isC := [0, 3]) (ps := [some 0, none, none, some 1, none]) (va_runV (As := [.int (Int32.ofInt v70)]) (rest := []) ⟨hx, hb, hml, hown, hts⟩ (c_Judge_push l ev dC dI cA q0 q1 q2 q3 i_tiring i_barred hg H.size) (cwV 1 hts (zgV zw_825 zw_827 zw_15 zw_108 zw_828) rfl rfl rfl hd_Judge_push ⟨Nat.le_of_ble_eq_true rfl, Nat.le_of_ble_eq_true rfl⟩) (xv_preV (T := TX3) (N := 6) hE hA hS hK hP hD (isC := [0, 3]) (by decide +kernel) hC (q0 := 0) (ci := 3) rfl rfl) rfl rfl hl.1 rfl (lv_room (Nat.le_of_ble_eq_true rfl)) dX3_hear_321 ⟨Nat.le_refl _, Nat.le_refl _⟩) hP hD hS hA (by decide +kernel) rfl hC rfl rfl (fun H locs hP hD hS => ?_)
          refine lv_iload hx hb dX3_hear_324 (lv_at hl 0 rfl) ?_
          refine lv_ldc (v := Int32.ofInt (-2000000000)) hx hb hown (hz _ zw_838) dX3_hear_326 ?_
          refine xi_icmp_ne (tgt := 336) hx hb dX3_hear_328 (by decide) hf (fun hf => ?_) (fun hf => ?_)
          · refine lv_iload_n hx hb dX3_hear_336 rfl (lv_at hl 6 rfl) ?_
            exact b_337 _ ih8 _ _ _ _ _ _ _ _ _ _ _ _ hf hP hD hS (lv_sub hl [3, 4, 5, 7, 8] rfl)
          · refine lv_iload hx hb dX3_hear_331 (lv_at hl 7 rfl) ?_
            refine lv_goto (tgt := 337) hx hb dX3_hear_333 (by decide) ?_
            exact b_337 _ ih8 _ _ _ _ _ _ _ _ _ _ _ _ hf hP hD hS (lv_sub hl [3, 4, 5, 7, 8] rfl)
        refine xz_if hf (fun hc hf => ?_) (fun hn10 hf => ?_)
        · refine xi_tin (tgt := 183) hx hb dX3_hear_58 hc (by decide) (by decide) rfl (by decide) ?_
          refine lv_aload_n hx hb dX3_hear_183 rfl (lv_at hl 2 rfl) ?_
          refine lv_iconst (v := Int32.ofInt 1) hx hb dX3_hear_184 rfl ?_
          refine lv_aload_n hx hb dX3_hear_185 rfl (lv_at hl 2 rfl) ?_
          refine xe_d2 hf (fun v73 v74 hg hf => ?_)
          have hC : ([0, 3] : List Nat).map (fun i => (wd_Judge_hear cA q0 q1 q2 q3 q4 q5 q6 q7 q8 q9 q10 q11 q12 u0 u1 u2 u3 u4 i_words i_hill_orders i_piled i_tiring i_barred i_pile)[i]?) = (wd_Judge_pop cA q0 q1 q2 q3 i_tiring i_barred i_pile i_piled).map some := rfl
          refine xv_afterI (ws' := (wd_Judge_hear cA q0 q1 q2 q3 q4 q5 q6 q7 q8 q9 q10 q11 q12 u0 u1 u2 u3 u4 i_words i_hill_orders v74 i_tiring i_barred i_pile)) (isC := [0, 3]) (ps := [some 0, none, none, some 1, none]) (va_runV (As := []) (rest := [.int (Int32.ofInt 1), .ref q0]) ⟨hx, hb, hml, hown, hts⟩ (c_Judge_pop l ev dC dI cA q0 q1 q2 q3 i_tiring i_barred hg H.size) (cwV 0 hts (zgV zw_829 zw_831 zw_16 zw_108 zw_832) rfl rfl rfl hd_Judge_pop ⟨Nat.le_of_ble_eq_true rfl, Nat.le_of_ble_eq_true rfl⟩) (xv_preV (T := TX3) (N := 6) hE hA hS hK hP hD (isC := [0, 3]) (by decide +kernel) hC (q0 := 0) (ci := 3) rfl rfl) rfl rfl hl.1 rfl (lv_room (Nat.le_of_ble_eq_true rfl)) dX3_hear_186 ⟨Nat.le_refl _, Nat.le_refl _⟩) hP hD hS hA (by decide +kernel) rfl hC rfl rfl (fun H locs hP hD hS => ?_)
          refine xi_isub hx hb dX3_hear_189 hf (fun v75 hf => ?_)
          refine xe_d2 hf (fun v76 a77 hg hf => ?_)
          have hC : ([0, 3] : List Nat).map (fun i => (wd_Judge_hear cA q0 q1 q2 q3 q4 q5 q6 q7 q8 q9 q10 q11 q12 u0 u1 u2 u3 u4 i_words i_hill_orders v74 i_tiring i_barred i_pile)[i]?) = (wd_Judge_push cA q0 q1 q2 q3 i_tiring i_barred v74 i_pile).map some := rfl
          refine xv_afterV (ws' := (wd_Judge_hear cA q0 q1 q2 q3 q4 q5 q6 q7 q8 q9 q10 q11 q12 u0 u1 u2 u3 u4 i_words i_hill_orders v76 i_tiring i_barred a77)) (isC := [0, 3]) (ps := [some 0, none, none, some 1, none]) (va_runV (As := [.int (Int32.ofInt v75)]) (rest := []) ⟨hx, hb, hml, hown, hts⟩ (c_Judge_push l ev dC dI cA q0 q1 q2 q3 i_tiring i_barred hg H.size) (cwV 1 hts (zgV zw_825 zw_827 zw_15 zw_108 zw_828) rfl rfl rfl hd_Judge_push ⟨Nat.le_of_ble_eq_true rfl, Nat.le_of_ble_eq_true rfl⟩) (xv_preV (T := TX3) (N := 6) hE hA hS hK hP hD (isC := [0, 3]) (by decide +kernel) hC (q0 := 0) (ci := 3) rfl rfl) rfl rfl hl.1 rfl (lv_room (Nat.le_of_ble_eq_true rfl)) dX3_hear_190 ⟨Nat.le_refl _, Nat.le_refl _⟩) hP hD hS hA (by decide +kernel) rfl hC rfl rfl (fun H locs hP hD hS => ?_)
          refine lv_goto (tgt := 338) hx hb dX3_hear_193 (by decide) ?_
          exact b_338 _ ih8 _ _ _ _ _ _ _ _ _ _ _ _ hf hP hD hS (lv_sub hl [2, 3, 4, 5, 6, 7] rfl)
        refine xz_if hf (fun hc hf => ?_) (fun hn11 hf => ?_)
        · refine xi_tin (tgt := 196) hx hb dX3_hear_58 hc (by decide) (by decide) rfl (by decide) ?_
          refine lv_aload_n hx hb dX3_hear_196 rfl (lv_at hl 2 rfl) ?_
          refine xe_d2 hf (fun v78 v79 hg hf => ?_)
          have hC : ([0, 3] : List Nat).map (fun i => (wd_Judge_hear cA q0 q1 q2 q3 q4 q5 q6 q7 q8 q9 q10 q11 q12 u0 u1 u2 u3 u4 i_words i_hill_orders i_piled i_tiring i_barred i_pile)[i]?) = (wd_Judge_pop cA q0 q1 q2 q3 i_tiring i_barred i_pile i_piled).map some := rfl
          refine xv_afterI (ws' := (wd_Judge_hear cA q0 q1 q2 q3 q4 q5 q6 q7 q8 q9 q10 q11 q12 u0 u1 u2 u3 u4 i_words i_hill_orders v79 i_tiring i_barred i_pile)) (isC := [0, 3]) (ps := [some 0, none, none, some 1, none]) (va_runV (As := []) (rest := []) ⟨hx, hb, hml, hown, hts⟩ (c_Judge_pop l ev dC dI cA q0 q1 q2 q3 i_tiring i_barred hg H.size) (cwV 0 hts (zgV zw_829 zw_831 zw_16 zw_108 zw_832) rfl rfl rfl hd_Judge_pop ⟨Nat.le_of_ble_eq_true rfl, Nat.le_of_ble_eq_true rfl⟩) (xv_preV (T := TX3) (N := 6) hE hA hS hK hP hD (isC := [0, 3]) (by decide +kernel) hC (q0 := 0) (ci := 3) rfl rfl) rfl rfl hl.1 rfl (lv_room (Nat.le_of_ble_eq_true rfl)) dX3_hear_197 ⟨Nat.le_refl _, Nat.le_refl _⟩) hP hD hS hA (by decide +kernel) rfl hC rfl rfl (fun H locs hP hD hS => ?_)
          refine lv_istore (lv' := [(8, .int (Int32.ofInt v78)), (7, .int (Int32.ofInt v6)), (6, .int (Int32.ofInt v3)), (0, .ref q0), (1, .int (Int32.ofInt x1)), (2, .int (Int32.ofInt x2)), (3, .int (Int32.ofInt x3)), (4, .int (Int32.ofInt x4)), (5, .int (Int32.ofInt x5))]) hx hb dX3_hear_200 hl (by decide) rfl (fun ls hl => ?_)
          refine lv_iload hx hb dX3_hear_202 (lv_at hl 0 rfl) ?_
          refine lv_iload hx hb dX3_hear_204 (lv_at hl 2 rfl) ?_
          refine lv_bipush (v := Int32.ofInt 12) hx hb dX3_hear_206 (by decide) ?_
          refine xi_icmp_ne (tgt := 215) hx hb dX3_hear_208 (by decide) hf (fun hf => ?_) (fun hf => ?_)
          · refine lv_iconst (v := Int32.ofInt 0) hx hb dX3_hear_215 rfl ?_
            exact b_216 _ ih8 _ _ _ _ _ _ _ _ _ _ _ _ _ _ _ _ hf hP hD hS (lv_sub hl [3, 4, 5, 6, 7, 8, 1, 0] rfl)
          · refine lv_iconst (v := Int32.ofInt 1) hx hb dX3_hear_211 rfl ?_
            refine lv_goto (tgt := 216) hx hb dX3_hear_212 (by decide) ?_
            exact b_216 _ ih8 _ _ _ _ _ _ _ _ _ _ _ _ _ _ _ _ hf hP hD hS (lv_sub hl [3, 4, 5, 6, 7, 8, 1, 0] rfl)
        refine xz_if hf (fun hc hf => ?_) (fun hn12 hf => ?_)
        · refine xi_tin (tgt := 196) hx hb dX3_hear_58 hc (by decide) (by decide) rfl (by decide) ?_
          refine lv_aload_n hx hb dX3_hear_196 rfl (lv_at hl 2 rfl) ?_
          refine xe_d2 hf (fun v80 v81 hg hf => ?_)
          have hC : ([0, 3] : List Nat).map (fun i => (wd_Judge_hear cA q0 q1 q2 q3 q4 q5 q6 q7 q8 q9 q10 q11 q12 u0 u1 u2 u3 u4 i_words i_hill_orders i_piled i_tiring i_barred i_pile)[i]?) = (wd_Judge_pop cA q0 q1 q2 q3 i_tiring i_barred i_pile i_piled).map some := rfl
          refine xv_afterI (ws' := (wd_Judge_hear cA q0 q1 q2 q3 q4 q5 q6 q7 q8 q9 q10 q11 q12 u0 u1 u2 u3 u4 i_words i_hill_orders v81 i_tiring i_barred i_pile)) (isC := [0, 3]) (ps := [some 0, none, none, some 1, none]) (va_runV (As := []) (rest := []) ⟨hx, hb, hml, hown, hts⟩ (c_Judge_pop l ev dC dI cA q0 q1 q2 q3 i_tiring i_barred hg H.size) (cwV 0 hts (zgV zw_829 zw_831 zw_16 zw_108 zw_832) rfl rfl rfl hd_Judge_pop ⟨Nat.le_of_ble_eq_true rfl, Nat.le_of_ble_eq_true rfl⟩) (xv_preV (T := TX3) (N := 6) hE hA hS hK hP hD (isC := [0, 3]) (by decide +kernel) hC (q0 := 0) (ci := 3) rfl rfl) rfl rfl hl.1 rfl (lv_room (Nat.le_of_ble_eq_true rfl)) dX3_hear_197 ⟨Nat.le_refl _, Nat.le_refl _⟩) hP hD hS hA (by decide +kernel) rfl hC rfl rfl (fun H locs hP hD hS => ?_)
          refine lv_istore (lv' := [(8, .int (Int32.ofInt v80)), (7, .int (Int32.ofInt v6)), (6, .int (Int32.ofInt v3)), (0, .ref q0), (1, .int (Int32.ofInt x1)), (2, .int (Int32.ofInt x2)), (3, .int (Int32.ofInt x3)), (4, .int (Int32.ofInt x4)), (5, .int (Int32.ofInt x5))]) hx hb dX3_hear_200 hl (by decide) rfl (fun ls hl => ?_)
          refine lv_iload hx hb dX3_hear_202 (lv_at hl 0 rfl) ?_
          refine lv_iload hx hb dX3_hear_204 (lv_at hl 2 rfl) ?_
          refine lv_bipush (v := Int32.ofInt 12) hx hb dX3_hear_206 (by decide) ?_
          refine xi_icmp_ne (tgt := 215) hx hb dX3_hear_208 (by decide) hf (fun hf => ?_) (fun hf => ?_)
          · refine lv_iconst (v := Int32.ofInt 0) hx hb dX3_hear_215 rfl ?_
            exact b_216 _ ih8 _ _ _ _ _ _ _ _ _ _ _ _ _ _ _ _ hf hP hD hS (lv_sub hl [3, 4, 5, 6, 7, 8, 1, 0] rfl)
          · refine lv_iconst (v := Int32.ofInt 1) hx hb dX3_hear_211 rfl ?_
            refine lv_goto (tgt := 216) hx hb dX3_hear_212 (by decide) ?_
            exact b_216 _ ih8 _ _ _ _ _ _ _ _ _ _ _ _ _ _ _ _ hf hP hD hS (lv_sub hl [3, 4, 5, 6, 7, 8, 1, 0] rfl)
        refine xz_if hf (fun hc hf => ?_) (fun hn13 hf => ?_)
        · refine xi_tin (tgt := 231) hx hb dX3_hear_58 hc (by decide) (by decide) rfl (by decide) ?_
          refine lv_aload_n hx hb dX3_hear_231 rfl (lv_at hl 2 rfl) ?_
          refine xe_d2 hf (fun v82 v83 hg hf => ?_)
          have hC : ([0, 3] : List Nat).map (fun i => (wd_Judge_hear cA q0 q1 q2 q3 q4 q5 q6 q7 q8 q9 q10 q11 q12 u0 u1 u2 u3 u4 i_words i_hill_orders i_piled i_tiring i_barred i_pile)[i]?) = (wd_Judge_pop cA q0 q1 q2 q3 i_tiring i_barred i_pile i_piled).map some := rfl
          refine xv_afterI (ws' := (wd_Judge_hear cA q0 q1 q2 q3 q4 q5 q6 q7 q8 q9 q10 q11 q12 u0 u1 u2 u3 u4 i_words i_hill_orders v83 i_tiring i_barred i_pile)) (isC := [0, 3]) (ps := [some 0, none, none, some 1, none]) (va_runV (As := []) (rest := []) ⟨hx, hb, hml, hown, hts⟩ (c_Judge_pop l ev dC dI cA q0 q1 q2 q3 i_tiring i_barred hg H.size) (cwV 0 hts (zgV zw_829 zw_831 zw_16 zw_108 zw_832) rfl rfl rfl hd_Judge_pop ⟨Nat.le_of_ble_eq_true rfl, Nat.le_of_ble_eq_true rfl⟩) (xv_preV (T := TX3) (N := 6) hE hA hS hK hP hD (isC := [0, 3]) (by decide +kernel) hC (q0 := 0) (ci := 3) rfl rfl) rfl rfl hl.1 rfl (lv_room (Nat.le_of_ble_eq_true rfl)) dX3_hear_232 ⟨Nat.le_refl _, Nat.le_refl _⟩) hP hD hS hA (by decide +kernel) rfl hC rfl rfl (fun H locs hP hD hS => ?_)
          refine lv_istore (lv' := [(8, .int (Int32.ofInt v82)), (7, .int (Int32.ofInt v6)), (6, .int (Int32.ofInt v3)), (0, .ref q0), (1, .int (Int32.ofInt x1)), (2, .int (Int32.ofInt x2)), (3, .int (Int32.ofInt x3)), (4, .int (Int32.ofInt x4)), (5, .int (Int32.ofInt x5))]) hx hb dX3_hear_235 hl (by decide) rfl (fun ls hl => ?_)
          refine lv_aload_n hx hb dX3_hear_237 rfl (lv_at hl 3 rfl) ?_
          refine lv_iload hx hb dX3_hear_238 (lv_at hl 0 rfl) ?_
          refine lv_iconst (v := Int32.ofInt 1) hx hb dX3_hear_240 rfl ?_
          refine xi_icmp_ne (tgt := 260) hx hb dX3_hear_241 (by decide) hf (fun hf => ?_) (fun hf => ?_)
          · refine lv_aload_n hx hb dX3_hear_260 rfl (lv_at hl 3 rfl) ?_
            refine va_get (D := (dC, dI)) (ci := 3) (v := .int (Int32.ofInt i_tiring)) (C := RX3) (T := TX3) (N := 6) hx hb hz zi_X3 hown hK hP 0 rfl rfl 4 (by decide) (hz _ zw_283) (fun _ h9 => h9) rfl dX3_hear_261 ?_
            exact b_264 _ ih8 _ _ _ _ _ _ _ _ _ _ _ _ _ hf hP hD hS (lv_sub hl [3, 4, 5, 6, 7, 8] rfl)
          · refine lv_iconst (v := Int32.ofInt 0) hx hb dX3_hear_244 rfl ?_
            refine lv_bipush (v := Int32.ofInt 99) hx hb dX3_hear_245 (by decide) ?_
            refine lv_aload_n hx hb dX3_hear_247 rfl (lv_at hl 3 rfl) ?_
            refine xe_d2 hf (fun v84 v85 hg hf => ?_)
            have hC : ([0, 3] : List Nat).map (fun i => (wd_Judge_hear cA q0 q1 q2 q3 q4 q5 q6 q7 q8 q9 q10 q11 q12 u0 u1 u2 u3 u4 i_words i_hill_orders v83 i_tiring i_barred i_pile)[i]?) = (wd_Judge_pop cA q0 q1 q2 q3 i_tiring i_barred i_pile v83).map some := rfl
            refine xv_afterI (ws' := (wd_Judge_hear cA q0 q1 q2 q3 q4 q5 q6 q7 q8 q9 q10 q11 q12 u0 u1 u2 u3 u4 i_words i_hill_orders v85 i_tiring i_barred i_pile)) (isC := [0, 3]) (ps := [some 0, none, none, some 1, none]) (va_runV (As := []) (rest := [.int (Int32.ofInt 99), .int (Int32.ofInt 0), .ref q0]) ⟨hx, hb, hml, hown, hts⟩ (c_Judge_pop l ev dC dI cA q0 q1 q2 q3 i_tiring i_barred hg H.size) (cwV 0 hts (zgV zw_829 zw_831 zw_16 zw_108 zw_832) rfl rfl rfl hd_Judge_pop ⟨Nat.le_of_ble_eq_true rfl, Nat.le_of_ble_eq_true rfl⟩) (xv_preV (T := TX3) (N := 6) hE hA hS hK hP hD (isC := [0, 3]) (by decide +kernel) hC (q0 := 0) (ci := 3) rfl rfl) rfl rfl hl.1 rfl (lv_room (Nat.le_of_ble_eq_true rfl)) dX3_hear_248 ⟨Nat.le_refl _, Nat.le_refl _⟩) hP hD hS hA (by decide +kernel) rfl hC rfl rfl (fun H locs hP hD hS => ?_)
            refine xi_mmin hx hb (hml.trans hl.1.symm) hown (hz _ zw_833) (hz _ zw_651) (hz _ zw_116) (hz _ zw_652) (Nat.le_of_ble_eq_true rfl) (Nat.le_of_ble_eq_true rfl) (Nat.zero_le _) (Nat.zero_le _) dX3_hear_251 hf (fun v86 hf => ?_)
            refine xi_mmax hx hb (hml.trans hl.1.symm) hown (hz _ zw_834) (hz _ zw_654) (hz _ zw_116) (hz _ zw_655) (Nat.le_of_ble_eq_true rfl) (Nat.le_of_ble_eq_true rfl) (Nat.zero_le _) (Nat.zero_le _) dX3_hear_254 hf (fun v87 hf => ?_)
            refine lv_goto (tgt := 264) hx hb dX3_hear_257 (by decide) ?_
            exact b_264 _ ih8 _ _ _ _ _ _ _ _ _ _ _ _ _ hf hP hD hS (lv_sub hl [3, 4, 5, 6, 7, 8] rfl)
        refine xz_if hf (fun hc hf => ?_) (fun hn14 hf => ?_)
        · refine xi_tin (tgt := 270) hx hb dX3_hear_58 hc (by decide) (by decide) rfl (by decide) ?_
          refine lv_aload_n hx hb dX3_hear_270 rfl (lv_at hl 2 rfl) ?_
          refine lv_aload_n hx hb dX3_hear_271 rfl (lv_at hl 2 rfl) ?_
          refine xe_d2 hf (fun v88 v89 hg hf => ?_)
          have hC : ([0, 3] : List Nat).map (fun i => (wd_Judge_hear cA q0 q1 q2 q3 q4 q5 q6 q7 q8 q9 q10 q11 q12 u0 u1 u2 u3 u4 i_words i_hill_orders i_piled i_tiring i_barred i_pile)[i]?) = (wd_Judge_pop cA q0 q1 q2 q3 i_tiring i_barred i_pile i_piled).map some := rfl
          refine xv_afterI (ws' := (wd_Judge_hear cA q0 q1 q2 q3 q4 q5 q6 q7 q8 q9 q10 q11 q12 u0 u1 u2 u3 u4 i_words i_hill_orders v89 i_tiring i_barred i_pile)) (isC := [0, 3]) (ps := [some 0, none, none, some 1, none]) (va_runV (As := []) (rest := [.ref q0]) ⟨hx, hb, hml, hown, hts⟩ (c_Judge_pop l ev dC dI cA q0 q1 q2 q3 i_tiring i_barred hg H.size) (cwV 0 hts (zgV zw_829 zw_831 zw_16 zw_108 zw_832) rfl rfl rfl hd_Judge_pop ⟨Nat.le_of_ble_eq_true rfl, Nat.le_of_ble_eq_true rfl⟩) (xv_preV (T := TX3) (N := 6) hE hA hS hK hP hD (isC := [0, 3]) (by decide +kernel) hC (q0 := 0) (ci := 3) rfl rfl) rfl rfl hl.1 rfl (lv_room (Nat.le_of_ble_eq_true rfl)) dX3_hear_272 ⟨Nat.le_refl _, Nat.le_refl _⟩) hP hD hS hA (by decide +kernel) rfl hC rfl rfl (fun H locs hP hD hS => ?_)
          refine lv_iconst (v := Int32.ofInt 1) hx hb dX3_hear_275 rfl ?_
          refine xi_icmp_eq (tgt := 286) hx hb dX3_hear_276 (by decide) hf (fun hf => ?_) (fun hf => ?_)
          · exact b_286 _ ih8 _ _ _ _ _ _ _ _ _ _ _ _ hf hP hD hS (lv_sub hl [2, 3, 4, 5, 6, 7] rfl)
          · refine lv_aload_n hx hb dX3_hear_279 rfl (lv_at hl 2 rfl) ?_
            refine va_get (D := (dC, dI)) (ci := 3) (v := .int (Int32.ofInt i_barred)) (C := RX3) (T := TX3) (N := 6) hx hb hz zi_X3 hown hK hP 0 rfl rfl 5 (by decide) (hz _ zw_284) (fun _ h9 => h9) rfl dX3_hear_280 ?_
            refine xi_if_eq (tgt := 290) hx hb dX3_hear_283 (by decide) hf (fun hf => ?_) (fun hf => ?_)
            · refine lv_iconst (v := Int32.ofInt 0) hx hb dX3_hear_290 rfl ?_
              exact b_291 _ ih8 _ _ _ _ _ _ _ _ _ _ _ _ _ hf hP hD hS (lv_sub hl [2, 3, 4, 5, 6, 7] rfl)
            · exact b_286 _ ih8 _ _ _ _ _ _ _ _ _ _ _ _ hf hP hD hS (lv_sub hl [2, 3, 4, 5, 6, 7] rfl)
        refine xi_tout (tgt := 297) hx hb dX3_hear_58 (by omega) (by decide) ?_
        refine lv_aload_n hx hb dX3_hear_297 rfl (lv_at hl 2 rfl) ?_
        refine xe_d2 hf (fun v90 v91 hg hf => ?_)
        have hC : ([0, 3] : List Nat).map (fun i => (wd_Judge_hear cA q0 q1 q2 q3 q4 q5 q6 q7 q8 q9 q10 q11 q12 u0 u1 u2 u3 u4 i_words i_hill_orders i_piled i_tiring i_barred i_pile)[i]?) = (wd_Judge_pop cA q0 q1 q2 q3 i_tiring i_barred i_pile i_piled).map some := rfl
        refine xv_afterI (ws' := (wd_Judge_hear cA q0 q1 q2 q3 q4 q5 q6 q7 q8 q9 q10 q11 q12 u0 u1 u2 u3 u4 i_words i_hill_orders v91 i_tiring i_barred i_pile)) (isC := [0, 3]) (ps := [some 0, none, none, some 1, none]) (va_runV (As := []) (rest := []) ⟨hx, hb, hml, hown, hts⟩ (c_Judge_pop l ev dC dI cA q0 q1 q2 q3 i_tiring i_barred hg H.size) (cwV 0 hts (zgV zw_829 zw_831 zw_16 zw_108 zw_832) rfl rfl rfl hd_Judge_pop ⟨Nat.le_of_ble_eq_true rfl, Nat.le_of_ble_eq_true rfl⟩) (xv_preV (T := TX3) (N := 6) hE hA hS hK hP hD (isC := [0, 3]) (by decide +kernel) hC (q0 := 0) (ci := 3) rfl rfl) rfl rfl hl.1 rfl (lv_room (Nat.le_of_ble_eq_true rfl)) dX3_hear_298 ⟨Nat.le_refl _, Nat.le_refl _⟩) hP hD hS hA (by decide +kernel) rfl hC rfl rfl (fun H locs hP hD hS => ?_)
        refine lv_istore (lv' := [(8, .int (Int32.ofInt v90)), (7, .int (Int32.ofInt v6)), (6, .int (Int32.ofInt v3)), (0, .ref q0), (1, .int (Int32.ofInt x1)), (2, .int (Int32.ofInt x2)), (3, .int (Int32.ofInt x3)), (4, .int (Int32.ofInt x4)), (5, .int (Int32.ofInt x5))]) hx hb dX3_hear_301 hl (by decide) rfl (fun ls hl => ?_)
        refine lv_iload hx hb dX3_hear_303 (lv_at hl 2 rfl) ?_
        refine lv_aload_n hx hb dX3_hear_305 rfl (lv_at hl 3 rfl) ?_
        refine xe_d2 hf (fun v92 v93 hg hf => ?_)
        have hC : ([0, 3] : List Nat).map (fun i => (wd_Judge_hear cA q0 q1 q2 q3 q4 q5 q6 q7 q8 q9 q10 q11 q12 u0 u1 u2 u3 u4 i_words i_hill_orders v91 i_tiring i_barred i_pile)[i]?) = (wd_Judge_pop cA q0 q1 q2 q3 i_tiring i_barred i_pile v91).map some := rfl
        refine xv_afterI (ws' := (wd_Judge_hear cA q0 q1 q2 q3 q4 q5 q6 q7 q8 q9 q10 q11 q12 u0 u1 u2 u3 u4 i_words i_hill_orders v93 i_tiring i_barred i_pile)) (isC := [0, 3]) (ps := [some 0, none, none, some 1, none]) (va_runV (As := []) (rest := [.int (Int32.ofInt v3)]) ⟨hx, hb, hml, hown, hts⟩ (c_Judge_pop l ev dC dI cA q0 q1 q2 q3 i_tiring i_barred hg H.size) (cwV 0 hts (zgV zw_829 zw_831 zw_16 zw_108 zw_832) rfl rfl rfl hd_Judge_pop ⟨Nat.le_of_ble_eq_true rfl, Nat.le_of_ble_eq_true rfl⟩) (xv_preV (T := TX3) (N := 6) hE hA hS hK hP hD (isC := [0, 3]) (by decide +kernel) hC (q0 := 0) (ci := 3) rfl rfl) rfl rfl hl.1 rfl (lv_room (Nat.le_of_ble_eq_true rfl)) dX3_hear_306 ⟨Nat.le_refl _, Nat.le_refl _⟩) hP hD hS hA (by decide +kernel) rfl hC rfl rfl (fun H locs hP hD hS => ?_)
        refine xi_i2l hx hb dX3_hear_309 hf (fun v94 hf => ?_)
        refine lv_iload hx hb dX3_hear_310 (lv_at hl 0 rfl) ?_
        refine xi_i2l hx hb dX3_hear_312 hf (fun v95 hf => ?_)
        refine xe_d1 hf (fun v96 hg hf => ?_)
        have hC : ([] : List Nat).map (fun i => (wd_Judge_hear cA q0 q1 q2 q3 q4 q5 q6 q7 q8 q9 q10 q11 q12 u0 u1 u2 u3 u4 i_words i_hill_orders v93 i_tiring i_barred i_pile)[i]?) = (wd_Judge_worked cA).map some := rfl
        refine xv_afterI (ws' := (wd_Judge_hear cA q0 q1 q2 q3 q4 q5 q6 q7 q8 q9 q10 q11 q12 u0 u1 u2 u3 u4 i_words i_hill_orders v93 i_tiring i_barred i_pile)) (isC := []) (ps := [none, none, none, none, none]) (va_runS (As := [.int (Int32.ofInt v3), .long (Int64.ofInt v94), .long (Int64.ofInt v95)]) (rest := []) ⟨hx, hb, hml, hown, hts⟩ (c_Judge_worked l ev dC dI cA hg H.size) (va_cwS 3 hts (zgS zw_835 zw_836 zw_108 zw_837) rfl rfl rfl hd_Judge_worked.2 ⟨Nat.le_of_ble_eq_true rfl, Nat.le_of_ble_eq_true rfl⟩) (xv_preS hE hA hS hK hP hD (isC := []) (by decide +kernel) hC) rfl rfl hl.1 rfl (lv_room (Nat.le_of_ble_eq_true rfl)) dX3_hear_313 ⟨Nat.le_refl _, Nat.le_refl _⟩) hP hD hS hA (by decide +kernel) rfl hC rfl rfl (fun H locs hP hD hS => ?_)
        refine lv_istore (lv' := [(8, .int (Int32.ofInt v96)), (7, .int (Int32.ofInt v6)), (6, .int (Int32.ofInt v3)), (0, .ref q0), (1, .int (Int32.ofInt x1)), (2, .int (Int32.ofInt x2)), (3, .int (Int32.ofInt x3)), (4, .int (Int32.ofInt x4)), (5, .int (Int32.ofInt x5))]) hx hb dX3_hear_316 hl (by decide) rfl (fun ls hl => ?_)
        refine lv_aload_n hx hb dX3_hear_318 rfl (lv_at hl 3 rfl) ?_
        refine lv_iload hx hb dX3_hear_319 (lv_at hl 0 rfl) ?_
        refine xe_d2 hf (fun v97 a98 hg hf => ?_)
        have hC : ([0, 3] : List Nat).map (fun i => (wd_Judge_hear cA q0 q1 q2 q3 q4 q5 q6 q7 q8 q9 q10 q11 q12 u0 u1 u2 u3 u4 i_words i_hill_orders v93 i_tiring i_barred i_pile)[i]?) = (wd_Judge_push cA q0 q1 q2 q3 i_tiring i_barred v93 i_pile).map some := rfl
        refine xv_afterV (ws' := (wd_Judge_hear cA q0 q1 q2 q3 q4 q5 q6 q7 q8 q9 q10 q11 q12 u0 u1 u2 u3 u4 i_words i_hill_orders v97 i_tiring i_barred a98)) (isC := [0, 3]) (ps := [some 0, none, none, some 1, none]) (va_runV (As := [.int (Int32.ofInt v96)]) (rest := []) ⟨hx, hb, hml, hown, hts⟩ (c_Judge_push l ev dC dI cA q0 q1 q2 q3 i_tiring i_barred hg H.size) (cwV 1 hts (zgV zw_825 zw_827 zw_15 zw_108 zw_828) rfl rfl rfl hd_Judge_push ⟨Nat.le_of_ble_eq_true rfl, Nat.le_of_ble_eq_true rfl⟩) (xv_preV (T := TX3) (N := 6) hE hA hS hK hP hD (isC := [0, 3]) (by decide +kernel) hC (q0 := 0) (ci := 3) rfl rfl) rfl rfl hl.1 rfl (lv_room (Nat.le_of_ble_eq_true rfl)) dX3_hear_321 ⟨Nat.le_refl _, Nat.le_refl _⟩) hP hD hS hA (by decide +kernel) rfl hC rfl rfl (fun H locs hP hD hS => ?_)
        refine lv_iload hx hb dX3_hear_324 (lv_at hl 0 rfl) ?_
        refine lv_ldc (v := Int32.ofInt (-2000000000)) hx hb hown (hz _ zw_838) dX3_hear_326 ?_
        refine xi_icmp_ne (tgt := 336) hx hb dX3_hear_328 (by decide) hf (fun hf => ?_) (fun hf => ?_)
        · refine lv_iload_n hx hb dX3_hear_336 rfl (lv_at hl 6 rfl) ?_
          exact b_337 _ ih8 _ _ _ _ _ _ _ _ _ _ _ _ hf hP hD hS (lv_sub hl [3, 4, 5, 7, 8] rfl)
        · refine lv_iload hx hb dX3_hear_331 (lv_at hl 7 rfl) ?_
          refine lv_goto (tgt := 337) hx hb dX3_hear_333 (by decide) ?_
          exact b_337 _ ih8 _ _ _ _ _ _ _ _ _ _ _ _ hf hP hD hS (lv_sub hl [3, 4, 5, 7, 8] rfl)
      · refine lv_goto (tgt := 338) hx hb dX3_hear_20 (by decide) ?_
        exact b_338 _ ih8 _ _ _ _ _ _ _ _ _ _ _ _ hf hP hD hS (lv_sub hl [0, 1, 2, 3, 4, 5] rfl)
  have l_8 : ∀ (n : Nat), ∀ (x1 : Int) (x2 : Int) (x3 : Int) (x4 : Int) (x5 : Int) (i_piled : Int) (i_tiring : Int) (i_barred : Int) (i_pile : Nat → Int) (H : Heap) (locs : List Loc) (ls : Array Slot), f_Judge_hear_8 i_words i_hill_orders n x1 x2 x3 x4 x5 i_piled i_tiring i_barred i_pile = some out → va_P (dC, dI) vwCl (wd_Judge_hear cA q0 q1 q2 q3 q4 q5 q6 q7 q8 q9 q10 q11 q12 u0 u1 u2 u3 u4 i_words i_hill_orders i_piled i_tiring i_barred i_pile) H → va_D A (wd_Judge_hear cA q0 q1 q2 q3 q4 q5 q6 q7 q8 q9 q10 q11 q12 u0 u1 u2 u3 u4 i_words i_hill_orders i_piled i_tiring i_barred i_pile) → va_S A s.heap H locs → lv_has ls 9 [(0, .ref q0), (1, .int (Int32.ofInt x1)), (2, .int (Int32.ofInt x2)), (3, .int (Int32.ofInt x3)), (4, .int (Int32.ofInt x4)), (5, .int (Int32.ofInt x5))] → W p l e rm_Judge_hear s m args below meth c H locs 0 0 Q (F0 m 8 ls []) := by
    intro n
    induction n with
    | zero => intro x1 x2 x3 x4 x5 i_piled i_tiring i_barred i_pile H locs ls hf hP hD hS hl; exact nomatch hf
    | succ n ih => intro x1 x2 x3 x4 x5 i_piled i_tiring i_barred i_pile H locs ls hf hP hD hS hl; exact b_8 (f_Judge_hear_8 i_words i_hill_orders n) ih x1 x2 x3 x4 x5 i_piled i_tiring i_barred i_pile H locs ls hf hP hD hS hl
  unfold f_Judge_hear at hf
  refine lv_iconst (v := Int32.ofInt 0) hx hb dX3_hear_0 rfl ?_
  refine lv_istore_n (lv' := [(3, .int (Int32.ofInt 0)), (0, .ref q0), (1, .int (Int32.ofInt x1)), (2, .int (Int32.ofInt x2))]) hx hb dX3_hear_1 rfl hl (by decide) rfl (fun ls hl => ?_)
  refine lv_iconst (v := Int32.ofInt 0) hx hb dX3_hear_2 rfl ?_
  refine lv_istore (lv' := [(4, .int (Int32.ofInt 0)), (3, .int (Int32.ofInt 0)), (0, .ref q0), (1, .int (Int32.ofInt x1)), (2, .int (Int32.ofInt x2))]) hx hb dX3_hear_3 hl (by decide) rfl (fun ls hl => ?_)
  refine lv_iconst (v := Int32.ofInt 0) hx hb dX3_hear_5 rfl ?_
  refine lv_istore (lv' := [(5, .int (Int32.ofInt 0)), (4, .int (Int32.ofInt 0)), (3, .int (Int32.ofInt 0)), (0, .ref q0), (1, .int (Int32.ofInt x1)), (2, .int (Int32.ofInt x2))]) hx hb dX3_hear_6 hl (by decide) rfl (fun ls hl => ?_)
  exact l_8  _ _ _ _ _ _ _ _ _ _ _ _ _ hf hP hD hS (lv_sub hl [3, 4, 5, 2, 1, 0] rfl)
