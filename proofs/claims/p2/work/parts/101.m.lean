section
set_option maxRecDepth 100000 in
noncomputable def ztX4_split (p : Nat) : Option (Jvm.ClassFile.Instr × Nat) := bif Nat.ble 68 p then (bif Nat.ble 106 p then (bif Nat.ble 125 p then (bif Nat.ble 132 p then (bif Nat.ble 136 p then (bif Nat.ble 139 p then (bif Nat.ble 140 p then (bif Nat.beq p 140 then some (.return_, 1) else none) else (bif Nat.beq p 139 then some (.iastore, 1) else none)) else (bif Nat.beq p 136 then some (.sipush 257, 3) else none)) else (bif Nat.ble 135 p then (bif Nat.beq p 135 then some (.iload_n 3, 1) else none) else (bif Nat.beq p 132 then some (.getfield 19, 3) else none))) else (bif Nat.ble 129 p then (bif Nat.ble 130 p then (bif Nat.ble 131 p then (bif Nat.beq p 131 then some (.aload_n 0, 1) else none) else (bif Nat.beq p 130 then some (.iastore, 1) else none)) else (bif Nat.beq p 129 then some (.iload_n 2, 1) else none)) else (bif Nat.ble 128 p then (bif Nat.beq p 128 then some (.iload_n 3, 1) else none) else (bif Nat.beq p 125 then some (.getfield 22, 3) else none)))) else (bif Nat.ble 112 p then (bif Nat.ble 118 p then (bif Nat.ble 121 p then (bif Nat.ble 124 p then (bif Nat.beq p 124 then some (.aload_n 0, 1) else none) else (bif Nat.beq p 121 then some (.goto (-113), 3) else none)) else (bif Nat.beq p 118 then some (.iinc 5 1, 3) else none)) else (bif Nat.ble 115 p then (bif Nat.beq p 115 then some (.iinc 3 1, 3) else none) else (bif Nat.beq p 112 then some (.invokevirtual 84, 3) else none))) else (bif Nat.ble 109 p then (bif Nat.ble 111 p then (bif Nat.beq p 111 then some (.iload_n 3, 1) else none) else (bif Nat.beq p 109 then some (.iload 4, 2) else none)) else (bif Nat.ble 107 p then (bif Nat.beq p 107 then some (.iload 5, 2) else none) else (bif Nat.beq p 106 then some (.aload_n 1, 1) else none))))) else (bif Nat.ble 85 p then (bif Nat.ble 98 p then (bif Nat.ble 102 p then (bif Nat.ble 104 p then (bif Nat.ble 105 p then (bif Nat.beq p 105 then some (.aload_n 0, 1) else none) else (bif Nat.beq p 104 then some (.iastore, 1) else none)) else (bif Nat.beq p 102 then some (.iload 5, 2) else none)) else (bif Nat.ble 101 p then (bif Nat.beq p 101 then some (.iload_n 3, 1) else none) else (bif Nat.beq p 98 then some (.getfield 22, 3) else none))) else (bif Nat.ble 91 p then (bif Nat.ble 94 p then (bif Nat.ble 97 p then (bif Nat.beq p 97 then some (.aload_n 0, 1) else none) else (bif Nat.beq p 94 then some (.goto (-55), 3) else none)) else (bif Nat.beq p 91 then some (.iinc 4 1, 3) else none)) else (bif Nat.ble 88 p then (bif Nat.beq p 88 then some (.ifCond .eq 9, 3) else none) else (bif Nat.beq p 85 then some (.invokestatic 81, 3) else none)))) else (bif Nat.ble 75 p then (bif Nat.ble 81 p then (bif Nat.ble 82 p then (bif Nat.ble 84 p then (bif Nat.beq p 84 then some (.iaload, 1) else none) else (bif Nat.beq p 82 then some (.iload 4, 2) else none)) else (bif Nat.beq p 81 then some (.aload_n 1, 1) else none)) else (bif Nat.ble 78 p then (bif Nat.beq p 78 then some (.ifCond .eq 19, 3) else none) else (bif Nat.beq p 75 then some (.invokestatic 81, 3) else none))) else (bif Nat.ble 72 p then (bif Nat.ble 74 p then (bif Nat.beq p 74 then some (.iaload, 1) else none) else (bif Nat.beq p 72 then some (.iload 5, 2) else none)) else (bif Nat.ble 71 p then (bif Nat.beq p 71 then some (.aload_n 1, 1) else none) else (bif Nat.beq p 68 then some (.if_icmp .ge 29, 3) else none)))))) else (bif Nat.ble 33 p then (bif Nat.ble 48 p then (bif Nat.ble 58 p then (bif Nat.ble 62 p then (bif Nat.ble 65 p then (bif Nat.ble 67 p then (bif Nat.beq p 67 then some (.iload_n 2, 1) else none) else (bif Nat.beq p 65 then some (.iload 4, 2) else none)) else (bif Nat.beq p 62 then some (.ifCond .ne 29, 3) else none)) else (bif Nat.ble 59 p then (bif Nat.beq p 59 then some (.invokestatic 78, 3) else none) else (bif Nat.beq p 58 then some (.iaload, 1) else none))) else (bif Nat.ble 52 p then (bif Nat.ble 55 p then (bif Nat.ble 56 p then (bif Nat.beq p 56 then some (.iload 4, 2) else none) else (bif Nat.beq p 55 then some (.aload_n 1, 1) else none)) else (bif Nat.beq p 52 then some (.ifCond .eq 13, 3) else none)) else (bif Nat.ble 49 p then (bif Nat.beq p 49 then some (.invokestatic 78, 3) else none) else (bif Nat.beq p 48 then some (.iaload, 1) else none)))) else (bif Nat.ble 39 p then (bif Nat.ble 42 p then (bif Nat.ble 45 p then (bif Nat.ble 46 p then (bif Nat.beq p 46 then some (.iload 5, 2) else none) else (bif Nat.beq p 45 then some (.aload_n 1, 1) else none)) else (bif Nat.beq p 42 then some (.if_icmp .ge 23, 3) else none)) else (bif Nat.ble 41 p then (bif Nat.beq p 41 then some (.iload_n 2, 1) else none) else (bif Nat.beq p 39 then some (.iload 4, 2) else none))) else (bif Nat.ble 36 p then (bif Nat.ble 37 p then (bif Nat.beq p 37 then some (.istore 4, 2) else none) else (bif Nat.beq p 36 then some (.iadd, 1) else none)) else (bif Nat.ble 35 p then (bif Nat.beq p 35 then some (.iconst 1, 1) else none) else (bif Nat.beq p 33 then some (.iload 5, 2) else none))))) else (bif Nat.ble 14 p then (bif Nat.ble 22 p then (bif Nat.ble 25 p then (bif Nat.ble 27 p then (bif Nat.ble 30 p then (bif Nat.beq p 30 then some (.goto 88, 3) else none) else (bif Nat.beq p 27 then some (.if_icmp .ne 6, 3) else none)) else (bif Nat.beq p 25 then some (.bipush 32, 2) else none)) else (bif Nat.ble 24 p then (bif Nat.beq p 24 then some (.iaload, 1) else none) else (bif Nat.beq p 22 then some (.iload 5, 2) else none))) else (bif Nat.ble 18 p then (bif Nat.ble 21 p then (bif Nat.beq p 21 then some (.aload_n 1, 1) else none) else (bif Nat.beq p 18 then some (.if_icmp .lt 100, 3) else none)) else (bif Nat.ble 16 p then (bif Nat.beq p 16 then some (.iload 4, 2) else none) else (bif Nat.beq p 14 then some (.iload 5, 2) else none)))) else (bif Nat.ble 5 p then (bif Nat.ble 8 p then (bif Nat.ble 10 p then (bif Nat.ble 11 p then (bif Nat.beq p 11 then some (.if_icmp .ge 113, 3) else none) else (bif Nat.beq p 10 then some (.iload_n 2, 1) else none)) else (bif Nat.beq p 8 then some (.iload 5, 2) else none)) else (bif Nat.ble 6 p then (bif Nat.beq p 6 then some (.istore 5, 2) else none) else (bif Nat.beq p 5 then some (.iconst 0, 1) else none))) else (bif Nat.ble 2 p then (bif Nat.ble 3 p then (bif Nat.beq p 3 then some (.istore 4, 2) else none) else (bif Nat.beq p 2 then some (.iconst 0, 1) else none)) else (bif Nat.ble 1 p then (bif Nat.beq p 1 then some (.istore_n 3, 1) else none) else (bif Nat.beq p 0 then some (.iconst 0, 1) else none))))))
set_option maxRecDepth 100000 in
theorem zkX4_split : (zbig cX4_split.data.toList = 2525369706907476913041825109266935391463536043153451274506613220176903372010372059528954415625721818239013114995832238741655876652669188543481809748574515614796680791737429882147406765384569705254036579839589727015087874236881378882770735062424167150462638758039386556186281332447746995550790556238358094608297015084375842627608211603275267 ∧ cX4_split.data.toList.length = 141) ∧ zdk cX4_split 2525369706907476913041825109266935391463536043153451274506613220176903372010372059528954415625721818239013114995832238741655876652669188543481809748574515614796680791737429882147406765384569705254036579839589727015087874236881378882770735062424167150462638758039386556186281332447746995550790556238358094608297015084375842627608211603275267 141 ztX4_split 140 = true := by decide +kernel
theorem zw_4 : (Jvm.Cond.selects "HillSchool$LawReader" ({ cls := "HillSchool$LawReader", name := "note", desc := "([IIII)V" } : Jvm.MethodName) ({ cls := "HillSchool$LawReader", name := "note", desc := "([IIII)V" } : Jvm.MethodName)) ∈ zall := zmemG (zmj_0 4 rfl) rfl
theorem zw_253 : (Jvm.Cond.fieldLink "HillSchool$LawReader" (22 : Nat) "HillSchool$LawReader" "places" "[I") ∈ zall := zmemG (zmj_1 150 rfl) rfl
theorem zw_659 : (Jvm.Cond.code ({ cls := "HillSchool$LawReader", name := "split", desc := "([II)V" } : Jvm.MethodName) prog_6_method_12_code (6 : Nat) (Option.none : Option Jvm.ClassFile.FieldType)) ∈ zall := zmemG (zmj_3 76 rfl) rfl
theorem zw_666 : (Jvm.Cond.methodLink "HillSchool$LawReader" (84 : Nat) ({ cls := "HillSchool$LawReader", name := "note", desc := "([IIII)V" } : Jvm.MethodName)) ∈ zall := zmemG (zmj_3 83 rfl) rfl
theorem zw_668 : (Jvm.Cond.instanceMethod ({ cls := "HillSchool$LawReader", name := "note", desc := "([IIII)V" } : Jvm.MethodName)) ∈ zall := zmemG (zmj_3 85 rfl) rfl
noncomputable abbrev w_LawReader_split : List Cond := .code yX4_split cX4_split 6 none :: zall
noncomputable abbrev rm_LawReader_split : Room := { frames := 7, cells := 0, slots := 0, locals := 155 }
theorem hd_LawReader_split : yX4_split.cls = "HillSchool$LawReader" ∧ yX4_split.cls ≠ "java/lang/invoke/MethodHandle" ∧ yX4_split.cls ≠ "java/lang/invoke/VarHandle" ∧ (parseMethodDescriptor yX4_split.desc).map (fun d => d.parameters.length) = some 2 := by decide +kernel
noncomputable def wd_LawReader_split (cA : Nat → ClassId) (q0 q1 q2 q3 q4 q5 : Nat) (u0 u1 u2 : Int) (i_a1 : Nat → Int) (i_tokens : Nat → Int) (i_places : Nat → Int) (i_values : Nat → Int) : va_W := [(q0, .inr (4, [.ref q1, .int (Int32.ofInt u0), .ref q2, .ref q3, .ref q4, .int (Int32.ofInt u1), .int (Int32.ofInt u2)])), (q5, .inl (cA 0, 400, .inl (za i_a1))), (q2, .inl (cA 0, 401, .inl (za i_tokens))), (q3, .inl (cA 0, 401, .inl (za i_places))), (q4, .inl (cA 0, 401, .inl (za i_values)))]
noncomputable def wf_LawReader_split (cA : Nat → ClassId) (q0 q1 q2 q3 q4 q5 : Nat) (u0 u1 u2 : Int) (i_a1 : Nat → Int) (o : (Nat → Int) × (Nat → Int) × (Nat → Int)) : va_W := wd_LawReader_split cA q0 q1 q2 q3 q4 q5 u0 u1 u2 i_a1 o.1 o.2.1 o.2.2
noncomputable def f_LawReader_split_118 (i_a1 : Nat → Int) (k8 : Int → Int → Int → Int → (Nat → Int) → (Nat → Int) → (Nat → Int) → Option ((Nat → Int) × (Nat → Int) × (Nat → Int))) (x2 : Int) (x3 : Int) (x4 : Int) (x5 : Int) (i_tokens : Nat → Int) (i_places : Nat → Int) (i_values : Nat → Int) : Option ((Nat → Int) × (Nat → Int) × (Nat → Int)) :=
  zn (x5 + 1) fun v1 =>
  k8 x2 x3 x4 v1 i_tokens i_places i_values
noncomputable def f_LawReader_split_97 (i_a1 : Nat → Int) (k8 : Int → Int → Int → Int → (Nat → Int) → (Nat → Int) → (Nat → Int) → Option ((Nat → Int) × (Nat → Int) × (Nat → Int))) (x2 : Int) (x3 : Int) (x4 : Int) (x5 : Int) (i_tokens : Nat → Int) (i_places : Nat → Int) (i_values : Nat → Int) : Option ((Nat → Int) × (Nat → Int) × (Nat → Int)) :=
  zs 401 i_places x3 x5 fun a1 =>
  zd2 (f_LawReader_note x5 x4 x3 i_a1 i_tokens i_values) fun a2 a3 =>
  zn (x3 + 1) fun v4 =>
  f_LawReader_split_118 i_a1 k8 x2 v4 x4 x5 a2 a1 a3
noncomputable def f_LawReader_split_91 (i_a1 : Nat → Int) (k8 : Int → Int → Int → Int → (Nat → Int) → (Nat → Int) → (Nat → Int) → Option ((Nat → Int) × (Nat → Int) × (Nat → Int))) (k39 : Int → Int → Int → Int → (Nat → Int) → (Nat → Int) → (Nat → Int) → Option ((Nat → Int) × (Nat → Int) × (Nat → Int))) (x2 : Int) (x3 : Int) (x4 : Int) (x5 : Int) (i_tokens : Nat → Int) (i_places : Nat → Int) (i_values : Nat → Int) : Option ((Nat → Int) × (Nat → Int) × (Nat → Int)) :=
  zn (x4 + 1) fun v1 =>
  k39 x2 x3 v1 x5 i_tokens i_places i_values
noncomputable def f_LawReader_split_65 (i_a1 : Nat → Int) (k8 : Int → Int → Int → Int → (Nat → Int) → (Nat → Int) → (Nat → Int) → Option ((Nat → Int) × (Nat → Int) × (Nat → Int))) (k39 : Int → Int → Int → Int → (Nat → Int) → (Nat → Int) → (Nat → Int) → Option ((Nat → Int) × (Nat → Int) × (Nat → Int))) (x2 : Int) (x3 : Int) (x4 : Int) (x5 : Int) (i_tokens : Nat → Int) (i_places : Nat → Int) (i_values : Nat → Int) : Option ((Nat → Int) × (Nat → Int) × (Nat → Int)) :=
  if zi_w x2 ≤ zi_w x4 then
    f_LawReader_split_97 i_a1 k8 x2 x3 x4 x5 i_tokens i_places i_values
  else
    zg 400 i_a1 x5 fun v1 =>
    zd1 (f_LawReader_isDigit v1) fun v2 =>
    if zi_w v2 = 0 then
      f_LawReader_split_97 i_a1 k8 x2 x3 x4 x5 i_tokens i_places i_values
    else
      zg 400 i_a1 x4 fun v3 =>
      zd1 (f_LawReader_isDigit v3) fun v4 =>
      if zi_w v4 = 0 then
        f_LawReader_split_97 i_a1 k8 x2 x3 x4 x5 i_tokens i_places i_values
      else
        f_LawReader_split_91 i_a1 k8 k39 x2 x3 x4 x5 i_tokens i_places i_values
noncomputable def f_LawReader_split_39_b (i_a1 : Nat → Int) (k8 : Int → Int → Int → Int → (Nat → Int) → (Nat → Int) → (Nat → Int) → Option ((Nat → Int) × (Nat → Int) × (Nat → Int))) (k39 : Int → Int → Int → Int → (Nat → Int) → (Nat → Int) → (Nat → Int) → Option ((Nat → Int) × (Nat → Int) × (Nat → Int))) (x2 : Int) (x3 : Int) (x4 : Int) (x5 : Int) (i_tokens : Nat → Int) (i_places : Nat → Int) (i_values : Nat → Int) : Option ((Nat → Int) × (Nat → Int) × (Nat → Int)) :=
  if zi_w x2 ≤ zi_w x4 then
    f_LawReader_split_65 i_a1 k8 k39 x2 x3 x4 x5 i_tokens i_places i_values
  else
    zg 400 i_a1 x5 fun v1 =>
    zd1 (f_LawReader_isLetter v1) fun v2 =>
    if zi_w v2 = 0 then
      f_LawReader_split_65 i_a1 k8 k39 x2 x3 x4 x5 i_tokens i_places i_values
    else
      zg 400 i_a1 x4 fun v3 =>
      zd1 (f_LawReader_isLetter v3) fun v4 =>
      if zi_w v4 ≠ 0 then
        f_LawReader_split_91 i_a1 k8 k39 x2 x3 x4 x5 i_tokens i_places i_values
      else
        f_LawReader_split_65 i_a1 k8 k39 x2 x3 x4 x5 i_tokens i_places i_values
noncomputable def f_LawReader_split_39 (i_a1 : Nat → Int) (k8 : Int → Int → Int → Int → (Nat → Int) → (Nat → Int) → (Nat → Int) → Option ((Nat → Int) × (Nat → Int) × (Nat → Int))) : Nat → Int → Int → Int → Int → (Nat → Int) → (Nat → Int) → (Nat → Int) → Option ((Nat → Int) × (Nat → Int) × (Nat → Int))
  | 0 => fun _ _ _ _ _ _ _ => none
  | n + 1 => fun y0 y1 y2 y3 y4 y5 y6 => f_LawReader_split_39_b i_a1 k8 (f_LawReader_split_39 i_a1 k8 n) y0 y1 y2 y3 y4 y5 y6
noncomputable def f_LawReader_split_8_b (i_a1 : Nat → Int) (k8 : Int → Int → Int → Int → (Nat → Int) → (Nat → Int) → (Nat → Int) → Option ((Nat → Int) × (Nat → Int) × (Nat → Int))) (x2 : Int) (x3 : Int) (x4 : Int) (x5 : Int) (i_tokens : Nat → Int) (i_places : Nat → Int) (i_values : Nat → Int) : Option ((Nat → Int) × (Nat → Int) × (Nat → Int)) :=
  if zi_w x2 ≤ zi_w x5 then
    zs 401 i_places x3 x2 fun a1 =>
    zs 401 i_tokens x3 257 fun a2 =>
    some (a2, a1, i_values)
  else
    if zi_w x5 < zi_w x4 then
      f_LawReader_split_118 i_a1 k8 x2 x3 x4 x5 i_tokens i_places i_values
    else
      zg 400 i_a1 x5 fun v3 =>
      if zi_w v3 ≠ zi_w 32 then
        zn (x5 + 1) fun v4 =>
        f_LawReader_split_39 i_a1 k8 zfu x2 x3 v4 x5 i_tokens i_places i_values
      else
        f_LawReader_split_118 i_a1 k8 x2 x3 x4 x5 i_tokens i_places i_values
noncomputable def f_LawReader_split_8 (i_a1 : Nat → Int) : Nat → Int → Int → Int → Int → (Nat → Int) → (Nat → Int) → (Nat → Int) → Option ((Nat → Int) × (Nat → Int) × (Nat → Int))
  | 0 => fun _ _ _ _ _ _ _ => none
  | n + 1 => fun y0 y1 y2 y3 y4 y5 y6 => f_LawReader_split_8_b i_a1 (f_LawReader_split_8 i_a1 n) y0 y1 y2 y3 y4 y5 y6
noncomputable def f_LawReader_split (x2 : Int) (i_a1 : Nat → Int) (i_tokens : Nat → Int) (i_places : Nat → Int) (i_values : Nat → Int) : Option ((Nat → Int) × (Nat → Int) × (Nat → Int)) :=
  f_LawReader_split_8 i_a1 zfu x2 0 0 0 i_tokens i_places i_values
set_option maxHeartbeats 4000000 in
set_option maxRecDepth 100000 in
theorem c_LawReader_split (l : Launch) (ev : zEv) (dC : Nat → ClassId) (dI : Nat → Nat → Nat) (cA : Nat → ClassId) (q0 q1 q2 q3 q4 q5 : Nat) (u0 u1 u2 : Int) {x2 : Int} {i_a1 : Nat → Int} {i_tokens : Nat → Int} {i_places : Nat → Int} {i_values : Nat → Int} {out : (Nat → Int) × (Nat → Int) × (Nat → Int)} (hf : f_LawReader_split x2 i_a1 i_tokens i_places i_values = some out) : xc_V l ev (dC, dI) vwCl (tyl cA) yX4_split w_LawReader_split rm_LawReader_split [.ref q0, .ref q5, .int (Int32.ofInt x2)] (wd_LawReader_split cA q0 q1 q2 q3 q4 q5 u0 u1 u2 i_a1 i_tokens i_places i_values) (wf_LawReader_split cA q0 q1 q2 q3 q4 q5 u0 u1 u2 i_a1 out) := by
  refine xv_startV (cc := cX4_split) (maxL := 6) (by decide +kernel) rfl (Nat.le_of_ble_eq_true rfl) ?_
  intro p e s m args below meth c A Q H ls hx hb hml hts hown hK hA hP hD hS hl hE hret
  have hown : s.vm.findClass "HillSchool$LawReader" = some m.cls := hown
  have hz : ∀ w ∈ zall, w.before args s = true := fun w h => hts w (List.mem_cons_of_mem _ h)
  have hl : lv_has ls 6 [(0, .ref q0), (1, .ref q5), (2, .int (Int32.ofInt x2))] := hl
  have b_118 : ∀ (k8 : Int → Int → Int → Int → (Nat → Int) → (Nat → Int) → (Nat → Int) → Option ((Nat → Int) × (Nat → Int) × (Nat → Int))) (_ : ∀ (x2 : Int) (x3 : Int) (x4 : Int) (x5 : Int) (i_tokens : Nat → Int) (i_places : Nat → Int) (i_values : Nat → Int) (H : Heap) (locs : List Loc) (ls : Array Slot), k8 x2 x3 x4 x5 i_tokens i_places i_values = some out → va_P (dC, dI) vwCl (wd_LawReader_split cA q0 q1 q2 q3 q4 q5 u0 u1 u2 i_a1 i_tokens i_places i_values) H → va_D A (wd_LawReader_split cA q0 q1 q2 q3 q4 q5 u0 u1 u2 i_a1 i_tokens i_places i_values) → va_S A s.heap H locs → lv_has ls 6 [(0, .ref q0), (1, .ref q5), (2, .int (Int32.ofInt x2)), (3, .int (Int32.ofInt x3)), (4, .int (Int32.ofInt x4)), (5, .int (Int32.ofInt x5))] → W p l e rm_LawReader_split s m args below meth c H locs 0 0 Q (F0 m 8 ls [])), ∀ (x2 : Int) (x3 : Int) (x4 : Int) (x5 : Int) (i_tokens : Nat → Int) (i_places : Nat → Int) (i_values : Nat → Int) (H : Heap) (locs : List Loc) (ls : Array Slot), f_LawReader_split_118 i_a1 k8 x2 x3 x4 x5 i_tokens i_places i_values = some out → va_P (dC, dI) vwCl (wd_LawReader_split cA q0 q1 q2 q3 q4 q5 u0 u1 u2 i_a1 i_tokens i_places i_values) H → va_D A (wd_LawReader_split cA q0 q1 q2 q3 q4 q5 u0 u1 u2 i_a1 i_tokens i_places i_values) → va_S A s.heap H locs → lv_has ls 6 [(0, .ref q0), (1, .ref q5), (2, .int (Int32.ofInt x2)), (3, .int (Int32.ofInt x3)), (4, .int (Int32.ofInt x4)), (5, .int (Int32.ofInt x5))] → W p l e rm_LawReader_split s m args below meth c H locs 0 0 Q (F0 m 118 ls []) := by
    intro k8 ih8 x2 x3 x4 x5 i_tokens i_places i_values H locs ls hf hP hD hS hl
    unfold f_LawReader_split_118 at hf
    refine xi_iinc hx hb (zdt zkX4_split 118 rfl) hl (k := 5) rfl (by decide) hf (fun v1 ls hl hf => ?_)
    have hl : lv_has ls 6 [(5, .int (Int32.ofInt v1)), (0, .ref q0), (1, .ref q5), (2, .int (Int32.ofInt x2)), (3, .int (Int32.ofInt x3)), (4, .int (Int32.ofInt x4))] := hl
    refine lv_goto (tgt := 8) hx hb (zdt zkX4_split 121 rfl) (by decide) ?_
    exact ih8 _ _ _ _ _ _ _ _ _ _ hf hP hD hS (lv_sub hl [1, 2, 3, 4, 5, 0] rfl)
  have b_97 : ∀ (k8 : Int → Int → Int → Int → (Nat → Int) → (Nat → Int) → (Nat → Int) → Option ((Nat → Int) × (Nat → Int) × (Nat → Int))) (_ : ∀ (x2 : Int) (x3 : Int) (x4 : Int) (x5 : Int) (i_tokens : Nat → Int) (i_places : Nat → Int) (i_values : Nat → Int) (H : Heap) (locs : List Loc) (ls : Array Slot), k8 x2 x3 x4 x5 i_tokens i_places i_values = some out → va_P (dC, dI) vwCl (wd_LawReader_split cA q0 q1 q2 q3 q4 q5 u0 u1 u2 i_a1 i_tokens i_places i_values) H → va_D A (wd_LawReader_split cA q0 q1 q2 q3 q4 q5 u0 u1 u2 i_a1 i_tokens i_places i_values) → va_S A s.heap H locs → lv_has ls 6 [(0, .ref q0), (1, .ref q5), (2, .int (Int32.ofInt x2)), (3, .int (Int32.ofInt x3)), (4, .int (Int32.ofInt x4)), (5, .int (Int32.ofInt x5))] → W p l e rm_LawReader_split s m args below meth c H locs 0 0 Q (F0 m 8 ls [])), ∀ (x2 : Int) (x3 : Int) (x4 : Int) (x5 : Int) (i_tokens : Nat → Int) (i_places : Nat → Int) (i_values : Nat → Int) (H : Heap) (locs : List Loc) (ls : Array Slot), f_LawReader_split_97 i_a1 k8 x2 x3 x4 x5 i_tokens i_places i_values = some out → va_P (dC, dI) vwCl (wd_LawReader_split cA q0 q1 q2 q3 q4 q5 u0 u1 u2 i_a1 i_tokens i_places i_values) H → va_D A (wd_LawReader_split cA q0 q1 q2 q3 q4 q5 u0 u1 u2 i_a1 i_tokens i_places i_values) → va_S A s.heap H locs → lv_has ls 6 [(0, .ref q0), (1, .ref q5), (2, .int (Int32.ofInt x2)), (3, .int (Int32.ofInt x3)), (4, .int (Int32.ofInt x4)), (5, .int (Int32.ofInt x5))] → W p l e rm_LawReader_split s m args below meth c H locs 0 0 Q (F0 m 97 ls []) := by
    intro k8 ih8 x2 x3 x4 x5 i_tokens i_places i_values H locs ls hf hP hD hS hl
    unfold f_LawReader_split_97 at hf
    refine lv_aload_n hx hb (zdt zkX4_split 97 rfl) rfl (lv_at hl 0 rfl) ?_
    refine va_get (D := (dC, dI)) (ci := 4) (v := .ref q3) (C := RX4) (T := TX4) (N := 7) hx hb hz zi_X4 hown hK hP 0 rfl rfl 3 (by decide) (hz _ zw_253) (fun _ h9 => h9) rfl (zdt zkX4_split 98 rfl) ?_
    refine lv_iload_n hx hb (zdt zkX4_split 101 rfl) rfl (lv_at hl 3 rfl) ?_
    refine lv_iload hx hb (zdt zkX4_split 102 rfl) (lv_at hl 5 rfl) ?_
    refine xi_iast hx hb hK hP hD hS 3 0 rfl rfl (zdt zkX4_split 104 rfl) hf (fun a1 H locs hP hD hS hf => ?_)
    refine xw_PD (wd_LawReader_split cA q0 q1 q2 q3 q4 q5 u0 u1 u2 i_a1 i_tokens a1 i_values) hP hD (fun hP hD => ?_)
    refine lv_aload_n hx hb (zdt zkX4_split 105 rfl) rfl (lv_at hl 0 rfl) ?_
    refine lv_aload_n hx hb (zdt zkX4_split 106 rfl) rfl (lv_at hl 1 rfl) ?_
    refine lv_iload hx hb (zdt zkX4_split 107 rfl) (lv_at hl 5 rfl) ?_
    refine lv_iload hx hb (zdt zkX4_split 109 rfl) (lv_at hl 4 rfl) ?_
    refine lv_iload_n hx hb (zdt zkX4_split 111 rfl) rfl (lv_at hl 3 rfl) ?_
    refine xe_d2 hf (fun a2 a3 hg hf => ?_)
    have hC : ([0, 1, 2, 4] : List Nat).map (fun i => (wd_LawReader_split cA q0 q1 q2 q3 q4 q5 u0 u1 u2 i_a1 i_tokens a1 i_values)[i]?) = (wd_LawReader_note cA q0 q1 q2 q3 q4 q5 u0 u1 u2 i_a1 i_tokens i_values).map some := rfl
    refine xv_afterV (ws' := (wd_LawReader_split cA q0 q1 q2 q3 q4 q5 u0 u1 u2 i_a1 a2 a1 a3)) (isC := [0, 1, 2, 4]) (ps := [some 0, some 1, some 2, none, some 3]) (va_runV (As := [.ref q5, .int (Int32.ofInt x5), .int (Int32.ofInt x4), .int (Int32.ofInt x3)]) (rest := []) ⟨hx, hb, hml, hown, hts⟩ (c_LawReader_note l ev dC dI cA q0 q1 q2 q3 q4 q5 u0 u1 u2 hg H.size) (cwV 4 hts (zgV zw_666 zw_668 zw_4 zw_107 zw_669) rfl rfl rfl hd_LawReader_note ⟨Nat.le_of_ble_eq_true rfl, Nat.le_of_ble_eq_true rfl⟩) (xv_preV (T := TX4) (N := 7) hE hA hS hK hP hD (isC := [0, 1, 2, 4]) (by decide +kernel) hC (q0 := 0) (ci := 4) rfl rfl) rfl rfl hl.1 rfl (lv_room (Nat.le_of_ble_eq_true rfl)) (zdt zkX4_split 112 rfl) ⟨Nat.le_refl _, Nat.le_refl _⟩) hP hD hS hA (by decide +kernel) rfl hC rfl rfl (fun H locs hP hD hS => ?_)
    refine xi_iinc hx hb (zdt zkX4_split 115 rfl) hl (k := 3) rfl (by decide) hf (fun v4 ls hl hf => ?_)
    have hl : lv_has ls 6 [(3, .int (Int32.ofInt v4)), (0, .ref q0), (1, .ref q5), (2, .int (Int32.ofInt x2)), (4, .int (Int32.ofInt x4)), (5, .int (Int32.ofInt x5))] := hl
    exact b_118 _ ih8 _ _ _ _ _ _ _ _ _ _ hf hP hD hS (lv_sub hl [1, 2, 3, 0, 4, 5] rfl)
  have b_91 : ∀ (k8 : Int → Int → Int → Int → (Nat → Int) → (Nat → Int) → (Nat → Int) → Option ((Nat → Int) × (Nat → Int) × (Nat → Int))) (_ : ∀ (x2 : Int) (x3 : Int) (x4 : Int) (x5 : Int) (i_tokens : Nat → Int) (i_places : Nat → Int) (i_values : Nat → Int) (H : Heap) (locs : List Loc) (ls : Array Slot), k8 x2 x3 x4 x5 i_tokens i_places i_values = some out → va_P (dC, dI) vwCl (wd_LawReader_split cA q0 q1 q2 q3 q4 q5 u0 u1 u2 i_a1 i_tokens i_places i_values) H → va_D A (wd_LawReader_split cA q0 q1 q2 q3 q4 q5 u0 u1 u2 i_a1 i_tokens i_places i_values) → va_S A s.heap H locs → lv_has ls 6 [(0, .ref q0), (1, .ref q5), (2, .int (Int32.ofInt x2)), (3, .int (Int32.ofInt x3)), (4, .int (Int32.ofInt x4)), (5, .int (Int32.ofInt x5))] → W p l e rm_LawReader_split s m args below meth c H locs 0 0 Q (F0 m 8 ls [])), ∀ (k39 : Int → Int → Int → Int → (Nat → Int) → (Nat → Int) → (Nat → Int) → Option ((Nat → Int) × (Nat → Int) × (Nat → Int))) (_ : ∀ (x2 : Int) (x3 : Int) (x4 : Int) (x5 : Int) (i_tokens : Nat → Int) (i_places : Nat → Int) (i_values : Nat → Int) (H : Heap) (locs : List Loc) (ls : Array Slot), k39 x2 x3 x4 x5 i_tokens i_places i_values = some out → va_P (dC, dI) vwCl (wd_LawReader_split cA q0 q1 q2 q3 q4 q5 u0 u1 u2 i_a1 i_tokens i_places i_values) H → va_D A (wd_LawReader_split cA q0 q1 q2 q3 q4 q5 u0 u1 u2 i_a1 i_tokens i_places i_values) → va_S A s.heap H locs → lv_has ls 6 [(0, .ref q0), (1, .ref q5), (2, .int (Int32.ofInt x2)), (3, .int (Int32.ofInt x3)), (4, .int (Int32.ofInt x4)), (5, .int (Int32.ofInt x5))] → W p l e rm_LawReader_split s m args below meth c H locs 0 0 Q (F0 m 39 ls [])), ∀ (x2 : Int) (x3 : Int) (x4 : Int) (x5 : Int) (i_tokens : Nat → Int) (i_places : Nat → Int) (i_values : Nat → Int) (H : Heap) (locs : List Loc) (ls : Array Slot), f_LawReader_split_91 i_a1 k8 k39 x2 x3 x4 x5 i_tokens i_places i_values = some out → va_P (dC, dI) vwCl (wd_LawReader_split cA q0 q1 q2 q3 q4 q5 u0 u1 u2 i_a1 i_tokens i_places i_values) H → va_D A (wd_LawReader_split cA q0 q1 q2 q3 q4 q5 u0 u1 u2 i_a1 i_tokens i_places i_values) → va_S A s.heap H locs → lv_has ls 6 [(0, .ref q0), (1, .ref q5), (2, .int (Int32.ofInt x2)), (3, .int (Int32.ofInt x3)), (4, .int (Int32.ofInt x4)), (5, .int (Int32.ofInt x5))] → W p l e rm_LawReader_split s m args below meth c H locs 0 0 Q (F0 m 91 ls []) := by
    intro k8 ih8 k39 ih39 x2 x3 x4 x5 i_tokens i_places i_values H locs ls hf hP hD hS hl
    unfold f_LawReader_split_91 at hf
    refine xi_iinc hx hb (zdt zkX4_split 91 rfl) hl (k := 4) rfl (by decide) hf (fun v1 ls hl hf => ?_)
    have hl : lv_has ls 6 [(4, .int (Int32.ofInt v1)), (0, .ref q0), (1, .ref q5), (2, .int (Int32.ofInt x2)), (3, .int (Int32.ofInt x3)), (5, .int (Int32.ofInt x5))] := hl
    refine lv_goto (tgt := 39) hx hb (zdt zkX4_split 94 rfl) (by decide) ?_
    exact ih39 _ _ _ _ _ _ _ _ _ _ hf hP hD hS (lv_sub hl [1, 2, 3, 4, 0, 5] rfl)
  have b_65 : ∀ (k8 : Int → Int → Int → Int → (Nat → Int) → (Nat → Int) → (Nat → Int) → Option ((Nat → Int) × (Nat → Int) × (Nat → Int))) (_ : ∀ (x2 : Int) (x3 : Int) (x4 : Int) (x5 : Int) (i_tokens : Nat → Int) (i_places : Nat → Int) (i_values : Nat → Int) (H : Heap) (locs : List Loc) (ls : Array Slot), k8 x2 x3 x4 x5 i_tokens i_places i_values = some out → va_P (dC, dI) vwCl (wd_LawReader_split cA q0 q1 q2 q3 q4 q5 u0 u1 u2 i_a1 i_tokens i_places i_values) H → va_D A (wd_LawReader_split cA q0 q1 q2 q3 q4 q5 u0 u1 u2 i_a1 i_tokens i_places i_values) → va_S A s.heap H locs → lv_has ls 6 [(0, .ref q0), (1, .ref q5), (2, .int (Int32.ofInt x2)), (3, .int (Int32.ofInt x3)), (4, .int (Int32.ofInt x4)), (5, .int (Int32.ofInt x5))] → W p l e rm_LawReader_split s m args below meth c H locs 0 0 Q (F0 m 8 ls [])), ∀ (k39 : Int → Int → Int → Int → (Nat → Int) → (Nat → Int) → (Nat → Int) → Option ((Nat → Int) × (Nat → Int) × (Nat → Int))) (_ : ∀ (x2 : Int) (x3 : Int) (x4 : Int) (x5 : Int) (i_tokens : Nat → Int) (i_places : Nat → Int) (i_values : Nat → Int) (H : Heap) (locs : List Loc) (ls : Array Slot), k39 x2 x3 x4 x5 i_tokens i_places i_values = some out → va_P (dC, dI) vwCl (wd_LawReader_split cA q0 q1 q2 q3 q4 q5 u0 u1 u2 i_a1 i_tokens i_places i_values) H → va_D A (wd_LawReader_split cA q0 q1 q2 q3 q4 q5 u0 u1 u2 i_a1 i_tokens i_places i_values) → va_S A s.heap H locs → lv_has ls 6 [(0, .ref q0), (1, .ref q5), (2, .int (Int32.ofInt x2)), (3, .int (Int32.ofInt x3)), (4, .int (Int32.ofInt x4)), (5, .int (Int32.ofInt x5))] → W p l e rm_LawReader_split s m args below meth c H locs 0 0 Q (F0 m 39 ls [])), ∀ (x2 : Int) (x3 : Int) (x4 : Int) (x5 : Int) (i_tokens : Nat → Int) (i_places : Nat → Int) (i_values : Nat → Int) (H : Heap) (locs : List Loc) (ls : Array Slot), f_LawReader_split_65 i_a1 k8 k39 x2 x3 x4 x5 i_tokens i_places i_values = some out → va_P (dC, dI) vwCl (wd_LawReader_split cA q0 q1 q2 q3 q4 q5 u0 u1 u2 i_a1 i_tokens i_places i_values) H → va_D A (wd_LawReader_split cA q0 q1 q2 q3 q4 q5 u0 u1 u2 i_a1 i_tokens i_places i_values) → va_S A s.heap H locs → lv_has ls 6 [(0, .ref q0), (1, .ref q5), (2, .int (Int32.ofInt x2)), (3, .int (Int32.ofInt x3)), (4, .int (Int32.ofInt x4)), (5, .int (Int32.ofInt x5))] → W p l e rm_LawReader_split s m args below meth c H locs 0 0 Q (F0 m 65 ls []) := by
    intro k8 ih8 k39 ih39 x2 x3 x4 x5 i_tokens i_places i_values H locs ls hf hP hD hS hl
    unfold f_LawReader_split_65 at hf
    refine lv_iload hx hb (zdt zkX4_split 65 rfl) (lv_at hl 4 rfl) ?_
    refine lv_iload_n hx hb (zdt zkX4_split 67 rfl) rfl (lv_at hl 2 rfl) ?_
    refine xi_icmp_ge (tgt := 97) hx hb (zdt zkX4_split 68 rfl) (by decide) hf (fun hf => ?_) (fun hf => ?_)
    · exact b_97 _ ih8 _ _ _ _ _ _ _ _ _ _ hf hP hD hS (lv_sub hl [0, 1, 2, 3, 4, 5] rfl)
    · refine lv_aload_n hx hb (zdt zkX4_split 71 rfl) rfl (lv_at hl 1 rfl) ?_
      refine lv_iload hx hb (zdt zkX4_split 72 rfl) (lv_at hl 5 rfl) ?_
      refine xi_iald hx hb hK hP 1 0 rfl rfl (zdt zkX4_split 74 rfl) hf (fun v1 hf => ?_)
      refine xe_d1 hf (fun v2 hg hf => ?_)
      have hC : ([] : List Nat).map (fun i => (wd_LawReader_split cA q0 q1 q2 q3 q4 q5 u0 u1 u2 i_a1 i_tokens i_places i_values)[i]?) = (wd_LawReader_isDigit cA).map some := rfl
      refine xv_afterI (ws' := (wd_LawReader_split cA q0 q1 q2 q3 q4 q5 u0 u1 u2 i_a1 i_tokens i_places i_values)) (isC := []) (ps := [none, none, none, none, none]) (va_runS (As := [.int (Int32.ofInt v1)]) (rest := []) ⟨hx, hb, hml, hown, hts⟩ (c_LawReader_isDigit l ev dC dI cA hg H.size) (va_cwS 1 hts (zgS zw_663 zw_664 zw_107 zw_665) rfl rfl rfl hd_LawReader_isDigit.2 ⟨Nat.le_of_ble_eq_true rfl, Nat.le_of_ble_eq_true rfl⟩) (xv_preS hE hA hS hK hP hD (isC := []) (by decide +kernel) hC) rfl rfl hl.1 rfl (lv_room (Nat.le_of_ble_eq_true rfl)) (zdt zkX4_split 75 rfl) ⟨Nat.le_refl _, Nat.le_refl _⟩) hP hD hS hA (by decide +kernel) rfl hC rfl rfl (fun H locs hP hD hS => ?_)
      refine xi_if_eq (tgt := 97) hx hb (zdt zkX4_split 78 rfl) (by decide) hf (fun hf => ?_) (fun hf => ?_)
      · exact b_97 _ ih8 _ _ _ _ _ _ _ _ _ _ hf hP hD hS (lv_sub hl [0, 1, 2, 3, 4, 5] rfl)
      · refine lv_aload_n hx hb (zdt zkX4_split 81 rfl) rfl (lv_at hl 1 rfl) ?_
        refine lv_iload hx hb (zdt zkX4_split 82 rfl) (lv_at hl 4 rfl) ?_
        refine xi_iald hx hb hK hP 1 0 rfl rfl (zdt zkX4_split 84 rfl) hf (fun v3 hf => ?_)
        refine xe_d1 hf (fun v4 hg hf => ?_)
        have hC : ([] : List Nat).map (fun i => (wd_LawReader_split cA q0 q1 q2 q3 q4 q5 u0 u1 u2 i_a1 i_tokens i_places i_values)[i]?) = (wd_LawReader_isDigit cA).map some := rfl
        refine xv_afterI (ws' := (wd_LawReader_split cA q0 q1 q2 q3 q4 q5 u0 u1 u2 i_a1 i_tokens i_places i_values)) (isC := []) (ps := [none, none, none, none, none]) (va_runS (As := [.int (Int32.ofInt v3)]) (rest := []) ⟨hx, hb, hml, hown, hts⟩ (c_LawReader_isDigit l ev dC dI cA hg H.size) (va_cwS 1 hts (zgS zw_663 zw_664 zw_107 zw_665) rfl rfl rfl hd_LawReader_isDigit.2 ⟨Nat.le_of_ble_eq_true rfl, Nat.le_of_ble_eq_true rfl⟩) (xv_preS hE hA hS hK hP hD (isC := []) (by decide +kernel) hC) rfl rfl hl.1 rfl (lv_room (Nat.le_of_ble_eq_true rfl)) (zdt zkX4_split 85 rfl) ⟨Nat.le_refl _, Nat.le_refl _⟩) hP hD hS hA (by decide +kernel) rfl hC rfl rfl (fun H locs hP hD hS => ?_)
        refine xi_if_eq (tgt := 97) hx hb (zdt zkX4_split 88 rfl) (by decide) hf (fun hf => ?_) (fun hf => ?_)
        · exact b_97 _ ih8 _ _ _ _ _ _ _ _ _ _ hf hP hD hS (lv_sub hl [0, 1, 2, 3, 4, 5] rfl)
        · exact b_91 _ ih8 _ ih39 _ _ _ _ _ _ _ _ _ _ hf hP hD hS (lv_sub hl [0, 1, 2, 3, 4, 5] rfl)
  have b_39 : ∀ (k8 : Int → Int → Int → Int → (Nat → Int) → (Nat → Int) → (Nat → Int) → Option ((Nat → Int) × (Nat → Int) × (Nat → Int))) (_ : ∀ (x2 : Int) (x3 : Int) (x4 : Int) (x5 : Int) (i_tokens : Nat → Int) (i_places : Nat → Int) (i_values : Nat → Int) (H : Heap) (locs : List Loc) (ls : Array Slot), k8 x2 x3 x4 x5 i_tokens i_places i_values = some out → va_P (dC, dI) vwCl (wd_LawReader_split cA q0 q1 q2 q3 q4 q5 u0 u1 u2 i_a1 i_tokens i_places i_values) H → va_D A (wd_LawReader_split cA q0 q1 q2 q3 q4 q5 u0 u1 u2 i_a1 i_tokens i_places i_values) → va_S A s.heap H locs → lv_has ls 6 [(0, .ref q0), (1, .ref q5), (2, .int (Int32.ofInt x2)), (3, .int (Int32.ofInt x3)), (4, .int (Int32.ofInt x4)), (5, .int (Int32.ofInt x5))] → W p l e rm_LawReader_split s m args below meth c H locs 0 0 Q (F0 m 8 ls [])), ∀ (k39 : Int → Int → Int → Int → (Nat → Int) → (Nat → Int) → (Nat → Int) → Option ((Nat → Int) × (Nat → Int) × (Nat → Int))) (_ : ∀ (x2 : Int) (x3 : Int) (x4 : Int) (x5 : Int) (i_tokens : Nat → Int) (i_places : Nat → Int) (i_values : Nat → Int) (H : Heap) (locs : List Loc) (ls : Array Slot), k39 x2 x3 x4 x5 i_tokens i_places i_values = some out → va_P (dC, dI) vwCl (wd_LawReader_split cA q0 q1 q2 q3 q4 q5 u0 u1 u2 i_a1 i_tokens i_places i_values) H → va_D A (wd_LawReader_split cA q0 q1 q2 q3 q4 q5 u0 u1 u2 i_a1 i_tokens i_places i_values) → va_S A s.heap H locs → lv_has ls 6 [(0, .ref q0), (1, .ref q5), (2, .int (Int32.ofInt x2)), (3, .int (Int32.ofInt x3)), (4, .int (Int32.ofInt x4)), (5, .int (Int32.ofInt x5))] → W p l e rm_LawReader_split s m args below meth c H locs 0 0 Q (F0 m 39 ls [])), ∀ (x2 : Int) (x3 : Int) (x4 : Int) (x5 : Int) (i_tokens : Nat → Int) (i_places : Nat → Int) (i_values : Nat → Int) (H : Heap) (locs : List Loc) (ls : Array Slot), f_LawReader_split_39_b i_a1 k8 k39 x2 x3 x4 x5 i_tokens i_places i_values = some out → va_P (dC, dI) vwCl (wd_LawReader_split cA q0 q1 q2 q3 q4 q5 u0 u1 u2 i_a1 i_tokens i_places i_values) H → va_D A (wd_LawReader_split cA q0 q1 q2 q3 q4 q5 u0 u1 u2 i_a1 i_tokens i_places i_values) → va_S A s.heap H locs → lv_has ls 6 [(0, .ref q0), (1, .ref q5), (2, .int (Int32.ofInt x2)), (3, .int (Int32.ofInt x3)), (4, .int (Int32.ofInt x4)), (5, .int (Int32.ofInt x5))] → W p l e rm_LawReader_split s m args below meth c H locs 0 0 Q (F0 m 39 ls []) := by
    intro k8 ih8 k39 ih39 x2 x3 x4 x5 i_tokens i_places i_values H locs ls hf hP hD hS hl
    unfold f_LawReader_split_39_b at hf
    refine lv_iload hx hb (zdt zkX4_split 39 rfl) (lv_at hl 4 rfl) ?_
    refine lv_iload_n hx hb (zdt zkX4_split 41 rfl) rfl (lv_at hl 2 rfl) ?_
    refine xi_icmp_ge (tgt := 65) hx hb (zdt zkX4_split 42 rfl) (by decide) hf (fun hf => ?_) (fun hf => ?_)
    · exact b_65 _ ih8 _ ih39 _ _ _ _ _ _ _ _ _ _ hf hP hD hS (lv_sub hl [0, 1, 2, 3, 4, 5] rfl)
    · refine lv_aload_n hx hb (zdt zkX4_split 45 rfl) rfl (lv_at hl 1 rfl) ?_
      refine lv_iload hx hb (zdt zkX4_split 46 rfl) (lv_at hl 5 rfl) ?_
      refine xi_iald hx hb hK hP 1 0 rfl rfl (zdt zkX4_split 48 rfl) hf (fun v1 hf => ?_)
      refine xe_d1 hf (fun v2 hg hf => ?_)
      have hC : ([] : List Nat).map (fun i => (wd_LawReader_split cA q0 q1 q2 q3 q4 q5 u0 u1 u2 i_a1 i_tokens i_places i_values)[i]?) = (wd_LawReader_isLetter cA).map some := rfl
      refine xv_afterI (ws' := (wd_LawReader_split cA q0 q1 q2 q3 q4 q5 u0 u1 u2 i_a1 i_tokens i_places i_values)) (isC := []) (ps := [none, none, none, none, none]) (va_runS (As := [.int (Int32.ofInt v1)]) (rest := []) ⟨hx, hb, hml, hown, hts⟩ (c_LawReader_isLetter l ev dC dI cA hg H.size) (va_cwS 1 hts (zgS zw_660 zw_661 zw_107 zw_662) rfl rfl rfl hd_LawReader_isLetter.2 ⟨Nat.le_of_ble_eq_true rfl, Nat.le_of_ble_eq_true rfl⟩) (xv_preS hE hA hS hK hP hD (isC := []) (by decide +kernel) hC) rfl rfl hl.1 rfl (lv_room (Nat.le_of_ble_eq_true rfl)) (zdt zkX4_split 49 rfl) ⟨Nat.le_refl _, Nat.le_refl _⟩) hP hD hS hA (by decide +kernel) rfl hC rfl rfl (fun H locs hP hD hS => ?_)
      refine xi_if_eq (tgt := 65) hx hb (zdt zkX4_split 52 rfl) (by decide) hf (fun hf => ?_) (fun hf => ?_)
      · exact b_65 _ ih8 _ ih39 _ _ _ _ _ _ _ _ _ _ hf hP hD hS (lv_sub hl [0, 1, 2, 3, 4, 5] rfl)
      · refine lv_aload_n hx hb (zdt zkX4_split 55 rfl) rfl (lv_at hl 1 rfl) ?_
        refine lv_iload hx hb (zdt zkX4_split 56 rfl) (lv_at hl 4 rfl) ?_
        refine xi_iald hx hb hK hP 1 0 rfl rfl (zdt zkX4_split 58 rfl) hf (fun v3 hf => ?_)
        refine xe_d1 hf (fun v4 hg hf => ?_)
        have hC : ([] : List Nat).map (fun i => (wd_LawReader_split cA q0 q1 q2 q3 q4 q5 u0 u1 u2 i_a1 i_tokens i_places i_values)[i]?) = (wd_LawReader_isLetter cA).map some := rfl
        refine xv_afterI (ws' := (wd_LawReader_split cA q0 q1 q2 q3 q4 q5 u0 u1 u2 i_a1 i_tokens i_places i_values)) (isC := []) (ps := [none, none, none, none, none]) (va_runS (As := [.int (Int32.ofInt v3)]) (rest := []) ⟨hx, hb, hml, hown, hts⟩ (c_LawReader_isLetter l ev dC dI cA hg H.size) (va_cwS 1 hts (zgS zw_660 zw_661 zw_107 zw_662) rfl rfl rfl hd_LawReader_isLetter.2 ⟨Nat.le_of_ble_eq_true rfl, Nat.le_of_ble_eq_true rfl⟩) (xv_preS hE hA hS hK hP hD (isC := []) (by decide +kernel) hC) rfl rfl hl.1 rfl (lv_room (Nat.le_of_ble_eq_true rfl)) (zdt zkX4_split 59 rfl) ⟨Nat.le_refl _, Nat.le_refl _⟩) hP hD hS hA (by decide +kernel) rfl hC rfl rfl (fun H locs hP hD hS => ?_)
        refine xi_if_ne (tgt := 91) hx hb (zdt zkX4_split 62 rfl) (by decide) hf (fun hf => ?_) (fun hf => ?_)
        · exact b_91 _ ih8 _ ih39 _ _ _ _ _ _ _ _ _ _ hf hP hD hS (lv_sub hl [0, 1, 2, 3, 4, 5] rfl)
        · exact b_65 _ ih8 _ ih39 _ _ _ _ _ _ _ _ _ _ hf hP hD hS (lv_sub hl [0, 1, 2, 3, 4, 5] rfl)
  have l_39 : ∀ (k8 : Int → Int → Int → Int → (Nat → Int) → (Nat → Int) → (Nat → Int) → Option ((Nat → Int) × (Nat → Int) × (Nat → Int))) (_ : ∀ (x2 : Int) (x3 : Int) (x4 : Int) (x5 : Int) (i_tokens : Nat → Int) (i_places : Nat → Int) (i_values : Nat → Int) (H : Heap) (locs : List Loc) (ls : Array Slot), k8 x2 x3 x4 x5 i_tokens i_places i_values = some out → va_P (dC, dI) vwCl (wd_LawReader_split cA q0 q1 q2 q3 q4 q5 u0 u1 u2 i_a1 i_tokens i_places i_values) H → va_D A (wd_LawReader_split cA q0 q1 q2 q3 q4 q5 u0 u1 u2 i_a1 i_tokens i_places i_values) → va_S A s.heap H locs → lv_has ls 6 [(0, .ref q0), (1, .ref q5), (2, .int (Int32.ofInt x2)), (3, .int (Int32.ofInt x3)), (4, .int (Int32.ofInt x4)), (5, .int (Int32.ofInt x5))] → W p l e rm_LawReader_split s m args below meth c H locs 0 0 Q (F0 m 8 ls [])), ∀ (n : Nat), ∀ (x2 : Int) (x3 : Int) (x4 : Int) (x5 : Int) (i_tokens : Nat → Int) (i_places : Nat → Int) (i_values : Nat → Int) (H : Heap) (locs : List Loc) (ls : Array Slot), f_LawReader_split_39 i_a1 k8 n x2 x3 x4 x5 i_tokens i_places i_values = some out → va_P (dC, dI) vwCl (wd_LawReader_split cA q0 q1 q2 q3 q4 q5 u0 u1 u2 i_a1 i_tokens i_places i_values) H → va_D A (wd_LawReader_split cA q0 q1 q2 q3 q4 q5 u0 u1 u2 i_a1 i_tokens i_places i_values) → va_S A s.heap H locs → lv_has ls 6 [(0, .ref q0), (1, .ref q5), (2, .int (Int32.ofInt x2)), (3, .int (Int32.ofInt x3)), (4, .int (Int32.ofInt x4)), (5, .int (Int32.ofInt x5))] → W p l e rm_LawReader_split s m args below meth c H locs 0 0 Q (F0 m 39 ls []) := by
    intro k8 ih8 n
    induction n with
    | zero => intro x2 x3 x4 x5 i_tokens i_places i_values H locs ls hf hP hD hS hl; exact nomatch hf
    | succ n ih => intro x2 x3 x4 x5 i_tokens i_places i_values H locs ls hf hP hD hS hl; exact b_39 k8 ih8 (f_LawReader_split_39 i_a1 k8 n) ih x2 x3 x4 x5 i_tokens i_places i_values H locs ls hf hP hD hS hl
  have b_8 : ∀ (k8 : Int → Int → Int → Int → (Nat → Int) → (Nat → Int) → (Nat → Int) → Option ((Nat → Int) × (Nat → Int) × (Nat → Int))) (_ : ∀ (x2 : Int) (x3 : Int) (x4 : Int) (x5 : Int) (i_tokens : Nat → Int) (i_places : Nat → Int) (i_values : Nat → Int) (H : Heap) (locs : List Loc) (ls : Array Slot), k8 x2 x3 x4 x5 i_tokens i_places i_values = some out → va_P (dC, dI) vwCl (wd_LawReader_split cA q0 q1 q2 q3 q4 q5 u0 u1 u2 i_a1 i_tokens i_places i_values) H → va_D A (wd_LawReader_split cA q0 q1 q2 q3 q4 q5 u0 u1 u2 i_a1 i_tokens i_places i_values) → va_S A s.heap H locs → lv_has ls 6 [(0, .ref q0), (1, .ref q5), (2, .int (Int32.ofInt x2)), (3, .int (Int32.ofInt x3)), (4, .int (Int32.ofInt x4)), (5, .int (Int32.ofInt x5))] → W p l e rm_LawReader_split s m args below meth c H locs 0 0 Q (F0 m 8 ls [])), ∀ (x2 : Int) (x3 : Int) (x4 : Int) (x5 : Int) (i_tokens : Nat → Int) (i_places : Nat → Int) (i_values : Nat → Int) (H : Heap) (locs : List Loc) (ls : Array Slot), f_LawReader_split_8_b i_a1 k8 x2 x3 x4 x5 i_tokens i_places i_values = some out → va_P (dC, dI) vwCl (wd_LawReader_split cA q0 q1 q2 q3 q4 q5 u0 u1 u2 i_a1 i_tokens i_places i_values) H → va_D A (wd_LawReader_split cA q0 q1 q2 q3 q4 q5 u0 u1 u2 i_a1 i_tokens i_places i_values) → va_S A s.heap H locs → lv_has ls 6 [(0, .ref q0), (1, .ref q5), (2, .int (Int32.ofInt x2)), (3, .int (Int32.ofInt x3)), (4, .int (Int32.ofInt x4)), (5, .int (Int32.ofInt x5))] → W p l e rm_LawReader_split s m args below meth c H locs 0 0 Q (F0 m 8 ls []) := by
    intro k8 ih8 x2 x3 x4 x5 i_tokens i_places i_values H locs ls hf hP hD hS hl
    unfold f_LawReader_split_8_b at hf
    refine lv_iload hx hb (zdt zkX4_split 8 rfl) (lv_at hl 5 rfl) ?_
    refine lv_iload_n hx hb (zdt zkX4_split 10 rfl) rfl (lv_at hl 2 rfl) ?_
    refine xi_icmp_ge (tgt := 124) hx hb (zdt zkX4_split 11 rfl) (by decide) hf (fun hf => ?_) (fun hf => ?_)
    · refine lv_aload_n hx hb (zdt zkX4_split 124 rfl) rfl (lv_at hl 0 rfl) ?_
      refine va_get (D := (dC, dI)) (ci := 4) (v := .ref q3) (C := RX4) (T := TX4) (N := 7) hx hb hz zi_X4 hown hK hP 0 rfl rfl 3 (by decide) (hz _ zw_253) (fun _ h9 => h9) rfl (zdt zkX4_split 125 rfl) ?_
      refine lv_iload_n hx hb (zdt zkX4_split 128 rfl) rfl (lv_at hl 3 rfl) ?_
      refine lv_iload_n hx hb (zdt zkX4_split 129 rfl) rfl (lv_at hl 2 rfl) ?_
      refine xi_iast hx hb hK hP hD hS 3 0 rfl rfl (zdt zkX4_split 130 rfl) hf (fun a1 H locs hP hD hS hf => ?_)
      refine xw_PD (wd_LawReader_split cA q0 q1 q2 q3 q4 q5 u0 u1 u2 i_a1 i_tokens a1 i_values) hP hD (fun hP hD => ?_)
      refine lv_aload_n hx hb (zdt zkX4_split 131 rfl) rfl (lv_at hl 0 rfl) ?_
      refine va_get (D := (dC, dI)) (ci := 4) (v := .ref q2) (C := RX4) (T := TX4) (N := 7) hx hb hz zi_X4 hown hK hP 0 rfl rfl 2 (by decide) (hz _ zw_252) (fun _ h9 => h9) rfl (zdt zkX4_split 132 rfl) ?_
      refine lv_iload_n hx hb (zdt zkX4_split 135 rfl) rfl (lv_at hl 3 rfl) ?_
      refine lv_sipush (v := Int32.ofInt 257) hx hb (zdt zkX4_split 136 rfl) (by decide) ?_
      refine xi_iast hx hb hK hP hD hS 2 0 rfl rfl (zdt zkX4_split 139 rfl) hf (fun a2 H locs hP hD hS hf => ?_)
      refine xw_PD (wd_LawReader_split cA q0 q1 q2 q3 q4 q5 u0 u1 u2 i_a1 a2 a1 i_values) hP hD (fun hP hD => ?_)
      obtain rfl := Option.some.inj hf
      exact hret _ _ _ _ (zdt zkX4_split 140 rfl) hP hD hS
    · refine lv_iload hx hb (zdt zkX4_split 14 rfl) (lv_at hl 5 rfl) ?_
      refine lv_iload hx hb (zdt zkX4_split 16 rfl) (lv_at hl 4 rfl) ?_
      refine xi_icmp_lt (tgt := 118) hx hb (zdt zkX4_split 18 rfl) (by decide) hf (fun hf => ?_) (fun hf => ?_)
      · exact b_118 _ ih8 _ _ _ _ _ _ _ _ _ _ hf hP hD hS (lv_sub hl [0, 1, 2, 3, 4, 5] rfl)
      · refine lv_aload_n hx hb (zdt zkX4_split 21 rfl) rfl (lv_at hl 1 rfl) ?_
        refine lv_iload hx hb (zdt zkX4_split 22 rfl) (lv_at hl 5 rfl) ?_
        refine xi_iald hx hb hK hP 1 0 rfl rfl (zdt zkX4_split 24 rfl) hf (fun v3 hf => ?_)
        refine lv_bipush (v := Int32.ofInt 32) hx hb (zdt zkX4_split 25 rfl) (by decide) ?_
        refine xi_icmp_ne (tgt := 33) hx hb (zdt zkX4_split 27 rfl) (by decide) hf (fun hf => ?_) (fun hf => ?_)
        · refine lv_iload hx hb (zdt zkX4_split 33 rfl) (lv_at hl 5 rfl) ?_
          refine lv_iconst (v := Int32.ofInt 1) hx hb (zdt zkX4_split 35 rfl) rfl ?_
          refine xi_iadd hx hb (zdt zkX4_split 36 rfl) hf (fun v4 hf => ?_)
          refine lv_istore (lv' := [(4, .int (Int32.ofInt v4)), (0, .ref q0), (1, .ref q5), (2, .int (Int32.ofInt x2)), (3, .int (Int32.ofInt x3)), (5, .int (Int32.ofInt x5))]) hx hb (zdt zkX4_split 37 rfl) hl (by decide) rfl (fun ls hl => ?_)
          exact l_39 _ ih8 _ _ _ _ _ _ _ _ _ _ _ hf hP hD hS (lv_sub hl [1, 2, 3, 4, 0, 5] rfl)
        · refine lv_goto (tgt := 118) hx hb (zdt zkX4_split 30 rfl) (by decide) ?_
          exact b_118 _ ih8 _ _ _ _ _ _ _ _ _ _ hf hP hD hS (lv_sub hl [0, 1, 2, 3, 4, 5] rfl)
  have l_8 : ∀ (n : Nat), ∀ (x2 : Int) (x3 : Int) (x4 : Int) (x5 : Int) (i_tokens : Nat → Int) (i_places : Nat → Int) (i_values : Nat → Int) (H : Heap) (locs : List Loc) (ls : Array Slot), f_LawReader_split_8 i_a1 n x2 x3 x4 x5 i_tokens i_places i_values = some out → va_P (dC, dI) vwCl (wd_LawReader_split cA q0 q1 q2 q3 q4 q5 u0 u1 u2 i_a1 i_tokens i_places i_values) H → va_D A (wd_LawReader_split cA q0 q1 q2 q3 q4 q5 u0 u1 u2 i_a1 i_tokens i_places i_values) → va_S A s.heap H locs → lv_has ls 6 [(0, .ref q0), (1, .ref q5), (2, .int (Int32.ofInt x2)), (3, .int (Int32.ofInt x3)), (4, .int (Int32.ofInt x4)), (5, .int (Int32.ofInt x5))] → W p l e rm_LawReader_split s m args below meth c H locs 0 0 Q (F0 m 8 ls []) := by
    intro n
    induction n with
    | zero => intro x2 x3 x4 x5 i_tokens i_places i_values H locs ls hf hP hD hS hl; exact nomatch hf
    | succ n ih => intro x2 x3 x4 x5 i_tokens i_places i_values H locs ls hf hP hD hS hl; exact b_8 (f_LawReader_split_8 i_a1 n) ih x2 x3 x4 x5 i_tokens i_places i_values H locs ls hf hP hD hS hl
  unfold f_LawReader_split at hf
  refine lv_iconst (v := Int32.ofInt 0) hx hb (zdt zkX4_split 0 rfl) rfl ?_
  refine lv_istore_n (lv' := [(3, .int (Int32.ofInt 0)), (0, .ref q0), (1, .ref q5), (2, .int (Int32.ofInt x2))]) hx hb (zdt zkX4_split 1 rfl) rfl hl (by decide) rfl (fun ls hl => ?_)
  refine lv_iconst (v := Int32.ofInt 0) hx hb (zdt zkX4_split 2 rfl) rfl ?_
  refine lv_istore (lv' := [(4, .int (Int32.ofInt 0)), (3, .int (Int32.ofInt 0)), (0, .ref q0), (1, .ref q5), (2, .int (Int32.ofInt x2))]) hx hb (zdt zkX4_split 3 rfl) hl (by decide) rfl (fun ls hl => ?_)
  refine lv_iconst (v := Int32.ofInt 0) hx hb (zdt zkX4_split 5 rfl) rfl ?_
  refine lv_istore (lv' := [(5, .int (Int32.ofInt 0)), (4, .int (Int32.ofInt 0)), (3, .int (Int32.ofInt 0)), (0, .ref q0), (1, .ref q5), (2, .int (Int32.ofInt x2))]) hx hb (zdt zkX4_split 6 rfl) hl (by decide) rfl (fun ls hl => ?_)
  exact l_8  _ _ _ _ _ _ _ _ _ _ _ hf hP hD hS (lv_sub hl [3, 4, 5, 2, 1, 0] rfl)
set_option maxRecDepth 100000 in
noncomputable def ztX4_read (p : Nat) : Option (Jvm.ClassFile.Instr × Nat) := bif Nat.ble 44 p then (bif Nat.ble 68 p then (bif Nat.ble 83 p then (bif Nat.ble 90 p then (bif Nat.ble 94 p then (bif Nat.ble 95 p then (bif Nat.beq p 95 then some (.ireturn, 1) else none) else (bif Nat.beq p 94 then some (.iaload, 1) else none)) else (bif Nat.ble 91 p then (bif Nat.beq p 91 then some (.getfield 28, 3) else none) else (bif Nat.beq p 90 then some (.aload_n 0, 1) else none))) else (bif Nat.ble 86 p then (bif Nat.ble 87 p then (bif Nat.beq p 87 then some (.getfield 22, 3) else none) else (bif Nat.beq p 86 then some (.aload_n 0, 1) else none)) else (bif Nat.beq p 83 then some (.goto (-45), 3) else none))) else (bif Nat.ble 74 p then (bif Nat.ble 77 p then (bif Nat.ble 80 p then (bif Nat.beq p 80 then some (.iinc 3 1, 3) else none) else (bif Nat.beq p 77 then some (.goto 9, 3) else none)) else (bif Nat.beq p 74 then some (.ifCond .ne 6, 3) else none)) else (bif Nat.ble 69 p then (bif Nat.ble 71 p then (bif Nat.beq p 71 then some (.invokevirtual 51, 3) else none) else (bif Nat.beq p 69 then some (.bipush 59, 2) else none)) else (bif Nat.beq p 68 then some (.aload_n 0, 1) else none)))) else (bif Nat.ble 56 p then (bif Nat.ble 63 p then (bif Nat.ble 66 p then (bif Nat.ble 67 p then (bif Nat.beq p 67 then some (.ireturn, 1) else none) else (bif Nat.beq p 66 then some (.iconst (-1), 1) else none)) else (bif Nat.beq p 63 then some (.if_icmp .ne 5, 3) else none)) else (bif Nat.ble 59 p then (bif Nat.ble 60 p then (bif Nat.beq p 60 then some (.sipush 257, 3) else none) else (bif Nat.beq p 59 then some (.iaload, 1) else none)) else (bif Nat.beq p 56 then some (.getfield 28, 3) else none))) else (bif Nat.ble 51 p then (bif Nat.ble 52 p then (bif Nat.ble 55 p then (bif Nat.beq p 55 then some (.aload_n 0, 1) else none) else (bif Nat.beq p 52 then some (.getfield 19, 3) else none)) else (bif Nat.beq p 51 then some (.aload_n 0, 1) else none)) else (bif Nat.ble 45 p then (bif Nat.ble 48 p then (bif Nat.beq p 48 then some (.ifCond .eq 38, 3) else none) else (bif Nat.beq p 45 then some (.invokevirtual 47, 3) else none)) else (bif Nat.beq p 44 then some (.aload_n 0, 1) else none))))) else (bif Nat.ble 22 p then (bif Nat.ble 32 p then (bif Nat.ble 37 p then (bif Nat.ble 39 p then (bif Nat.ble 41 p then (bif Nat.beq p 41 then some (.if_icmp .ge 45, 3) else none) else (bif Nat.beq p 39 then some (.bipush 12, 2) else none)) else (bif Nat.ble 38 p then (bif Nat.beq p 38 then some (.iload_n 3, 1) else none) else (bif Nat.beq p 37 then some (.istore_n 3, 1) else none))) else (bif Nat.ble 33 p then (bif Nat.ble 36 p then (bif Nat.beq p 36 then some (.iconst 0, 1) else none) else (bif Nat.beq p 33 then some (.putfield 28, 3) else none)) else (bif Nat.beq p 32 then some (.iconst 0, 1) else none))) else (bif Nat.ble 27 p then (bif Nat.ble 28 p then (bif Nat.ble 31 p then (bif Nat.beq p 31 then some (.aload_n 0, 1) else none) else (bif Nat.beq p 28 then some (.putfield 31, 3) else none)) else (bif Nat.beq p 27 then some (.iconst 0, 1) else none)) else (bif Nat.ble 23 p then (bif Nat.ble 26 p then (bif Nat.beq p 26 then some (.aload_n 0, 1) else none) else (bif Nat.beq p 23 then some (.putfield 15, 3) else none)) else (bif Nat.beq p 22 then some (.iconst 0, 1) else none)))) else (bif Nat.ble 8 p then (bif Nat.ble 15 p then (bif Nat.ble 18 p then (bif Nat.ble 21 p then (bif Nat.beq p 21 then some (.aload_n 0, 1) else none) else (bif Nat.beq p 18 then some (.invokevirtual 43, 3) else none)) else (bif Nat.beq p 15 then some (.invokestatic 40, 3) else none)) else (bif Nat.ble 9 p then (bif Nat.ble 12 p then (bif Nat.beq p 12 then some (.invokestatic 34, 3) else none) else (bif Nat.beq p 9 then some (.invokestatic 34, 3) else none)) else (bif Nat.beq p 8 then some (.arraylength, 1) else none))) else (bif Nat.ble 3 p then (bif Nat.ble 4 p then (bif Nat.ble 7 p then (bif Nat.beq p 7 then some (.aload_n 1, 1) else none) else (bif Nat.beq p 4 then some (.sipush 400, 3) else none)) else (bif Nat.beq p 3 then some (.iload_n 2, 1) else none)) else (bif Nat.ble 1 p then (bif Nat.ble 2 p then (bif Nat.beq p 2 then some (.iconst 0, 1) else none) else (bif Nat.beq p 1 then some (.aload_n 1, 1) else none)) else (bif Nat.beq p 0 then some (.aload_n 0, 1) else none)))))
set_option maxRecDepth 100000 in
theorem zkX4_read : (zbig cX4_read.data.toList = 1044190403682997419623184436860909895038144607030247045025867583239734695406529046357573267157746696360410324161781660286202108373393576570222545049632460451101797130479076011611047960411473727453258338635856783544677740372555934506 ∧ cX4_read.data.toList.length = 96) ∧ zdk cX4_read 1044190403682997419623184436860909895038144607030247045025867583239734695406529046357573267157746696360410324161781660286202108373393576570222545049632460451101797130479076011611047960411473727453258338635856783544677740372555934506 96 ztX4_read 95 = true := by decide +kernel
theorem zw_3 : (Jvm.Cond.selects "HillSchool$LawReader" ({ cls := "HillSchool$LawReader", name := "split", desc := "([II)V" } : Jvm.MethodName) ({ cls := "HillSchool$LawReader", name := "split", desc := "([II)V" } : Jvm.MethodName)) ∈ zall := zmemG (zmj_0 3 rfl) rfl
theorem zw_5 : (Jvm.Cond.selects "HillSchool$LawReader" ({ cls := "HillSchool$LawReader", name := "readClause", desc := "()Z" } : Jvm.MethodName) ({ cls := "HillSchool$LawReader", name := "readClause", desc := "()Z" } : Jvm.MethodName)) ∈ zall := zmemG (zmj_0 5 rfl) rfl
theorem zw_116 : (Jvm.Cond.initialized "java/lang/Math") ∈ zall := zmemG (zmj_1 13 rfl) rfl
theorem zw_649 : (Jvm.Cond.code ({ cls := "HillSchool$LawReader", name := "read", desc := "([II)I" } : Jvm.MethodName) prog_6_method_2_code (4 : Nat) (Option.some Jvm.ClassFile.FieldType.int)) ∈ zall := zmemG (zmj_3 66 rfl) rfl
theorem zw_650 : (Jvm.Cond.methodLink "HillSchool$LawReader" (34 : Nat) ({ cls := "java/lang/Math", name := "min", desc := "(II)I" } : Jvm.MethodName)) ∈ zall := zmemG (zmj_3 67 rfl) rfl
theorem zw_651 : (Jvm.Cond.static ({ cls := "java/lang/Math", name := "min", desc := "(II)I" } : Jvm.MethodName)) ∈ zall := zmemG (zmj_3 68 rfl) rfl
theorem zw_652 : (Jvm.Cond.code ({ cls := "java/lang/Math", name := "min", desc := "(II)I" } : Jvm.MethodName) prog_15_method_69_code (2 : Nat) (Option.some Jvm.ClassFile.FieldType.int)) ∈ zall := zmemG (zmj_3 69 rfl) rfl
theorem zw_653 : (Jvm.Cond.methodLink "HillSchool$LawReader" (40 : Nat) ({ cls := "java/lang/Math", name := "max", desc := "(II)I" } : Jvm.MethodName)) ∈ zall := zmemG (zmj_3 70 rfl) rfl
theorem zw_654 : (Jvm.Cond.static ({ cls := "java/lang/Math", name := "max", desc := "(II)I" } : Jvm.MethodName)) ∈ zall := zmemG (zmj_3 71 rfl) rfl
theorem zw_655 : (Jvm.Cond.code ({ cls := "java/lang/Math", name := "max", desc := "(II)I" } : Jvm.MethodName) prog_15_method_65_code (2 : Nat) (Option.some Jvm.ClassFile.FieldType.int)) ∈ zall := zmemG (zmj_3 72 rfl) rfl
theorem zw_656 : (Jvm.Cond.methodLink "HillSchool$LawReader" (43 : Nat) ({ cls := "HillSchool$LawReader", name := "split", desc := "([II)V" } : Jvm.MethodName)) ∈ zall := zmemG (zmj_3 73 rfl) rfl
theorem zw_658 : (Jvm.Cond.instanceMethod ({ cls := "HillSchool$LawReader", name := "split", desc := "([II)V" } : Jvm.MethodName)) ∈ zall := zmemG (zmj_3 75 rfl) rfl
theorem zw_744 : (Jvm.Cond.methodLink "HillSchool$LawReader" (47 : Nat) ({ cls := "HillSchool$LawReader", name := "readClause", desc := "()Z" } : Jvm.MethodName)) ∈ zall := zmemG (zmj_3 161 rfl) rfl
theorem zw_746 : (Jvm.Cond.instanceMethod ({ cls := "HillSchool$LawReader", name := "readClause", desc := "()Z" } : Jvm.MethodName)) ∈ zall := zmemG (zmj_3 163 rfl) rfl
noncomputable abbrev w_LawReader_read : List Cond := .code yX4_read cX4_read 4 (some .int) :: zall
noncomputable abbrev rm_LawReader_read : Room := { frames := 132, cells := 0, slots := 0, locals := 3164 }
theorem hd_LawReader_read : yX4_read.cls = "HillSchool$LawReader" ∧ yX4_read.cls ≠ "java/lang/invoke/MethodHandle" ∧ yX4_read.cls ≠ "java/lang/invoke/VarHandle" ∧ (parseMethodDescriptor yX4_read.desc).map (fun d => d.parameters.length) = some 2 := by decide +kernel
noncomputable def wd_LawReader_read (cA : Nat → ClassId) (q0 q1 q2 q3 q4 q5 : Nat) (i_a1 : Nat → Int) (i_ordered : Int) (i_at : Int) (i_parts : Int) (i_orders : Nat → Int) (i_tokens : Nat → Int) (i_places : Nat → Int) (i_values : Nat → Int) : va_W := [(q0, .inr (4, [.ref q1, .int (Int32.ofInt i_ordered), .ref q2, .ref q3, .ref q4, .int (Int32.ofInt i_at), .int (Int32.ofInt i_parts)])), (q5, .inl (cA 0, 400, .inl (za i_a1))), (q1, .inl (cA 0, 424, .inl (za i_orders))), (q2, .inl (cA 0, 401, .inl (za i_tokens))), (q3, .inl (cA 0, 401, .inl (za i_places))), (q4, .inl (cA 0, 401, .inl (za i_values)))]
noncomputable def wf_LawReader_read (cA : Nat → ClassId) (q0 q1 q2 q3 q4 q5 : Nat) (i_a1 : Nat → Int) (o : Int × Int × Int × Int × (Nat → Int) × (Nat → Int) × (Nat → Int) × (Nat → Int)) : va_W := wd_LawReader_read cA q0 q1 q2 q3 q4 q5 i_a1 o.2.1 o.2.2.1 o.2.2.2.1 o.2.2.2.2.1 o.2.2.2.2.2.1 o.2.2.2.2.2.2.1 o.2.2.2.2.2.2.2
noncomputable def f_LawReader_read_38_b (i_a1 : Nat → Int) (k38 : Int → Int → Int → Int → (Nat → Int) → (Nat → Int) → (Nat → Int) → (Nat → Int) → Option (Int × Int × Int × Int × (Nat → Int) × (Nat → Int) × (Nat → Int) × (Nat → Int))) (x3 : Int) (i_ordered : Int) (i_at : Int) (i_parts : Int) (i_orders : Nat → Int) (i_tokens : Nat → Int) (i_places : Nat → Int) (i_values : Nat → Int) : Option (Int × Int × Int × Int × (Nat → Int) × (Nat → Int) × (Nat → Int) × (Nat → Int)) :=
  if zi_w 12 ≤ zi_w x3 then
    zg 401 i_places i_at fun v1 =>
    some (v1, i_ordered, i_at, i_parts, i_orders, i_tokens, i_places, i_values)
  else
    zd5 (f_LawReader_readClause i_tokens i_values i_ordered i_at i_parts i_orders) fun v2 v3 v4 v5 a6 =>
    if zi_w v2 = 0 then
      zg 401 i_places v4 fun v7 =>
      some (v7, v3, v4, v5, a6, i_tokens, i_places, i_values)
    else
      zg 401 i_tokens v4 fun v8 =>
      if zi_w v8 ≠ zi_w 257 then
        zd2 (f_LawReader_pass 59 i_tokens v4) fun v9 v10 =>
        if zi_w v9 ≠ 0 then
          zn (x3 + 1) fun v11 =>
          k38 v11 v3 v10 v5 a6 i_tokens i_places i_values
        else
          zg 401 i_places v10 fun v12 =>
          some (v12, v3, v10, v5, a6, i_tokens, i_places, i_values)
      else
        some ((-1), v3, v4, v5, a6, i_tokens, i_places, i_values)
noncomputable def f_LawReader_read_38 (i_a1 : Nat → Int) : Nat → Int → Int → Int → Int → (Nat → Int) → (Nat → Int) → (Nat → Int) → (Nat → Int) → Option (Int × Int × Int × Int × (Nat → Int) × (Nat → Int) × (Nat → Int) × (Nat → Int))
  | 0 => fun _ _ _ _ _ _ _ _ => none
  | n + 1 => fun y0 y1 y2 y3 y4 y5 y6 y7 => f_LawReader_read_38_b i_a1 (f_LawReader_read_38 i_a1 n) y0 y1 y2 y3 y4 y5 y6 y7
noncomputable def f_LawReader_read (x2 : Int) (i_a1 : Nat → Int) (i_ordered : Int) (i_at : Int) (i_parts : Int) (i_orders : Nat → Int) (i_tokens : Nat → Int) (i_places : Nat → Int) (i_values : Nat → Int) : Option (Int × Int × Int × Int × (Nat → Int) × (Nat → Int) × (Nat → Int) × (Nat → Int)) :=
  zn (zi_min 400 400) fun v1 =>
  zn (zi_min x2 v1) fun v2 =>
  zn (zi_max 0 v2) fun v3 =>
  zd3 (f_LawReader_split v3 i_a1 i_tokens i_places i_values) fun a4 a5 a6 =>
  f_LawReader_read_38 i_a1 zfu 0 0 0 0 i_orders a4 a5 a6
set_option maxHeartbeats 4000000 in
set_option maxRecDepth 100000 in
theorem c_LawReader_read (l : Launch) (ev : zEv) (dC : Nat → ClassId) (dI : Nat → Nat → Nat) (cA : Nat → ClassId) (q0 q1 q2 q3 q4 q5 : Nat) {x2 : Int} {i_a1 : Nat → Int} {i_ordered : Int} {i_at : Int} {i_parts : Int} {i_orders : Nat → Int} {i_tokens : Nat → Int} {i_places : Nat → Int} {i_values : Nat → Int} {out : Int × Int × Int × Int × (Nat → Int) × (Nat → Int) × (Nat → Int) × (Nat → Int)} (hf : f_LawReader_read x2 i_a1 i_ordered i_at i_parts i_orders i_tokens i_places i_values = some out) : xc_I l ev (dC, dI) vwCl (tyl cA) yX4_read w_LawReader_read rm_LawReader_read [.ref q0, .ref q5, .int (Int32.ofInt x2)] (wd_LawReader_read cA q0 q1 q2 q3 q4 q5 i_a1 i_ordered i_at i_parts i_orders i_tokens i_places i_values) (wf_LawReader_read cA q0 q1 q2 q3 q4 q5 i_a1 out) out.1 := by
  refine xv_startI (cc := cX4_read) (maxL := 4) (rt := .int) (by decide +kernel) rfl (Nat.le_of_ble_eq_true rfl) ?_
  intro p e s m args below meth c A Q H ls hx hb hml hts hown hK hA hP hD hS hl hE hret
  have hown : s.vm.findClass "HillSchool$LawReader" = some m.cls := hown
  have hz : ∀ w ∈ zall, w.before args s = true := fun w h => hts w (List.mem_cons_of_mem _ h)
  have hl : lv_has ls 4 [(0, .ref q0), (1, .ref q5), (2, .int (Int32.ofInt x2))] := hl
  have b_38 : ∀ (k38 : Int → Int → Int → Int → (Nat → Int) → (Nat → Int) → (Nat → Int) → (Nat → Int) → Option (Int × Int × Int × Int × (Nat → Int) × (Nat → Int) × (Nat → Int) × (Nat → Int))) (_ : ∀ (x3 : Int) (i_ordered : Int) (i_at : Int) (i_parts : Int) (i_orders : Nat → Int) (i_tokens : Nat → Int) (i_places : Nat → Int) (i_values : Nat → Int) (H : Heap) (locs : List Loc) (ls : Array Slot), k38 x3 i_ordered i_at i_parts i_orders i_tokens i_places i_values = some out → va_P (dC, dI) vwCl (wd_LawReader_read cA q0 q1 q2 q3 q4 q5 i_a1 i_ordered i_at i_parts i_orders i_tokens i_places i_values) H → va_D A (wd_LawReader_read cA q0 q1 q2 q3 q4 q5 i_a1 i_ordered i_at i_parts i_orders i_tokens i_places i_values) → va_S A s.heap H locs → lv_has ls 4 [(0, .ref q0), (3, .int (Int32.ofInt x3))] → W p l e rm_LawReader_read s m args below meth c H locs 0 0 Q (F0 m 38 ls [])), ∀ (x3 : Int) (i_ordered : Int) (i_at : Int) (i_parts : Int) (i_orders : Nat → Int) (i_tokens : Nat → Int) (i_places : Nat → Int) (i_values : Nat → Int) (H : Heap) (locs : List Loc) (ls : Array Slot), f_LawReader_read_38_b i_a1 k38 x3 i_ordered i_at i_parts i_orders i_tokens i_places i_values = some out → va_P (dC, dI) vwCl (wd_LawReader_read cA q0 q1 q2 q3 q4 q5 i_a1 i_ordered i_at i_parts i_orders i_tokens i_places i_values) H → va_D A (wd_LawReader_read cA q0 q1 q2 q3 q4 q5 i_a1 i_ordered i_at i_parts i_orders i_tokens i_places i_values) → va_S A s.heap H locs → lv_has ls 4 [(0, .ref q0), (3, .int (Int32.ofInt x3))] → W p l e rm_LawReader_read s m args below meth c H locs 0 0 Q (F0 m 38 ls []) := by
    intro k38 ih38 x3 i_ordered i_at i_parts i_orders i_tokens i_places i_values H locs ls hf hP hD hS hl
    unfold f_LawReader_read_38_b at hf
    refine lv_iload_n hx hb (zdt zkX4_read 38 rfl) rfl (lv_at hl 1 rfl) ?_
    refine lv_bipush (v := Int32.ofInt 12) hx hb (zdt zkX4_read 39 rfl) (by decide) ?_
    refine xi_icmp_ge (tgt := 86) hx hb (zdt zkX4_read 41 rfl) (by decide) hf (fun hf => ?_) (fun hf => ?_)
    · refine lv_aload_n hx hb (zdt zkX4_read 86 rfl) rfl (lv_at hl 0 rfl) ?_
      refine va_get (D := (dC, dI)) (ci := 4) (v := .ref q3) (C := RX4) (T := TX4) (N := 7) hx hb hz zi_X4 hown hK hP 0 rfl rfl 3 (by decide) (hz _ zw_253) (fun _ h9 => h9) rfl (zdt zkX4_read 87 rfl) ?_
      refine lv_aload_n hx hb (zdt zkX4_read 90 rfl) rfl (lv_at hl 0 rfl) ?_
      refine va_get (D := (dC, dI)) (ci := 4) (v := .int (Int32.ofInt i_at)) (C := RX4) (T := TX4) (N := 7) hx hb hz zi_X4 hown hK hP 0 rfl rfl 5 (by decide) (hz _ zw_255) (fun _ h9 => h9) rfl (zdt zkX4_read 91 rfl) ?_
      refine xi_iald hx hb hK hP 4 0 rfl rfl (zdt zkX4_read 94 rfl) hf (fun v1 hf => ?_)
      obtain rfl := Option.some.inj hf
      exact hret _ _ _ _ rfl (zdt zkX4_read 95 rfl) hP hD hS
    · refine lv_aload_n hx hb (zdt zkX4_read 44 rfl) rfl (lv_at hl 0 rfl) ?_
      refine xe_d5 hf (fun v2 v3 v4 v5 a6 hg hf => ?_)
      have hC : ([0, 2, 3, 5] : List Nat).map (fun i => (wd_LawReader_read cA q0 q1 q2 q3 q4 q5 i_a1 i_ordered i_at i_parts i_orders i_tokens i_places i_values)[i]?) = (wd_LawReader_readClause cA q0 q1 q2 q3 q4 i_tokens i_values i_ordered i_at i_parts i_orders).map some := rfl
      refine xv_afterI (ws' := (wd_LawReader_read cA q0 q1 q2 q3 q4 q5 i_a1 v3 v4 v5 a6 i_tokens i_places i_values)) (isC := [0, 2, 3, 5]) (ps := [some 0, none, some 1, some 2, none, some 3]) (va_runV (As := []) (rest := []) ⟨hx, hb, hml, hown, hts⟩ (c_LawReader_readClause l ev dC dI cA q0 q1 q2 q3 q4 hg H.size) (cwV 0 hts (zgV zw_744 zw_746 zw_5 zw_107 zw_747) rfl rfl rfl hd_LawReader_readClause ⟨Nat.le_of_ble_eq_true rfl, Nat.le_of_ble_eq_true rfl⟩) (xv_preV (T := TX4) (N := 7) hE hA hS hK hP hD (isC := [0, 2, 3, 5]) (by decide +kernel) hC (q0 := 0) (ci := 4) rfl rfl) rfl rfl hl.1 rfl (lv_room (Nat.le_of_ble_eq_true rfl)) (zdt zkX4_read 45 rfl) ⟨Nat.le_refl _, Nat.le_refl _⟩) hP hD hS hA (by decide +kernel) rfl hC rfl rfl (fun H locs hP hD hS => ?_)
      refine xi_if_eq (tgt := 86) hx hb (zdt zkX4_read 48 rfl) (by decide) hf (fun hf => ?_) (fun hf => ?_)
      · refine lv_aload_n hx hb (zdt zkX4_read 86 rfl) rfl (lv_at hl 0 rfl) ?_
        refine va_get (D := (dC, dI)) (ci := 4) (v := .ref q3) (C := RX4) (T := TX4) (N := 7) hx hb hz zi_X4 hown hK hP 0 rfl rfl 3 (by decide) (hz _ zw_253) (fun _ h9 => h9) rfl (zdt zkX4_read 87 rfl) ?_
        refine lv_aload_n hx hb (zdt zkX4_read 90 rfl) rfl (lv_at hl 0 rfl) ?_
        refine va_get (D := (dC, dI)) (ci := 4) (v := .int (Int32.ofInt v4)) (C := RX4) (T := TX4) (N := 7) hx hb hz zi_X4 hown hK hP 0 rfl rfl 5 (by decide) (hz _ zw_255) (fun _ h9 => h9) rfl (zdt zkX4_read 91 rfl) ?_
        refine xi_iald hx hb hK hP 4 0 rfl rfl (zdt zkX4_read 94 rfl) hf (fun v7 hf => ?_)
        obtain rfl := Option.some.inj hf
        exact hret _ _ _ _ rfl (zdt zkX4_read 95 rfl) hP hD hS
      · refine lv_aload_n hx hb (zdt zkX4_read 51 rfl) rfl (lv_at hl 0 rfl) ?_
        refine va_get (D := (dC, dI)) (ci := 4) (v := .ref q2) (C := RX4) (T := TX4) (N := 7) hx hb hz zi_X4 hown hK hP 0 rfl rfl 2 (by decide) (hz _ zw_252) (fun _ h9 => h9) rfl (zdt zkX4_read 52 rfl) ?_
        refine lv_aload_n hx hb (zdt zkX4_read 55 rfl) rfl (lv_at hl 0 rfl) ?_
        refine va_get (D := (dC, dI)) (ci := 4) (v := .int (Int32.ofInt v4)) (C := RX4) (T := TX4) (N := 7) hx hb hz zi_X4 hown hK hP 0 rfl rfl 5 (by decide) (hz _ zw_255) (fun _ h9 => h9) rfl (zdt zkX4_read 56 rfl) ?_
        refine xi_iald hx hb hK hP 3 0 rfl rfl (zdt zkX4_read 59 rfl) hf (fun v8 hf => ?_)
        refine lv_sipush (v := Int32.ofInt 257) hx hb (zdt zkX4_read 60 rfl) (by decide) ?_
        refine xi_icmp_ne (tgt := 68) hx hb (zdt zkX4_read 63 rfl) (by decide) hf (fun hf => ?_) (fun hf => ?_)
        · refine lv_aload_n hx hb (zdt zkX4_read 68 rfl) rfl (lv_at hl 0 rfl) ?_
          refine lv_bipush (v := Int32.ofInt 59) hx hb (zdt zkX4_read 69 rfl) (by decide) ?_
          refine xe_d2 hf (fun v9 v10 hg hf => ?_)
          have hC : ([0, 3] : List Nat).map (fun i => (wd_LawReader_read cA q0 q1 q2 q3 q4 q5 i_a1 v3 v4 v5 a6 i_tokens i_places i_values)[i]?) = (wd_LawReader_pass cA q0 q1 q2 q3 q4 v3 v5 i_tokens v4).map some := rfl
          refine xv_afterI (ws' := (wd_LawReader_read cA q0 q1 q2 q3 q4 q5 i_a1 v3 v10 v5 a6 i_tokens i_places i_values)) (isC := [0, 3]) (ps := [some 0, none, none, some 1, none, none]) (va_runV (As := [.int (Int32.ofInt 59)]) (rest := []) ⟨hx, hb, hml, hown, hts⟩ (c_LawReader_pass l ev dC dI cA q0 q1 q2 q3 q4 v3 v5 hg H.size) (cwV 1 hts (zgV zw_752 zw_754 zw_7 zw_107 zw_755) rfl rfl rfl hd_LawReader_pass ⟨Nat.le_of_ble_eq_true rfl, Nat.le_of_ble_eq_true rfl⟩) (xv_preV (T := TX4) (N := 7) hE hA hS hK hP hD (isC := [0, 3]) (by decide +kernel) hC (q0 := 0) (ci := 4) rfl rfl) rfl rfl hl.1 rfl (lv_room (Nat.le_of_ble_eq_true rfl)) (zdt zkX4_read 71 rfl) ⟨Nat.le_refl _, Nat.le_refl _⟩) hP hD hS hA (by decide +kernel) rfl hC rfl rfl (fun H locs hP hD hS => ?_)
          refine xi_if_ne (tgt := 80) hx hb (zdt zkX4_read 74 rfl) (by decide) hf (fun hf => ?_) (fun hf => ?_)
          · refine xi_iinc hx hb (zdt zkX4_read 80 rfl) hl (k := 1) rfl (by decide) hf (fun v11 ls hl hf => ?_)
            have hl : lv_has ls 4 [(3, .int (Int32.ofInt v11)), (0, .ref q0)] := hl
            refine lv_goto (tgt := 38) hx hb (zdt zkX4_read 83 rfl) (by decide) ?_
            exact ih38 _ _ _ _ _ _ _ _ _ _ _ hf hP hD hS (lv_sub hl [1, 0] rfl)
          · refine lv_goto (tgt := 86) hx hb (zdt zkX4_read 77 rfl) (by decide) ?_
            refine lv_aload_n hx hb (zdt zkX4_read 86 rfl) rfl (lv_at hl 0 rfl) ?_
            refine va_get (D := (dC, dI)) (ci := 4) (v := .ref q3) (C := RX4) (T := TX4) (N := 7) hx hb hz zi_X4 hown hK hP 0 rfl rfl 3 (by decide) (hz _ zw_253) (fun _ h9 => h9) rfl (zdt zkX4_read 87 rfl) ?_
            refine lv_aload_n hx hb (zdt zkX4_read 90 rfl) rfl (lv_at hl 0 rfl) ?_
            refine va_get (D := (dC, dI)) (ci := 4) (v := .int (Int32.ofInt v10)) (C := RX4) (T := TX4) (N := 7) hx hb hz zi_X4 hown hK hP 0 rfl rfl 5 (by decide) (hz _ zw_255) (fun _ h9 => h9) rfl (zdt zkX4_read 91 rfl) ?_
            refine xi_iald hx hb hK hP 4 0 rfl rfl (zdt zkX4_read 94 rfl) hf (fun v12 hf => ?_)
            obtain rfl := Option.some.inj hf
            exact hret _ _ _ _ rfl (zdt zkX4_read 95 rfl) hP hD hS
        · refine lv_iconst (v := Int32.ofInt (-1)) hx hb (zdt zkX4_read 66 rfl) rfl ?_
          obtain rfl := Option.some.inj hf
          exact hret _ _ _ _ rfl (zdt zkX4_read 67 rfl) hP hD hS
  have l_38 : ∀ (n : Nat), ∀ (x3 : Int) (i_ordered : Int) (i_at : Int) (i_parts : Int) (i_orders : Nat → Int) (i_tokens : Nat → Int) (i_places : Nat → Int) (i_values : Nat → Int) (H : Heap) (locs : List Loc) (ls : Array Slot), f_LawReader_read_38 i_a1 n x3 i_ordered i_at i_parts i_orders i_tokens i_places i_values = some out → va_P (dC, dI) vwCl (wd_LawReader_read cA q0 q1 q2 q3 q4 q5 i_a1 i_ordered i_at i_parts i_orders i_tokens i_places i_values) H → va_D A (wd_LawReader_read cA q0 q1 q2 q3 q4 q5 i_a1 i_ordered i_at i_parts i_orders i_tokens i_places i_values) → va_S A s.heap H locs → lv_has ls 4 [(0, .ref q0), (3, .int (Int32.ofInt x3))] → W p l e rm_LawReader_read s m args below meth c H locs 0 0 Q (F0 m 38 ls []) := by
    intro n
    induction n with
    | zero => intro x3 i_ordered i_at i_parts i_orders i_tokens i_places i_values H locs ls hf hP hD hS hl; exact nomatch hf
    | succ n ih => intro x3 i_ordered i_at i_parts i_orders i_tokens i_places i_values H locs ls hf hP hD hS hl; exact b_38 (f_LawReader_read_38 i_a1 n) ih x3 i_ordered i_at i_parts i_orders i_tokens i_places i_values H locs ls hf hP hD hS hl
  unfold f_LawReader_read at hf
  refine lv_aload_n hx hb (zdt zkX4_read 0 rfl) rfl (lv_at hl 0 rfl) ?_
  refine lv_aload_n hx hb (zdt zkX4_read 1 rfl) rfl (lv_at hl 1 rfl) ?_
  refine lv_iconst (v := Int32.ofInt 0) hx hb (zdt zkX4_read 2 rfl) rfl ?_
  refine lv_iload_n hx hb (zdt zkX4_read 3 rfl) rfl (lv_at hl 2 rfl) ?_
  refine lv_sipush (v := Int32.ofInt 400) hx hb (zdt zkX4_read 4 rfl) (by decide) ?_
  refine lv_aload_n hx hb (zdt zkX4_read 7 rfl) rfl (lv_at hl 1 rfl) ?_
  refine va_alen (v := Int32.ofInt 400) hx hb hK hP 1 0 rfl rfl (show Int32.ofNat 400 = Int32.ofInt 400 by decide +kernel) (zdt zkX4_read 8 rfl) ?_
  refine xi_mmin hx hb (hml.trans hl.1.symm) hown (hz _ zw_650) (hz _ zw_651) (hz _ zw_116) (hz _ zw_652) (Nat.le_of_ble_eq_true rfl) (Nat.le_of_ble_eq_true rfl) (Nat.zero_le _) (Nat.zero_le _) (zdt zkX4_read 9 rfl) hf (fun v1 hf => ?_)
  refine xi_mmin hx hb (hml.trans hl.1.symm) hown (hz _ zw_650) (hz _ zw_651) (hz _ zw_116) (hz _ zw_652) (Nat.le_of_ble_eq_true rfl) (Nat.le_of_ble_eq_true rfl) (Nat.zero_le _) (Nat.zero_le _) (zdt zkX4_read 12 rfl) hf (fun v2 hf => ?_)
  refine xi_mmax hx hb (hml.trans hl.1.symm) hown (hz _ zw_653) (hz _ zw_654) (hz _ zw_116) (hz _ zw_655) (Nat.le_of_ble_eq_true rfl) (Nat.le_of_ble_eq_true rfl) (Nat.zero_le _) (Nat.zero_le _) (zdt zkX4_read 15 rfl) hf (fun v3 hf => ?_)
  refine xe_d3 hf (fun a4 a5 a6 hg hf => ?_)
  have hC : ([0, 1, 3, 4, 5] : List Nat).map (fun i => (wd_LawReader_read cA q0 q1 q2 q3 q4 q5 i_a1 i_ordered i_at i_parts i_orders i_tokens i_places i_values)[i]?) = (wd_LawReader_split cA q0 q1 q2 q3 q4 q5 i_ordered i_at i_parts i_a1 i_tokens i_places i_values).map some := rfl
  refine xv_afterV (ws' := (wd_LawReader_read cA q0 q1 q2 q3 q4 q5 i_a1 i_ordered i_at i_parts i_orders a4 a5 a6)) (isC := [0, 1, 3, 4, 5]) (ps := [some 0, some 1, none, some 2, some 3, some 4]) (va_runV (As := [.ref q5, .int (Int32.ofInt v3)]) (rest := []) ⟨hx, hb, hml, hown, hts⟩ (c_LawReader_split l ev dC dI cA q0 q1 q2 q3 q4 q5 i_ordered i_at i_parts hg H.size) (cwV 2 hts (zgV zw_656 zw_658 zw_3 zw_107 zw_659) rfl rfl rfl hd_LawReader_split ⟨Nat.le_of_ble_eq_true rfl, Nat.le_of_ble_eq_true rfl⟩) (xv_preV (T := TX4) (N := 7) hE hA hS hK hP hD (isC := [0, 1, 3, 4, 5]) (by decide +kernel) hC (q0 := 0) (ci := 4) rfl rfl) rfl rfl hl.1 rfl (lv_room (Nat.le_of_ble_eq_true rfl)) (zdt zkX4_read 18 rfl) ⟨Nat.le_refl _, Nat.le_refl _⟩) hP hD hS hA (by decide +kernel) rfl hC rfl rfl (fun H locs hP hD hS => ?_)
  refine lv_aload_n hx hb (zdt zkX4_read 21 rfl) rfl (lv_at hl 0 rfl) ?_
  refine lv_iconst (v := Int32.ofInt 0) hx hb (zdt zkX4_read 22 rfl) rfl ?_
  refine va_put (D := (dC, dI)) (ci := 4) (v := .int (Int32.ofInt 0)) (ty := .int) (C := RX4) (T := TX4) (N := 7) hx hb hz zi_X4 tyX4 tyX4_ok nmX4 hown hK hP hD hS 0 rfl rfl 1 (by decide) (hz _ zw_250) (fun _ h9 => h9) rfl (by decide +kernel) rfl rfl (Nat.le_of_ble_eq_true rfl) (zdt zkX4_read 23 rfl) (fun H locs hP hD hS => ?_)
  refine xw_PD (wd_LawReader_read cA q0 q1 q2 q3 q4 q5 i_a1 0 i_at i_parts i_orders a4 a5 a6) hP hD (fun hP hD => ?_)
  refine lv_aload_n hx hb (zdt zkX4_read 26 rfl) rfl (lv_at hl 0 rfl) ?_
  refine lv_iconst (v := Int32.ofInt 0) hx hb (zdt zkX4_read 27 rfl) rfl ?_
  refine va_put (D := (dC, dI)) (ci := 4) (v := .int (Int32.ofInt 0)) (ty := .int) (C := RX4) (T := TX4) (N := 7) hx hb hz zi_X4 tyX4 tyX4_ok nmX4 hown hK hP hD hS 0 rfl rfl 6 (by decide) (hz _ zw_256) (fun _ h9 => h9) rfl (by decide +kernel) rfl rfl (Nat.le_of_ble_eq_true rfl) (zdt zkX4_read 28 rfl) (fun H locs hP hD hS => ?_)
  refine xw_PD (wd_LawReader_read cA q0 q1 q2 q3 q4 q5 i_a1 0 i_at 0 i_orders a4 a5 a6) hP hD (fun hP hD => ?_)
  refine lv_aload_n hx hb (zdt zkX4_read 31 rfl) rfl (lv_at hl 0 rfl) ?_
  refine lv_iconst (v := Int32.ofInt 0) hx hb (zdt zkX4_read 32 rfl) rfl ?_
  refine va_put (D := (dC, dI)) (ci := 4) (v := .int (Int32.ofInt 0)) (ty := .int) (C := RX4) (T := TX4) (N := 7) hx hb hz zi_X4 tyX4 tyX4_ok nmX4 hown hK hP hD hS 0 rfl rfl 5 (by decide) (hz _ zw_255) (fun _ h9 => h9) rfl (by decide +kernel) rfl rfl (Nat.le_of_ble_eq_true rfl) (zdt zkX4_read 33 rfl) (fun H locs hP hD hS => ?_)
  refine xw_PD (wd_LawReader_read cA q0 q1 q2 q3 q4 q5 i_a1 0 0 0 i_orders a4 a5 a6) hP hD (fun hP hD => ?_)
  refine lv_iconst (v := Int32.ofInt 0) hx hb (zdt zkX4_read 36 rfl) rfl ?_
  refine lv_istore_n (lv' := [(3, .int (Int32.ofInt 0)), (0, .ref q0), (1, .ref q5), (2, .int (Int32.ofInt x2))]) hx hb (zdt zkX4_read 37 rfl) rfl hl (by decide) rfl (fun ls hl => ?_)
  exact l_38  _ _ _ _ _ _ _ _ _ _ _ _ hf hP hD hS (lv_sub hl [1, 0] rfl)
set_option maxRecDepth 100000 in
noncomputable def ztX10_law (p : Nat) : Option (Jvm.ClassFile.Instr × Nat) := bif Nat.ble 35 p then (bif Nat.ble 56 p then (bif Nat.ble 65 p then (bif Nat.ble 69 p then (bif Nat.ble 72 p then (bif Nat.ble 75 p then (bif Nat.beq p 75 then some (.ireturn, 1) else none) else (bif Nat.beq p 72 then some (.invokevirtual 119, 3) else none)) else (bif Nat.beq p 69 then some (.invokevirtual 190, 3) else none)) else (bif Nat.ble 66 p then (bif Nat.beq p 66 then some (.getfield 47, 3) else none) else (bif Nat.beq p 65 then some (.aload_n 0, 1) else none))) else (bif Nat.ble 60 p then (bif Nat.ble 61 p then (bif Nat.ble 62 p then (bif Nat.beq p 62 then some (.getfield 10, 3) else none) else (bif Nat.beq p 61 then some (.aload_n 0, 1) else none)) else (bif Nat.beq p 60 then some (.aload_n 0, 1) else none)) else (bif Nat.ble 59 p then (bif Nat.beq p 59 then some (.ireturn, 1) else none) else (bif Nat.beq p 56 then some (.invokevirtual 109, 3) else none)))) else (bif Nat.ble 46 p then (bif Nat.ble 50 p then (bif Nat.ble 53 p then (bif Nat.ble 54 p then (bif Nat.beq p 54 then some (.bipush (-6), 2) else none) else (bif Nat.beq p 53 then some (.aload_n 0, 1) else none)) else (bif Nat.beq p 50 then some (.if_icmp .eq 10, 3) else none)) else (bif Nat.ble 49 p then (bif Nat.beq p 49 then some (.iconst (-1), 1) else none) else (bif Nat.beq p 46 then some (.getfield 32, 3) else none))) else (bif Nat.ble 39 p then (bif Nat.ble 42 p then (bif Nat.ble 45 p then (bif Nat.beq p 45 then some (.aload_n 0, 1) else none) else (bif Nat.beq p 42 then some (.putfield 32, 3) else none)) else (bif Nat.beq p 39 then some (.invokevirtual 186, 3) else none)) else (bif Nat.ble 38 p then (bif Nat.beq p 38 then some (.iload_n 1, 1) else none) else (bif Nat.beq p 35 then some (.getfield 24, 3) else none))))) else (bif Nat.ble 17 p then (bif Nat.ble 28 p then (bif Nat.ble 30 p then (bif Nat.ble 31 p then (bif Nat.ble 34 p then (bif Nat.beq p 34 then some (.aload_n 0, 1) else none) else (bif Nat.beq p 31 then some (.getfield 47, 3) else none)) else (bif Nat.beq p 30 then some (.aload_n 0, 1) else none)) else (bif Nat.ble 29 p then (bif Nat.beq p 29 then some (.aload_n 0, 1) else none) else (bif Nat.beq p 28 then some (.ireturn, 1) else none))) else (bif Nat.ble 22 p then (bif Nat.ble 23 p then (bif Nat.ble 25 p then (bif Nat.beq p 25 then some (.invokevirtual 109, 3) else none) else (bif Nat.beq p 23 then some (.bipush (-5), 2) else none)) else (bif Nat.beq p 22 then some (.aload_n 0, 1) else none)) else (bif Nat.ble 19 p then (bif Nat.beq p 19 then some (.if_icmp .lt 10, 3) else none) else (bif Nat.beq p 17 then some (.bipush 6, 2) else none)))) else (bif Nat.ble 6 p then (bif Nat.ble 10 p then (bif Nat.ble 11 p then (bif Nat.ble 14 p then (bif Nat.beq p 14 then some (.getfield 183, 3) else none) else (bif Nat.beq p 11 then some (.getfield 10, 3) else none)) else (bif Nat.beq p 10 then some (.aload_n 0, 1) else none)) else (bif Nat.ble 7 p then (bif Nat.beq p 7 then some (.putfield 28, 3) else none) else (bif Nat.beq p 6 then some (.iconst 0, 1) else none))) else (bif Nat.ble 4 p then (bif Nat.ble 5 p then (bif Nat.beq p 5 then some (.aload_n 0, 1) else none) else (bif Nat.beq p 4 then some (.istore_n 1, 1) else none)) else (bif Nat.ble 1 p then (bif Nat.beq p 1 then some (.getfield 28, 3) else none) else (bif Nat.beq p 0 then some (.aload_n 0, 1) else none)))))
set_option maxRecDepth 100000 in
theorem zkX10_law : (zbig cX10_law.data.toList = 715645599422954099141153869626952710322178035942725109548806623736909001713578047422419657093412772868994637557274778443664867088628626411726144587825257683954050432144121024768685098 ∧ cX10_law.data.toList.length = 76) ∧ zdk cX10_law 715645599422954099141153869626952710322178035942725109548806623736909001713578047422419657093412772868994637557274778443664867088628626411726144587825257683954050432144121024768685098 76 ztX10_law 75 = true := by decide +kernel
theorem zw_198 : (Jvm.Cond.fieldLinkNest "HillSchool" (183 : Nat) "HillSchool$Hill" "laws" "I" "HillSchool") ∈ znest := zmemH (zmj_1 95 rfl) rfl
theorem zw_482 : (Jvm.Cond.fieldLink "HillSchool" (32 : Nat) "HillSchool" "latestFault" "I") ∈ zall := zmemG (zmj_2 139 rfl) rfl
theorem zw_486 : (Jvm.Cond.fieldLink "HillSchool" (47 : Nat) "HillSchool" "reader" "LHillSchool$LawReader;") ∈ zall := zmemG (zmj_2 143 rfl) rfl
theorem zw_645 : (Jvm.Cond.code ({ cls := "HillSchool", name := "law", desc := "()I" } : Jvm.MethodName) prog_1_method_16_code (2 : Nat) (Option.some Jvm.ClassFile.FieldType.int)) ∈ zall := zmemG (zmj_3 62 rfl) rfl
theorem zw_646 : (Jvm.Cond.methodLink "HillSchool" (186 : Nat) ({ cls := "HillSchool$LawReader", name := "read", desc := "([II)I" } : Jvm.MethodName)) ∈ zall := zmemG (zmj_3 63 rfl) rfl
theorem zw_647 : (Jvm.Cond.instanceMethod ({ cls := "HillSchool$LawReader", name := "read", desc := "([II)I" } : Jvm.MethodName)) ∈ zall := zmemG (zmj_3 64 rfl) rfl
theorem zw_648 : (Jvm.Cond.selects "HillSchool$LawReader" ({ cls := "HillSchool$LawReader", name := "read", desc := "([II)I" } : Jvm.MethodName) ({ cls := "HillSchool$LawReader", name := "read", desc := "([II)I" } : Jvm.MethodName)) ∈ zall := zmemG (zmj_3 65 rfl) rfl
theorem zw_779 : (Jvm.Cond.methodLink "HillSchool" (190 : Nat) ({ cls := "HillSchool$Hill", name := "enact", desc := "(LHillSchool$LawReader;)I" } : Jvm.MethodName)) ∈ zall := zmemG (zmj_3 196 rfl) rfl
theorem zw_780 : (Jvm.Cond.instanceMethod ({ cls := "HillSchool$Hill", name := "enact", desc := "(LHillSchool$LawReader;)I" } : Jvm.MethodName)) ∈ zall := zmemG (zmj_3 197 rfl) rfl
theorem zw_781 : (Jvm.Cond.selects "HillSchool$Hill" ({ cls := "HillSchool$Hill", name := "enact", desc := "(LHillSchool$LawReader;)I" } : Jvm.MethodName) ({ cls := "HillSchool$Hill", name := "enact", desc := "(LHillSchool$LawReader;)I" } : Jvm.MethodName)) ∈ zall := zmemG (zmj_3 198 rfl) rfl
noncomputable abbrev w_HS_law : List Cond := .code yX10_law cX10_law 2 (some .int) :: zall
noncomputable abbrev rm_HS_law : Room := { frames := 133, cells := 0, slots := 0, locals := 3187 }
theorem hd_HS_law : yX10_law.cls = "HillSchool" ∧ yX10_law.cls ≠ "java/lang/invoke/MethodHandle" ∧ yX10_law.cls ≠ "java/lang/invoke/VarHandle" ∧ (parseMethodDescriptor yX10_law.desc).map (fun d => d.parameters.length) = some 0 := by decide +kernel
noncomputable def wd_HS_law (cA : Nat → ClassId) (q0 q1 q2 q3 q4 q5 q6 q7 q8 q9 q10 q11 q12 q13 q14 q15 q16 q17 q18 q19 q20 q21 q22 q23 q24 q25 : Nat) (u0 u1 u2 u3 : Int) (i_tape : Nat → Int) (i_taped : Int) (i_latestFault : Int) (i_latestStatus : Int) (i_hill_laws : Int) (i_hill_changes : Int) (i_refusals : Nat → Int) (i_reader_ordered : Int) (i_reader_at : Int) (i_reader_parts : Int) (i_hill_orders : Nat → Int) (i_hill_ordered : Nat → Int) (i_reader_orders : Nat → Int) (i_reader_tokens : Nat → Int) (i_reader_places : Nat → Int) (i_reader_values : Nat → Int) : va_W := [(q0, .inr (10, [.ref q1, .ref q2, .ref q3, .ref q4, .int (Int32.ofInt i_taped), .int (Int32.ofInt i_latestFault), .int (Int32.ofInt u0), .ref q5, .int (Int32.ofInt i_latestStatus), .ref q6, .ref q7, .ref q8, .ref q9, .ref q10, .ref q11, .ref q12])), (q1, .inr (2, [.ref q13, .int (Int32.ofInt u1), .ref q14, .ref q15, .ref q16, .int (Int32.ofInt u2), .ref q17, .ref q18, .ref q19, .int (Int32.ofInt i_hill_laws), .ref q20, .ref q21, .int (Int32.ofInt u3), .int (Int32.ofInt i_hill_changes)])), (q4, .inl (cA 0, 400, .inl (za i_tape))), (q5, .inl (cA 0, 7, .inl (za i_refusals))), (q6, .inr (4, [.ref q22, .int (Int32.ofInt i_reader_ordered), .ref q23, .ref q24, .ref q25, .int (Int32.ofInt i_reader_at), .int (Int32.ofInt i_reader_parts)])), (q20, .inl (cA 0, 2544, .inl (za i_hill_orders))), (q21, .inl (cA 0, 6, .inl (za i_hill_ordered))), (q22, .inl (cA 0, 424, .inl (za i_reader_orders))), (q23, .inl (cA 0, 401, .inl (za i_reader_tokens))), (q24, .inl (cA 0, 401, .inl (za i_reader_places))), (q25, .inl (cA 0, 401, .inl (za i_reader_values)))]
noncomputable def wf_HS_law (cA : Nat → ClassId) (q0 q1 q2 q3 q4 q5 q6 q7 q8 q9 q10 q11 q12 q13 q14 q15 q16 q17 q18 q19 q20 q21 q22 q23 q24 q25 : Nat) (u0 u1 u2 u3 : Int) (i_tape : Nat → Int) (o : Int × Int × Int × Int × Int × Int × (Nat → Int) × Int × Int × Int × (Nat → Int) × (Nat → Int) × (Nat → Int) × (Nat → Int) × (Nat → Int) × (Nat → Int)) : va_W := wd_HS_law cA q0 q1 q2 q3 q4 q5 q6 q7 q8 q9 q10 q11 q12 q13 q14 q15 q16 q17 q18 q19 q20 q21 q22 q23 q24 q25 u0 u1 u2 u3 i_tape o.2.1 o.2.2.1 o.2.2.2.1 o.2.2.2.2.1 o.2.2.2.2.2.1 o.2.2.2.2.2.2.1 o.2.2.2.2.2.2.2.1 o.2.2.2.2.2.2.2.2.1 o.2.2.2.2.2.2.2.2.2.1 o.2.2.2.2.2.2.2.2.2.2.1 o.2.2.2.2.2.2.2.2.2.2.2.1 o.2.2.2.2.2.2.2.2.2.2.2.2.1 o.2.2.2.2.2.2.2.2.2.2.2.2.2.1 o.2.2.2.2.2.2.2.2.2.2.2.2.2.2.1 o.2.2.2.2.2.2.2.2.2.2.2.2.2.2.2
noncomputable def f_HS_law (i_tape : Nat → Int) (i_taped : Int) (i_latestFault : Int) (i_latestStatus : Int) (i_hill_laws : Int) (i_hill_changes : Int) (i_refusals : Nat → Int) (i_reader_ordered : Int) (i_reader_at : Int) (i_reader_parts : Int) (i_hill_orders : Nat → Int) (i_hill_ordered : Nat → Int) (i_reader_orders : Nat → Int) (i_reader_tokens : Nat → Int) (i_reader_places : Nat → Int) (i_reader_values : Nat → Int) : Option (Int × Int × Int × Int × Int × Int × (Nat → Int) × Int × Int × Int × (Nat → Int) × (Nat → Int) × (Nat → Int) × (Nat → Int) × (Nat → Int) × (Nat → Int)) :=
  if zi_w i_hill_laws < zi_w 6 then
    zd8 (f_LawReader_read i_taped i_tape i_reader_ordered i_reader_at i_reader_parts i_reader_orders i_reader_tokens i_reader_places i_reader_values) fun v1 v2 v3 v4 a5 a6 a7 a8 =>
    if zi_w v1 = zi_w (-1) then
      zd4 (f_Hill_enact v2 a5 i_hill_laws i_hill_orders i_hill_ordered) fun v9 v10 a11 a12 =>
      zd3 (f_HS_accept v9 i_latestStatus i_hill_changes) fun v13 v14 v15 =>
      some (v13, 0, v1, v14, v10, v15, i_refusals, v2, v3, v4, a11, a12, a5, a6, a7, a8)
    else
      zd3 (f_HS_refuse (-6) i_latestStatus i_refusals) fun v16 v17 a18 =>
      some (v16, 0, v1, v17, i_hill_laws, i_hill_changes, a18, v2, v3, v4, i_hill_orders, i_hill_ordered, a5, a6, a7, a8)
  else
    zd3 (f_HS_refuse (-5) i_latestStatus i_refusals) fun v19 v20 a21 =>
    some (v19, 0, i_latestFault, v20, i_hill_laws, i_hill_changes, a21, i_reader_ordered, i_reader_at, i_reader_parts, i_hill_orders, i_hill_ordered, i_reader_orders, i_reader_tokens, i_reader_places, i_reader_values)
set_option maxHeartbeats 4000000 in
set_option maxRecDepth 100000 in
theorem c_HS_law (l : Launch) (ev : zEv) (dC : Nat → ClassId) (dI : Nat → Nat → Nat) (cA : Nat → ClassId) (q0 q1 q2 q3 q4 q5 q6 q7 q8 q9 q10 q11 q12 q13 q14 q15 q16 q17 q18 q19 q20 q21 q22 q23 q24 q25 : Nat) (u0 u1 u2 u3 : Int) {i_tape : Nat → Int} {i_taped : Int} {i_latestFault : Int} {i_latestStatus : Int} {i_hill_laws : Int} {i_hill_changes : Int} {i_refusals : Nat → Int} {i_reader_ordered : Int} {i_reader_at : Int} {i_reader_parts : Int} {i_hill_orders : Nat → Int} {i_hill_ordered : Nat → Int} {i_reader_orders : Nat → Int} {i_reader_tokens : Nat → Int} {i_reader_places : Nat → Int} {i_reader_values : Nat → Int} {out : Int × Int × Int × Int × Int × Int × (Nat → Int) × Int × Int × Int × (Nat → Int) × (Nat → Int) × (Nat → Int) × (Nat → Int) × (Nat → Int) × (Nat → Int)} (hf : f_HS_law i_tape i_taped i_latestFault i_latestStatus i_hill_laws i_hill_changes i_refusals i_reader_ordered i_reader_at i_reader_parts i_hill_orders i_hill_ordered i_reader_orders i_reader_tokens i_reader_places i_reader_values = some out) : xc_I l ev (dC, dI) vwCl (tyl cA) yX10_law w_HS_law rm_HS_law [.ref q0] (wd_HS_law cA q0 q1 q2 q3 q4 q5 q6 q7 q8 q9 q10 q11 q12 q13 q14 q15 q16 q17 q18 q19 q20 q21 q22 q23 q24 q25 u0 u1 u2 u3 i_tape i_taped i_latestFault i_latestStatus i_hill_laws i_hill_changes i_refusals i_reader_ordered i_reader_at i_reader_parts i_hill_orders i_hill_ordered i_reader_orders i_reader_tokens i_reader_places i_reader_values) (wf_HS_law cA q0 q1 q2 q3 q4 q5 q6 q7 q8 q9 q10 q11 q12 q13 q14 q15 q16 q17 q18 q19 q20 q21 q22 q23 q24 q25 u0 u1 u2 u3 i_tape out) out.1 := by
  refine xv_startI (cc := cX10_law) (maxL := 2) (rt := .int) (by decide +kernel) rfl (Nat.le_of_ble_eq_true rfl) ?_
  intro p e s m args below meth c A Q H ls hx hb hml hts hown hK hA hP hD hS hl hE hret
  have hown : s.vm.findClass "HillSchool" = some m.cls := hown
  have hz : ∀ w ∈ zall, w.before args s = true := fun w h => hts w (List.mem_cons_of_mem _ h)
  have hl : lv_has ls 2 [(0, .ref q0)] := hl
  unfold f_HS_law at hf
  refine lv_aload_n hx hb (zdt zkX10_law 0 rfl) rfl (lv_at hl 0 rfl) ?_
  refine va_get (D := (dC, dI)) (ci := 10) (v := .int (Int32.ofInt i_taped)) (C := RX10) (T := TX10) (N := 16) hx hb hz zi_X10 hown hK hP 0 rfl rfl 4 (by decide) (hz _ zw_481) (fun _ h9 => h9) rfl (zdt zkX10_law 1 rfl) ?_
  refine lv_istore_n (lv' := [(1, .int (Int32.ofInt i_taped)), (0, .ref q0)]) hx hb (zdt zkX10_law 4 rfl) rfl hl (by decide) rfl (fun ls hl => ?_)
  refine lv_aload_n hx hb (zdt zkX10_law 5 rfl) rfl (lv_at hl 1 rfl) ?_
  refine lv_iconst (v := Int32.ofInt 0) hx hb (zdt zkX10_law 6 rfl) rfl ?_
  refine va_put (D := (dC, dI)) (ci := 10) (v := .int (Int32.ofInt 0)) (ty := .int) (C := RX10) (T := TX10) (N := 16) hx hb hz zi_X10 tyX10 tyX10_ok nmX10 hown hK hP hD hS 0 rfl rfl 4 (by decide) (hz _ zw_481) (fun _ h9 => h9) rfl (by decide +kernel) rfl rfl (Nat.le_of_ble_eq_true rfl) (zdt zkX10_law 7 rfl) (fun H locs hP hD hS => ?_)
  refine xw_PD (wd_HS_law cA q0 q1 q2 q3 q4 q5 q6 q7 q8 q9 q10 q11 q12 q13 q14 q15 q16 q17 q18 q19 q20 q21 q22 q23 q24 q25 u0 u1 u2 u3 i_tape 0 i_latestFault i_latestStatus i_hill_laws i_hill_changes i_refusals i_reader_ordered i_reader_at i_reader_parts i_hill_orders i_hill_ordered i_reader_orders i_reader_tokens i_reader_places i_reader_values) hP hD (fun hP hD => ?_)
  refine lv_aload_n hx hb (zdt zkX10_law 10 rfl) rfl (lv_at hl 1 rfl) ?_
  refine va_get (D := (dC, dI)) (ci := 10) (v := .ref q1) (C := RX10) (T := TX10) (N := 16) hx hb hz zi_X10 hown hK hP 0 rfl rfl 0 (by decide) (hz _ zw_477) (fun _ h9 => h9) rfl (zdt zkX10_law 11 rfl) ?_
  refine va_getN (D := (dC, dI)) (ci := 2) (v := .int (Int32.ofInt i_hill_laws)) (C := RX2) (T := TX2) (N := 14) hx hb hz zi_X2 hown hK hP 1 rfl rfl 9 (by decide) (va_Nw.use rfl (hE.1.1 _ zw_198)) (fun _ h9 => h9) rfl (zdt zkX10_law 14 rfl) ?_
  refine lv_bipush (v := Int32.ofInt 6) hx hb (zdt zkX10_law 17 rfl) (by decide) ?_
  refine xi_icmp_lt (tgt := 29) hx hb (zdt zkX10_law 19 rfl) (by decide) hf (fun hf => ?_) (fun hf => ?_)
  · refine lv_aload_n hx hb (zdt zkX10_law 29 rfl) rfl (lv_at hl 1 rfl) ?_
    refine lv_aload_n hx hb (zdt zkX10_law 30 rfl) rfl (lv_at hl 1 rfl) ?_
    refine va_get (D := (dC, dI)) (ci := 10) (v := .ref q6) (C := RX10) (T := TX10) (N := 16) hx hb hz zi_X10 hown hK hP 0 rfl rfl 9 (by decide) (hz _ zw_486) (fun _ h9 => h9) rfl (zdt zkX10_law 31 rfl) ?_
    refine lv_aload_n hx hb (zdt zkX10_law 34 rfl) rfl (lv_at hl 1 rfl) ?_
    refine va_get (D := (dC, dI)) (ci := 10) (v := .ref q4) (C := RX10) (T := TX10) (N := 16) hx hb hz zi_X10 hown hK hP 0 rfl rfl 3 (by decide) (hz _ zw_480) (fun _ h9 => h9) rfl (zdt zkX10_law 35 rfl) ?_
    refine lv_iload_n hx hb (zdt zkX10_law 38 rfl) rfl (lv_at hl 0 rfl) ?_
    refine xe_d8 hf (fun v1 v2 v3 v4 a5 a6 a7 a8 hg hf => ?_)
    have hC : ([4, 2, 7, 8, 9, 10] : List Nat).map (fun i => (wd_HS_law cA q0 q1 q2 q3 q4 q5 q6 q7 q8 q9 q10 q11 q12 q13 q14 q15 q16 q17 q18 q19 q20 q21 q22 q23 q24 q25 u0 u1 u2 u3 i_tape 0 i_latestFault i_latestStatus i_hill_laws i_hill_changes i_refusals i_reader_ordered i_reader_at i_reader_parts i_hill_orders i_hill_ordered i_reader_orders i_reader_tokens i_reader_places i_reader_values)[i]?) = (wd_LawReader_read cA q6 q22 q23 q24 q25 q4 i_tape i_reader_ordered i_reader_at i_reader_parts i_reader_orders i_reader_tokens i_reader_places i_reader_values).map some := rfl
    refine xv_afterI (ws' := (wd_HS_law cA q0 q1 q2 q3 q4 q5 q6 q7 q8 q9 q10 q11 q12 q13 q14 q15 q16 q17 q18 q19 q20 q21 q22 q23 q24 q25 u0 u1 u2 u3 i_tape 0 i_latestFault i_latestStatus i_hill_laws i_hill_changes i_refusals v2 v3 v4 i_hill_orders i_hill_ordered a5 a6 a7 a8)) (isC := [4, 2, 7, 8, 9, 10]) (ps := [none, none, some 1, none, some 0, none, none, some 2, some 3, some 4, some 5]) (va_runV (As := [.ref q4, .int (Int32.ofInt i_taped)]) (rest := [.ref q0]) ⟨hx, hb, hml, hown, hts⟩ (c_LawReader_read l ev dC dI cA q6 q22 q23 q24 q25 q4 hg H.size) (cwV 2 hts (zgV zw_646 zw_647 zw_648 zw_107 zw_649) rfl rfl rfl hd_LawReader_read ⟨Nat.le_of_ble_eq_true rfl, Nat.le_of_ble_eq_true rfl⟩) (xv_preV (T := TX4) (N := 7) hE hA hS hK hP hD (isC := [4, 2, 7, 8, 9, 10]) (by decide +kernel) hC (q0 := 4) (ci := 4) rfl rfl) rfl rfl hl.1 rfl (lv_room (Nat.le_of_ble_eq_true rfl)) (zdt zkX10_law 39 rfl) ⟨Nat.le_refl _, Nat.le_refl _⟩) hP hD hS hA (by decide +kernel) rfl hC rfl rfl (fun H locs hP hD hS => ?_)
    refine va_put (D := (dC, dI)) (ci := 10) (v := .int (Int32.ofInt v1)) (ty := .int) (C := RX10) (T := TX10) (N := 16) hx hb hz zi_X10 tyX10 tyX10_ok nmX10 hown hK hP hD hS 0 rfl rfl 5 (by decide) (hz _ zw_482) (fun _ h9 => h9) rfl (by decide +kernel) rfl rfl (Nat.le_of_ble_eq_true rfl) (zdt zkX10_law 42 rfl) (fun H locs hP hD hS => ?_)
    refine xw_PD (wd_HS_law cA q0 q1 q2 q3 q4 q5 q6 q7 q8 q9 q10 q11 q12 q13 q14 q15 q16 q17 q18 q19 q20 q21 q22 q23 q24 q25 u0 u1 u2 u3 i_tape 0 v1 i_latestStatus i_hill_laws i_hill_changes i_refusals v2 v3 v4 i_hill_orders i_hill_ordered a5 a6 a7 a8) hP hD (fun hP hD => ?_)
    refine lv_aload_n hx hb (zdt zkX10_law 45 rfl) rfl (lv_at hl 1 rfl) ?_
    refine va_get (D := (dC, dI)) (ci := 10) (v := .int (Int32.ofInt v1)) (C := RX10) (T := TX10) (N := 16) hx hb hz zi_X10 hown hK hP 0 rfl rfl 5 (by decide) (hz _ zw_482) (fun _ h9 => h9) rfl (zdt zkX10_law 46 rfl) ?_
    refine lv_iconst (v := Int32.ofInt (-1)) hx hb (zdt zkX10_law 49 rfl) rfl ?_
    refine xi_icmp_eq (tgt := 60) hx hb (zdt zkX10_law 50 rfl) (by decide) hf (fun hf => ?_) (fun hf => ?_)
    · refine lv_aload_n hx hb (zdt zkX10_law 60 rfl) rfl (lv_at hl 1 rfl) ?_
      refine lv_aload_n hx hb (zdt zkX10_law 61 rfl) rfl (lv_at hl 1 rfl) ?_
      refine va_get (D := (dC, dI)) (ci := 10) (v := .ref q1) (C := RX10) (T := TX10) (N := 16) hx hb hz zi_X10 hown hK hP 0 rfl rfl 0 (by decide) (hz _ zw_477) (fun _ h9 => h9) rfl (zdt zkX10_law 62 rfl) ?_
      refine lv_aload_n hx hb (zdt zkX10_law 65 rfl) rfl (lv_at hl 1 rfl) ?_
      refine va_get (D := (dC, dI)) (ci := 10) (v := .ref q6) (C := RX10) (T := TX10) (N := 16) hx hb hz zi_X10 hown hK hP 0 rfl rfl 9 (by decide) (hz _ zw_486) (fun _ h9 => h9) rfl (zdt zkX10_law 66 rfl) ?_
      refine xe_d4 hf (fun v9 v10 a11 a12 hg hf => ?_)
      have hC : ([1, 4, 5, 6, 7] : List Nat).map (fun i => (wd_HS_law cA q0 q1 q2 q3 q4 q5 q6 q7 q8 q9 q10 q11 q12 q13 q14 q15 q16 q17 q18 q19 q20 q21 q22 q23 q24 q25 u0 u1 u2 u3 i_tape 0 v1 i_latestStatus i_hill_laws i_hill_changes i_refusals v2 v3 v4 i_hill_orders i_hill_ordered a5 a6 a7 a8)[i]?) = (wd_Hill_enact cA q1 q13 q14 q15 q16 q17 q18 q19 q20 q21 q6 q22 q23 q24 q25 u1 u2 u3 i_hill_changes v3 v4 v2 a5 i_hill_laws i_hill_orders i_hill_ordered).map some := rfl
      refine xv_afterI (ws' := (wd_HS_law cA q0 q1 q2 q3 q4 q5 q6 q7 q8 q9 q10 q11 q12 q13 q14 q15 q16 q17 q18 q19 q20 q21 q22 q23 q24 q25 u0 u1 u2 u3 i_tape 0 v1 i_latestStatus v10 i_hill_changes i_refusals v2 v3 v4 a11 a12 a5 a6 a7 a8)) (isC := [1, 4, 5, 6, 7]) (ps := [none, some 0, none, none, some 1, some 2, some 3, some 4, none, none, none]) (va_runV (As := [.ref q6]) (rest := [.ref q0]) ⟨hx, hb, hml, hown, hts⟩ (c_Hill_enact l ev dC dI cA q1 q13 q14 q15 q16 q17 q18 q19 q20 q21 q6 q22 q23 q24 q25 u1 u2 u3 i_hill_changes v3 v4 hg H.size) (cwV 1 hts (zgV zw_779 zw_780 zw_781 zw_105 zw_782) rfl rfl rfl hd_Hill_enact ⟨Nat.le_of_ble_eq_true rfl, Nat.le_of_ble_eq_true rfl⟩) (xv_preV (T := TX2) (N := 14) hE hA hS hK hP hD (isC := [1, 4, 5, 6, 7]) (by decide +kernel) hC (q0 := 1) (ci := 2) rfl rfl) rfl rfl hl.1 rfl (lv_room (Nat.le_of_ble_eq_true rfl)) (zdt zkX10_law 69 rfl) ⟨Nat.le_refl _, Nat.le_refl _⟩) hP hD hS hA (by decide +kernel) rfl hC rfl rfl (fun H locs hP hD hS => ?_)
      refine xe_d3 hf (fun v13 v14 v15 hg hf => ?_)
      have hC : ([0, 1] : List Nat).map (fun i => (wd_HS_law cA q0 q1 q2 q3 q4 q5 q6 q7 q8 q9 q10 q11 q12 q13 q14 q15 q16 q17 q18 q19 q20 q21 q22 q23 q24 q25 u0 u1 u2 u3 i_tape 0 v1 i_latestStatus v10 i_hill_changes i_refusals v2 v3 v4 a11 a12 a5 a6 a7 a8)[i]?) = (wd_HS_accept cA q0 q1 q2 q3 q4 q5 q6 q7 q8 q9 q10 q11 q12 q13 q14 q15 q16 q17 q18 q19 q20 q21 0 v1 u0 u1 u2 v10 u3 i_latestStatus i_hill_changes).map some := rfl
      refine xv_afterI (ws' := (wd_HS_law cA q0 q1 q2 q3 q4 q5 q6 q7 q8 q9 q10 q11 q12 q13 q14 q15 q16 q17 q18 q19 q20 q21 q22 q23 q24 q25 u0 u1 u2 u3 i_tape 0 v1 v14 v10 v15 i_refusals v2 v3 v4 a11 a12 a5 a6 a7 a8)) (isC := [0, 1]) (ps := [some 0, some 1, none, none, none, none, none, none, none, none, none]) (va_runV (As := [.int (Int32.ofInt v9)]) (rest := []) ⟨hx, hb, hml, hown, hts⟩ (c_HS_accept l ev dC dI cA q0 q1 q2 q3 q4 q5 q6 q7 q8 q9 q10 q11 q12 q13 q14 q15 q16 q17 q18 q19 q20 q21 0 v1 u0 u1 u2 v10 u3 hg H.size) (cwV 1 hts (zgV zw_538 zw_540 zw_1 zw_104 zw_541) rfl rfl rfl hd_HS_accept ⟨Nat.le_of_ble_eq_true rfl, Nat.le_of_ble_eq_true rfl⟩) (xv_preV (T := TX10) (N := 16) hE hA hS hK hP hD (isC := [0, 1]) (by decide +kernel) hC (q0 := 0) (ci := 10) rfl rfl) rfl rfl hl.1 rfl (lv_room (Nat.le_of_ble_eq_true rfl)) (zdt zkX10_law 72 rfl) ⟨Nat.le_refl _, Nat.le_refl _⟩) hP hD hS hA (by decide +kernel) rfl hC rfl rfl (fun H locs hP hD hS => ?_)
      obtain rfl := Option.some.inj hf
      exact hret _ _ _ _ rfl (zdt zkX10_law 75 rfl) hP hD hS
    · refine lv_aload_n hx hb (zdt zkX10_law 53 rfl) rfl (lv_at hl 1 rfl) ?_
      refine lv_bipush (v := Int32.ofInt (-6)) hx hb (zdt zkX10_law 54 rfl) (by decide) ?_
      refine xe_d3 hf (fun v16 v17 a18 hg hf => ?_)
      have hC : ([0, 3] : List Nat).map (fun i => (wd_HS_law cA q0 q1 q2 q3 q4 q5 q6 q7 q8 q9 q10 q11 q12 q13 q14 q15 q16 q17 q18 q19 q20 q21 q22 q23 q24 q25 u0 u1 u2 u3 i_tape 0 v1 i_latestStatus i_hill_laws i_hill_changes i_refusals v2 v3 v4 i_hill_orders i_hill_ordered a5 a6 a7 a8)[i]?) = (wd_HS_refuse cA q0 q1 q2 q3 q4 q5 q6 q7 q8 q9 q10 q11 q12 0 v1 u0 i_latestStatus i_refusals).map some := rfl
      refine xv_afterI (ws' := (wd_HS_law cA q0 q1 q2 q3 q4 q5 q6 q7 q8 q9 q10 q11 q12 q13 q14 q15 q16 q17 q18 q19 q20 q21 q22 q23 q24 q25 u0 u1 u2 u3 i_tape 0 v1 v17 i_hill_laws i_hill_changes a18 v2 v3 v4 i_hill_orders i_hill_ordered a5 a6 a7 a8)) (isC := [0, 3]) (ps := [some 0, none, none, some 1, none, none, none, none, none, none, none]) (va_runV (As := [.int (Int32.ofInt (-6))]) (rest := []) ⟨hx, hb, hml, hown, hts⟩ (c_HS_refuse l ev dC dI cA q0 q1 q2 q3 q4 q5 q6 q7 q8 q9 q10 q11 q12 0 v1 u0 hg H.size) (cwV 1 hts (zgV zw_534 zw_536 zw_0 zw_104 zw_537) rfl rfl rfl hd_HS_refuse ⟨Nat.le_of_ble_eq_true rfl, Nat.le_of_ble_eq_true rfl⟩) (xv_preV (T := TX10) (N := 16) hE hA hS hK hP hD (isC := [0, 3]) (by decide +kernel) hC (q0 := 0) (ci := 10) rfl rfl) rfl rfl hl.1 rfl (lv_room (Nat.le_of_ble_eq_true rfl)) (zdt zkX10_law 56 rfl) ⟨Nat.le_refl _, Nat.le_refl _⟩) hP hD hS hA (by decide +kernel) rfl hC rfl rfl (fun H locs hP hD hS => ?_)
      obtain rfl := Option.some.inj hf
      exact hret _ _ _ _ rfl (zdt zkX10_law 59 rfl) hP hD hS
  · refine lv_aload_n hx hb (zdt zkX10_law 22 rfl) rfl (lv_at hl 1 rfl) ?_
    refine lv_bipush (v := Int32.ofInt (-5)) hx hb (zdt zkX10_law 23 rfl) (by decide) ?_
    refine xe_d3 hf (fun v19 v20 a21 hg hf => ?_)
    have hC : ([0, 3] : List Nat).map (fun i => (wd_HS_law cA q0 q1 q2 q3 q4 q5 q6 q7 q8 q9 q10 q11 q12 q13 q14 q15 q16 q17 q18 q19 q20 q21 q22 q23 q24 q25 u0 u1 u2 u3 i_tape 0 i_latestFault i_latestStatus i_hill_laws i_hill_changes i_refusals i_reader_ordered i_reader_at i_reader_parts i_hill_orders i_hill_ordered i_reader_orders i_reader_tokens i_reader_places i_reader_values)[i]?) = (wd_HS_refuse cA q0 q1 q2 q3 q4 q5 q6 q7 q8 q9 q10 q11 q12 0 i_latestFault u0 i_latestStatus i_refusals).map some := rfl
    refine xv_afterI (ws' := (wd_HS_law cA q0 q1 q2 q3 q4 q5 q6 q7 q8 q9 q10 q11 q12 q13 q14 q15 q16 q17 q18 q19 q20 q21 q22 q23 q24 q25 u0 u1 u2 u3 i_tape 0 i_latestFault v20 i_hill_laws i_hill_changes a21 i_reader_ordered i_reader_at i_reader_parts i_hill_orders i_hill_ordered i_reader_orders i_reader_tokens i_reader_places i_reader_values)) (isC := [0, 3]) (ps := [some 0, none, none, some 1, none, none, none, none, none, none, none]) (va_runV (As := [.int (Int32.ofInt (-5))]) (rest := []) ⟨hx, hb, hml, hown, hts⟩ (c_HS_refuse l ev dC dI cA q0 q1 q2 q3 q4 q5 q6 q7 q8 q9 q10 q11 q12 0 i_latestFault u0 hg H.size) (cwV 1 hts (zgV zw_534 zw_536 zw_0 zw_104 zw_537) rfl rfl rfl hd_HS_refuse ⟨Nat.le_of_ble_eq_true rfl, Nat.le_of_ble_eq_true rfl⟩) (xv_preV (T := TX10) (N := 16) hE hA hS hK hP hD (isC := [0, 3]) (by decide +kernel) hC (q0 := 0) (ci := 10) rfl rfl) rfl rfl hl.1 rfl (lv_room (Nat.le_of_ble_eq_true rfl)) (zdt zkX10_law 25 rfl) ⟨Nat.le_refl _, Nat.le_refl _⟩) hP hD hS hA (by decide +kernel) rfl hC rfl rfl (fun H locs hP hD hS => ?_)
    obtain rfl := Option.some.inj hf
    exact hret _ _ _ _ rfl (zdt zkX10_law 28 rfl) hP hD hS
set_option maxRecDepth 100000 in
noncomputable def ztX10_fault (p : Nat) : Option (Jvm.ClassFile.Instr × Nat) := bif Nat.ble 1 p then (bif Nat.ble 4 p then (bif Nat.beq p 4 then some (.ireturn, 1) else none) else (bif Nat.beq p 1 then some (.getfield 32, 3) else none)) else (bif Nat.beq p 0 then some (.aload_n 0, 1) else none)
set_option maxRecDepth 100000 in
theorem zkX10_fault : (zbig cX10_fault.data.toList = 739271291946 ∧ cX10_fault.data.toList.length = 5) ∧ zdk cX10_fault 739271291946 5 ztX10_fault 4 = true := by decide +kernel
theorem zw_790 : (Jvm.Cond.code ({ cls := "HillSchool", name := "fault", desc := "()I" } : Jvm.MethodName) prog_1_method_17_code (1 : Nat) (Option.some Jvm.ClassFile.FieldType.int)) ∈ zall := zmemG (zmj_3 207 rfl) rfl
noncomputable abbrev w_HS_fault : List Cond := .code yX10_fault cX10_fault 1 (some .int) :: zall
noncomputable abbrev rm_HS_fault : Room := { frames := 0, cells := 0, slots := 0, locals := 0 }
theorem hd_HS_fault : yX10_fault.cls = "HillSchool" ∧ yX10_fault.cls ≠ "java/lang/invoke/MethodHandle" ∧ yX10_fault.cls ≠ "java/lang/invoke/VarHandle" ∧ (parseMethodDescriptor yX10_fault.desc).map (fun d => d.parameters.length) = some 0 := by decide +kernel
noncomputable def wd_HS_fault (cA : Nat → ClassId) (q0 q1 q2 q3 q4 q5 q6 q7 q8 q9 q10 q11 q12 : Nat) (u0 u1 u2 : Int) (i_latestFault : Int)  : va_W := [(q0, .inr (10, [.ref q1, .ref q2, .ref q3, .ref q4, .int (Int32.ofInt u0), .int (Int32.ofInt i_latestFault), .int (Int32.ofInt u1), .ref q5, .int (Int32.ofInt u2), .ref q6, .ref q7, .ref q8, .ref q9, .ref q10, .ref q11, .ref q12]))]
noncomputable def wf_HS_fault (cA : Nat → ClassId) (q0 q1 q2 q3 q4 q5 q6 q7 q8 q9 q10 q11 q12 : Nat) (u0 u1 u2 : Int) (i_latestFault : Int) (o : Int) : va_W := wd_HS_fault cA q0 q1 q2 q3 q4 q5 q6 q7 q8 q9 q10 q11 q12 u0 u1 u2 i_latestFault
noncomputable def f_HS_fault (i_latestFault : Int) : Option (Int) :=
  some i_latestFault
set_option maxHeartbeats 4000000 in
set_option maxRecDepth 100000 in
theorem c_HS_fault (l : Launch) (ev : zEv) (dC : Nat → ClassId) (dI : Nat → Nat → Nat) (cA : Nat → ClassId) (q0 q1 q2 q3 q4 q5 q6 q7 q8 q9 q10 q11 q12 : Nat) (u0 u1 u2 : Int) {i_latestFault : Int} {out : Int} (hf : f_HS_fault i_latestFault = some out) : xc_I l ev (dC, dI) vwCl (tyl cA) yX10_fault w_HS_fault rm_HS_fault [.ref q0] (wd_HS_fault cA q0 q1 q2 q3 q4 q5 q6 q7 q8 q9 q10 q11 q12 u0 u1 u2 i_latestFault) (wf_HS_fault cA q0 q1 q2 q3 q4 q5 q6 q7 q8 q9 q10 q11 q12 u0 u1 u2 i_latestFault out) out := by
  refine xv_startI (cc := cX10_fault) (maxL := 1) (rt := .int) (by decide +kernel) rfl (Nat.le_of_ble_eq_true rfl) ?_
  intro p e s m args below meth c A Q H ls hx hb hml hts hown hK hA hP hD hS hl hE hret
  have hown : s.vm.findClass "HillSchool" = some m.cls := hown
  have hz : ∀ w ∈ zall, w.before args s = true := fun w h => hts w (List.mem_cons_of_mem _ h)
  have hl : lv_has ls 1 [(0, .ref q0)] := hl
  unfold f_HS_fault at hf
  refine lv_aload_n hx hb (zdt zkX10_fault 0 rfl) rfl (lv_at hl 0 rfl) ?_
  refine va_get (D := (dC, dI)) (ci := 10) (v := .int (Int32.ofInt i_latestFault)) (C := RX10) (T := TX10) (N := 16) hx hb hz zi_X10 hown hK hP 0 rfl rfl 5 (by decide) (hz _ zw_482) (fun _ h9 => h9) rfl (zdt zkX10_fault 1 rfl) ?_
  obtain rfl := Option.some.inj hf
  exact hret _ _ _ _ rfl (zdt zkX10_fault 4 rfl) hP hD hS
set_option maxRecDepth 100000 in
noncomputable def ztX10_force (p : Nat) : Option (Jvm.ClassFile.Instr × Nat) := bif Nat.ble 26 p then (bif Nat.ble 36 p then (bif Nat.ble 43 p then (bif Nat.ble 45 p then (bif Nat.ble 48 p then (bif Nat.beq p 48 then some (.ireturn, 1) else none) else (bif Nat.beq p 45 then some (.invokevirtual 119, 3) else none)) else (bif Nat.ble 44 p then (bif Nat.beq p 44 then some (.iload_n 2, 1) else none) else (bif Nat.beq p 43 then some (.aload_n 0, 1) else none))) else (bif Nat.ble 39 p then (bif Nat.ble 40 p then (bif Nat.beq p 40 then some (.putfield 194, 3) else none) else (bif Nat.beq p 39 then some (.iload_n 1, 1) else none)) else (bif Nat.beq p 36 then some (.getfield 10, 3) else none))) else (bif Nat.ble 31 p then (bif Nat.ble 34 p then (bif Nat.ble 35 p then (bif Nat.beq p 35 then some (.aload_n 0, 1) else none) else (bif Nat.beq p 34 then some (.istore_n 2, 1) else none)) else (bif Nat.beq p 31 then some (.getfield 194, 3) else none)) else (bif Nat.ble 27 p then (bif Nat.ble 28 p then (bif Nat.beq p 28 then some (.getfield 10, 3) else none) else (bif Nat.beq p 27 then some (.aload_n 0, 1) else none)) else (bif Nat.beq p 26 then some (.ireturn, 1) else none)))) else (bif Nat.ble 10 p then (bif Nat.ble 17 p then (bif Nat.ble 21 p then (bif Nat.ble 23 p then (bif Nat.beq p 23 then some (.invokevirtual 109, 3) else none) else (bif Nat.beq p 21 then some (.bipush (-2), 2) else none)) else (bif Nat.ble 20 p then (bif Nat.beq p 20 then some (.aload_n 0, 1) else none) else (bif Nat.beq p 17 then some (.if_icmp .lt 10, 3) else none))) else (bif Nat.ble 11 p then (bif Nat.ble 14 p then (bif Nat.beq p 14 then some (.getfield 183, 3) else none) else (bif Nat.beq p 11 then some (.getfield 10, 3) else none)) else (bif Nat.beq p 10 then some (.aload_n 0, 1) else none))) else (bif Nat.ble 5 p then (bif Nat.ble 6 p then (bif Nat.ble 9 p then (bif Nat.beq p 9 then some (.iload_n 1, 1) else none) else (bif Nat.beq p 6 then some (.ifCond .lt 14, 3) else none)) else (bif Nat.beq p 5 then some (.iload_n 1, 1) else none)) else (bif Nat.ble 1 p then (bif Nat.ble 2 p then (bif Nat.beq p 2 then some (.if_icmp .eq 25, 3) else none) else (bif Nat.beq p 1 then some (.iconst (-1), 1) else none)) else (bif Nat.beq p 0 then some (.iload_n 1, 1) else none))))
set_option maxRecDepth 100000 in
theorem zkX10_force : (zbig cX10_force.data.toList = 6795461269790859846295444867162416838802898933709440100174423066134575306896508274467637530699031603353659880419295771 ∧ cX10_force.data.toList.length = 49) ∧ zdk cX10_force 6795461269790859846295444867162416838802898933709440100174423066134575306896508274467637530699031603353659880419295771 49 ztX10_force 48 = true := by decide +kernel
theorem zw_205 : (Jvm.Cond.fieldLinkNest "HillSchool" (194 : Nat) "HillSchool$Hill" "inForce" "I" "HillSchool") ∈ znest := zmemH (zmj_1 102 rfl) rfl
theorem zw_794 : (Jvm.Cond.code ({ cls := "HillSchool", name := "force", desc := "(I)I" } : Jvm.MethodName) prog_1_method_18_code (3 : Nat) (Option.some Jvm.ClassFile.FieldType.int)) ∈ zall := zmemG (zmj_3 211 rfl) rfl
noncomputable abbrev w_HS_force : List Cond := .code yX10_force cX10_force 3 (some .int) :: zall
noncomputable abbrev rm_HS_force : Room := { frames := 1, cells := 0, slots := 0, locals := 21 }
theorem hd_HS_force : yX10_force.cls = "HillSchool" ∧ yX10_force.cls ≠ "java/lang/invoke/MethodHandle" ∧ yX10_force.cls ≠ "java/lang/invoke/VarHandle" ∧ (parseMethodDescriptor yX10_force.desc).map (fun d => d.parameters.length) = some 1 := by decide +kernel
noncomputable def wd_HS_force (cA : Nat → ClassId) (q0 q1 q2 q3 q4 q5 q6 q7 q8 q9 q10 q11 q12 q13 q14 q15 q16 q17 q18 q19 q20 q21 : Nat) (u0 u1 u2 u3 u4 : Int) (i_hill_laws : Int) (i_latestStatus : Int) (i_hill_inForce : Int) (i_hill_changes : Int) (i_refusals : Nat → Int) : va_W := [(q0, .inr (10, [.ref q1, .ref q2, .ref q3, .ref q4, .int (Int32.ofInt u0), .int (Int32.ofInt u1), .int (Int32.ofInt u2), .ref q5, .int (Int32.ofInt i_latestStatus), .ref q6, .ref q7, .ref q8, .ref q9, .ref q10, .ref q11, .ref q12])), (q1, .inr (2, [.ref q13, .int (Int32.ofInt u3), .ref q14, .ref q15, .ref q16, .int (Int32.ofInt u4), .ref q17, .ref q18, .ref q19, .int (Int32.ofInt i_hill_laws), .ref q20, .ref q21, .int (Int32.ofInt i_hill_inForce), .int (Int32.ofInt i_hill_changes)])), (q5, .inl (cA 0, 7, .inl (za i_refusals)))]
noncomputable def wf_HS_force (cA : Nat → ClassId) (q0 q1 q2 q3 q4 q5 q6 q7 q8 q9 q10 q11 q12 q13 q14 q15 q16 q17 q18 q19 q20 q21 : Nat) (u0 u1 u2 u3 u4 : Int) (i_hill_laws : Int) (o : Int × Int × Int × Int × (Nat → Int)) : va_W := wd_HS_force cA q0 q1 q2 q3 q4 q5 q6 q7 q8 q9 q10 q11 q12 q13 q14 q15 q16 q17 q18 q19 q20 q21 u0 u1 u2 u3 u4 i_hill_laws o.2.1 o.2.2.1 o.2.2.2.1 o.2.2.2.2
noncomputable def f_HS_force_27 (i_hill_laws : Int) (x1 : Int) (i_latestStatus : Int) (i_hill_inForce : Int) (i_hill_changes : Int) (i_refusals : Nat → Int) : Option (Int × Int × Int × Int × (Nat → Int)) :=
  zd3 (f_HS_accept i_hill_inForce i_latestStatus i_hill_changes) fun v1 v2 v3 =>
  some (v1, v2, x1, v3, i_refusals)
noncomputable def f_HS_force_20 (i_hill_laws : Int) (i_latestStatus : Int) (i_hill_inForce : Int) (i_hill_changes : Int) (i_refusals : Nat → Int) : Option (Int × Int × Int × Int × (Nat → Int)) :=
  zd3 (f_HS_refuse (-2) i_latestStatus i_refusals) fun v1 v2 a3 =>
  some (v1, v2, i_hill_inForce, i_hill_changes, a3)
noncomputable def f_HS_force (x1 : Int) (i_hill_laws : Int) (i_latestStatus : Int) (i_hill_inForce : Int) (i_hill_changes : Int) (i_refusals : Nat → Int) : Option (Int × Int × Int × Int × (Nat → Int)) :=
  if zi_w x1 = zi_w (-1) then
    f_HS_force_27 i_hill_laws x1 i_latestStatus i_hill_inForce i_hill_changes i_refusals
  else
    if zi_w x1 < 0 then
      f_HS_force_20 i_hill_laws i_latestStatus i_hill_inForce i_hill_changes i_refusals
    else
      if zi_w x1 < zi_w i_hill_laws then
        f_HS_force_27 i_hill_laws x1 i_latestStatus i_hill_inForce i_hill_changes i_refusals
      else
        f_HS_force_20 i_hill_laws i_latestStatus i_hill_inForce i_hill_changes i_refusals
set_option maxHeartbeats 4000000 in
set_option maxRecDepth 100000 in
theorem c_HS_force (l : Launch) (ev : zEv) (dC : Nat → ClassId) (dI : Nat → Nat → Nat) (cA : Nat → ClassId) (q0 q1 q2 q3 q4 q5 q6 q7 q8 q9 q10 q11 q12 q13 q14 q15 q16 q17 q18 q19 q20 q21 : Nat) (u0 u1 u2 u3 u4 : Int) {x1 : Int} {i_hill_laws : Int} {i_latestStatus : Int} {i_hill_inForce : Int} {i_hill_changes : Int} {i_refusals : Nat → Int} {out : Int × Int × Int × Int × (Nat → Int)} (hf : f_HS_force x1 i_hill_laws i_latestStatus i_hill_inForce i_hill_changes i_refusals = some out) : xc_I l ev (dC, dI) vwCl (tyl cA) yX10_force w_HS_force rm_HS_force [.ref q0, .int (Int32.ofInt x1)] (wd_HS_force cA q0 q1 q2 q3 q4 q5 q6 q7 q8 q9 q10 q11 q12 q13 q14 q15 q16 q17 q18 q19 q20 q21 u0 u1 u2 u3 u4 i_hill_laws i_latestStatus i_hill_inForce i_hill_changes i_refusals) (wf_HS_force cA q0 q1 q2 q3 q4 q5 q6 q7 q8 q9 q10 q11 q12 q13 q14 q15 q16 q17 q18 q19 q20 q21 u0 u1 u2 u3 u4 i_hill_laws out) out.1 := by
  refine xv_startI (cc := cX10_force) (maxL := 3) (rt := .int) (by decide +kernel) rfl (Nat.le_of_ble_eq_true rfl) ?_
  intro p e s m args below meth c A Q H ls hx hb hml hts hown hK hA hP hD hS hl hE hret
  have hown : s.vm.findClass "HillSchool" = some m.cls := hown
  have hz : ∀ w ∈ zall, w.before args s = true := fun w h => hts w (List.mem_cons_of_mem _ h)
  have hl : lv_has ls 3 [(0, .ref q0), (1, .int (Int32.ofInt x1))] := hl
  have b_27 : ∀ (x1 : Int) (i_latestStatus : Int) (i_hill_inForce : Int) (i_hill_changes : Int) (i_refusals : Nat → Int) (H : Heap) (locs : List Loc) (ls : Array Slot), f_HS_force_27 i_hill_laws x1 i_latestStatus i_hill_inForce i_hill_changes i_refusals = some out → va_P (dC, dI) vwCl (wd_HS_force cA q0 q1 q2 q3 q4 q5 q6 q7 q8 q9 q10 q11 q12 q13 q14 q15 q16 q17 q18 q19 q20 q21 u0 u1 u2 u3 u4 i_hill_laws i_latestStatus i_hill_inForce i_hill_changes i_refusals) H → va_D A (wd_HS_force cA q0 q1 q2 q3 q4 q5 q6 q7 q8 q9 q10 q11 q12 q13 q14 q15 q16 q17 q18 q19 q20 q21 u0 u1 u2 u3 u4 i_hill_laws i_latestStatus i_hill_inForce i_hill_changes i_refusals) → va_S A s.heap H locs → lv_has ls 3 [(0, .ref q0), (1, .int (Int32.ofInt x1))] → W p l e rm_HS_force s m args below meth c H locs 0 0 Q (F0 m 27 ls []) := by
    intro x1 i_latestStatus i_hill_inForce i_hill_changes i_refusals H locs ls hf hP hD hS hl
    unfold f_HS_force_27 at hf
    refine lv_aload_n hx hb (zdt zkX10_force 27 rfl) rfl (lv_at hl 0 rfl) ?_
    refine va_get (D := (dC, dI)) (ci := 10) (v := .ref q1) (C := RX10) (T := TX10) (N := 16) hx hb hz zi_X10 hown hK hP 0 rfl rfl 0 (by decide) (hz _ zw_477) (fun _ h9 => h9) rfl (zdt zkX10_force 28 rfl) ?_
    refine va_getN (D := (dC, dI)) (ci := 2) (v := .int (Int32.ofInt i_hill_inForce)) (C := RX2) (T := TX2) (N := 14) hx hb hz zi_X2 hown hK hP 1 rfl rfl 12 (by decide) (va_Nw.use rfl (hE.1.1 _ zw_205)) (fun _ h9 => h9) rfl (zdt zkX10_force 31 rfl) ?_
    refine lv_istore_n (lv' := [(2, .int (Int32.ofInt i_hill_inForce)), (0, .ref q0), (1, .int (Int32.ofInt x1))]) hx hb (zdt zkX10_force 34 rfl) rfl hl (by decide) rfl (fun ls hl => ?_)
    refine lv_aload_n hx hb (zdt zkX10_force 35 rfl) rfl (lv_at hl 1 rfl) ?_
    refine va_get (D := (dC, dI)) (ci := 10) (v := .ref q1) (C := RX10) (T := TX10) (N := 16) hx hb hz zi_X10 hown hK hP 0 rfl rfl 0 (by decide) (hz _ zw_477) (fun _ h9 => h9) rfl (zdt zkX10_force 36 rfl) ?_
    refine lv_iload_n hx hb (zdt zkX10_force 39 rfl) rfl (lv_at hl 2 rfl) ?_
    refine va_putN (D := (dC, dI)) (ci := 2) (v := .int (Int32.ofInt x1)) (ty := .int) (C := RX2) (T := TX2) (N := 14) hx hb hz zi_X2 tyX2 tyX2_ok nmX2 hown hK hP hD hS 1 rfl rfl 12 (by decide) (va_Nw.use rfl (hE.1.1 _ zw_205)) (fun _ h9 => h9) rfl (by decide +kernel) rfl rfl (Nat.le_of_ble_eq_true rfl) (zdt zkX10_force 40 rfl) (fun H locs hP hD hS => ?_)
    refine xw_PD (wd_HS_force cA q0 q1 q2 q3 q4 q5 q6 q7 q8 q9 q10 q11 q12 q13 q14 q15 q16 q17 q18 q19 q20 q21 u0 u1 u2 u3 u4 i_hill_laws i_latestStatus x1 i_hill_changes i_refusals) hP hD (fun hP hD => ?_)
    refine lv_aload_n hx hb (zdt zkX10_force 43 rfl) rfl (lv_at hl 1 rfl) ?_
    refine lv_iload_n hx hb (zdt zkX10_force 44 rfl) rfl (lv_at hl 0 rfl) ?_
    refine xe_d3 hf (fun v1 v2 v3 hg hf => ?_)
    have hC : ([0, 1] : List Nat).map (fun i => (wd_HS_force cA q0 q1 q2 q3 q4 q5 q6 q7 q8 q9 q10 q11 q12 q13 q14 q15 q16 q17 q18 q19 q20 q21 u0 u1 u2 u3 u4 i_hill_laws i_latestStatus x1 i_hill_changes i_refusals)[i]?) = (wd_HS_accept cA q0 q1 q2 q3 q4 q5 q6 q7 q8 q9 q10 q11 q12 q13 q14 q15 q16 q17 q18 q19 q20 q21 u0 u1 u2 u3 u4 i_hill_laws x1 i_latestStatus i_hill_changes).map some := rfl
    refine xv_afterI (ws' := (wd_HS_force cA q0 q1 q2 q3 q4 q5 q6 q7 q8 q9 q10 q11 q12 q13 q14 q15 q16 q17 q18 q19 q20 q21 u0 u1 u2 u3 u4 i_hill_laws v2 x1 v3 i_refusals)) (isC := [0, 1]) (ps := [some 0, some 1, none]) (va_runV (As := [.int (Int32.ofInt i_hill_inForce)]) (rest := []) ⟨hx, hb, hml, hown, hts⟩ (c_HS_accept l ev dC dI cA q0 q1 q2 q3 q4 q5 q6 q7 q8 q9 q10 q11 q12 q13 q14 q15 q16 q17 q18 q19 q20 q21 u0 u1 u2 u3 u4 i_hill_laws x1 hg H.size) (cwV 1 hts (zgV zw_538 zw_540 zw_1 zw_104 zw_541) rfl rfl rfl hd_HS_accept ⟨Nat.le_of_ble_eq_true rfl, Nat.le_of_ble_eq_true rfl⟩) (xv_preV (T := TX10) (N := 16) hE hA hS hK hP hD (isC := [0, 1]) (by decide +kernel) hC (q0 := 0) (ci := 10) rfl rfl) rfl rfl hl.1 rfl (lv_room (Nat.le_of_ble_eq_true rfl)) (zdt zkX10_force 45 rfl) ⟨Nat.le_refl _, Nat.le_refl _⟩) hP hD hS hA (by decide +kernel) rfl hC rfl rfl (fun H locs hP hD hS => ?_)
    obtain rfl := Option.some.inj hf
    exact hret _ _ _ _ rfl (zdt zkX10_force 48 rfl) hP hD hS
  have b_20 : ∀ (i_latestStatus : Int) (i_hill_inForce : Int) (i_hill_changes : Int) (i_refusals : Nat → Int) (H : Heap) (locs : List Loc) (ls : Array Slot), f_HS_force_20 i_hill_laws i_latestStatus i_hill_inForce i_hill_changes i_refusals = some out → va_P (dC, dI) vwCl (wd_HS_force cA q0 q1 q2 q3 q4 q5 q6 q7 q8 q9 q10 q11 q12 q13 q14 q15 q16 q17 q18 q19 q20 q21 u0 u1 u2 u3 u4 i_hill_laws i_latestStatus i_hill_inForce i_hill_changes i_refusals) H → va_D A (wd_HS_force cA q0 q1 q2 q3 q4 q5 q6 q7 q8 q9 q10 q11 q12 q13 q14 q15 q16 q17 q18 q19 q20 q21 u0 u1 u2 u3 u4 i_hill_laws i_latestStatus i_hill_inForce i_hill_changes i_refusals) → va_S A s.heap H locs → lv_has ls 3 [(0, .ref q0)] → W p l e rm_HS_force s m args below meth c H locs 0 0 Q (F0 m 20 ls []) := by
    intro i_latestStatus i_hill_inForce i_hill_changes i_refusals H locs ls hf hP hD hS hl
    unfold f_HS_force_20 at hf
    refine lv_aload_n hx hb (zdt zkX10_force 20 rfl) rfl (lv_at hl 0 rfl) ?_
    refine lv_bipush (v := Int32.ofInt (-2)) hx hb (zdt zkX10_force 21 rfl) (by decide) ?_
    refine xe_d3 hf (fun v1 v2 a3 hg hf => ?_)
    have hC : ([0, 2] : List Nat).map (fun i => (wd_HS_force cA q0 q1 q2 q3 q4 q5 q6 q7 q8 q9 q10 q11 q12 q13 q14 q15 q16 q17 q18 q19 q20 q21 u0 u1 u2 u3 u4 i_hill_laws i_latestStatus i_hill_inForce i_hill_changes i_refusals)[i]?) = (wd_HS_refuse cA q0 q1 q2 q3 q4 q5 q6 q7 q8 q9 q10 q11 q12 u0 u1 u2 i_latestStatus i_refusals).map some := rfl
    refine xv_afterI (ws' := (wd_HS_force cA q0 q1 q2 q3 q4 q5 q6 q7 q8 q9 q10 q11 q12 q13 q14 q15 q16 q17 q18 q19 q20 q21 u0 u1 u2 u3 u4 i_hill_laws v2 i_hill_inForce i_hill_changes a3)) (isC := [0, 2]) (ps := [some 0, none, some 1]) (va_runV (As := [.int (Int32.ofInt (-2))]) (rest := []) ⟨hx, hb, hml, hown, hts⟩ (c_HS_refuse l ev dC dI cA q0 q1 q2 q3 q4 q5 q6 q7 q8 q9 q10 q11 q12 u0 u1 u2 hg H.size) (cwV 1 hts (zgV zw_534 zw_536 zw_0 zw_104 zw_537) rfl rfl rfl hd_HS_refuse ⟨Nat.le_of_ble_eq_true rfl, Nat.le_of_ble_eq_true rfl⟩) (xv_preV (T := TX10) (N := 16) hE hA hS hK hP hD (isC := [0, 2]) (by decide +kernel) hC (q0 := 0) (ci := 10) rfl rfl) rfl rfl hl.1 rfl (lv_room (Nat.le_of_ble_eq_true rfl)) (zdt zkX10_force 23 rfl) ⟨Nat.le_refl _, Nat.le_refl _⟩) hP hD hS hA (by decide +kernel) rfl hC rfl rfl (fun H locs hP hD hS => ?_)
    obtain rfl := Option.some.inj hf
    exact hret _ _ _ _ rfl (zdt zkX10_force 26 rfl) hP hD hS
  unfold f_HS_force at hf
  refine lv_iload_n hx hb (zdt zkX10_force 0 rfl) rfl (lv_at hl 1 rfl) ?_
  refine lv_iconst (v := Int32.ofInt (-1)) hx hb (zdt zkX10_force 1 rfl) rfl ?_
  refine xi_icmp_eq (tgt := 27) hx hb (zdt zkX10_force 2 rfl) (by decide) hf (fun hf => ?_) (fun hf => ?_)
  · exact b_27  _ _ _ _ _ _ _ _ hf hP hD hS (lv_sub hl [0, 1] rfl)
  · refine lv_iload_n hx hb (zdt zkX10_force 5 rfl) rfl (lv_at hl 1 rfl) ?_
    refine xi_if_lt (tgt := 20) hx hb (zdt zkX10_force 6 rfl) (by decide) hf (fun hf => ?_) (fun hf => ?_)
    · exact b_20  _ _ _ _ _ _ _ hf hP hD hS (lv_sub hl [0] rfl)
    · refine lv_iload_n hx hb (zdt zkX10_force 9 rfl) rfl (lv_at hl 1 rfl) ?_
      refine lv_aload_n hx hb (zdt zkX10_force 10 rfl) rfl (lv_at hl 0 rfl) ?_
      refine va_get (D := (dC, dI)) (ci := 10) (v := .ref q1) (C := RX10) (T := TX10) (N := 16) hx hb hz zi_X10 hown hK hP 0 rfl rfl 0 (by decide) (hz _ zw_477) (fun _ h9 => h9) rfl (zdt zkX10_force 11 rfl) ?_
      refine va_getN (D := (dC, dI)) (ci := 2) (v := .int (Int32.ofInt i_hill_laws)) (C := RX2) (T := TX2) (N := 14) hx hb hz zi_X2 hown hK hP 1 rfl rfl 9 (by decide) (va_Nw.use rfl (hE.1.1 _ zw_198)) (fun _ h9 => h9) rfl (zdt zkX10_force 14 rfl) ?_
      refine xi_icmp_lt (tgt := 27) hx hb (zdt zkX10_force 17 rfl) (by decide) hf (fun hf => ?_) (fun hf => ?_)
      · exact b_27  _ _ _ _ _ _ _ _ hf hP hD hS (lv_sub hl [0, 1] rfl)
      · exact b_20  _ _ _ _ _ _ _ hf hP hD hS (lv_sub hl [0] rfl)
set_option maxRecDepth 100000 in
noncomputable def ztX2_isAble (p : Nat) : Option (Jvm.ClassFile.Instr × Nat) := bif Nat.ble 17 p then (bif Nat.ble 24 p then (bif Nat.ble 28 p then (bif Nat.ble 31 p then (bif Nat.ble 32 p then (bif Nat.beq p 32 then some (.ireturn, 1) else none) else (bif Nat.beq p 31 then some (.iconst 0, 1) else none)) else (bif Nat.beq p 28 then some (.goto 4, 3) else none)) else (bif Nat.ble 27 p then (bif Nat.beq p 27 then some (.iconst 1, 1) else none) else (bif Nat.beq p 24 then some (.if_icmp .lt 7, 3) else none))) else (bif Nat.ble 21 p then (bif Nat.ble 22 p then (bif Nat.ble 23 p then (bif Nat.beq p 23 then some (.iload_n 2, 1) else none) else (bif Nat.beq p 22 then some (.iaload, 1) else none)) else (bif Nat.beq p 21 then some (.iload_n 1, 1) else none)) else (bif Nat.ble 18 p then (bif Nat.beq p 18 then some (.getfield 22, 3) else none) else (bif Nat.beq p 17 then some (.aload_n 0, 1) else none)))) else (bif Nat.ble 8 p then (bif Nat.ble 12 p then (bif Nat.ble 13 p then (bif Nat.ble 14 p then (bif Nat.beq p 14 then some (.ifCond .ne 17, 3) else none) else (bif Nat.beq p 13 then some (.iaload, 1) else none)) else (bif Nat.beq p 12 then some (.iload_n 1, 1) else none)) else (bif Nat.ble 9 p then (bif Nat.beq p 9 then some (.getfield 26, 3) else none) else (bif Nat.beq p 8 then some (.aload_n 0, 1) else none))) else (bif Nat.ble 2 p then (bif Nat.ble 5 p then (bif Nat.beq p 5 then some (.ifCond .eq 26, 3) else none) else (bif Nat.beq p 2 then some (.invokevirtual 78, 3) else none)) else (bif Nat.ble 1 p then (bif Nat.beq p 1 then some (.iload_n 1, 1) else none) else (bif Nat.beq p 0 then some (.aload_n 0, 1) else none))))
set_option maxRecDepth 100000 in
theorem zkX2_isAble : (zbig cX2_isAble.data.toList = 19917603359255129748781758467189950528363431256757884783503111726013438517189418 ∧ cX2_isAble.data.toList.length = 33) ∧ zdk cX2_isAble 19917603359255129748781758467189950528363431256757884783503111726013438517189418 33 ztX2_isAble 32 = true := by decide +kernel
theorem zw_816 : (Jvm.Cond.code ({ cls := "HillSchool$Hill", name := "isAble", desc := "(II)Z" } : Jvm.MethodName) prog_4_method_6_code (3 : Nat) (Option.some Jvm.ClassFile.FieldType.boolean)) ∈ zall := zmemG (zmj_3 233 rfl) rfl
theorem zw_817 : (Jvm.Cond.methodLink "HillSchool$Hill" (78 : Nat) ({ cls := "HillSchool$Hill", name := "hasChild", desc := "(I)Z" } : Jvm.MethodName)) ∈ zall := zmemG (zmj_3 234 rfl) rfl
noncomputable abbrev w_Hill_isAble : List Cond := .code yX2_isAble cX2_isAble 3 (some .boolean) :: zall
noncomputable abbrev rm_Hill_isAble : Room := { frames := 1, cells := 0, slots := 0, locals := 21 }
theorem hd_Hill_isAble : yX2_isAble.cls = "HillSchool$Hill" ∧ yX2_isAble.cls ≠ "java/lang/invoke/MethodHandle" ∧ yX2_isAble.cls ≠ "java/lang/invoke/VarHandle" ∧ (parseMethodDescriptor yX2_isAble.desc).map (fun d => d.parameters.length) = some 2 := by decide +kernel
noncomputable def wd_Hill_isAble (cA : Nat → ClassId) (q0 q1 q2 q3 q4 q5 q6 q7 q8 q9 : Nat) (u0 u1 u2 u3 : Int) (i_children : Int) (i_strengths : Nat → Int) (i_expelled : Nat → Int)  : va_W := [(q0, .inr (2, [.ref q1, .int (Int32.ofInt i_children), .ref q2, .ref q3, .ref q4, .int (Int32.ofInt u0), .ref q5, .ref q6, .ref q7, .int (Int32.ofInt u1), .ref q8, .ref q9, .int (Int32.ofInt u2), .int (Int32.ofInt u3)])), (q2, .inl (cA 0, 6, .inl (za i_strengths))), (q3, .inl (cA 0, 6, .inl (za i_expelled)))]
noncomputable def wf_Hill_isAble (cA : Nat → ClassId) (q0 q1 q2 q3 q4 q5 q6 q7 q8 q9 : Nat) (u0 u1 u2 u3 : Int) (i_children : Int) (i_strengths : Nat → Int) (i_expelled : Nat → Int) (o : Int) : va_W := wd_Hill_isAble cA q0 q1 q2 q3 q4 q5 q6 q7 q8 q9 u0 u1 u2 u3 i_children i_strengths i_expelled
noncomputable def f_Hill_isAble (x1 : Int) (x2 : Int) (i_children : Int) (i_strengths : Nat → Int) (i_expelled : Nat → Int) : Option (Int) :=
  zd1 (f_Hill_hasChild x1 i_children) fun v1 =>
  if zi_w v1 = 0 then
    some 0
  else
    zg 6 i_expelled x1 fun v2 =>
    if zi_w v2 ≠ 0 then
      some 0
    else
      zg 6 i_strengths x1 fun v3 =>
      if zi_w v3 < zi_w x2 then
        some 0
      else
        some 1
set_option maxHeartbeats 4000000 in
set_option maxRecDepth 100000 in
theorem c_Hill_isAble (l : Launch) (ev : zEv) (dC : Nat → ClassId) (dI : Nat → Nat → Nat) (cA : Nat → ClassId) (q0 q1 q2 q3 q4 q5 q6 q7 q8 q9 : Nat) (u0 u1 u2 u3 : Int) {x1 x2 : Int} {i_children : Int} {i_strengths : Nat → Int} {i_expelled : Nat → Int} {out : Int} (hf : f_Hill_isAble x1 x2 i_children i_strengths i_expelled = some out) : xc_I l ev (dC, dI) vwCl (tyl cA) yX2_isAble w_Hill_isAble rm_Hill_isAble [.ref q0, .int (Int32.ofInt x1), .int (Int32.ofInt x2)] (wd_Hill_isAble cA q0 q1 q2 q3 q4 q5 q6 q7 q8 q9 u0 u1 u2 u3 i_children i_strengths i_expelled) (wf_Hill_isAble cA q0 q1 q2 q3 q4 q5 q6 q7 q8 q9 u0 u1 u2 u3 i_children i_strengths i_expelled out) out := by
  refine xv_startI (cc := cX2_isAble) (maxL := 3) (rt := .boolean) (by decide +kernel) rfl (Nat.le_of_ble_eq_true rfl) ?_
  intro p e s m args below meth c A Q H ls hx hb hml hts hown hK hA hP hD hS hl hE hret
  have hown : s.vm.findClass "HillSchool$Hill" = some m.cls := hown
  have hz : ∀ w ∈ zall, w.before args s = true := fun w h => hts w (List.mem_cons_of_mem _ h)
  have hl : lv_has ls 3 [(0, .ref q0), (1, .int (Int32.ofInt x1)), (2, .int (Int32.ofInt x2))] := hl
  unfold f_Hill_isAble at hf
  refine lv_aload_n hx hb (zdt zkX2_isAble 0 rfl) rfl (lv_at hl 0 rfl) ?_
  refine lv_iload_n hx hb (zdt zkX2_isAble 1 rfl) rfl (lv_at hl 1 rfl) ?_
  refine xe_d1 hf (fun v1 hg hf => ?_)
  have hC : ([0] : List Nat).map (fun i => (wd_Hill_isAble cA q0 q1 q2 q3 q4 q5 q6 q7 q8 q9 u0 u1 u2 u3 i_children i_strengths i_expelled)[i]?) = (wd_Hill_hasChild cA q0 q1 q2 q3 q4 q5 q6 q7 q8 q9 u0 u1 u2 u3 i_children).map some := rfl
  refine xv_afterI (ws' := (wd_Hill_isAble cA q0 q1 q2 q3 q4 q5 q6 q7 q8 q9 u0 u1 u2 u3 i_children i_strengths i_expelled)) (isC := [0]) (ps := [some 0, none, none]) (va_runV (As := [.int (Int32.ofInt x1)]) (rest := []) ⟨hx, hb, hml, hown, hts⟩ (c_Hill_hasChild l ev dC dI cA q0 q1 q2 q3 q4 q5 q6 q7 q8 q9 u0 u1 u2 u3 hg H.size) (cwV 1 hts (zgV zw_817 zw_602 zw_603 zw_105 zw_604) rfl rfl rfl hd_Hill_hasChild ⟨Nat.le_of_ble_eq_true rfl, Nat.le_of_ble_eq_true rfl⟩) (xv_preV (T := TX2) (N := 14) hE hA hS hK hP hD (isC := [0]) (by decide +kernel) hC (q0 := 0) (ci := 2) rfl rfl) rfl rfl hl.1 rfl (lv_room (Nat.le_of_ble_eq_true rfl)) (zdt zkX2_isAble 2 rfl) ⟨Nat.le_refl _, Nat.le_refl _⟩) hP hD hS hA (by decide +kernel) rfl hC rfl rfl (fun H locs hP hD hS => ?_)
  refine xi_if_eq (tgt := 31) hx hb (zdt zkX2_isAble 5 rfl) (by decide) hf (fun hf => ?_) (fun hf => ?_)
  · refine lv_iconst (v := Int32.ofInt 0) hx hb (zdt zkX2_isAble 31 rfl) rfl ?_
    obtain rfl := Option.some.inj hf
    exact hret _ _ _ _ zz_b0 (zdt zkX2_isAble 32 rfl) hP hD hS
  · refine lv_aload_n hx hb (zdt zkX2_isAble 8 rfl) rfl (lv_at hl 0 rfl) ?_
    refine va_get (D := (dC, dI)) (ci := 2) (v := .ref q3) (C := RX2) (T := TX2) (N := 14) hx hb hz zi_X2 hown hK hP 0 rfl rfl 3 (by decide) (hz _ zw_180) (fun _ h9 => h9) rfl (zdt zkX2_isAble 9 rfl) ?_
    refine lv_iload_n hx hb (zdt zkX2_isAble 12 rfl) rfl (lv_at hl 1 rfl) ?_
    refine xi_iald hx hb hK hP 2 0 rfl rfl (zdt zkX2_isAble 13 rfl) hf (fun v2 hf => ?_)
    refine xi_if_ne (tgt := 31) hx hb (zdt zkX2_isAble 14 rfl) (by decide) hf (fun hf => ?_) (fun hf => ?_)
    · refine lv_iconst (v := Int32.ofInt 0) hx hb (zdt zkX2_isAble 31 rfl) rfl ?_
      obtain rfl := Option.some.inj hf
      exact hret _ _ _ _ zz_b0 (zdt zkX2_isAble 32 rfl) hP hD hS
    · refine lv_aload_n hx hb (zdt zkX2_isAble 17 rfl) rfl (lv_at hl 0 rfl) ?_
      refine va_get (D := (dC, dI)) (ci := 2) (v := .ref q2) (C := RX2) (T := TX2) (N := 14) hx hb hz zi_X2 hown hK hP 0 rfl rfl 2 (by decide) (hz _ zw_177) (fun _ h9 => h9) rfl (zdt zkX2_isAble 18 rfl) ?_
      refine lv_iload_n hx hb (zdt zkX2_isAble 21 rfl) rfl (lv_at hl 1 rfl) ?_
      refine xi_iald hx hb hK hP 1 0 rfl rfl (zdt zkX2_isAble 22 rfl) hf (fun v3 hf => ?_)
      refine lv_iload_n hx hb (zdt zkX2_isAble 23 rfl) rfl (lv_at hl 2 rfl) ?_
      refine xi_icmp_lt (tgt := 31) hx hb (zdt zkX2_isAble 24 rfl) (by decide) hf (fun hf => ?_) (fun hf => ?_)
      · refine lv_iconst (v := Int32.ofInt 0) hx hb (zdt zkX2_isAble 31 rfl) rfl ?_
        obtain rfl := Option.some.inj hf
        exact hret _ _ _ _ zz_b0 (zdt zkX2_isAble 32 rfl) hP hD hS
      · refine lv_iconst (v := Int32.ofInt 1) hx hb (zdt zkX2_isAble 27 rfl) rfl ?_
        refine lv_goto (tgt := 32) hx hb (zdt zkX2_isAble 28 rfl) (by decide) ?_
        obtain rfl := Option.some.inj hf
        exact hret _ _ _ _ zz_b1 (zdt zkX2_isAble 32 rfl) hP hD hS
set_option maxRecDepth 100000 in
noncomputable def ztX3_pop (p : Nat) : Option (Jvm.ClassFile.Instr × Nat) := bif Nat.ble 14 p then (bif Nat.ble 20 p then (bif Nat.ble 24 p then (bif Nat.ble 27 p then (bif Nat.ble 28 p then (bif Nat.beq p 28 then some (.ireturn, 1) else none) else (bif Nat.beq p 27 then some (.iaload, 1) else none)) else (bif Nat.beq p 24 then some (.getfield 18, 3) else none)) else (bif Nat.ble 23 p then (bif Nat.beq p 23 then some (.aload_n 0, 1) else none) else (bif Nat.beq p 20 then some (.getfield 15, 3) else none))) else (bif Nat.ble 16 p then (bif Nat.ble 19 p then (bif Nat.beq p 19 then some (.aload_n 0, 1) else none) else (bif Nat.beq p 16 then some (.putfield 18, 3) else none)) else (bif Nat.ble 15 p then (bif Nat.beq p 15 then some (.isub, 1) else none) else (bif Nat.beq p 14 then some (.iconst 1, 1) else none)))) else (bif Nat.ble 8 p then (bif Nat.ble 10 p then (bif Nat.ble 11 p then (bif Nat.beq p 11 then some (.getfield 18, 3) else none) else (bif Nat.beq p 10 then some (.dup, 1) else none)) else (bif Nat.ble 9 p then (bif Nat.beq p 9 then some (.aload_n 0, 1) else none) else (bif Nat.beq p 8 then some (.ireturn, 1) else none))) else (bif Nat.ble 4 p then (bif Nat.ble 7 p then (bif Nat.beq p 7 then some (.iconst 0, 1) else none) else (bif Nat.beq p 4 then some (.ifCond .gt 5, 3) else none)) else (bif Nat.ble 1 p then (bif Nat.beq p 1 then some (.getfield 18, 3) else none) else (bif Nat.beq p 0 then some (.aload_n 0, 1) else none))))
set_option maxRecDepth 100000 in
theorem zkX3_pop : (zbig cX3_pop.data.toList = 4641962598068081207048964971983285192593985938613081862690567924790314 ∧ cX3_pop.data.toList.length = 29) ∧ zdk cX3_pop 4641962598068081207048964971983285192593985938613081862690567924790314 29 ztX3_pop 28 = true := by decide +kernel
theorem zw_281 : (Jvm.Cond.fieldLink "HillSchool$Judge" (15 : Nat) "HillSchool$Judge" "pile" "[I") ∈ zall := zmemG (zmj_1 178 rfl) rfl
theorem zw_282 : (Jvm.Cond.fieldLink "HillSchool$Judge" (18 : Nat) "HillSchool$Judge" "piled" "I") ∈ zall := zmemG (zmj_1 179 rfl) rfl
theorem zw_832 : (Jvm.Cond.code ({ cls := "HillSchool$Judge", name := "pop", desc := "()I" } : Jvm.MethodName) prog_5_method_7_code (1 : Nat) (Option.some Jvm.ClassFile.FieldType.int)) ∈ zall := zmemG (zmj_4 9 rfl) rfl
noncomputable abbrev w_Judge_pop : List Cond := .code yX3_pop cX3_pop 1 (some .int) :: zall
noncomputable abbrev rm_Judge_pop : Room := { frames := 0, cells := 0, slots := 0, locals := 0 }
theorem hd_Judge_pop : yX3_pop.cls = "HillSchool$Judge" ∧ yX3_pop.cls ≠ "java/lang/invoke/MethodHandle" ∧ yX3_pop.cls ≠ "java/lang/invoke/VarHandle" ∧ (parseMethodDescriptor yX3_pop.desc).map (fun d => d.parameters.length) = some 0 := by decide +kernel
noncomputable def wd_Judge_pop (cA : Nat → ClassId) (q0 q1 q2 q3 : Nat) (u0 u1 : Int) (i_pile : Nat → Int) (i_piled : Int) : va_W := [(q0, .inr (3, [.ref q1, .ref q2, .ref q3, .int (Int32.ofInt i_piled), .int (Int32.ofInt u0), .int (Int32.ofInt u1)])), (q3, .inl (cA 0, 32, .inl (za i_pile)))]
noncomputable def wf_Judge_pop (cA : Nat → ClassId) (q0 q1 q2 q3 : Nat) (u0 u1 : Int) (i_pile : Nat → Int) (o : Int × Int) : va_W := wd_Judge_pop cA q0 q1 q2 q3 u0 u1 i_pile o.2
noncomputable def f_Judge_pop (i_pile : Nat → Int) (i_piled : Int) : Option (Int × Int) :=
  if 0 < zi_w i_piled then
    zn (i_piled - 1) fun v1 =>
    zg 32 i_pile v1 fun v2 =>
    some (v2, v1)
  else
    some (0, i_piled)
set_option maxHeartbeats 4000000 in
set_option maxRecDepth 100000 in
theorem c_Judge_pop (l : Launch) (ev : zEv) (dC : Nat → ClassId) (dI : Nat → Nat → Nat) (cA : Nat → ClassId) (q0 q1 q2 q3 : Nat) (u0 u1 : Int) {i_pile : Nat → Int} {i_piled : Int} {out : Int × Int} (hf : f_Judge_pop i_pile i_piled = some out) : xc_I l ev (dC, dI) vwCl (tyl cA) yX3_pop w_Judge_pop rm_Judge_pop [.ref q0] (wd_Judge_pop cA q0 q1 q2 q3 u0 u1 i_pile i_piled) (wf_Judge_pop cA q0 q1 q2 q3 u0 u1 i_pile out) out.1 := by
  refine xv_startI (cc := cX3_pop) (maxL := 1) (rt := .int) (by decide +kernel) rfl (Nat.le_of_ble_eq_true rfl) ?_
  intro p e s m args below meth c A Q H ls hx hb hml hts hown hK hA hP hD hS hl hE hret
  have hown : s.vm.findClass "HillSchool$Judge" = some m.cls := hown
  have hz : ∀ w ∈ zall, w.before args s = true := fun w h => hts w (List.mem_cons_of_mem _ h)
  have hl : lv_has ls 1 [(0, .ref q0)] := hl
  unfold f_Judge_pop at hf
  refine lv_aload_n hx hb (zdt zkX3_pop 0 rfl) rfl (lv_at hl 0 rfl) ?_
  refine va_get (D := (dC, dI)) (ci := 3) (v := .int (Int32.ofInt i_piled)) (C := RX3) (T := TX3) (N := 6) hx hb hz zi_X3 hown hK hP 0 rfl rfl 3 (by decide) (hz _ zw_282) (fun _ h9 => h9) rfl (zdt zkX3_pop 1 rfl) ?_
  refine xi_if_gt (tgt := 9) hx hb (zdt zkX3_pop 4 rfl) (by decide) hf (fun hf => ?_) (fun hf => ?_)
  · refine lv_aload_n hx hb (zdt zkX3_pop 9 rfl) rfl (lv_at hl 0 rfl) ?_
    refine lv_dup hx hb (zdt zkX3_pop 10 rfl) rfl ?_
    refine va_get (D := (dC, dI)) (ci := 3) (v := .int (Int32.ofInt i_piled)) (C := RX3) (T := TX3) (N := 6) hx hb hz zi_X3 hown hK hP 0 rfl rfl 3 (by decide) (hz _ zw_282) (fun _ h9 => h9) rfl (zdt zkX3_pop 11 rfl) ?_
    refine lv_iconst (v := Int32.ofInt 1) hx hb (zdt zkX3_pop 14 rfl) rfl ?_
    refine xi_isub hx hb (zdt zkX3_pop 15 rfl) hf (fun v1 hf => ?_)
    refine va_put (D := (dC, dI)) (ci := 3) (v := .int (Int32.ofInt v1)) (ty := .int) (C := RX3) (T := TX3) (N := 6) hx hb hz zi_X3 tyX3 tyX3_ok nmX3 hown hK hP hD hS 0 rfl rfl 3 (by decide) (hz _ zw_282) (fun _ h9 => h9) rfl (by decide +kernel) rfl rfl (Nat.le_of_ble_eq_true rfl) (zdt zkX3_pop 16 rfl) (fun H locs hP hD hS => ?_)
    refine xw_PD (wd_Judge_pop cA q0 q1 q2 q3 u0 u1 i_pile v1) hP hD (fun hP hD => ?_)
    refine lv_aload_n hx hb (zdt zkX3_pop 19 rfl) rfl (lv_at hl 0 rfl) ?_
    refine va_get (D := (dC, dI)) (ci := 3) (v := .ref q3) (C := RX3) (T := TX3) (N := 6) hx hb hz zi_X3 hown hK hP 0 rfl rfl 2 (by decide) (hz _ zw_281) (fun _ h9 => h9) rfl (zdt zkX3_pop 20 rfl) ?_
    refine lv_aload_n hx hb (zdt zkX3_pop 23 rfl) rfl (lv_at hl 0 rfl) ?_
    refine va_get (D := (dC, dI)) (ci := 3) (v := .int (Int32.ofInt v1)) (C := RX3) (T := TX3) (N := 6) hx hb hz zi_X3 hown hK hP 0 rfl rfl 3 (by decide) (hz _ zw_282) (fun _ h9 => h9) rfl (zdt zkX3_pop 24 rfl) ?_
    refine xi_iald hx hb hK hP 1 0 rfl rfl (zdt zkX3_pop 27 rfl) hf (fun v2 hf => ?_)
    obtain rfl := Option.some.inj hf
    exact hret _ _ _ _ rfl (zdt zkX3_pop 28 rfl) hP hD hS
  · refine lv_iconst (v := Int32.ofInt 0) hx hb (zdt zkX3_pop 7 rfl) rfl ?_
    obtain rfl := Option.some.inj hf
    exact hret _ _ _ _ rfl (zdt zkX3_pop 8 rfl) hP hD hS
set_option maxRecDepth 100000 in
noncomputable def ztX3_worked (p : Nat) : Option (Jvm.ClassFile.Instr × Nat) := bif Nat.ble 89 p then (bif Nat.ble 114 p then (bif Nat.ble 129 p then (bif Nat.ble 138 p then (bif Nat.ble 143 p then (bif Nat.ble 144 p then (bif Nat.beq p 144 then some (.ireturn, 1) else none) else (bif Nat.beq p 143 then some (.l2i, 1) else none)) else (bif Nat.ble 141 p then (bif Nat.beq p 141 then some (.lload 5, 2) else none) else (bif Nat.beq p 138 then some (.goto 6, 3) else none))) else (bif Nat.ble 133 p then (bif Nat.ble 136 p then (bif Nat.beq p 136 then some (.ldc 100, 2) else none) else (bif Nat.beq p 133 then some (.ifCond .ge 8, 3) else none)) else (bif Nat.ble 132 p then (bif Nat.beq p 132 then some (.lcmp, 1) else none) else (bif Nat.beq p 129 then some (.ldc2_w 103, 3) else none)))) else (bif Nat.ble 120 p then (bif Nat.ble 124 p then (bif Nat.ble 127 p then (bif Nat.beq p 127 then some (.lload 5, 2) else none) else (bif Nat.beq p 124 then some (.ifCond .gt 12, 3) else none)) else (bif Nat.ble 123 p then (bif Nat.beq p 123 then some (.lcmp, 1) else none) else (bif Nat.beq p 120 then some (.ldc2_w 101, 3) else none))) else (bif Nat.ble 116 p then (bif Nat.ble 118 p then (bif Nat.beq p 118 then some (.lload 5, 2) else none) else (bif Nat.beq p 116 then some (.lstore 5, 2) else none)) else (bif Nat.ble 115 p then (bif Nat.beq p 115 then some (.ldiv, 1) else none) else (bif Nat.beq p 114 then some (.lload_n 3, 1) else none))))) else (bif Nat.ble 101 p then (bif Nat.ble 107 p then (bif Nat.ble 112 p then (bif Nat.ble 113 p then (bif Nat.beq p 113 then some (.lload_n 1, 1) else none) else (bif Nat.beq p 112 then some (.ireturn, 1) else none)) else (bif Nat.ble 110 p then (bif Nat.beq p 110 then some (.ldc 100, 2) else none) else (bif Nat.beq p 107 then some (.ifCond .ne 6, 3) else none))) else (bif Nat.ble 105 p then (bif Nat.ble 106 p then (bif Nat.beq p 106 then some (.lcmp, 1) else none) else (bif Nat.beq p 105 then some (.lconst 0, 1) else none)) else (bif Nat.ble 104 p then (bif Nat.beq p 104 then some (.lload_n 3, 1) else none) else (bif Nat.beq p 101 then some (.goto 17, 3) else none)))) else (bif Nat.ble 96 p then (bif Nat.ble 98 p then (bif Nat.ble 99 p then (bif Nat.beq p 99 then some (.lstore 5, 2) else none) else (bif Nat.beq p 98 then some (.lmul, 1) else none)) else (bif Nat.ble 97 p then (bif Nat.beq p 97 then some (.lload_n 3, 1) else none) else (bif Nat.beq p 96 then some (.lload_n 1, 1) else none))) else (bif Nat.ble 91 p then (bif Nat.ble 93 p then (bif Nat.beq p 93 then some (.goto 25, 3) else none) else (bif Nat.beq p 91 then some (.lstore 5, 2) else none)) else (bif Nat.ble 90 p then (bif Nat.beq p 90 then some (.lsub, 1) else none) else (bif Nat.beq p 89 then some (.lload_n 3, 1) else none)))))) else (bif Nat.ble 66 p then (bif Nat.ble 78 p then (bif Nat.ble 82 p then (bif Nat.ble 85 p then (bif Nat.ble 88 p then (bif Nat.beq p 88 then some (.lload_n 1, 1) else none) else (bif Nat.beq p 85 then some (.goto 33, 3) else none)) else (bif Nat.ble 83 p then (bif Nat.beq p 83 then some (.lstore 5, 2) else none) else (bif Nat.beq p 82 then some (.ladd, 1) else none))) else (bif Nat.ble 80 p then (bif Nat.ble 81 p then (bif Nat.beq p 81 then some (.lload_n 3, 1) else none) else (bif Nat.beq p 80 then some (.lload_n 1, 1) else none)) else (bif Nat.ble 79 p then (bif Nat.beq p 79 then some (.ireturn, 1) else none) else (bif Nat.beq p 78 then some (.iconst 0, 1) else none)))) else (bif Nat.ble 70 p then (bif Nat.ble 74 p then (bif Nat.ble 75 p then (bif Nat.beq p 75 then some (.goto 4, 3) else none) else (bif Nat.beq p 74 then some (.iconst 1, 1) else none)) else (bif Nat.ble 71 p then (bif Nat.beq p 71 then some (.ifCond .ne 7, 3) else none) else (bif Nat.beq p 70 then some (.lcmp, 1) else none))) else (bif Nat.ble 68 p then (bif Nat.ble 69 p then (bif Nat.beq p 69 then some (.lload_n 3, 1) else none) else (bif Nat.beq p 68 then some (.lload_n 1, 1) else none)) else (bif Nat.ble 67 p then (bif Nat.beq p 67 then some (.ireturn, 1) else none) else (bif Nat.beq p 66 then some (.iconst 0, 1) else none))))) else (bif Nat.ble 54 p then (bif Nat.ble 58 p then (bif Nat.ble 62 p then (bif Nat.ble 63 p then (bif Nat.beq p 63 then some (.goto 4, 3) else none) else (bif Nat.beq p 62 then some (.iconst 1, 1) else none)) else (bif Nat.ble 59 p then (bif Nat.beq p 59 then some (.ifCond .le 7, 3) else none) else (bif Nat.beq p 58 then some (.lcmp, 1) else none))) else (bif Nat.ble 56 p then (bif Nat.ble 57 p then (bif Nat.beq p 57 then some (.lload_n 3, 1) else none) else (bif Nat.beq p 56 then some (.lload_n 1, 1) else none)) else (bif Nat.ble 55 p then (bif Nat.beq p 55 then some (.ireturn, 1) else none) else (bif Nat.beq p 54 then some (.iconst 0, 1) else none)))) else (bif Nat.ble 46 p then (bif Nat.ble 50 p then (bif Nat.ble 51 p then (bif Nat.beq p 51 then some (.goto 4, 3) else none) else (bif Nat.beq p 50 then some (.iconst 1, 1) else none)) else (bif Nat.ble 47 p then (bif Nat.beq p 47 then some (.ifCond .ge 7, 3) else none) else (bif Nat.beq p 46 then some (.lcmp, 1) else none))) else (bif Nat.ble 44 p then (bif Nat.ble 45 p then (bif Nat.beq p 45 then some (.lload_n 3, 1) else none) else (bif Nat.beq p 44 then some (.lload_n 1, 1) else none)) else (bif Nat.ble 1 p then (bif Nat.beq p 1 then some (.tableswitch 103 3 9 #[79, 87, 95, 103, 43, 55, 67], 43) else none) else (bif Nat.beq p 0 then some (.iload_n 0, 1) else none))))))
set_option maxRecDepth 100000 in
theorem zkX3_worked : (zbig cX3_worked.data.toList = 10554142875129379171945330395935668253447612817681342387314540539785968992193927775281049855938744875831805161161281337819656940138567356792251606462609297978479552149831504365926859069475153075913985450052878095622408761423263600833875099912997538653860027040616059563654892952722565622660807405125027933135908071520477839866237684754620245287676442 ∧ cX3_worked.data.toList.length = 145) ∧ zdk cX3_worked 10554142875129379171945330395935668253447612817681342387314540539785968992193927775281049855938744875831805161161281337819656940138567356792251606462609297978479552149831504365926859069475153075913985450052878095622408761423263600833875099912997538653860027040616059563654892952722565622660807405125027933135908071520477839866237684754620245287676442 145 ztX3_worked 144 = true := by decide +kernel
theorem zw_837 : (Jvm.Cond.code ({ cls := "HillSchool$Judge", name := "worked", desc := "(IJJ)I" } : Jvm.MethodName) prog_5_method_5_code (7 : Nat) (Option.some Jvm.ClassFile.FieldType.int)) ∈ zall := zmemG (zmj_4 14 rfl) rfl
theorem zw_838 : (Jvm.Cond.constant "HillSchool$Judge" (100 : Nat) (-2000000000 : Int32)) ∈ zall := zmemG (zmj_4 15 rfl) rfl
theorem zw_839 : (Jvm.Cond.constantLong "HillSchool$Judge" (101 : Nat) (1000000000 : Int64)) ∈ zall := zmemG (zmj_4 16 rfl) rfl
theorem zw_840 : (Jvm.Cond.constantLong "HillSchool$Judge" (103 : Nat) (-1000000000 : Int64)) ∈ zall := zmemG (zmj_4 17 rfl) rfl
noncomputable abbrev w_Judge_worked : List Cond := .code yX3_worked cX3_worked 7 (some .int) :: zall
noncomputable abbrev rm_Judge_worked : Room := { frames := 0, cells := 0, slots := 0, locals := 0 }
theorem hd_Judge_worked : yX3_worked.cls = yX3_worked.cls ∧ yX3_worked.cls ≠ "java/lang/invoke/MethodHandle" ∧ yX3_worked.cls ≠ "java/lang/invoke/VarHandle" ∧ (parseMethodDescriptor yX3_worked.desc).map (fun d => d.parameters.length) = some 3 := by decide +kernel
noncomputable def wd_Judge_worked (cA : Nat → ClassId)   : va_W := []
noncomputable def wf_Judge_worked (cA : Nat → ClassId)  (o : Int) : va_W := wd_Judge_worked cA
noncomputable def f_Judge_worked_118  (x5 : Int) : Option (Int) :=
  if zl_w 1000000000 < zl_w x5 then
    some (-2000000000)
  else
    if zl_w (-1000000000) ≤ zl_w x5 then
      some x5
    else
      some (-2000000000)
noncomputable def f_Judge_worked (x0 : Int) (x1 : Int) (x3 : Int) : Option (Int) :=
  if zi_w x0 = 3 then
    zn (x1 + x3) fun v1 =>
    f_Judge_worked_118 v1
  else if zi_w x0 = 4 then
    zn (x1 - x3) fun v2 =>
    f_Judge_worked_118 v2
  else if zi_w x0 = 5 then
    zn (x1 * x3) fun v3 =>
    f_Judge_worked_118 v3
  else if zi_w x0 = 6 then
    if zl_w x3 ≠ zl_w 0 then
      if zl_w x3 = 0 then none else zn (zl_div x1 x3) fun v4 =>
      f_Judge_worked_118 v4
    else
      some (-2000000000)
  else if zi_w x0 = 7 then
    if zl_w x3 ≤ zl_w x1 then
      some 0
    else
      some 1
  else if zi_w x0 = 8 then
    if zl_w x1 ≤ zl_w x3 then
      some 0
    else
      some 1
  else if zi_w x0 = 9 then
    if zl_w x1 ≠ zl_w x3 then
      some 0
    else
      some 1
  else
    if zl_w x3 ≠ zl_w 0 then
      if zl_w x3 = 0 then none else zn (zl_div x1 x3) fun v5 =>
      f_Judge_worked_118 v5
    else
      some (-2000000000)
set_option maxHeartbeats 4000000 in
set_option maxRecDepth 100000 in
theorem c_Judge_worked (l : Launch) (ev : zEv) (dC : Nat → ClassId) (dI : Nat → Nat → Nat) (cA : Nat → ClassId) {x0 x1 x3 : Int} {out : Int} (hf : f_Judge_worked x0 x1 x3 = some out) : xc_I l ev (dC, dI) vwCl (tyl cA) yX3_worked w_Judge_worked rm_Judge_worked [.int (Int32.ofInt x0), .long (Int64.ofInt x1), .long (Int64.ofInt x3)] (wd_Judge_worked cA) (wf_Judge_worked cA out) out := by
  refine xv_startI (cc := cX3_worked) (maxL := 7) (rt := .int) (by decide +kernel) rfl (Nat.le_of_ble_eq_true rfl) ?_
  intro p e s m args below meth c A Q H ls hx hb hml hts hown hK hA hP hD hS hl hE hret
  have hown : s.vm.findClass "HillSchool$Judge" = some m.cls := hown
  have hz : ∀ w ∈ zall, w.before args s = true := fun w h => hts w (List.mem_cons_of_mem _ h)
  have hl : lv_has ls 7 [(0, .int (Int32.ofInt x0)), (1, .long (Int64.ofInt x1)), (3, .long (Int64.ofInt x3))] := hl
  have b_118 : ∀ (x5 : Int) (H : Heap) (locs : List Loc) (ls : Array Slot), f_Judge_worked_118 x5 = some out → va_P (dC, dI) vwCl (wd_Judge_worked cA) H → va_D A (wd_Judge_worked cA) → va_S A s.heap H locs → lv_has ls 7 [(5, .long (Int64.ofInt x5))] → W p l e rm_Judge_worked s m args below meth c H locs 0 0 Q (F0 m 118 ls []) := by
    intro x5 H locs ls hf hP hD hS hl
    unfold f_Judge_worked_118 at hf
    refine lv_lload hx hb (zdt zkX3_worked 118 rfl) (lv_at hl 0 rfl) ?_
    refine lv_ldc2 (v := Int64.ofInt 1000000000) hx hb hown (hz _ zw_839) (zdt zkX3_worked 120 rfl) ?_
    refine xl_cmp_gt (tgt := 136) hx hb (zdt zkX3_worked 123 rfl) (zdt zkX3_worked 124 rfl) (by decide) hf (fun hf => ?_) (fun hf => ?_)
    · refine lv_ldc (v := Int32.ofInt (-2000000000)) hx hb hown (hz _ zw_838) (zdt zkX3_worked 136 rfl) ?_
      refine lv_goto (tgt := 144) hx hb (zdt zkX3_worked 138 rfl) (by decide) ?_
      obtain rfl := Option.some.inj hf
      exact hret _ _ _ _ rfl (zdt zkX3_worked 144 rfl) hP hD hS
    · refine lv_lload hx hb (zdt zkX3_worked 127 rfl) (lv_at hl 0 rfl) ?_
      refine lv_ldc2 (v := Int64.ofInt (-1000000000)) hx hb hown (hz _ zw_840) (zdt zkX3_worked 129 rfl) ?_
      refine xl_cmp_ge (tgt := 141) hx hb (zdt zkX3_worked 132 rfl) (zdt zkX3_worked 133 rfl) (by decide) hf (fun hf => ?_) (fun hf => ?_)
      · refine lv_lload hx hb (zdt zkX3_worked 141 rfl) (lv_at hl 0 rfl) ?_
        refine xl_l2i hx hb (zdt zkX3_worked 143 rfl) ?_
        obtain rfl := Option.some.inj hf
        exact hret _ _ _ _ rfl (zdt zkX3_worked 144 rfl) hP hD hS
      · refine lv_ldc (v := Int32.ofInt (-2000000000)) hx hb hown (hz _ zw_838) (zdt zkX3_worked 136 rfl) ?_
        refine lv_goto (tgt := 144) hx hb (zdt zkX3_worked 138 rfl) (by decide) ?_
        obtain rfl := Option.some.inj hf
        exact hret _ _ _ _ rfl (zdt zkX3_worked 144 rfl) hP hD hS
  unfold f_Judge_worked at hf
  refine lv_iload_n hx hb (zdt zkX3_worked 0 rfl) rfl (lv_at hl 0 rfl) ?_
  refine xz_if hf (fun hc hf => ?_) (fun hn0 hf => ?_)
  · refine xi_tin (tgt := 80) hx hb (zdt zkX3_worked 1 rfl) hc (by decide) (by decide) rfl (by decide) ?_
    refine lv_lload_n hx hb (zdt zkX3_worked 80 rfl) rfl (lv_at hl 1 rfl) ?_
    refine lv_lload_n hx hb (zdt zkX3_worked 81 rfl) rfl (lv_at hl 2 rfl) ?_
    refine xl_ladd hx hb (zdt zkX3_worked 82 rfl) hf (fun v1 hf => ?_)
    refine lv_lstore (lv' := [(5, .long (Int64.ofInt v1)), (0, .int (Int32.ofInt x0)), (1, .long (Int64.ofInt x1)), (3, .long (Int64.ofInt x3))]) hx hb (zdt zkX3_worked 83 rfl) hl (by decide) rfl (fun ls hl => ?_)
    refine lv_goto (tgt := 118) hx hb (zdt zkX3_worked 85 rfl) (by decide) ?_
    exact b_118  _ _ _ _ hf hP hD hS (lv_sub hl [0] rfl)
  refine xz_if hf (fun hc hf => ?_) (fun hn1 hf => ?_)
  · refine xi_tin (tgt := 88) hx hb (zdt zkX3_worked 1 rfl) hc (by decide) (by decide) rfl (by decide) ?_
    refine lv_lload_n hx hb (zdt zkX3_worked 88 rfl) rfl (lv_at hl 1 rfl) ?_
    refine lv_lload_n hx hb (zdt zkX3_worked 89 rfl) rfl (lv_at hl 2 rfl) ?_
    refine xl_lsub hx hb (zdt zkX3_worked 90 rfl) hf (fun v2 hf => ?_)
    refine lv_lstore (lv' := [(5, .long (Int64.ofInt v2)), (0, .int (Int32.ofInt x0)), (1, .long (Int64.ofInt x1)), (3, .long (Int64.ofInt x3))]) hx hb (zdt zkX3_worked 91 rfl) hl (by decide) rfl (fun ls hl => ?_)
    refine lv_goto (tgt := 118) hx hb (zdt zkX3_worked 93 rfl) (by decide) ?_
    exact b_118  _ _ _ _ hf hP hD hS (lv_sub hl [0] rfl)
  refine xz_if hf (fun hc hf => ?_) (fun hn2 hf => ?_)
  · refine xi_tin (tgt := 96) hx hb (zdt zkX3_worked 1 rfl) hc (by decide) (by decide) rfl (by decide) ?_
    refine lv_lload_n hx hb (zdt zkX3_worked 96 rfl) rfl (lv_at hl 1 rfl) ?_
    refine lv_lload_n hx hb (zdt zkX3_worked 97 rfl) rfl (lv_at hl 2 rfl) ?_
    refine xl_lmul hx hb (zdt zkX3_worked 98 rfl) hf (fun v3 hf => ?_)
    refine lv_lstore (lv' := [(5, .long (Int64.ofInt v3)), (0, .int (Int32.ofInt x0)), (1, .long (Int64.ofInt x1)), (3, .long (Int64.ofInt x3))]) hx hb (zdt zkX3_worked 99 rfl) hl (by decide) rfl (fun ls hl => ?_)
    refine lv_goto (tgt := 118) hx hb (zdt zkX3_worked 101 rfl) (by decide) ?_
    exact b_118  _ _ _ _ hf hP hD hS (lv_sub hl [0] rfl)
  refine xz_if hf (fun hc hf => ?_) (fun hn3 hf => ?_)
  · refine xi_tin (tgt := 104) hx hb (zdt zkX3_worked 1 rfl) hc (by decide) (by decide) rfl (by decide) ?_
    refine lv_lload_n hx hb (zdt zkX3_worked 104 rfl) rfl (lv_at hl 2 rfl) ?_
    refine lv_lconst (v := Int64.ofInt 0) hx hb (zdt zkX3_worked 105 rfl) (by decide) ?_
    refine xl_cmp_ne (tgt := 113) hx hb (zdt zkX3_worked 106 rfl) (zdt zkX3_worked 107 rfl) (by decide) hf (fun hf => ?_) (fun hf => ?_)
    · refine lv_lload_n hx hb (zdt zkX3_worked 113 rfl) rfl (lv_at hl 1 rfl) ?_
      refine lv_lload_n hx hb (zdt zkX3_worked 114 rfl) rfl (lv_at hl 2 rfl) ?_
      refine xl_ldiv hx hb (zdt zkX3_worked 115 rfl) hf (fun v4 hf => ?_)
      refine lv_lstore (lv' := [(5, .long (Int64.ofInt v4)), (0, .int (Int32.ofInt x0)), (1, .long (Int64.ofInt x1)), (3, .long (Int64.ofInt x3))]) hx hb (zdt zkX3_worked 116 rfl) hl (by decide) rfl (fun ls hl => ?_)
      exact b_118  _ _ _ _ hf hP hD hS (lv_sub hl [0] rfl)
    · refine lv_ldc (v := Int32.ofInt (-2000000000)) hx hb hown (hz _ zw_838) (zdt zkX3_worked 110 rfl) ?_
      obtain rfl := Option.some.inj hf
      exact hret _ _ _ _ rfl (zdt zkX3_worked 112 rfl) hP hD hS
  refine xz_if hf (fun hc hf => ?_) (fun hn4 hf => ?_)
  · refine xi_tin (tgt := 44) hx hb (zdt zkX3_worked 1 rfl) hc (by decide) (by decide) rfl (by decide) ?_
    refine lv_lload_n hx hb (zdt zkX3_worked 44 rfl) rfl (lv_at hl 1 rfl) ?_
    refine lv_lload_n hx hb (zdt zkX3_worked 45 rfl) rfl (lv_at hl 2 rfl) ?_
    refine xl_cmp_ge (tgt := 54) hx hb (zdt zkX3_worked 46 rfl) (zdt zkX3_worked 47 rfl) (by decide) hf (fun hf => ?_) (fun hf => ?_)
    · refine lv_iconst (v := Int32.ofInt 0) hx hb (zdt zkX3_worked 54 rfl) rfl ?_
      obtain rfl := Option.some.inj hf
      exact hret _ _ _ _ rfl (zdt zkX3_worked 55 rfl) hP hD hS
    · refine lv_iconst (v := Int32.ofInt 1) hx hb (zdt zkX3_worked 50 rfl) rfl ?_
      refine lv_goto (tgt := 55) hx hb (zdt zkX3_worked 51 rfl) (by decide) ?_
      obtain rfl := Option.some.inj hf
      exact hret _ _ _ _ rfl (zdt zkX3_worked 55 rfl) hP hD hS
  refine xz_if hf (fun hc hf => ?_) (fun hn5 hf => ?_)
  · refine xi_tin (tgt := 56) hx hb (zdt zkX3_worked 1 rfl) hc (by decide) (by decide) rfl (by decide) ?_
    refine lv_lload_n hx hb (zdt zkX3_worked 56 rfl) rfl (lv_at hl 1 rfl) ?_
    refine lv_lload_n hx hb (zdt zkX3_worked 57 rfl) rfl (lv_at hl 2 rfl) ?_
    refine xl_cmp_le (tgt := 66) hx hb (zdt zkX3_worked 58 rfl) (zdt zkX3_worked 59 rfl) (by decide) hf (fun hf => ?_) (fun hf => ?_)
    · refine lv_iconst (v := Int32.ofInt 0) hx hb (zdt zkX3_worked 66 rfl) rfl ?_
      obtain rfl := Option.some.inj hf
      exact hret _ _ _ _ rfl (zdt zkX3_worked 67 rfl) hP hD hS
    · refine lv_iconst (v := Int32.ofInt 1) hx hb (zdt zkX3_worked 62 rfl) rfl ?_
      refine lv_goto (tgt := 67) hx hb (zdt zkX3_worked 63 rfl) (by decide) ?_
      obtain rfl := Option.some.inj hf
      exact hret _ _ _ _ rfl (zdt zkX3_worked 67 rfl) hP hD hS
  refine xz_if hf (fun hc hf => ?_) (fun hn6 hf => ?_)
  · refine xi_tin (tgt := 68) hx hb (zdt zkX3_worked 1 rfl) hc (by decide) (by decide) rfl (by decide) ?_
    refine lv_lload_n hx hb (zdt zkX3_worked 68 rfl) rfl (lv_at hl 1 rfl) ?_
    refine lv_lload_n hx hb (zdt zkX3_worked 69 rfl) rfl (lv_at hl 2 rfl) ?_
    refine xl_cmp_ne (tgt := 78) hx hb (zdt zkX3_worked 70 rfl) (zdt zkX3_worked 71 rfl) (by decide) hf (fun hf => ?_) (fun hf => ?_)
    · refine lv_iconst (v := Int32.ofInt 0) hx hb (zdt zkX3_worked 78 rfl) rfl ?_
      obtain rfl := Option.some.inj hf
      exact hret _ _ _ _ rfl (zdt zkX3_worked 79 rfl) hP hD hS
    · refine lv_iconst (v := Int32.ofInt 1) hx hb (zdt zkX3_worked 74 rfl) rfl ?_
      refine lv_goto (tgt := 79) hx hb (zdt zkX3_worked 75 rfl) (by decide) ?_
      obtain rfl := Option.some.inj hf
      exact hret _ _ _ _ rfl (zdt zkX3_worked 79 rfl) hP hD hS
  refine xi_tout (tgt := 104) hx hb (zdt zkX3_worked 1 rfl) (by omega) (by decide) ?_
  refine lv_lload_n hx hb (zdt zkX3_worked 104 rfl) rfl (lv_at hl 2 rfl) ?_
  refine lv_lconst (v := Int64.ofInt 0) hx hb (zdt zkX3_worked 105 rfl) (by decide) ?_
  refine xl_cmp_ne (tgt := 113) hx hb (zdt zkX3_worked 106 rfl) (zdt zkX3_worked 107 rfl) (by decide) hf (fun hf => ?_) (fun hf => ?_)
  · refine lv_lload_n hx hb (zdt zkX3_worked 113 rfl) rfl (lv_at hl 1 rfl) ?_
    refine lv_lload_n hx hb (zdt zkX3_worked 114 rfl) rfl (lv_at hl 2 rfl) ?_
    refine xl_ldiv hx hb (zdt zkX3_worked 115 rfl) hf (fun v5 hf => ?_)
    refine lv_lstore (lv' := [(5, .long (Int64.ofInt v5)), (0, .int (Int32.ofInt x0)), (1, .long (Int64.ofInt x1)), (3, .long (Int64.ofInt x3))]) hx hb (zdt zkX3_worked 116 rfl) hl (by decide) rfl (fun ls hl => ?_)
    exact b_118  _ _ _ _ hf hP hD hS (lv_sub hl [0] rfl)
  · refine lv_ldc (v := Int32.ofInt (-2000000000)) hx hb hown (hz _ zw_838) (zdt zkX3_worked 110 rfl) ?_
    obtain rfl := Option.some.inj hf
    exact hret _ _ _ _ rfl (zdt zkX3_worked 112 rfl) hP hD hS
set_option maxRecDepth 100000 in
noncomputable def ztX3_push (p : Nat) : Option (Jvm.ClassFile.Instr × Nat) := bif Nat.ble 17 p then (bif Nat.ble 21 p then (bif Nat.ble 25 p then (bif Nat.ble 26 p then (bif Nat.ble 29 p then (bif Nat.beq p 29 then some (.return_, 1) else none) else (bif Nat.beq p 26 then some (.putfield 18, 3) else none)) else (bif Nat.beq p 25 then some (.iadd, 1) else none)) else (bif Nat.ble 24 p then (bif Nat.beq p 24 then some (.iconst 1, 1) else none) else (bif Nat.beq p 21 then some (.getfield 18, 3) else none))) else (bif Nat.ble 19 p then (bif Nat.ble 20 p then (bif Nat.beq p 20 then some (.dup, 1) else none) else (bif Nat.beq p 19 then some (.aload_n 0, 1) else none)) else (bif Nat.ble 18 p then (bif Nat.beq p 18 then some (.iastore, 1) else none) else (bif Nat.beq p 17 then some (.iload_n 1, 1) else none)))) else (bif Nat.ble 9 p then (bif Nat.ble 13 p then (bif Nat.ble 14 p then (bif Nat.beq p 14 then some (.getfield 18, 3) else none) else (bif Nat.beq p 13 then some (.aload_n 0, 1) else none)) else (bif Nat.ble 10 p then (bif Nat.beq p 10 then some (.getfield 15, 3) else none) else (bif Nat.beq p 9 then some (.aload_n 0, 1) else none))) else (bif Nat.ble 4 p then (bif Nat.ble 6 p then (bif Nat.beq p 6 then some (.if_icmp .ge 23, 3) else none) else (bif Nat.beq p 4 then some (.bipush 32, 2) else none)) else (bif Nat.ble 1 p then (bif Nat.beq p 1 then some (.getfield 18, 3) else none) else (bif Nat.beq p 0 then some (.aload_n 0, 1) else none))))
set_option maxRecDepth 100000 in
theorem zkX3_push : (zbig cX3_push.data.toList = 1222094457035311322758825894593690140236424125886112185830129699341251626 ∧ cX3_push.data.toList.length = 30) ∧ zdk cX3_push 1222094457035311322758825894593690140236424125886112185830129699341251626 30 ztX3_push 29 = true := by decide +kernel
theorem zw_828 : (Jvm.Cond.code ({ cls := "HillSchool$Judge", name := "push", desc := "(I)V" } : Jvm.MethodName) prog_5_method_6_code (2 : Nat) (Option.none : Option Jvm.ClassFile.FieldType)) ∈ zall := zmemG (zmj_4 5 rfl) rfl
noncomputable abbrev w_Judge_push : List Cond := .code yX3_push cX3_push 2 none :: zall
noncomputable abbrev rm_Judge_push : Room := { frames := 0, cells := 0, slots := 0, locals := 0 }
theorem hd_Judge_push : yX3_push.cls = "HillSchool$Judge" ∧ yX3_push.cls ≠ "java/lang/invoke/MethodHandle" ∧ yX3_push.cls ≠ "java/lang/invoke/VarHandle" ∧ (parseMethodDescriptor yX3_push.desc).map (fun d => d.parameters.length) = some 1 := by decide +kernel
noncomputable def wd_Judge_push (cA : Nat → ClassId) (q0 q1 q2 q3 : Nat) (u0 u1 : Int)  (i_piled : Int) (i_pile : Nat → Int) : va_W := [(q0, .inr (3, [.ref q1, .ref q2, .ref q3, .int (Int32.ofInt i_piled), .int (Int32.ofInt u0), .int (Int32.ofInt u1)])), (q3, .inl (cA 0, 32, .inl (za i_pile)))]
noncomputable def wf_Judge_push (cA : Nat → ClassId) (q0 q1 q2 q3 : Nat) (u0 u1 : Int)  (o : Int × (Nat → Int)) : va_W := wd_Judge_push cA q0 q1 q2 q3 u0 u1 o.1 o.2
noncomputable def f_Judge_push (x1 : Int) (i_piled : Int) (i_pile : Nat → Int) : Option (Int × (Nat → Int)) :=
  if zi_w 32 ≤ zi_w i_piled then
    some (i_piled, i_pile)
  else
    zs 32 i_pile i_piled x1 fun a1 =>
    zn (i_piled + 1) fun v2 =>
    some (v2, a1)
set_option maxHeartbeats 4000000 in
set_option maxRecDepth 100000 in
theorem c_Judge_push (l : Launch) (ev : zEv) (dC : Nat → ClassId) (dI : Nat → Nat → Nat) (cA : Nat → ClassId) (q0 q1 q2 q3 : Nat) (u0 u1 : Int) {x1 : Int} {i_piled : Int} {i_pile : Nat → Int} {out : Int × (Nat → Int)} (hf : f_Judge_push x1 i_piled i_pile = some out) : xc_V l ev (dC, dI) vwCl (tyl cA) yX3_push w_Judge_push rm_Judge_push [.ref q0, .int (Int32.ofInt x1)] (wd_Judge_push cA q0 q1 q2 q3 u0 u1 i_piled i_pile) (wf_Judge_push cA q0 q1 q2 q3 u0 u1 out) := by
  refine xv_startV (cc := cX3_push) (maxL := 2) (by decide +kernel) rfl (Nat.le_of_ble_eq_true rfl) ?_
  intro p e s m args below meth c A Q H ls hx hb hml hts hown hK hA hP hD hS hl hE hret
  have hown : s.vm.findClass "HillSchool$Judge" = some m.cls := hown
  have hz : ∀ w ∈ zall, w.before args s = true := fun w h => hts w (List.mem_cons_of_mem _ h)
  have hl : lv_has ls 2 [(0, .ref q0), (1, .int (Int32.ofInt x1))] := hl
  unfold f_Judge_push at hf
  refine lv_aload_n hx hb (zdt zkX3_push 0 rfl) rfl (lv_at hl 0 rfl) ?_
  refine va_get (D := (dC, dI)) (ci := 3) (v := .int (Int32.ofInt i_piled)) (C := RX3) (T := TX3) (N := 6) hx hb hz zi_X3 hown hK hP 0 rfl rfl 3 (by decide) (hz _ zw_282) (fun _ h9 => h9) rfl (zdt zkX3_push 1 rfl) ?_
  refine lv_bipush (v := Int32.ofInt 32) hx hb (zdt zkX3_push 4 rfl) (by decide) ?_
  refine xi_icmp_ge (tgt := 29) hx hb (zdt zkX3_push 6 rfl) (by decide) hf (fun hf => ?_) (fun hf => ?_)
  · obtain rfl := Option.some.inj hf
    exact hret _ _ _ _ (zdt zkX3_push 29 rfl) hP hD hS
  · refine lv_aload_n hx hb (zdt zkX3_push 9 rfl) rfl (lv_at hl 0 rfl) ?_
    refine va_get (D := (dC, dI)) (ci := 3) (v := .ref q3) (C := RX3) (T := TX3) (N := 6) hx hb hz zi_X3 hown hK hP 0 rfl rfl 2 (by decide) (hz _ zw_281) (fun _ h9 => h9) rfl (zdt zkX3_push 10 rfl) ?_
    refine lv_aload_n hx hb (zdt zkX3_push 13 rfl) rfl (lv_at hl 0 rfl) ?_
    refine va_get (D := (dC, dI)) (ci := 3) (v := .int (Int32.ofInt i_piled)) (C := RX3) (T := TX3) (N := 6) hx hb hz zi_X3 hown hK hP 0 rfl rfl 3 (by decide) (hz _ zw_282) (fun _ h9 => h9) rfl (zdt zkX3_push 14 rfl) ?_
    refine lv_iload_n hx hb (zdt zkX3_push 17 rfl) rfl (lv_at hl 1 rfl) ?_
    refine xi_iast hx hb hK hP hD hS 1 0 rfl rfl (zdt zkX3_push 18 rfl) hf (fun a1 H locs hP hD hS hf => ?_)
    refine xw_PD (wd_Judge_push cA q0 q1 q2 q3 u0 u1 i_piled a1) hP hD (fun hP hD => ?_)
    refine lv_aload_n hx hb (zdt zkX3_push 19 rfl) rfl (lv_at hl 0 rfl) ?_
    refine lv_dup hx hb (zdt zkX3_push 20 rfl) rfl ?_
    refine va_get (D := (dC, dI)) (ci := 3) (v := .int (Int32.ofInt i_piled)) (C := RX3) (T := TX3) (N := 6) hx hb hz zi_X3 hown hK hP 0 rfl rfl 3 (by decide) (hz _ zw_282) (fun _ h9 => h9) rfl (zdt zkX3_push 21 rfl) ?_
    refine lv_iconst (v := Int32.ofInt 1) hx hb (zdt zkX3_push 24 rfl) rfl ?_
    refine xi_iadd hx hb (zdt zkX3_push 25 rfl) hf (fun v2 hf => ?_)
    refine va_put (D := (dC, dI)) (ci := 3) (v := .int (Int32.ofInt v2)) (ty := .int) (C := RX3) (T := TX3) (N := 6) hx hb hz zi_X3 tyX3 tyX3_ok nmX3 hown hK hP hD hS 0 rfl rfl 3 (by decide) (hz _ zw_282) (fun _ h9 => h9) rfl (by decide +kernel) rfl rfl (Nat.le_of_ble_eq_true rfl) (zdt zkX3_push 26 rfl) (fun H locs hP hD hS => ?_)
    refine xw_PD (wd_Judge_push cA q0 q1 q2 q3 u0 u1 v2 a1) hP hD (fun hP hD => ?_)
    obtain rfl := Option.some.inj hf
    exact hret _ _ _ _ (zdt zkX3_push 29 rfl) hP hD hS
set_option maxRecDepth 100000 in
noncomputable def ztX3_hear (p : Nat) : Option (Jvm.ClassFile.Instr × Nat) := bif Nat.ble 202 p then (bif Nat.ble 272 p then (bif Nat.ble 309 p then (bif Nat.ble 326 p then (bif Nat.ble 336 p then (bif Nat.ble 338 p then (bif Nat.ble 341 p then (bif Nat.ble 344 p then (bif Nat.beq p 344 then some (.return_, 1) else none) else (bif Nat.beq p 341 then some (.goto (-333), 3) else none)) else (bif Nat.beq p 338 then some (.iinc 5 1, 3) else none)) else (bif Nat.ble 337 p then (bif Nat.beq p 337 then some (.istore_n 3, 1) else none) else (bif Nat.beq p 336 then some (.iload_n 3, 1) else none))) else (bif Nat.ble 331 p then (bif Nat.ble 333 p then (bif Nat.beq p 333 then some (.goto 4, 3) else none) else (bif Nat.beq p 331 then some (.iload 4, 2) else none)) else (bif Nat.ble 328 p then (bif Nat.beq p 328 then some (.if_icmp .ne 8, 3) else none) else (bif Nat.beq p 326 then some (.ldc 100, 2) else none)))) else (bif Nat.ble 316 p then (bif Nat.ble 319 p then (bif Nat.ble 321 p then (bif Nat.ble 324 p then (bif Nat.beq p 324 then some (.iload 8, 2) else none) else (bif Nat.beq p 321 then some (.invokevirtual 81, 3) else none)) else (bif Nat.beq p 319 then some (.iload 8, 2) else none)) else (bif Nat.ble 318 p then (bif Nat.beq p 318 then some (.aload_n 0, 1) else none) else (bif Nat.beq p 316 then some (.istore 8, 2) else none))) else (bif Nat.ble 312 p then (bif Nat.ble 313 p then (bif Nat.beq p 313 then some (.invokestatic 96, 3) else none) else (bif Nat.beq p 312 then some (.i2l, 1) else none)) else (bif Nat.ble 310 p then (bif Nat.beq p 310 then some (.iload 8, 2) else none) else (bif Nat.beq p 309 then some (.i2l, 1) else none))))) else (bif Nat.ble 290 p then (bif Nat.ble 298 p then (bif Nat.ble 303 p then (bif Nat.ble 305 p then (bif Nat.ble 306 p then (bif Nat.beq p 306 then some (.invokevirtual 85, 3) else none) else (bif Nat.beq p 305 then some (.aload_n 0, 1) else none)) else (bif Nat.beq p 303 then some (.iload 6, 2) else none)) else (bif Nat.ble 301 p then (bif Nat.beq p 301 then some (.istore 8, 2) else none) else (bif Nat.beq p 298 then some (.invokevirtual 85, 3) else none))) else (bif Nat.ble 294 p then (bif Nat.ble 297 p then (bif Nat.beq p 297 then some (.aload_n 0, 1) else none) else (bif Nat.beq p 294 then some (.goto 44, 3) else none)) else (bif Nat.ble 291 p then (bif Nat.beq p 291 then some (.putfield 25, 3) else none) else (bif Nat.beq p 290 then some (.iconst 0, 1) else none)))) else (bif Nat.ble 280 p then (bif Nat.ble 286 p then (bif Nat.ble 287 p then (bif Nat.beq p 287 then some (.goto 4, 3) else none) else (bif Nat.beq p 286 then some (.iconst 1, 1) else none)) else (bif Nat.ble 283 p then (bif Nat.beq p 283 then some (.ifCond .eq 7, 3) else none) else (bif Nat.beq p 280 then some (.getfield 25, 3) else none))) else (bif Nat.ble 276 p then (bif Nat.ble 279 p then (bif Nat.beq p 279 then some (.aload_n 0, 1) else none) else (bif Nat.beq p 276 then some (.if_icmp .eq 10, 3) else none)) else (bif Nat.ble 275 p then (bif Nat.beq p 275 then some (.iconst 1, 1) else none) else (bif Nat.beq p 272 then some (.invokevirtual 85, 3) else none)))))) else (bif Nat.ble 237 p then (bif Nat.ble 251 p then (bif Nat.ble 261 p then (bif Nat.ble 267 p then (bif Nat.ble 270 p then (bif Nat.ble 271 p then (bif Nat.beq p 271 then some (.aload_n 0, 1) else none) else (bif Nat.beq p 270 then some (.aload_n 0, 1) else none)) else (bif Nat.beq p 267 then some (.goto 71, 3) else none)) else (bif Nat.ble 264 p then (bif Nat.beq p 264 then some (.putfield 22, 3) else none) else (bif Nat.beq p 261 then some (.getfield 22, 3) else none))) else (bif Nat.ble 257 p then (bif Nat.ble 260 p then (bif Nat.beq p 260 then some (.aload_n 0, 1) else none) else (bif Nat.beq p 257 then some (.goto 7, 3) else none)) else (bif Nat.ble 254 p then (bif Nat.beq p 254 then some (.invokestatic 93, 3) else none) else (bif Nat.beq p 251 then some (.invokestatic 89, 3) else none)))) else (bif Nat.ble 244 p then (bif Nat.ble 247 p then (bif Nat.ble 248 p then (bif Nat.beq p 248 then some (.invokevirtual 85, 3) else none) else (bif Nat.beq p 247 then some (.aload_n 0, 1) else none)) else (bif Nat.ble 245 p then (bif Nat.beq p 245 then some (.bipush 99, 2) else none) else (bif Nat.beq p 244 then some (.iconst 0, 1) else none))) else (bif Nat.ble 240 p then (bif Nat.ble 241 p then (bif Nat.beq p 241 then some (.if_icmp .ne 19, 3) else none) else (bif Nat.beq p 240 then some (.iconst 1, 1) else none)) else (bif Nat.ble 238 p then (bif Nat.beq p 238 then some (.iload 8, 2) else none) else (bif Nat.beq p 237 then some (.aload_n 0, 1) else none))))) else (bif Nat.ble 219 p then (bif Nat.ble 227 p then (bif Nat.ble 231 p then (bif Nat.ble 232 p then (bif Nat.ble 235 p then (bif Nat.beq p 235 then some (.istore 8, 2) else none) else (bif Nat.beq p 232 then some (.invokevirtual 85, 3) else none)) else (bif Nat.beq p 231 then some (.aload_n 0, 1) else none)) else (bif Nat.ble 228 p then (bif Nat.beq p 228 then some (.goto 110, 3) else none) else (bif Nat.beq p 227 then some (.istore_n 3, 1) else none))) else (bif Nat.ble 222 p then (bif Nat.ble 225 p then (bif Nat.beq p 225 then some (.iload 7, 2) else none) else (bif Nat.beq p 222 then some (.invokevirtual 81, 3) else none)) else (bif Nat.ble 220 p then (bif Nat.beq p 220 then some (.iload 8, 2) else none) else (bif Nat.beq p 219 then some (.aload_n 0, 1) else none)))) else (bif Nat.ble 211 p then (bif Nat.ble 215 p then (bif Nat.ble 216 p then (bif Nat.beq p 216 then some (.if_icmp .ne 122, 3) else none) else (bif Nat.beq p 215 then some (.iconst 0, 1) else none)) else (bif Nat.ble 212 p then (bif Nat.beq p 212 then some (.goto 4, 3) else none) else (bif Nat.beq p 211 then some (.iconst 1, 1) else none))) else (bif Nat.ble 206 p then (bif Nat.ble 208 p then (bif Nat.beq p 208 then some (.if_icmp .ne 7, 3) else none) else (bif Nat.beq p 206 then some (.bipush 12, 2) else none)) else (bif Nat.ble 204 p then (bif Nat.beq p 204 then some (.iload 6, 2) else none) else (bif Nat.beq p 202 then some (.iload 8, 2) else none))))))) else (bif Nat.ble 58 p then (bif Nat.ble 166 p then (bif Nat.ble 184 p then (bif Nat.ble 190 p then (bif Nat.ble 196 p then (bif Nat.ble 197 p then (bif Nat.ble 200 p then (bif Nat.beq p 200 then some (.istore 8, 2) else none) else (bif Nat.beq p 197 then some (.invokevirtual 85, 3) else none)) else (bif Nat.beq p 196 then some (.aload_n 0, 1) else none)) else (bif Nat.ble 193 p then (bif Nat.beq p 193 then some (.goto 145, 3) else none) else (bif Nat.beq p 190 then some (.invokevirtual 81, 3) else none))) else (bif Nat.ble 186 p then (bif Nat.ble 189 p then (bif Nat.beq p 189 then some (.isub, 1) else none) else (bif Nat.beq p 186 then some (.invokevirtual 85, 3) else none)) else (bif Nat.ble 185 p then (bif Nat.beq p 185 then some (.aload_n 0, 1) else none) else (bif Nat.beq p 184 then some (.iconst 1, 1) else none)))) else (bif Nat.ble 173 p then (bif Nat.ble 177 p then (bif Nat.ble 180 p then (bif Nat.ble 183 p then (bif Nat.beq p 183 then some (.aload_n 0, 1) else none) else (bif Nat.beq p 180 then some (.goto 158, 3) else none)) else (bif Nat.beq p 177 then some (.invokevirtual 81, 3) else none)) else (bif Nat.ble 176 p then (bif Nat.beq p 176 then some (.iconst 0, 1) else none) else (bif Nat.beq p 173 then some (.goto 4, 3) else none))) else (bif Nat.ble 170 p then (bif Nat.ble 172 p then (bif Nat.beq p 172 then some (.iaload, 1) else none) else (bif Nat.beq p 170 then some (.iload 7, 2) else none)) else (bif Nat.ble 167 p then (bif Nat.beq p 167 then some (.getfield 11, 3) else none) else (bif Nat.beq p 166 then some (.aload_n 0, 1) else none))))) else (bif Nat.ble 145 p then (bif Nat.ble 154 p then (bif Nat.ble 159 p then (bif Nat.ble 161 p then (bif Nat.ble 163 p then (bif Nat.beq p 163 then some (.if_icmp .ge 13, 3) else none) else (bif Nat.beq p 161 then some (.bipush 8, 2) else none)) else (bif Nat.beq p 159 then some (.iload 7, 2) else none)) else (bif Nat.ble 156 p then (bif Nat.beq p 156 then some (.ifCond .lt 20, 3) else none) else (bif Nat.beq p 154 then some (.iload 7, 2) else none))) else (bif Nat.ble 150 p then (bif Nat.ble 153 p then (bif Nat.beq p 153 then some (.aload_n 0, 1) else none) else (bif Nat.beq p 150 then some (.goto 188, 3) else none)) else (bif Nat.ble 147 p then (bif Nat.beq p 147 then some (.invokevirtual 81, 3) else none) else (bif Nat.beq p 145 then some (.iload 7, 2) else none)))) else (bif Nat.ble 137 p then (bif Nat.ble 141 p then (bif Nat.ble 144 p then (bif Nat.beq p 144 then some (.aload_n 0, 1) else none) else (bif Nat.beq p 141 then some (.goto 197, 3) else none)) else (bif Nat.ble 139 p then (bif Nat.beq p 139 then some (.istore 4, 2) else none) else (bif Nat.beq p 137 then some (.iload 7, 2) else none))) else (bif Nat.ble 133 p then (bif Nat.ble 134 p then (bif Nat.beq p 134 then some (.putfield 18, 3) else none) else (bif Nat.beq p 133 then some (.iconst 0, 1) else none)) else (bif Nat.ble 132 p then (bif Nat.beq p 132 then some (.aload_n 0, 1) else none) else (bif Nat.beq p 58 then some (.tableswitch 239 0 14 #[74, 86, 95, 239, 239, 239, 239, 239, 239, 239, 125, 138, 138, 173, 212], 74) else none)))))) else (bif Nat.ble 31 p then (bif Nat.ble 44 p then (bif Nat.ble 51 p then (bif Nat.ble 53 p then (bif Nat.ble 54 p then (bif Nat.ble 56 p then (bif Nat.beq p 56 then some (.iload 6, 2) else none) else (bif Nat.beq p 54 then some (.istore 7, 2) else none)) else (bif Nat.beq p 53 then some (.ishr, 1) else none)) else (bif Nat.ble 52 p then (bif Nat.beq p 52 then some (.iconst 4, 1) else none) else (bif Nat.beq p 51 then some (.iaload, 1) else none))) else (bif Nat.ble 48 p then (bif Nat.ble 50 p then (bif Nat.beq p 50 then some (.iadd, 1) else none) else (bif Nat.beq p 48 then some (.iload 5, 2) else none)) else (bif Nat.ble 47 p then (bif Nat.beq p 47 then some (.iload_n 1, 1) else none) else (bif Nat.beq p 44 then some (.getfield 78, 3) else none)))) else (bif Nat.ble 37 p then (bif Nat.ble 40 p then (bif Nat.ble 41 p then (bif Nat.beq p 41 then some (.getfield 29, 3) else none) else (bif Nat.beq p 40 then some (.aload_n 0, 1) else none)) else (bif Nat.ble 38 p then (bif Nat.beq p 38 then some (.istore 6, 2) else none) else (bif Nat.beq p 37 then some (.iand, 1) else none))) else (bif Nat.ble 34 p then (bif Nat.ble 35 p then (bif Nat.beq p 35 then some (.bipush 15, 2) else none) else (bif Nat.beq p 34 then some (.iaload, 1) else none)) else (bif Nat.ble 33 p then (bif Nat.beq p 33 then some (.iadd, 1) else none) else (bif Nat.beq p 31 then some (.iload 5, 2) else none))))) else (bif Nat.ble 11 p then (bif Nat.ble 20 p then (bif Nat.ble 24 p then (bif Nat.ble 27 p then (bif Nat.ble 30 p then (bif Nat.beq p 30 then some (.iload_n 1, 1) else none) else (bif Nat.beq p 27 then some (.getfield 78, 3) else none)) else (bif Nat.beq p 24 then some (.getfield 29, 3) else none)) else (bif Nat.ble 23 p then (bif Nat.beq p 23 then some (.aload_n 0, 1) else none) else (bif Nat.beq p 20 then some (.goto 318, 3) else none))) else (bif Nat.ble 16 p then (bif Nat.ble 17 p then (bif Nat.beq p 17 then some (.if_icmp .ge 6, 3) else none) else (bif Nat.beq p 16 then some (.iload_n 3, 1) else none)) else (bif Nat.ble 14 p then (bif Nat.beq p 14 then some (.iload 5, 2) else none) else (bif Nat.beq p 11 then some (.if_icmp .ge 333, 3) else none)))) else (bif Nat.ble 5 p then (bif Nat.ble 8 p then (bif Nat.ble 10 p then (bif Nat.beq p 10 then some (.iload_n 2, 1) else none) else (bif Nat.beq p 8 then some (.iload 5, 2) else none)) else (bif Nat.ble 6 p then (bif Nat.beq p 6 then some (.istore 5, 2) else none) else (bif Nat.beq p 5 then some (.iconst 0, 1) else none))) else (bif Nat.ble 2 p then (bif Nat.ble 3 p then (bif Nat.beq p 3 then some (.istore 4, 2) else none) else (bif Nat.beq p 2 then some (.iconst 0, 1) else none)) else (bif Nat.ble 1 p then (bif Nat.beq p 1 then some (.istore_n 3, 1) else none) else (bif Nat.beq p 0 then some (.iconst 0, 1) else none)))))))
set_option maxRecDepth 100000 in
theorem zkX3_hear : (zbig cX3_hear.data.toList = 483329254143074905404599419689171277710065505700625488285952586656699057866764198839657967230095683997853422975509191251368099811216262815558818999724624902009051986090534251435381085237397102804689958187093957677001666242020499840375390045177407116821965850686238015690283625094785077144941286244746056182447383890629276836392978916610163907783562542647513310200076571070191701633048772393546961322200104178931439926320241501227419251905641297330444161905611964605879191462086713774285139797450132388945293198621565927748100366674454053359449568002608160996208068495243678580228649868125447479449847349421088028954425503211133766558868774160550788519509040829991287720072762602421669566109340820722709891472187049549189497179798310445103745483343485929653603516271312646325711541451591189717321811430643087283496069449281242873347 ∧ cX3_hear.data.toList.length = 345) ∧ zdk cX3_hear 483329254143074905404599419689171277710065505700625488285952586656699057866764198839657967230095683997853422975509191251368099811216262815558818999724624902009051986090534251435381085237397102804689958187093957677001666242020499840375390045177407116821965850686238015690283625094785077144941286244746056182447383890629276836392978916610163907783562542647513310200076571070191701633048772393546961322200104178931439926320241501227419251905641297330444161905611964605879191462086713774285139797450132388945293198621565927748100366674454053359449568002608160996208068495243678580228649868125447479449847349421088028954425503211133766558868774160550788519509040829991287720072762602421669566109340820722709891472187049549189497179798310445103745483343485929653603516271312646325711541451591189717321811430643087283496069449281242873347 345 ztX3_hear 344 = true := by decide +kernel
theorem zw_15 : (Jvm.Cond.selects "HillSchool$Judge" ({ cls := "HillSchool$Judge", name := "push", desc := "(I)V" } : Jvm.MethodName) ({ cls := "HillSchool$Judge", name := "push", desc := "(I)V" } : Jvm.MethodName)) ∈ zall := zmemG (zmj_0 15 rfl) rfl
theorem zw_16 : (Jvm.Cond.selects "HillSchool$Judge" ({ cls := "HillSchool$Judge", name := "pop", desc := "()I" } : Jvm.MethodName) ({ cls := "HillSchool$Judge", name := "pop", desc := "()I" } : Jvm.MethodName)) ∈ zall := zmemG (zmj_0 16 rfl) rfl
theorem zw_108 : (Jvm.Cond.initialized "HillSchool$Judge") ∈ zall := zmemG (zmj_1 5 rfl) rfl
theorem zw_200 : (Jvm.Cond.fieldLinkNest "HillSchool$Judge" (78 : Nat) "HillSchool$Hill" "orders" "[I" "HillSchool") ∈ znest := zmemH (zmj_1 97 rfl) rfl
theorem zw_279 : (Jvm.Cond.fieldLink "HillSchool$Judge" (29 : Nat) "HillSchool$Judge" "hill" "LHillSchool$Hill;") ∈ zall := zmemG (zmj_1 176 rfl) rfl
theorem zw_280 : (Jvm.Cond.fieldLink "HillSchool$Judge" (11 : Nat) "HillSchool$Judge" "words" "[I") ∈ zall := zmemG (zmj_1 177 rfl) rfl
theorem zw_283 : (Jvm.Cond.fieldLink "HillSchool$Judge" (22 : Nat) "HillSchool$Judge" "tiring" "I") ∈ zall := zmemG (zmj_1 180 rfl) rfl
theorem zw_284 : (Jvm.Cond.fieldLink "HillSchool$Judge" (25 : Nat) "HillSchool$Judge" "barred" "Z") ∈ zall := zmemG (zmj_1 181 rfl) rfl
theorem zw_824 : (Jvm.Cond.code ({ cls := "HillSchool$Judge", name := "hear", desc := "(II)V" } : Jvm.MethodName) prog_5_method_4_code (9 : Nat) (Option.none : Option Jvm.ClassFile.FieldType)) ∈ zall := zmemG (zmj_4 1 rfl) rfl
theorem zw_825 : (Jvm.Cond.methodLink "HillSchool$Judge" (81 : Nat) ({ cls := "HillSchool$Judge", name := "push", desc := "(I)V" } : Jvm.MethodName)) ∈ zall := zmemG (zmj_4 2 rfl) rfl
theorem zw_827 : (Jvm.Cond.instanceMethod ({ cls := "HillSchool$Judge", name := "push", desc := "(I)V" } : Jvm.MethodName)) ∈ zall := zmemG (zmj_4 4 rfl) rfl
theorem zw_829 : (Jvm.Cond.methodLink "HillSchool$Judge" (85 : Nat) ({ cls := "HillSchool$Judge", name := "pop", desc := "()I" } : Jvm.MethodName)) ∈ zall := zmemG (zmj_4 6 rfl) rfl
theorem zw_831 : (Jvm.Cond.instanceMethod ({ cls := "HillSchool$Judge", name := "pop", desc := "()I" } : Jvm.MethodName)) ∈ zall := zmemG (zmj_4 8 rfl) rfl
theorem zw_833 : (Jvm.Cond.methodLink "HillSchool$Judge" (89 : Nat) ({ cls := "java/lang/Math", name := "min", desc := "(II)I" } : Jvm.MethodName)) ∈ zall := zmemG (zmj_4 10 rfl) rfl
theorem zw_834 : (Jvm.Cond.methodLink "HillSchool$Judge" (93 : Nat) ({ cls := "java/lang/Math", name := "max", desc := "(II)I" } : Jvm.MethodName)) ∈ zall := zmemG (zmj_4 11 rfl) rfl
theorem zw_835 : (Jvm.Cond.methodLink "HillSchool$Judge" (96 : Nat) ({ cls := "HillSchool$Judge", name := "worked", desc := "(IJJ)I" } : Jvm.MethodName)) ∈ zall := zmemG (zmj_4 12 rfl) rfl
theorem zw_836 : (Jvm.Cond.static ({ cls := "HillSchool$Judge", name := "worked", desc := "(IJJ)I" } : Jvm.MethodName)) ∈ zall := zmemG (zmj_4 13 rfl) rfl
noncomputable abbrev w_Judge_hear : List Cond := .code yX3_hear cX3_hear 9 none :: zall
noncomputable abbrev rm_Judge_hear : Room := { frames := 2, cells := 0, slots := 0, locals := 60 }
theorem hd_Judge_hear : yX3_hear.cls = "HillSchool$Judge" ∧ yX3_hear.cls ≠ "java/lang/invoke/MethodHandle" ∧ yX3_hear.cls ≠ "java/lang/invoke/VarHandle" ∧ (parseMethodDescriptor yX3_hear.desc).map (fun d => d.parameters.length) = some 2 := by decide +kernel
noncomputable def wd_Judge_hear (cA : Nat → ClassId) (q0 q1 q2 q3 q4 q5 q6 q7 q8 q9 q10 q11 q12 : Nat) (u0 u1 u2 u3 u4 : Int) (i_words : Nat → Int) (i_hill_orders : Nat → Int) (i_piled : Int) (i_tiring : Int) (i_barred : Int) (i_pile : Nat → Int) : va_W := [(q0, .inr (3, [.ref q1, .ref q2, .ref q3, .int (Int32.ofInt i_piled), .int (Int32.ofInt i_tiring), .int (Int32.ofInt i_barred)])), (q1, .inr (2, [.ref q4, .int (Int32.ofInt u0), .ref q5, .ref q6, .ref q7, .int (Int32.ofInt u1), .ref q8, .ref q9, .ref q10, .int (Int32.ofInt u2), .ref q11, .ref q12, .int (Int32.ofInt u3), .int (Int32.ofInt u4)])), (q2, .inl (cA 0, 8, .inl (za i_words))), (q3, .inl (cA 0, 32, .inl (za i_pile))), (q11, .inl (cA 0, 2544, .inl (za i_hill_orders)))]
noncomputable def wf_Judge_hear (cA : Nat → ClassId) (q0 q1 q2 q3 q4 q5 q6 q7 q8 q9 q10 q11 q12 : Nat) (u0 u1 u2 u3 u4 : Int) (i_words : Nat → Int) (i_hill_orders : Nat → Int) (o : Int × Int × Int × (Nat → Int)) : va_W := wd_Judge_hear cA q0 q1 q2 q3 q4 q5 q6 q7 q8 q9 q10 q11 q12 u0 u1 u2 u3 u4 i_words i_hill_orders o.1 o.2.1 o.2.2.1 o.2.2.2
noncomputable def f_Judge_hear_338 (i_words : Nat → Int) (i_hill_orders : Nat → Int) (k8 : Int → Int → Int → Int → Int → Int → Int → Int → (Nat → Int) → Option (Int × Int × Int × (Nat → Int))) (x1 : Int) (x2 : Int) (x3 : Int) (x4 : Int) (x5 : Int) (i_piled : Int) (i_tiring : Int) (i_barred : Int) (i_pile : Nat → Int) : Option (Int × Int × Int × (Nat → Int)) :=
  zn (x5 + 1) fun v1 =>
  k8 x1 x2 x3 x4 v1 i_piled i_tiring i_barred i_pile
noncomputable def f_Judge_hear_177 (i_words : Nat → Int) (i_hill_orders : Nat → Int) (k8 : Int → Int → Int → Int → Int → Int → Int → Int → (Nat → Int) → Option (Int × Int × Int × (Nat → Int))) (x1 : Int) (x2 : Int) (x3 : Int) (x4 : Int) (x5 : Int) (s1 : Int) (i_piled : Int) (i_tiring : Int) (i_barred : Int) (i_pile : Nat → Int) : Option (Int × Int × Int × (Nat → Int)) :=
  zd2 (f_Judge_push s1 i_piled i_pile) fun v1 a2 =>
  f_Judge_hear_338 i_words i_hill_orders k8 x1 x2 x3 x4 x5 v1 i_tiring i_barred a2
noncomputable def f_Judge_hear_176 (i_words : Nat → Int) (i_hill_orders : Nat → Int) (k8 : Int → Int → Int → Int → Int → Int → Int → Int → (Nat → Int) → Option (Int × Int × Int × (Nat → Int))) (x1 : Int) (x2 : Int) (x3 : Int) (x4 : Int) (x5 : Int) (i_piled : Int) (i_tiring : Int) (i_barred : Int) (i_pile : Nat → Int) : Option (Int × Int × Int × (Nat → Int)) :=
  f_Judge_hear_177 i_words i_hill_orders k8 x1 x2 x3 x4 x5 0 i_piled i_tiring i_barred i_pile
noncomputable def f_Judge_hear_216 (i_words : Nat → Int) (i_hill_orders : Nat → Int) (k8 : Int → Int → Int → Int → Int → Int → Int → Int → (Nat → Int) → Option (Int × Int × Int × (Nat → Int))) (x1 : Int) (x2 : Int) (x3 : Int) (x4 : Int) (x5 : Int) (x7 : Int) (x8 : Int) (s0 : Int) (s1 : Int) (i_piled : Int) (i_tiring : Int) (i_barred : Int) (i_pile : Nat → Int) : Option (Int × Int × Int × (Nat → Int)) :=
  if zi_w s0 ≠ zi_w s1 then
    f_Judge_hear_338 i_words i_hill_orders k8 x1 x2 x3 x4 x5 i_piled i_tiring i_barred i_pile
  else
    zd2 (f_Judge_push x8 i_piled i_pile) fun v1 a2 =>
    f_Judge_hear_338 i_words i_hill_orders k8 x1 x2 x7 x4 x5 v1 i_tiring i_barred a2
noncomputable def f_Judge_hear_264 (i_words : Nat → Int) (i_hill_orders : Nat → Int) (k8 : Int → Int → Int → Int → Int → Int → Int → Int → (Nat → Int) → Option (Int × Int × Int × (Nat → Int))) (x1 : Int) (x2 : Int) (x3 : Int) (x4 : Int) (x5 : Int) (s1 : Int) (i_piled : Int) (i_tiring : Int) (i_barred : Int) (i_pile : Nat → Int) : Option (Int × Int × Int × (Nat → Int)) :=
  f_Judge_hear_338 i_words i_hill_orders k8 x1 x2 x3 x4 x5 i_piled s1 i_barred i_pile
noncomputable def f_Judge_hear_291 (i_words : Nat → Int) (i_hill_orders : Nat → Int) (k8 : Int → Int → Int → Int → Int → Int → Int → Int → (Nat → Int) → Option (Int × Int × Int × (Nat → Int))) (x1 : Int) (x2 : Int) (x3 : Int) (x4 : Int) (x5 : Int) (s1 : Int) (i_piled : Int) (i_tiring : Int) (i_barred : Int) (i_pile : Nat → Int) : Option (Int × Int × Int × (Nat → Int)) :=
  if ¬ (zi_w s1 = 0 ∨ zi_w s1 = 1) then none else
  f_Judge_hear_338 i_words i_hill_orders k8 x1 x2 x3 x4 x5 i_piled i_tiring s1 i_pile
noncomputable def f_Judge_hear_286 (i_words : Nat → Int) (i_hill_orders : Nat → Int) (k8 : Int → Int → Int → Int → Int → Int → Int → Int → (Nat → Int) → Option (Int × Int × Int × (Nat → Int))) (x1 : Int) (x2 : Int) (x3 : Int) (x4 : Int) (x5 : Int) (i_piled : Int) (i_tiring : Int) (i_barred : Int) (i_pile : Nat → Int) : Option (Int × Int × Int × (Nat → Int)) :=
  f_Judge_hear_291 i_words i_hill_orders k8 x1 x2 x3 x4 x5 1 i_piled i_tiring i_barred i_pile
noncomputable def f_Judge_hear_337 (i_words : Nat → Int) (i_hill_orders : Nat → Int) (k8 : Int → Int → Int → Int → Int → Int → Int → Int → (Nat → Int) → Option (Int × Int × Int × (Nat → Int))) (x1 : Int) (x2 : Int) (x4 : Int) (x5 : Int) (s0 : Int) (i_piled : Int) (i_tiring : Int) (i_barred : Int) (i_pile : Nat → Int) : Option (Int × Int × Int × (Nat → Int)) :=
  f_Judge_hear_338 i_words i_hill_orders k8 x1 x2 s0 x4 x5 i_piled i_tiring i_barred i_pile
noncomputable def f_Judge_hear_8_b (i_words : Nat → Int) (i_hill_orders : Nat → Int) (k8 : Int → Int → Int → Int → Int → Int → Int → Int → (Nat → Int) → Option (Int × Int × Int × (Nat → Int))) (x1 : Int) (x2 : Int) (x3 : Int) (x4 : Int) (x5 : Int) (i_piled : Int) (i_tiring : Int) (i_barred : Int) (i_pile : Nat → Int) : Option (Int × Int × Int × (Nat → Int)) :=
  if zi_w x2 ≤ zi_w x5 then
    some (i_piled, i_tiring, i_barred, i_pile)
  else
    if zi_w x3 ≤ zi_w x5 then
      zn (x1 + x5) fun v1 =>
      zg 2544 i_hill_orders v1 fun v2 =>
      zn (zi_and v2 15) fun v3 =>
      zn (x1 + x5) fun v4 =>
      zg 2544 i_hill_orders v4 fun v5 =>
      zn (zi_shr v5 4) fun v6 =>
      if zi_w v3 = 0 then
        f_Judge_hear_338 i_words i_hill_orders k8 x1 x2 x3 v6 x5 0 i_tiring i_barred i_pile
      else if zi_w v3 = 1 then
        zd2 (f_Judge_push v6 i_piled i_pile) fun v7 a8 =>
        f_Judge_hear_338 i_words i_hill_orders k8 x1 x2 x3 x4 x5 v7 i_tiring i_barred a8
      else if zi_w v3 = 2 then
        if zi_w v6 < 0 then
          f_Judge_hear_176 i_words i_hill_orders k8 x1 x2 x3 x4 x5 i_piled i_tiring i_barred i_pile
        else
          if zi_w 8 ≤ zi_w v6 then
            f_Judge_hear_176 i_words i_hill_orders k8 x1 x2 x3 x4 x5 i_piled i_tiring i_barred i_pile
          else
            zg 8 i_words v6 fun v9 =>
            f_Judge_hear_177 i_words i_hill_orders k8 x1 x2 x3 x4 x5 v9 i_piled i_tiring i_barred i_pile
      else if zi_w v3 = 3 then
        zd2 (f_Judge_pop i_pile i_piled) fun v10 v11 =>
        zd2 (f_Judge_pop i_pile v11) fun v12 v13 =>
        zn (zi_w v12) fun v14 =>
        zn (zi_w v10) fun v15 =>
        zd1 (f_Judge_worked v3 v14 v15) fun v16 =>
        zd2 (f_Judge_push v16 v13 i_pile) fun v17 a18 =>
        if zi_w v16 ≠ zi_w (-2000000000) then
          f_Judge_hear_337 i_words i_hill_orders k8 x1 x2 x4 x5 x3 v17 i_tiring i_barred a18
        else
          f_Judge_hear_337 i_words i_hill_orders k8 x1 x2 x4 x5 x4 v17 i_tiring i_barred a18
      else if zi_w v3 = 4 then
        zd2 (f_Judge_pop i_pile i_piled) fun v19 v20 =>
        zd2 (f_Judge_pop i_pile v20) fun v21 v22 =>
        zn (zi_w v21) fun v23 =>
        zn (zi_w v19) fun v24 =>
        zd1 (f_Judge_worked v3 v23 v24) fun v25 =>
        zd2 (f_Judge_push v25 v22 i_pile) fun v26 a27 =>
        if zi_w v25 ≠ zi_w (-2000000000) then
          f_Judge_hear_337 i_words i_hill_orders k8 x1 x2 x4 x5 x3 v26 i_tiring i_barred a27
        else
          f_Judge_hear_337 i_words i_hill_orders k8 x1 x2 x4 x5 x4 v26 i_tiring i_barred a27
      else if zi_w v3 = 5 then
        zd2 (f_Judge_pop i_pile i_piled) fun v28 v29 =>
        zd2 (f_Judge_pop i_pile v29) fun v30 v31 =>
        zn (zi_w v30) fun v32 =>
        zn (zi_w v28) fun v33 =>
        zd1 (f_Judge_worked v3 v32 v33) fun v34 =>
        zd2 (f_Judge_push v34 v31 i_pile) fun v35 a36 =>
        if zi_w v34 ≠ zi_w (-2000000000) then
          f_Judge_hear_337 i_words i_hill_orders k8 x1 x2 x4 x5 x3 v35 i_tiring i_barred a36
        else
          f_Judge_hear_337 i_words i_hill_orders k8 x1 x2 x4 x5 x4 v35 i_tiring i_barred a36
      else if zi_w v3 = 6 then
        zd2 (f_Judge_pop i_pile i_piled) fun v37 v38 =>
        zd2 (f_Judge_pop i_pile v38) fun v39 v40 =>
        zn (zi_w v39) fun v41 =>
        zn (zi_w v37) fun v42 =>
        zd1 (f_Judge_worked v3 v41 v42) fun v43 =>
        zd2 (f_Judge_push v43 v40 i_pile) fun v44 a45 =>
        if zi_w v43 ≠ zi_w (-2000000000) then
          f_Judge_hear_337 i_words i_hill_orders k8 x1 x2 x4 x5 x3 v44 i_tiring i_barred a45
        else
          f_Judge_hear_337 i_words i_hill_orders k8 x1 x2 x4 x5 x4 v44 i_tiring i_barred a45
      else if zi_w v3 = 7 then
        zd2 (f_Judge_pop i_pile i_piled) fun v46 v47 =>
        zd2 (f_Judge_pop i_pile v47) fun v48 v49 =>
        zn (zi_w v48) fun v50 =>
        zn (zi_w v46) fun v51 =>
        zd1 (f_Judge_worked v3 v50 v51) fun v52 =>
        zd2 (f_Judge_push v52 v49 i_pile) fun v53 a54 =>
        if zi_w v52 ≠ zi_w (-2000000000) then
          f_Judge_hear_337 i_words i_hill_orders k8 x1 x2 x4 x5 x3 v53 i_tiring i_barred a54
        else
          f_Judge_hear_337 i_words i_hill_orders k8 x1 x2 x4 x5 x4 v53 i_tiring i_barred a54
      else if zi_w v3 = 8 then
        zd2 (f_Judge_pop i_pile i_piled) fun v55 v56 =>
        zd2 (f_Judge_pop i_pile v56) fun v57 v58 =>
        zn (zi_w v57) fun v59 =>
        zn (zi_w v55) fun v60 =>
        zd1 (f_Judge_worked v3 v59 v60) fun v61 =>
        zd2 (f_Judge_push v61 v58 i_pile) fun v62 a63 =>
        if zi_w v61 ≠ zi_w (-2000000000) then
          f_Judge_hear_337 i_words i_hill_orders k8 x1 x2 x4 x5 x3 v62 i_tiring i_barred a63
        else
          f_Judge_hear_337 i_words i_hill_orders k8 x1 x2 x4 x5 x4 v62 i_tiring i_barred a63
      else if zi_w v3 = 9 then
        zd2 (f_Judge_pop i_pile i_piled) fun v64 v65 =>
        zd2 (f_Judge_pop i_pile v65) fun v66 v67 =>
        zn (zi_w v66) fun v68 =>
        zn (zi_w v64) fun v69 =>
        zd1 (f_Judge_worked v3 v68 v69) fun v70 =>
        zd2 (f_Judge_push v70 v67 i_pile) fun v71 a72 =>
        if zi_w v70 ≠ zi_w (-2000000000) then
          f_Judge_hear_337 i_words i_hill_orders k8 x1 x2 x4 x5 x3 v71 i_tiring i_barred a72
        else
          f_Judge_hear_337 i_words i_hill_orders k8 x1 x2 x4 x5 x4 v71 i_tiring i_barred a72
      else if zi_w v3 = 10 then
        zd2 (f_Judge_pop i_pile i_piled) fun v73 v74 =>
        zn (1 - v73) fun v75 =>
        zd2 (f_Judge_push v75 v74 i_pile) fun v76 a77 =>
        f_Judge_hear_338 i_words i_hill_orders k8 x1 x2 x3 x4 x5 v76 i_tiring i_barred a77
      else if zi_w v3 = 11 then
        zd2 (f_Judge_pop i_pile i_piled) fun v78 v79 =>
        if zi_w v3 ≠ zi_w 12 then
          f_Judge_hear_216 i_words i_hill_orders k8 x1 x2 x3 x4 x5 v6 v78 v78 0 v79 i_tiring i_barred i_pile
        else
          f_Judge_hear_216 i_words i_hill_orders k8 x1 x2 x3 x4 x5 v6 v78 v78 1 v79 i_tiring i_barred i_pile
      else if zi_w v3 = 12 then
        zd2 (f_Judge_pop i_pile i_piled) fun v80 v81 =>
        if zi_w v3 ≠ zi_w 12 then
          f_Judge_hear_216 i_words i_hill_orders k8 x1 x2 x3 x4 x5 v6 v80 v80 0 v81 i_tiring i_barred i_pile
        else
          f_Judge_hear_216 i_words i_hill_orders k8 x1 x2 x3 x4 x5 v6 v80 v80 1 v81 i_tiring i_barred i_pile
      else if zi_w v3 = 13 then
        zd2 (f_Judge_pop i_pile i_piled) fun v82 v83 =>
        if zi_w v82 ≠ zi_w 1 then
          f_Judge_hear_264 i_words i_hill_orders k8 x1 x2 x3 x4 x5 i_tiring v83 i_tiring i_barred i_pile
        else
          zd2 (f_Judge_pop i_pile v83) fun v84 v85 =>
          zn (zi_min 99 v84) fun v86 =>
          zn (zi_max 0 v86) fun v87 =>
          f_Judge_hear_264 i_words i_hill_orders k8 x1 x2 x3 x4 x5 v87 v85 i_tiring i_barred i_pile
      else if zi_w v3 = 14 then
        zd2 (f_Judge_pop i_pile i_piled) fun v88 v89 =>
        if zi_w v88 = zi_w 1 then
          f_Judge_hear_286 i_words i_hill_orders k8 x1 x2 x3 x4 x5 v89 i_tiring i_barred i_pile
        else
          if zi_w i_barred = 0 then
            f_Judge_hear_291 i_words i_hill_orders k8 x1 x2 x3 x4 x5 0 v89 i_tiring i_barred i_pile
          else
            f_Judge_hear_286 i_words i_hill_orders k8 x1 x2 x3 x4 x5 v89 i_tiring i_barred i_pile
      else
        zd2 (f_Judge_pop i_pile i_piled) fun v90 v91 =>
        zd2 (f_Judge_pop i_pile v91) fun v92 v93 =>
        zn (zi_w v92) fun v94 =>
        zn (zi_w v90) fun v95 =>
        zd1 (f_Judge_worked v3 v94 v95) fun v96 =>
        zd2 (f_Judge_push v96 v93 i_pile) fun v97 a98 =>
        if zi_w v96 ≠ zi_w (-2000000000) then
          f_Judge_hear_337 i_words i_hill_orders k8 x1 x2 x4 x5 x3 v97 i_tiring i_barred a98
        else
          f_Judge_hear_337 i_words i_hill_orders k8 x1 x2 x4 x5 x4 v97 i_tiring i_barred a98
    else
      f_Judge_hear_338 i_words i_hill_orders k8 x1 x2 x3 x4 x5 i_piled i_tiring i_barred i_pile
noncomputable def f_Judge_hear_8 (i_words : Nat → Int) (i_hill_orders : Nat → Int) : Nat → Int → Int → Int → Int → Int → Int → Int → Int → (Nat → Int) → Option (Int × Int × Int × (Nat → Int))
  | 0 => fun _ _ _ _ _ _ _ _ _ => none
  | n + 1 => fun y0 y1 y2 y3 y4 y5 y6 y7 y8 => f_Judge_hear_8_b i_words i_hill_orders (f_Judge_hear_8 i_words i_hill_orders n) y0 y1 y2 y3 y4 y5 y6 y7 y8
noncomputable def f_Judge_hear (x1 : Int) (x2 : Int) (i_words : Nat → Int) (i_hill_orders : Nat → Int) (i_piled : Int) (i_tiring : Int) (i_barred : Int) (i_pile : Nat → Int) : Option (Int × Int × Int × (Nat → Int)) :=
  f_Judge_hear_8 i_words i_hill_orders zfu x1 x2 0 0 0 i_piled i_tiring i_barred i_pile
set_option maxHeartbeats 4000000 in
set_option maxRecDepth 100000 in
theorem c_Judge_hear (l : Launch) (ev : zEv) (dC : Nat → ClassId) (dI : Nat → Nat → Nat) (cA : Nat → ClassId) (q0 q1 q2 q3 q4 q5 q6 q7 q8 q9 q10 q11 q12 : Nat) (u0 u1 u2 u3 u4 : Int) {x1 x2 : Int} {i_words : Nat → Int} {i_hill_orders : Nat → Int} {i_piled : Int} {i_tiring : Int} {i_barred : Int} {i_pile : Nat → Int} {out : Int × Int × Int × (Nat → Int)} (hf : f_Judge_hear x1 x2 i_words i_hill_orders i_piled i_tiring i_barred i_pile = some out) : xc_V l ev (dC, dI) vwCl (tyl cA) yX3_hear w_Judge_hear rm_Judge_hear [.ref q0, .int (Int32.ofInt x1), .int (Int32.ofInt x2)] (wd_Judge_hear cA q0 q1 q2 q3 q4 q5 q6 q7 q8 q9 q10 q11 q12 u0 u1 u2 u3 u4 i_words i_hill_orders i_piled i_tiring i_barred i_pile) (wf_Judge_hear cA q0 q1 q2 q3 q4 q5 q6 q7 q8 q9 q10 q11 q12 u0 u1 u2 u3 u4 i_words i_hill_orders out) := by
  refine xv_startV (cc := cX3_hear) (maxL := 9) (by decide +kernel) rfl (Nat.le_of_ble_eq_true rfl) ?_
  intro p e s m args below meth c A Q H ls hx hb hml hts hown hK hA hP hD hS hl hE hret
  have hown : s.vm.findClass "HillSchool$Judge" = some m.cls := hown
  have hz : ∀ w ∈ zall, w.before args s = true := fun w h => hts w (List.mem_cons_of_mem _ h)
  have hl : lv_has ls 9 [(0, .ref q0), (1, .int (Int32.ofInt x1)), (2, .int (Int32.ofInt x2))] := hl
  have b_338 : ∀ (k8 : Int → Int → Int → Int → Int → Int → Int → Int → (Nat → Int) → Option (Int × Int × Int × (Nat → Int))) (_ : ∀ (x1 : Int) (x2 : Int) (x3 : Int) (x4 : Int) (x5 : Int) (i_piled : Int) (i_tiring : Int) (i_barred : Int) (i_pile : Nat → Int) (H : Heap) (locs : List Loc) (ls : Array Slot), k8 x1 x2 x3 x4 x5 i_piled i_tiring i_barred i_pile = some out → va_P (dC, dI) vwCl (wd_Judge_hear cA q0 q1 q2 q3 q4 q5 q6 q7 q8 q9 q10 q11 q12 u0 u1 u2 u3 u4 i_words i_hill_orders i_piled i_tiring i_barred i_pile) H → va_D A (wd_Judge_hear cA q0 q1 q2 q3 q4 q5 q6 q7 q8 q9 q10 q11 q12 u0 u1 u2 u3 u4 i_words i_hill_orders i_piled i_tiring i_barred i_pile) → va_S A s.heap H locs → lv_has ls 9 [(0, .ref q0), (1, .int (Int32.ofInt x1)), (2, .int (Int32.ofInt x2)), (3, .int (Int32.ofInt x3)), (4, .int (Int32.ofInt x4)), (5, .int (Int32.ofInt x5))] → W p l e rm_Judge_hear s m args below meth c H locs 0 0 Q (F0 m 8 ls [])), ∀ (x1 : Int) (x2 : Int) (x3 : Int) (x4 : Int) (x5 : Int) (i_piled : Int) (i_tiring : Int) (i_barred : Int) (i_pile : Nat → Int) (H : Heap) (locs : List Loc) (ls : Array Slot), f_Judge_hear_338 i_words i_hill_orders k8 x1 x2 x3 x4 x5 i_piled i_tiring i_barred i_pile = some out → va_P (dC, dI) vwCl (wd_Judge_hear cA q0 q1 q2 q3 q4 q5 q6 q7 q8 q9 q10 q11 q12 u0 u1 u2 u3 u4 i_words i_hill_orders i_piled i_tiring i_barred i_pile) H → va_D A (wd_Judge_hear cA q0 q1 q2 q3 q4 q5 q6 q7 q8 q9 q10 q11 q12 u0 u1 u2 u3 u4 i_words i_hill_orders i_piled i_tiring i_barred i_pile) → va_S A s.heap H locs → lv_has ls 9 [(0, .ref q0), (1, .int (Int32.ofInt x1)), (2, .int (Int32.ofInt x2)), (3, .int (Int32.ofInt x3)), (4, .int (Int32.ofInt x4)), (5, .int (Int32.ofInt x5))] → W p l e rm_Judge_hear s m args below meth c H locs 0 0 Q (F0 m 338 ls []) := by
    intro k8 ih8 x1 x2 x3 x4 x5 i_piled i_tiring i_barred i_pile H locs ls hf hP hD hS hl
    unfold f_Judge_hear_338 at hf
    refine xi_iinc hx hb (zdt zkX3_hear 338 rfl) hl (k := 5) rfl (by decide) hf (fun v1 ls hl hf => ?_)
    have hl : lv_has ls 9 [(5, .int (Int32.ofInt v1)), (0, .ref q0), (1, .int (Int32.ofInt x1)), (2, .int (Int32.ofInt x2)), (3, .int (Int32.ofInt x3)), (4, .int (Int32.ofInt x4))] := hl
    refine lv_goto (tgt := 8) hx hb (zdt zkX3_hear 341 rfl) (by decide) ?_
    exact ih8 _ _ _ _ _ _ _ _ _ _ _ _ hf hP hD hS (lv_sub hl [1, 2, 3, 4, 5, 0] rfl)
  have b_177 : ∀ (k8 : Int → Int → Int → Int → Int → Int → Int → Int → (Nat → Int) → Option (Int × Int × Int × (Nat → Int))) (_ : ∀ (x1 : Int) (x2 : Int) (x3 : Int) (x4 : Int) (x5 : Int) (i_piled : Int) (i_tiring : Int) (i_barred : Int) (i_pile : Nat → Int) (H : Heap) (locs : List Loc) (ls : Array Slot), k8 x1 x2 x3 x4 x5 i_piled i_tiring i_barred i_pile = some out → va_P (dC, dI) vwCl (wd_Judge_hear cA q0 q1 q2 q3 q4 q5 q6 q7 q8 q9 q10 q11 q12 u0 u1 u2 u3 u4 i_words i_hill_orders i_piled i_tiring i_barred i_pile) H → va_D A (wd_Judge_hear cA q0 q1 q2 q3 q4 q5 q6 q7 q8 q9 q10 q11 q12 u0 u1 u2 u3 u4 i_words i_hill_orders i_piled i_tiring i_barred i_pile) → va_S A s.heap H locs → lv_has ls 9 [(0, .ref q0), (1, .int (Int32.ofInt x1)), (2, .int (Int32.ofInt x2)), (3, .int (Int32.ofInt x3)), (4, .int (Int32.ofInt x4)), (5, .int (Int32.ofInt x5))] → W p l e rm_Judge_hear s m args below meth c H locs 0 0 Q (F0 m 8 ls [])), ∀ (x1 : Int) (x2 : Int) (x3 : Int) (x4 : Int) (x5 : Int) (s1 : Int) (i_piled : Int) (i_tiring : Int) (i_barred : Int) (i_pile : Nat → Int) (H : Heap) (locs : List Loc) (ls : Array Slot), f_Judge_hear_177 i_words i_hill_orders k8 x1 x2 x3 x4 x5 s1 i_piled i_tiring i_barred i_pile = some out → va_P (dC, dI) vwCl (wd_Judge_hear cA q0 q1 q2 q3 q4 q5 q6 q7 q8 q9 q10 q11 q12 u0 u1 u2 u3 u4 i_words i_hill_orders i_piled i_tiring i_barred i_pile) H → va_D A (wd_Judge_hear cA q0 q1 q2 q3 q4 q5 q6 q7 q8 q9 q10 q11 q12 u0 u1 u2 u3 u4 i_words i_hill_orders i_piled i_tiring i_barred i_pile) → va_S A s.heap H locs → lv_has ls 9 [(0, .ref q0), (1, .int (Int32.ofInt x1)), (2, .int (Int32.ofInt x2)), (3, .int (Int32.ofInt x3)), (4, .int (Int32.ofInt x4)), (5, .int (Int32.ofInt x5))] → W p l e rm_Judge_hear s m args below meth c H locs 0 0 Q (F0 m 177 ls [.int (Int32.ofInt s1), .ref q0]) := by
    intro k8 ih8 x1 x2 x3 x4 x5 s1 i_piled i_tiring i_barred i_pile H locs ls hf hP hD hS hl
    unfold f_Judge_hear_177 at hf
    refine xe_d2 hf (fun v1 a2 hg hf => ?_)
    have hC : ([0, 3] : List Nat).map (fun i => (wd_Judge_hear cA q0 q1 q2 q3 q4 q5 q6 q7 q8 q9 q10 q11 q12 u0 u1 u2 u3 u4 i_words i_hill_orders i_piled i_tiring i_barred i_pile)[i]?) = (wd_Judge_push cA q0 q1 q2 q3 i_tiring i_barred i_piled i_pile).map some := rfl
    refine xv_afterV (ws' := (wd_Judge_hear cA q0 q1 q2 q3 q4 q5 q6 q7 q8 q9 q10 q11 q12 u0 u1 u2 u3 u4 i_words i_hill_orders v1 i_tiring i_barred a2)) (isC := [0, 3]) (ps := [some 0, none, none, some 1, none]) (va_runV (As := [.int (Int32.ofInt s1)]) (rest := []) ⟨hx, hb, hml, hown, hts⟩ (c_Judge_push l ev dC dI cA q0 q1 q2 q3 i_tiring i_barred hg H.size) (cwV 1 hts (zgV zw_825 zw_827 zw_15 zw_108 zw_828) rfl rfl rfl hd_Judge_push ⟨Nat.le_of_ble_eq_true rfl, Nat.le_of_ble_eq_true rfl⟩) (xv_preV (T := TX3) (N := 6) hE hA hS hK hP hD (isC := [0, 3]) (by decide +kernel) hC (q0 := 0) (ci := 3) rfl rfl) rfl rfl hl.1 rfl (lv_room (Nat.le_of_ble_eq_true rfl)) (zdt zkX3_hear 177 rfl) ⟨Nat.le_refl _, Nat.le_refl _⟩) hP hD hS hA (by decide +kernel) rfl hC rfl rfl (fun H locs hP hD hS => ?_)
    refine lv_goto (tgt := 338) hx hb (zdt zkX3_hear 180 rfl) (by decide) ?_
    exact b_338 _ ih8 _ _ _ _ _ _ _ _ _ _ _ _ hf hP hD hS (lv_sub hl [0, 1, 2, 3, 4, 5] rfl)
  have b_176 : ∀ (k8 : Int → Int → Int → Int → Int → Int → Int → Int → (Nat → Int) → Option (Int × Int × Int × (Nat → Int))) (_ : ∀ (x1 : Int) (x2 : Int) (x3 : Int) (x4 : Int) (x5 : Int) (i_piled : Int) (i_tiring : Int) (i_barred : Int) (i_pile : Nat → Int) (H : Heap) (locs : List Loc) (ls : Array Slot), k8 x1 x2 x3 x4 x5 i_piled i_tiring i_barred i_pile = some out → va_P (dC, dI) vwCl (wd_Judge_hear cA q0 q1 q2 q3 q4 q5 q6 q7 q8 q9 q10 q11 q12 u0 u1 u2 u3 u4 i_words i_hill_orders i_piled i_tiring i_barred i_pile) H → va_D A (wd_Judge_hear cA q0 q1 q2 q3 q4 q5 q6 q7 q8 q9 q10 q11 q12 u0 u1 u2 u3 u4 i_words i_hill_orders i_piled i_tiring i_barred i_pile) → va_S A s.heap H locs → lv_has ls 9 [(0, .ref q0), (1, .int (Int32.ofInt x1)), (2, .int (Int32.ofInt x2)), (3, .int (Int32.ofInt x3)), (4, .int (Int32.ofInt x4)), (5, .int (Int32.ofInt x5))] → W p l e rm_Judge_hear s m args below meth c H locs 0 0 Q (F0 m 8 ls [])), ∀ (x1 : Int) (x2 : Int) (x3 : Int) (x4 : Int) (x5 : Int) (i_piled : Int) (i_tiring : Int) (i_barred : Int) (i_pile : Nat → Int) (H : Heap) (locs : List Loc) (ls : Array Slot), f_Judge_hear_176 i_words i_hill_orders k8 x1 x2 x3 x4 x5 i_piled i_tiring i_barred i_pile = some out → va_P (dC, dI) vwCl (wd_Judge_hear cA q0 q1 q2 q3 q4 q5 q6 q7 q8 q9 q10 q11 q12 u0 u1 u2 u3 u4 i_words i_hill_orders i_piled i_tiring i_barred i_pile) H → va_D A (wd_Judge_hear cA q0 q1 q2 q3 q4 q5 q6 q7 q8 q9 q10 q11 q12 u0 u1 u2 u3 u4 i_words i_hill_orders i_piled i_tiring i_barred i_pile) → va_S A s.heap H locs → lv_has ls 9 [(0, .ref q0), (1, .int (Int32.ofInt x1)), (2, .int (Int32.ofInt x2)), (3, .int (Int32.ofInt x3)), (4, .int (Int32.ofInt x4)), (5, .int (Int32.ofInt x5))] → W p l e rm_Judge_hear s m args below meth c H locs 0 0 Q (F0 m 176 ls [.ref q0]) := by
    intro k8 ih8 x1 x2 x3 x4 x5 i_piled i_tiring i_barred i_pile H locs ls hf hP hD hS hl
    unfold f_Judge_hear_176 at hf
    refine lv_iconst (v := Int32.ofInt 0) hx hb (zdt zkX3_hear 176 rfl) rfl ?_
    exact b_177 _ ih8 _ _ _ _ _ _ _ _ _ _ _ _ _ hf hP hD hS (lv_sub hl [0, 1, 2, 3, 4, 5] rfl)
  have b_216 : ∀ (k8 : Int → Int → Int → Int → Int → Int → Int → Int → (Nat → Int) → Option (Int × Int × Int × (Nat → Int))) (_ : ∀ (x1 : Int) (x2 : Int) (x3 : Int) (x4 : Int) (x5 : Int) (i_piled : Int) (i_tiring : Int) (i_barred : Int) (i_pile : Nat → Int) (H : Heap) (locs : List Loc) (ls : Array Slot), k8 x1 x2 x3 x4 x5 i_piled i_tiring i_barred i_pile = some out → va_P (dC, dI) vwCl (wd_Judge_hear cA q0 q1 q2 q3 q4 q5 q6 q7 q8 q9 q10 q11 q12 u0 u1 u2 u3 u4 i_words i_hill_orders i_piled i_tiring i_barred i_pile) H → va_D A (wd_Judge_hear cA q0 q1 q2 q3 q4 q5 q6 q7 q8 q9 q10 q11 q12 u0 u1 u2 u3 u4 i_words i_hill_orders i_piled i_tiring i_barred i_pile) → va_S A s.heap H locs → lv_has ls 9 [(0, .ref q0), (1, .int (Int32.ofInt x1)), (2, .int (Int32.ofInt x2)), (3, .int (Int32.ofInt x3)), (4, .int (Int32.ofInt x4)), (5, .int (Int32.ofInt x5))] → W p l e rm_Judge_hear s m args below meth c H locs 0 0 Q (F0 m 8 ls [])), ∀ (x1 : Int) (x2 : Int) (x3 : Int) (x4 : Int) (x5 : Int) (x7 : Int) (x8 : Int) (s0 : Int) (s1 : Int) (i_piled : Int) (i_tiring : Int) (i_barred : Int) (i_pile : Nat → Int) (H : Heap) (locs : List Loc) (ls : Array Slot), f_Judge_hear_216 i_words i_hill_orders k8 x1 x2 x3 x4 x5 x7 x8 s0 s1 i_piled i_tiring i_barred i_pile = some out → va_P (dC, dI) vwCl (wd_Judge_hear cA q0 q1 q2 q3 q4 q5 q6 q7 q8 q9 q10 q11 q12 u0 u1 u2 u3 u4 i_words i_hill_orders i_piled i_tiring i_barred i_pile) H → va_D A (wd_Judge_hear cA q0 q1 q2 q3 q4 q5 q6 q7 q8 q9 q10 q11 q12 u0 u1 u2 u3 u4 i_words i_hill_orders i_piled i_tiring i_barred i_pile) → va_S A s.heap H locs → lv_has ls 9 [(0, .ref q0), (1, .int (Int32.ofInt x1)), (2, .int (Int32.ofInt x2)), (3, .int (Int32.ofInt x3)), (4, .int (Int32.ofInt x4)), (5, .int (Int32.ofInt x5)), (7, .int (Int32.ofInt x7)), (8, .int (Int32.ofInt x8))] → W p l e rm_Judge_hear s m args below meth c H locs 0 0 Q (F0 m 216 ls [.int (Int32.ofInt s1), .int (Int32.ofInt s0)]) := by
    intro k8 ih8 x1 x2 x3 x4 x5 x7 x8 s0 s1 i_piled i_tiring i_barred i_pile H locs ls hf hP hD hS hl
    unfold f_Judge_hear_216 at hf
    refine xi_icmp_ne (tgt := 338) hx hb (zdt zkX3_hear 216 rfl) (by decide) hf (fun hf => ?_) (fun hf => ?_)
    · exact b_338 _ ih8 _ _ _ _ _ _ _ _ _ _ _ _ hf hP hD hS (lv_sub hl [0, 1, 2, 3, 4, 5] rfl)
    · refine lv_aload_n hx hb (zdt zkX3_hear 219 rfl) rfl (lv_at hl 0 rfl) ?_
      refine lv_iload hx hb (zdt zkX3_hear 220 rfl) (lv_at hl 7 rfl) ?_
      refine xe_d2 hf (fun v1 a2 hg hf => ?_)
      have hC : ([0, 3] : List Nat).map (fun i => (wd_Judge_hear cA q0 q1 q2 q3 q4 q5 q6 q7 q8 q9 q10 q11 q12 u0 u1 u2 u3 u4 i_words i_hill_orders i_piled i_tiring i_barred i_pile)[i]?) = (wd_Judge_push cA q0 q1 q2 q3 i_tiring i_barred i_piled i_pile).map some := rfl
      refine xv_afterV (ws' := (wd_Judge_hear cA q0 q1 q2 q3 q4 q5 q6 q7 q8 q9 q10 q11 q12 u0 u1 u2 u3 u4 i_words i_hill_orders v1 i_tiring i_barred a2)) (isC := [0, 3]) (ps := [some 0, none, none, some 1, none]) (va_runV (As := [.int (Int32.ofInt x8)]) (rest := []) ⟨hx, hb, hml, hown, hts⟩ (c_Judge_push l ev dC dI cA q0 q1 q2 q3 i_tiring i_barred hg H.size) (cwV 1 hts (zgV zw_825 zw_827 zw_15 zw_108 zw_828) rfl rfl rfl hd_Judge_push ⟨Nat.le_of_ble_eq_true rfl, Nat.le_of_ble_eq_true rfl⟩) (xv_preV (T := TX3) (N := 6) hE hA hS hK hP hD (isC := [0, 3]) (by decide +kernel) hC (q0 := 0) (ci := 3) rfl rfl) rfl rfl hl.1 rfl (lv_room (Nat.le_of_ble_eq_true rfl)) (zdt zkX3_hear 222 rfl) ⟨Nat.le_refl _, Nat.le_refl _⟩) hP hD hS hA (by decide +kernel) rfl hC rfl rfl (fun H locs hP hD hS => ?_)
      refine lv_iload hx hb (zdt zkX3_hear 225 rfl) (lv_at hl 6 rfl) ?_
      refine lv_istore_n (lv' := [(3, .int (Int32.ofInt x7)), (0, .ref q0), (1, .int (Int32.ofInt x1)), (2, .int (Int32.ofInt x2)), (4, .int (Int32.ofInt x4)), (5, .int (Int32.ofInt x5)), (7, .int (Int32.ofInt x7)), (8, .int (Int32.ofInt x8))]) hx hb (zdt zkX3_hear 227 rfl) rfl hl (by decide) rfl (fun ls hl => ?_)
      refine lv_goto (tgt := 338) hx hb (zdt zkX3_hear 228 rfl) (by decide) ?_
      exact b_338 _ ih8 _ _ _ _ _ _ _ _ _ _ _ _ hf hP hD hS (lv_sub hl [1, 2, 3, 0, 4, 5] rfl)
  have b_264 : ∀ (k8 : Int → Int → Int → Int → Int → Int → Int → Int → (Nat → Int) → Option (Int × Int × Int × (Nat → Int))) (_ : ∀ (x1 : Int) (x2 : Int) (x3 : Int) (x4 : Int) (x5 : Int) (i_piled : Int) (i_tiring : Int) (i_barred : Int) (i_pile : Nat → Int) (H : Heap) (locs : List Loc) (ls : Array Slot), k8 x1 x2 x3 x4 x5 i_piled i_tiring i_barred i_pile = some out → va_P (dC, dI) vwCl (wd_Judge_hear cA q0 q1 q2 q3 q4 q5 q6 q7 q8 q9 q10 q11 q12 u0 u1 u2 u3 u4 i_words i_hill_orders i_piled i_tiring i_barred i_pile) H → va_D A (wd_Judge_hear cA q0 q1 q2 q3 q4 q5 q6 q7 q8 q9 q10 q11 q12 u0 u1 u2 u3 u4 i_words i_hill_orders i_piled i_tiring i_barred i_pile) → va_S A s.heap H locs → lv_has ls 9 [(0, .ref q0), (1, .int (Int32.ofInt x1)), (2, .int (Int32.ofInt x2)), (3, .int (Int32.ofInt x3)), (4, .int (Int32.ofInt x4)), (5, .int (Int32.ofInt x5))] → W p l e rm_Judge_hear s m args below meth c H locs 0 0 Q (F0 m 8 ls [])), ∀ (x1 : Int) (x2 : Int) (x3 : Int) (x4 : Int) (x5 : Int) (s1 : Int) (i_piled : Int) (i_tiring : Int) (i_barred : Int) (i_pile : Nat → Int) (H : Heap) (locs : List Loc) (ls : Array Slot), f_Judge_hear_264 i_words i_hill_orders k8 x1 x2 x3 x4 x5 s1 i_piled i_tiring i_barred i_pile = some out → va_P (dC, dI) vwCl (wd_Judge_hear cA q0 q1 q2 q3 q4 q5 q6 q7 q8 q9 q10 q11 q12 u0 u1 u2 u3 u4 i_words i_hill_orders i_piled i_tiring i_barred i_pile) H → va_D A (wd_Judge_hear cA q0 q1 q2 q3 q4 q5 q6 q7 q8 q9 q10 q11 q12 u0 u1 u2 u3 u4 i_words i_hill_orders i_piled i_tiring i_barred i_pile) → va_S A s.heap H locs → lv_has ls 9 [(0, .ref q0), (1, .int (Int32.ofInt x1)), (2, .int (Int32.ofInt x2)), (3, .int (Int32.ofInt x3)), (4, .int (Int32.ofInt x4)), (5, .int (Int32.ofInt x5))] → W p l e rm_Judge_hear s m args below meth c H locs 0 0 Q (F0 m 264 ls [.int (Int32.ofInt s1), .ref q0]) := by
    intro k8 ih8 x1 x2 x3 x4 x5 s1 i_piled i_tiring i_barred i_pile H locs ls hf hP hD hS hl
    unfold f_Judge_hear_264 at hf
    refine va_put (D := (dC, dI)) (ci := 3) (v := .int (Int32.ofInt s1)) (ty := .int) (C := RX3) (T := TX3) (N := 6) hx hb hz zi_X3 tyX3 tyX3_ok nmX3 hown hK hP hD hS 0 rfl rfl 4 (by decide) (hz _ zw_283) (fun _ h9 => h9) rfl (by decide +kernel) rfl rfl (Nat.le_of_ble_eq_true rfl) (zdt zkX3_hear 264 rfl) (fun H locs hP hD hS => ?_)
    refine xw_PD (wd_Judge_hear cA q0 q1 q2 q3 q4 q5 q6 q7 q8 q9 q10 q11 q12 u0 u1 u2 u3 u4 i_words i_hill_orders i_piled s1 i_barred i_pile) hP hD (fun hP hD => ?_)
    refine lv_goto (tgt := 338) hx hb (zdt zkX3_hear 267 rfl) (by decide) ?_
    exact b_338 _ ih8 _ _ _ _ _ _ _ _ _ _ _ _ hf hP hD hS (lv_sub hl [0, 1, 2, 3, 4, 5] rfl)
  have b_291 : ∀ (k8 : Int → Int → Int → Int → Int → Int → Int → Int → (Nat → Int) → Option (Int × Int × Int × (Nat → Int))) (_ : ∀ (x1 : Int) (x2 : Int) (x3 : Int) (x4 : Int) (x5 : Int) (i_piled : Int) (i_tiring : Int) (i_barred : Int) (i_pile : Nat → Int) (H : Heap) (locs : List Loc) (ls : Array Slot), k8 x1 x2 x3 x4 x5 i_piled i_tiring i_barred i_pile = some out → va_P (dC, dI) vwCl (wd_Judge_hear cA q0 q1 q2 q3 q4 q5 q6 q7 q8 q9 q10 q11 q12 u0 u1 u2 u3 u4 i_words i_hill_orders i_piled i_tiring i_barred i_pile) H → va_D A (wd_Judge_hear cA q0 q1 q2 q3 q4 q5 q6 q7 q8 q9 q10 q11 q12 u0 u1 u2 u3 u4 i_words i_hill_orders i_piled i_tiring i_barred i_pile) → va_S A s.heap H locs → lv_has ls 9 [(0, .ref q0), (1, .int (Int32.ofInt x1)), (2, .int (Int32.ofInt x2)), (3, .int (Int32.ofInt x3)), (4, .int (Int32.ofInt x4)), (5, .int (Int32.ofInt x5))] → W p l e rm_Judge_hear s m args below meth c H locs 0 0 Q (F0 m 8 ls [])), ∀ (x1 : Int) (x2 : Int) (x3 : Int) (x4 : Int) (x5 : Int) (s1 : Int) (i_piled : Int) (i_tiring : Int) (i_barred : Int) (i_pile : Nat → Int) (H : Heap) (locs : List Loc) (ls : Array Slot), f_Judge_hear_291 i_words i_hill_orders k8 x1 x2 x3 x4 x5 s1 i_piled i_tiring i_barred i_pile = some out → va_P (dC, dI) vwCl (wd_Judge_hear cA q0 q1 q2 q3 q4 q5 q6 q7 q8 q9 q10 q11 q12 u0 u1 u2 u3 u4 i_words i_hill_orders i_piled i_tiring i_barred i_pile) H → va_D A (wd_Judge_hear cA q0 q1 q2 q3 q4 q5 q6 q7 q8 q9 q10 q11 q12 u0 u1 u2 u3 u4 i_words i_hill_orders i_piled i_tiring i_barred i_pile) → va_S A s.heap H locs → lv_has ls 9 [(0, .ref q0), (1, .int (Int32.ofInt x1)), (2, .int (Int32.ofInt x2)), (3, .int (Int32.ofInt x3)), (4, .int (Int32.ofInt x4)), (5, .int (Int32.ofInt x5))] → W p l e rm_Judge_hear s m args below meth c H locs 0 0 Q (F0 m 291 ls [.int (Int32.ofInt s1), .ref q0]) := by
    intro k8 ih8 x1 x2 x3 x4 x5 s1 i_piled i_tiring i_barred i_pile H locs ls hf hP hD hS hl
    unfold f_Judge_hear_291 at hf
    obtain ⟨hzb, hf⟩ := xz_q hf
    refine va_put (D := (dC, dI)) (ci := 3) (v := .int (Int32.ofInt s1)) (ty := .boolean) (C := RX3) (T := TX3) (N := 6) hx hb hz zi_X3 tyX3 tyX3_ok nmX3 hown hK hP hD hS 0 rfl rfl 5 (by decide) (hz _ zw_284) (fun _ h9 => h9) rfl (by decide +kernel) (zz_bool hzb) (zz_fitb hzb) (Nat.le_of_ble_eq_true rfl) (zdt zkX3_hear 291 rfl) (fun H locs hP hD hS => ?_)
    refine xw_PD (wd_Judge_hear cA q0 q1 q2 q3 q4 q5 q6 q7 q8 q9 q10 q11 q12 u0 u1 u2 u3 u4 i_words i_hill_orders i_piled i_tiring s1 i_pile) hP hD (fun hP hD => ?_)
    refine lv_goto (tgt := 338) hx hb (zdt zkX3_hear 294 rfl) (by decide) ?_
    exact b_338 _ ih8 _ _ _ _ _ _ _ _ _ _ _ _ hf hP hD hS (lv_sub hl [0, 1, 2, 3, 4, 5] rfl)
  have b_286 : ∀ (k8 : Int → Int → Int → Int → Int → Int → Int → Int → (Nat → Int) → Option (Int × Int × Int × (Nat → Int))) (_ : ∀ (x1 : Int) (x2 : Int) (x3 : Int) (x4 : Int) (x5 : Int) (i_piled : Int) (i_tiring : Int) (i_barred : Int) (i_pile : Nat → Int) (H : Heap) (locs : List Loc) (ls : Array Slot), k8 x1 x2 x3 x4 x5 i_piled i_tiring i_barred i_pile = some out → va_P (dC, dI) vwCl (wd_Judge_hear cA q0 q1 q2 q3 q4 q5 q6 q7 q8 q9 q10 q11 q12 u0 u1 u2 u3 u4 i_words i_hill_orders i_piled i_tiring i_barred i_pile) H → va_D A (wd_Judge_hear cA q0 q1 q2 q3 q4 q5 q6 q7 q8 q9 q10 q11 q12 u0 u1 u2 u3 u4 i_words i_hill_orders i_piled i_tiring i_barred i_pile) → va_S A s.heap H locs → lv_has ls 9 [(0, .ref q0), (1, .int (Int32.ofInt x1)), (2, .int (Int32.ofInt x2)), (3, .int (Int32.ofInt x3)), (4, .int (Int32.ofInt x4)), (5, .int (Int32.ofInt x5))] → W p l e rm_Judge_hear s m args below meth c H locs 0 0 Q (F0 m 8 ls [])), ∀ (x1 : Int) (x2 : Int) (x3 : Int) (x4 : Int) (x5 : Int) (i_piled : Int) (i_tiring : Int) (i_barred : Int) (i_pile : Nat → Int) (H : Heap) (locs : List Loc) (ls : Array Slot), f_Judge_hear_286 i_words i_hill_orders k8 x1 x2 x3 x4 x5 i_piled i_tiring i_barred i_pile = some out → va_P (dC, dI) vwCl (wd_Judge_hear cA q0 q1 q2 q3 q4 q5 q6 q7 q8 q9 q10 q11 q12 u0 u1 u2 u3 u4 i_words i_hill_orders i_piled i_tiring i_barred i_pile) H → va_D A (wd_Judge_hear cA q0 q1 q2 q3 q4 q5 q6 q7 q8 q9 q10 q11 q12 u0 u1 u2 u3 u4 i_words i_hill_orders i_piled i_tiring i_barred i_pile) → va_S A s.heap H locs → lv_has ls 9 [(0, .ref q0), (1, .int (Int32.ofInt x1)), (2, .int (Int32.ofInt x2)), (3, .int (Int32.ofInt x3)), (4, .int (Int32.ofInt x4)), (5, .int (Int32.ofInt x5))] → W p l e rm_Judge_hear s m args below meth c H locs 0 0 Q (F0 m 286 ls [.ref q0]) := by
    intro k8 ih8 x1 x2 x3 x4 x5 i_piled i_tiring i_barred i_pile H locs ls hf hP hD hS hl
    unfold f_Judge_hear_286 at hf
    refine lv_iconst (v := Int32.ofInt 1) hx hb (zdt zkX3_hear 286 rfl) rfl ?_
    refine lv_goto (tgt := 291) hx hb (zdt zkX3_hear 287 rfl) (by decide) ?_
    exact b_291 _ ih8 _ _ _ _ _ _ _ _ _ _ _ _ _ hf hP hD hS (lv_sub hl [0, 1, 2, 3, 4, 5] rfl)
  have b_337 : ∀ (k8 : Int → Int → Int → Int → Int → Int → Int → Int → (Nat → Int) → Option (Int × Int × Int × (Nat → Int))) (_ : ∀ (x1 : Int) (x2 : Int) (x3 : Int) (x4 : Int) (x5 : Int) (i_piled : Int) (i_tiring : Int) (i_barred : Int) (i_pile : Nat → Int) (H : Heap) (locs : List Loc) (ls : Array Slot), k8 x1 x2 x3 x4 x5 i_piled i_tiring i_barred i_pile = some out → va_P (dC, dI) vwCl (wd_Judge_hear cA q0 q1 q2 q3 q4 q5 q6 q7 q8 q9 q10 q11 q12 u0 u1 u2 u3 u4 i_words i_hill_orders i_piled i_tiring i_barred i_pile) H → va_D A (wd_Judge_hear cA q0 q1 q2 q3 q4 q5 q6 q7 q8 q9 q10 q11 q12 u0 u1 u2 u3 u4 i_words i_hill_orders i_piled i_tiring i_barred i_pile) → va_S A s.heap H locs → lv_has ls 9 [(0, .ref q0), (1, .int (Int32.ofInt x1)), (2, .int (Int32.ofInt x2)), (3, .int (Int32.ofInt x3)), (4, .int (Int32.ofInt x4)), (5, .int (Int32.ofInt x5))] → W p l e rm_Judge_hear s m args below meth c H locs 0 0 Q (F0 m 8 ls [])), ∀ (x1 : Int) (x2 : Int) (x4 : Int) (x5 : Int) (s0 : Int) (i_piled : Int) (i_tiring : Int) (i_barred : Int) (i_pile : Nat → Int) (H : Heap) (locs : List Loc) (ls : Array Slot), f_Judge_hear_337 i_words i_hill_orders k8 x1 x2 x4 x5 s0 i_piled i_tiring i_barred i_pile = some out → va_P (dC, dI) vwCl (wd_Judge_hear cA q0 q1 q2 q3 q4 q5 q6 q7 q8 q9 q10 q11 q12 u0 u1 u2 u3 u4 i_words i_hill_orders i_piled i_tiring i_barred i_pile) H → va_D A (wd_Judge_hear cA q0 q1 q2 q3 q4 q5 q6 q7 q8 q9 q10 q11 q12 u0 u1 u2 u3 u4 i_words i_hill_orders i_piled i_tiring i_barred i_pile) → va_S A s.heap H locs → lv_has ls 9 [(0, .ref q0), (1, .int (Int32.ofInt x1)), (2, .int (Int32.ofInt x2)), (4, .int (Int32.ofInt x4)), (5, .int (Int32.ofInt x5))] → W p l e rm_Judge_hear s m args below meth c H locs 0 0 Q (F0 m 337 ls [.int (Int32.ofInt s0)]) := by
    intro k8 ih8 x1 x2 x4 x5 s0 i_piled i_tiring i_barred i_pile H locs ls hf hP hD hS hl
    unfold f_Judge_hear_337 at hf
    refine lv_istore_n (lv' := [(3, .int (Int32.ofInt s0)), (0, .ref q0), (1, .int (Int32.ofInt x1)), (2, .int (Int32.ofInt x2)), (4, .int (Int32.ofInt x4)), (5, .int (Int32.ofInt x5))]) hx hb (zdt zkX3_hear 337 rfl) rfl hl (by decide) rfl (fun ls hl => ?_)
    exact b_338 _ ih8 _ _ _ _ _ _ _ _ _ _ _ _ hf hP hD hS (lv_sub hl [1, 2, 3, 0, 4, 5] rfl)
  have b_8 : ∀ (k8 : Int → Int → Int → Int → Int → Int → Int → Int → (Nat → Int) → Option (Int × Int × Int × (Nat → Int))) (_ : ∀ (x1 : Int) (x2 : Int) (x3 : Int) (x4 : Int) (x5 : Int) (i_piled : Int) (i_tiring : Int) (i_barred : Int) (i_pile : Nat → Int) (H : Heap) (locs : List Loc) (ls : Array Slot), k8 x1 x2 x3 x4 x5 i_piled i_tiring i_barred i_pile = some out → va_P (dC, dI) vwCl (wd_Judge_hear cA q0 q1 q2 q3 q4 q5 q6 q7 q8 q9 q10 q11 q12 u0 u1 u2 u3 u4 i_words i_hill_orders i_piled i_tiring i_barred i_pile) H → va_D A (wd_Judge_hear cA q0 q1 q2 q3 q4 q5 q6 q7 q8 q9 q10 q11 q12 u0 u1 u2 u3 u4 i_words i_hill_orders i_piled i_tiring i_barred i_pile) → va_S A s.heap H locs → lv_has ls 9 [(0, .ref q0), (1, .int (Int32.ofInt x1)), (2, .int (Int32.ofInt x2)), (3, .int (Int32.ofInt x3)), (4, .int (Int32.ofInt x4)), (5, .int (Int32.ofInt x5))] → W p l e rm_Judge_hear s m args below meth c H locs 0 0 Q (F0 m 8 ls [])), ∀ (x1 : Int) (x2 : Int) (x3 : Int) (x4 : Int) (x5 : Int) (i_piled : Int) (i_tiring : Int) (i_barred : Int) (i_pile : Nat → Int) (H : Heap) (locs : List Loc) (ls : Array Slot), f_Judge_hear_8_b i_words i_hill_orders k8 x1 x2 x3 x4 x5 i_piled i_tiring i_barred i_pile = some out → va_P (dC, dI) vwCl (wd_Judge_hear cA q0 q1 q2 q3 q4 q5 q6 q7 q8 q9 q10 q11 q12 u0 u1 u2 u3 u4 i_words i_hill_orders i_piled i_tiring i_barred i_pile) H → va_D A (wd_Judge_hear cA q0 q1 q2 q3 q4 q5 q6 q7 q8 q9 q10 q11 q12 u0 u1 u2 u3 u4 i_words i_hill_orders i_piled i_tiring i_barred i_pile) → va_S A s.heap H locs → lv_has ls 9 [(0, .ref q0), (1, .int (Int32.ofInt x1)), (2, .int (Int32.ofInt x2)), (3, .int (Int32.ofInt x3)), (4, .int (Int32.ofInt x4)), (5, .int (Int32.ofInt x5))] → W p l e rm_Judge_hear s m args below meth c H locs 0 0 Q (F0 m 8 ls []) := by
    intro k8 ih8 x1 x2 x3 x4 x5 i_piled i_tiring i_barred i_pile H locs ls hf hP hD hS hl
    unfold f_Judge_hear_8_b at hf
    refine lv_iload hx hb (zdt zkX3_hear 8 rfl) (lv_at hl 5 rfl) ?_
    refine lv_iload_n hx hb (zdt zkX3_hear 10 rfl) rfl (lv_at hl 2 rfl) ?_
    refine xi_icmp_ge (tgt := 344) hx hb (zdt zkX3_hear 11 rfl) (by decide) hf (fun hf => ?_) (fun hf => ?_)
    · obtain rfl := Option.some.inj hf
      exact hret _ _ _ _ (zdt zkX3_hear 344 rfl) hP hD hS
    · refine lv_iload hx hb (zdt zkX3_hear 14 rfl) (lv_at hl 5 rfl) ?_
      refine lv_iload_n hx hb (zdt zkX3_hear 16 rfl) rfl (lv_at hl 3 rfl) ?_
      refine xi_icmp_ge (tgt := 23) hx hb (zdt zkX3_hear 17 rfl) (by decide) hf (fun hf => ?_) (fun hf => ?_)
      · refine lv_aload_n hx hb (zdt zkX3_hear 23 rfl) rfl (lv_at hl 0 rfl) ?_
        refine va_get (D := (dC, dI)) (ci := 3) (v := .ref q1) (C := RX3) (T := TX3) (N := 6) hx hb hz zi_X3 hown hK hP 0 rfl rfl 0 (by decide) (hz _ zw_279) (fun _ h9 => h9) rfl (zdt zkX3_hear 24 rfl) ?_
        refine va_getN (D := (dC, dI)) (ci := 2) (v := .ref q11) (C := RX2) (T := TX2) (N := 14) hx hb hz zi_X2 hown hK hP 1 rfl rfl 10 (by decide) (va_Nw.use rfl (hE.1.1 _ zw_200)) (fun _ h9 => h9) rfl (zdt zkX3_hear 27 rfl) ?_
        refine lv_iload_n hx hb (zdt zkX3_hear 30 rfl) rfl (lv_at hl 1 rfl) ?_
        refine lv_iload hx hb (zdt zkX3_hear 31 rfl) (lv_at hl 5 rfl) ?_
        refine xi_iadd hx hb (zdt zkX3_hear 33 rfl) hf (fun v1 hf => ?_)
        refine xi_iald hx hb hK hP 4 0 rfl rfl (zdt zkX3_hear 34 rfl) hf (fun v2 hf => ?_)
        refine lv_bipush (v := Int32.ofInt 15) hx hb (zdt zkX3_hear 35 rfl) (by decide) ?_
        refine xi_iand hx hb (zdt zkX3_hear 37 rfl) hf (fun v3 hf => ?_)
        refine lv_istore (lv' := [(6, .int (Int32.ofInt v3)), (0, .ref q0), (1, .int (Int32.ofInt x1)), (2, .int (Int32.ofInt x2)), (3, .int (Int32.ofInt x3)), (4, .int (Int32.ofInt x4)), (5, .int (Int32.ofInt x5))]) hx hb (zdt zkX3_hear 38 rfl) hl (by decide) rfl (fun ls hl => ?_)
        refine lv_aload_n hx hb (zdt zkX3_hear 40 rfl) rfl (lv_at hl 1 rfl) ?_
        refine va_get (D := (dC, dI)) (ci := 3) (v := .ref q1) (C := RX3) (T := TX3) (N := 6) hx hb hz zi_X3 hown hK hP 0 rfl rfl 0 (by decide) (hz _ zw_279) (fun _ h9 => h9) rfl (zdt zkX3_hear 41 rfl) ?_
        refine va_getN (D := (dC, dI)) (ci := 2) (v := .ref q11) (C := RX2) (T := TX2) (N := 14) hx hb hz zi_X2 hown hK hP 1 rfl rfl 10 (by decide) (va_Nw.use rfl (hE.1.1 _ zw_200)) (fun _ h9 => h9) rfl (zdt zkX3_hear 44 rfl) ?_
        refine lv_iload_n hx hb (zdt zkX3_hear 47 rfl) rfl (lv_at hl 2 rfl) ?_
        refine lv_iload hx hb (zdt zkX3_hear 48 rfl) (lv_at hl 6 rfl) ?_
        refine xi_iadd hx hb (zdt zkX3_hear 50 rfl) hf (fun v4 hf => ?_)
        refine xi_iald hx hb hK hP 4 0 rfl rfl (zdt zkX3_hear 51 rfl) hf (fun v5 hf => ?_)
        refine lv_iconst (v := Int32.ofInt 4) hx hb (zdt zkX3_hear 52 rfl) rfl ?_
        refine xi_ishr hx hb (zdt zkX3_hear 53 rfl) hf (fun v6 hf => ?_)
        refine lv_istore (lv' := [(7, .int (Int32.ofInt v6)), (6, .int (Int32.ofInt v3)), (0, .ref q0), (1, .int (Int32.ofInt x1)), (2, .int (Int32.ofInt x2)), (3, .int (Int32.ofInt x3)), (4, .int (Int32.ofInt x4)), (5, .int (Int32.ofInt x5))]) hx hb (zdt zkX3_hear 54 rfl) hl (by decide) rfl (fun ls hl => ?_)
        refine lv_iload hx hb (zdt zkX3_hear 56 rfl) (lv_at hl 1 rfl) ?_
        refine xz_if hf (fun hc hf => ?_) (fun hn0 hf => ?_)
        · refine xi_tin (tgt := 132) hx hb (zdt zkX3_hear 58 rfl) hc (by decide) (by decide) rfl (by decide) ?_
          refine lv_aload_n hx hb (zdt zkX3_hear 132 rfl) rfl (lv_at hl 2 rfl) ?_
          refine lv_iconst (v := Int32.ofInt 0) hx hb (zdt zkX3_hear 133 rfl) rfl ?_
          refine va_put (D := (dC, dI)) (ci := 3) (v := .int (Int32.ofInt 0)) (ty := .int) (C := RX3) (T := TX3) (N := 6) hx hb hz zi_X3 tyX3 tyX3_ok nmX3 hown hK hP hD hS 0 rfl rfl 3 (by decide) (hz _ zw_282) (fun _ h9 => h9) rfl (by decide +kernel) rfl rfl (Nat.le_of_ble_eq_true rfl) (zdt zkX3_hear 134 rfl) (fun H locs hP hD hS => ?_)
          refine xw_PD (wd_Judge_hear cA q0 q1 q2 q3 q4 q5 q6 q7 q8 q9 q10 q11 q12 u0 u1 u2 u3 u4 i_words i_hill_orders 0 i_tiring i_barred i_pile) hP hD (fun hP hD => ?_)
          refine lv_iload hx hb (zdt zkX3_hear 137 rfl) (lv_at hl 0 rfl) ?_
          refine lv_istore (lv' := [(4, .int (Int32.ofInt v6)), (7, .int (Int32.ofInt v6)), (6, .int (Int32.ofInt v3)), (0, .ref q0), (1, .int (Int32.ofInt x1)), (2, .int (Int32.ofInt x2)), (3, .int (Int32.ofInt x3)), (5, .int (Int32.ofInt x5))]) hx hb (zdt zkX3_hear 139 rfl) hl (by decide) rfl (fun ls hl => ?_)
          refine lv_goto (tgt := 338) hx hb (zdt zkX3_hear 141 rfl) (by decide) ?_
          exact b_338 _ ih8 _ _ _ _ _ _ _ _ _ _ _ _ hf hP hD hS (lv_sub hl [3, 4, 5, 6, 0, 7] rfl)
        refine xz_if hf (fun hc hf => ?_) (fun hn1 hf => ?_)
        · refine xi_tin (tgt := 144) hx hb (zdt zkX3_hear 58 rfl) hc (by decide) (by decide) rfl (by decide) ?_
          refine lv_aload_n hx hb (zdt zkX3_hear 144 rfl) rfl (lv_at hl 2 rfl) ?_
          refine lv_iload hx hb (zdt zkX3_hear 145 rfl) (lv_at hl 0 rfl) ?_
          refine xe_d2 hf (fun v7 a8 hg hf => ?_)
          have hC : ([0, 3] : List Nat).map (fun i => (wd_Judge_hear cA q0 q1 q2 q3 q4 q5 q6 q7 q8 q9 q10 q11 q12 u0 u1 u2 u3 u4 i_words i_hill_orders i_piled i_tiring i_barred i_pile)[i]?) = (wd_Judge_push cA q0 q1 q2 q3 i_tiring i_barred i_piled i_pile).map some := rfl
          refine xv_afterV (ws' := (wd_Judge_hear cA q0 q1 q2 q3 q4 q5 q6 q7 q8 q9 q10 q11 q12 u0 u1 u2 u3 u4 i_words i_hill_orders v7 i_tiring i_barred a8)) (isC := [0, 3]) (ps := [some 0, none, none, some 1, none]) (va_runV (As := [.int (Int32.ofInt v6)]) (rest := []) ⟨hx, hb, hml, hown, hts⟩ (c_Judge_push l ev dC dI cA q0 q1 q2 q3 i_tiring i_barred hg H.size) (cwV 1 hts (zgV zw_825 zw_827 zw_15 zw_108 zw_828) rfl rfl rfl hd_Judge_push ⟨Nat.le_of_ble_eq_true rfl, Nat.le_of_ble_eq_true rfl⟩) (xv_preV (T := TX3) (N := 6) hE hA hS hK hP hD (isC := [0, 3]) (by decide +kernel) hC (q0 := 0) (ci := 3) rfl rfl) rfl rfl hl.1 rfl (lv_room (Nat.le_of_ble_eq_true rfl)) (zdt zkX3_hear 147 rfl) ⟨Nat.le_refl _, Nat.le_refl _⟩) hP hD hS hA (by decide +kernel) rfl hC rfl rfl (fun H locs hP hD hS => ?_)
          refine lv_goto (tgt := 338) hx hb (zdt zkX3_hear 150 rfl) (by decide) ?_
          exact b_338 _ ih8 _ _ _ _ _ _ _ _ _ _ _ _ hf hP hD hS (lv_sub hl [2, 3, 4, 5, 6, 7] rfl)
        refine xz_if hf (fun hc hf => ?_) (fun hn2 hf => ?_)
        · refine xi_tin (tgt := 153) hx hb (zdt zkX3_hear 58 rfl) hc (by decide) (by decide) rfl (by decide) ?_
          refine lv_aload_n hx hb (zdt zkX3_hear 153 rfl) rfl (lv_at hl 2 rfl) ?_
          refine lv_iload hx hb (zdt zkX3_hear 154 rfl) (lv_at hl 0 rfl) ?_
          refine xi_if_lt (tgt := 176) hx hb (zdt zkX3_hear 156 rfl) (by decide) hf (fun hf => ?_) (fun hf => ?_)
          · exact b_176 _ ih8 _ _ _ _ _ _ _ _ _ _ _ _ hf hP hD hS (lv_sub hl [2, 3, 4, 5, 6, 7] rfl)
          · refine lv_iload hx hb (zdt zkX3_hear 159 rfl) (lv_at hl 0 rfl) ?_
            refine lv_bipush (v := Int32.ofInt 8) hx hb (zdt zkX3_hear 161 rfl) (by decide) ?_
            refine xi_icmp_ge (tgt := 176) hx hb (zdt zkX3_hear 163 rfl) (by decide) hf (fun hf => ?_) (fun hf => ?_)
            · exact b_176 _ ih8 _ _ _ _ _ _ _ _ _ _ _ _ hf hP hD hS (lv_sub hl [2, 3, 4, 5, 6, 7] rfl)
            · refine lv_aload_n hx hb (zdt zkX3_hear 166 rfl) rfl (lv_at hl 2 rfl) ?_
              refine va_get (D := (dC, dI)) (ci := 3) (v := .ref q2) (C := RX3) (T := TX3) (N := 6) hx hb hz zi_X3 hown hK hP 0 rfl rfl 1 (by decide) (hz _ zw_280) (fun _ h9 => h9) rfl (zdt zkX3_hear 167 rfl) ?_
              refine lv_iload hx hb (zdt zkX3_hear 170 rfl) (lv_at hl 0 rfl) ?_
              refine xi_iald hx hb hK hP 2 0 rfl rfl (zdt zkX3_hear 172 rfl) hf (fun v9 hf => ?_)
              refine lv_goto (tgt := 177) hx hb (zdt zkX3_hear 173 rfl) (by decide) ?_
              exact b_177 _ ih8 _ _ _ _ _ _ _ _ _ _ _ _ _ hf hP hD hS (lv_sub hl [2, 3, 4, 5, 6, 7] rfl)
        refine xz_if hf (fun hc hf => ?_) (fun hn3 hf => ?_)
        · refine xi_tin (tgt := 297) hx hb (zdt zkX3_hear 58 rfl) hc (by decide) (by decide) rfl (by decide) ?_
          refine lv_aload_n hx hb (zdt zkX3_hear 297 rfl) rfl (lv_at hl 2 rfl) ?_
          refine xe_d2 hf (fun v10 v11 hg hf => ?_)
          have hC : ([0, 3] : List Nat).map (fun i => (wd_Judge_hear cA q0 q1 q2 q3 q4 q5 q6 q7 q8 q9 q10 q11 q12 u0 u1 u2 u3 u4 i_words i_hill_orders i_piled i_tiring i_barred i_pile)[i]?) = (wd_Judge_pop cA q0 q1 q2 q3 i_tiring i_barred i_pile i_piled).map some := rfl
          refine xv_afterI (ws' := (wd_Judge_hear cA q0 q1 q2 q3 q4 q5 q6 q7 q8 q9 q10 q11 q12 u0 u1 u2 u3 u4 i_words i_hill_orders v11 i_tiring i_barred i_pile)) (isC := [0, 3]) (ps := [some 0, none, none, some 1, none]) (va_runV (As := []) (rest := []) ⟨hx, hb, hml, hown, hts⟩ (c_Judge_pop l ev dC dI cA q0 q1 q2 q3 i_tiring i_barred hg H.size) (cwV 0 hts (zgV zw_829 zw_831 zw_16 zw_108 zw_832) rfl rfl rfl hd_Judge_pop ⟨Nat.le_of_ble_eq_true rfl, Nat.le_of_ble_eq_true rfl⟩) (xv_preV (T := TX3) (N := 6) hE hA hS hK hP hD (isC := [0, 3]) (by decide +kernel) hC (q0 := 0) (ci := 3) rfl rfl) rfl rfl hl.1 rfl (lv_room (Nat.le_of_ble_eq_true rfl)) (zdt zkX3_hear 298 rfl) ⟨Nat.le_refl _, Nat.le_refl _⟩) hP hD hS hA (by decide +kernel) rfl hC rfl rfl (fun H locs hP hD hS => ?_)
          refine lv_istore (lv' := [(8, .int (Int32.ofInt v10)), (7, .int (Int32.ofInt v6)), (6, .int (Int32.ofInt v3)), (0, .ref q0), (1, .int (Int32.ofInt x1)), (2, .int (Int32.ofInt x2)), (3, .int (Int32.ofInt x3)), (4, .int (Int32.ofInt x4)), (5, .int (Int32.ofInt x5))]) hx hb (zdt zkX3_hear 301 rfl) hl (by decide) rfl (fun ls hl => ?_)
          refine lv_iload hx hb (zdt zkX3_hear 303 rfl) (lv_at hl 2 rfl) ?_
          refine lv_aload_n hx hb (zdt zkX3_hear 305 rfl) rfl (lv_at hl 3 rfl) ?_
          refine xe_d2 hf (fun v12 v13 hg hf => ?_)
          have hC : ([0, 3] : List Nat).map (fun i => (wd_Judge_hear cA q0 q1 q2 q3 q4 q5 q6 q7 q8 q9 q10 q11 q12 u0 u1 u2 u3 u4 i_words i_hill_orders v11 i_tiring i_barred i_pile)[i]?) = (wd_Judge_pop cA q0 q1 q2 q3 i_tiring i_barred i_pile v11).map some := rfl
          refine xv_afterI (ws' := (wd_Judge_hear cA q0 q1 q2 q3 q4 q5 q6 q7 q8 q9 q10 q11 q12 u0 u1 u2 u3 u4 i_words i_hill_orders v13 i_tiring i_barred i_pile)) (isC := [0, 3]) (ps := [some 0, none, none, some 1, none]) (va_runV (As := []) (rest := [.int (Int32.ofInt v3)]) ⟨hx, hb, hml, hown, hts⟩ (c_Judge_pop l ev dC dI cA q0 q1 q2 q3 i_tiring i_barred hg H.size) (cwV 0 hts (zgV zw_829 zw_831 zw_16 zw_108 zw_832) rfl rfl rfl hd_Judge_pop ⟨Nat.le_of_ble_eq_true rfl, Nat.le_of_ble_eq_true rfl⟩) (xv_preV (T := TX3) (N := 6) hE hA hS hK hP hD (isC := [0, 3]) (by decide +kernel) hC (q0 := 0) (ci := 3) rfl rfl) rfl rfl hl.1 rfl (lv_room (Nat.le_of_ble_eq_true rfl)) (zdt zkX3_hear 306 rfl) ⟨Nat.le_refl _, Nat.le_refl _⟩) hP hD hS hA (by decide +kernel) rfl hC rfl rfl (fun H locs hP hD hS => ?_)
          refine xi_i2l hx hb (zdt zkX3_hear 309 rfl) hf (fun v14 hf => ?_)
          refine lv_iload hx hb (zdt zkX3_hear 310 rfl) (lv_at hl 0 rfl) ?_
          refine xi_i2l hx hb (zdt zkX3_hear 312 rfl) hf (fun v15 hf => ?_)
          refine xe_d1 hf (fun v16 hg hf => ?_)
          have hC : ([] : List Nat).map (fun i => (wd_Judge_hear cA q0 q1 q2 q3 q4 q5 q6 q7 q8 q9 q10 q11 q12 u0 u1 u2 u3 u4 i_words i_hill_orders v13 i_tiring i_barred i_pile)[i]?) = (wd_Judge_worked cA).map some := rfl
          refine xv_afterI (ws' := (wd_Judge_hear cA q0 q1 q2 q3 q4 q5 q6 q7 q8 q9 q10 q11 q12 u0 u1 u2 u3 u4 i_words i_hill_orders v13 i_tiring i_barred i_pile)) (isC := []) (ps := [none, none, none, none, none]) (va_runS (As := [.int (Int32.ofInt v3), .long (Int64.ofInt v14), .long (Int64.ofInt v15)]) (rest := []) ⟨hx, hb, hml, hown, hts⟩ (c_Judge_worked l ev dC dI cA hg H.size) (va_cwS 3 hts (zgS zw_835 zw_836 zw_108 zw_837) rfl rfl rfl hd_Judge_worked.2 ⟨Nat.le_of_ble_eq_true rfl, Nat.le_of_ble_eq_true rfl⟩) (xv_preS hE hA hS hK hP hD (isC := []) (by decide +kernel) hC) rfl rfl hl.1 rfl (lv_room (Nat.le_of_ble_eq_true rfl)) (zdt zkX3_hear 313 rfl) ⟨Nat.le_refl _, Nat.le_refl _⟩) hP hD hS hA (by decide +kernel) rfl hC rfl rfl (fun H locs hP hD hS => ?_)
          refine lv_istore (lv' := [(8, .int (Int32.ofInt v16)), (7, .int (Int32.ofInt v6)), (6, .int (Int32.ofInt v3)), (0, .ref q0), (1, .int (Int32.ofInt x1)), (2, .int (Int32.ofInt x2)), (3, .int (Int32.ofInt x3)), (4, .int (Int32.ofInt x4)), (5, .int (Int32.ofInt x5))]) hx hb (zdt zkX3_hear 316 rfl) hl (by decide) rfl (fun ls hl => ?_)
          refine lv_aload_n hx hb (zdt zkX3_hear 318 rfl) rfl (lv_at hl 3 rfl) ?_
          refine lv_iload hx hb (zdt zkX3_hear 319 rfl) (lv_at hl 0 rfl) ?_
          refine xe_d2 hf (fun v17 a18 hg hf => ?_)
          have hC : ([0, 3] : List Nat).map (fun i => (wd_Judge_hear cA q0 q1 q2 q3 q4 q5 q6 q7 q8 q9 q10 q11 q12 u0 u1 u2 u3 u4 i_words i_hill_orders v13 i_tiring i_barred i_pile)[i]?) = (wd_Judge_push cA q0 q1 q2 q3 i_tiring i_barred v13 i_pile).map some := rfl
          refine xv_afterV (ws' := (wd_Judge_hear cA q0 q1 q2 q3 q4 q5 q6 q7 q8 q9 q10 q11 q12 u0 u1 u2 u3 u4 i_words i_hill_orders v17 i_tiring i_barred a18)) (isC := [0, 3]) (ps := [some 0, none, none, some 1, none]) (va_runV (As := [.int (Int32.ofInt v16)]) (rest := []) ⟨hx, hb, hml, hown, hts⟩ (c_Judge_push l ev dC dI cA q0 q1 q2 q3 i_tiring i_barred hg H.size) (cwV 1 hts (zgV zw_825 zw_827 zw_15 zw_108 zw_828) rfl rfl rfl hd_Judge_push ⟨Nat.le_of_ble_eq_true rfl, Nat.le_of_ble_eq_true rfl⟩) (xv_preV (T := TX3) (N := 6) hE hA hS hK hP hD (isC := [0, 3]) (by decide +kernel) hC (q0 := 0) (ci := 3) rfl rfl) rfl rfl hl.1 rfl (lv_room (Nat.le_of_ble_eq_true rfl)) (zdt zkX3_hear 321 rfl) ⟨Nat.le_refl _, Nat.le_refl _⟩) hP hD hS hA (by decide +kernel) rfl hC rfl rfl (fun H locs hP hD hS => ?_)
          refine lv_iload hx hb (zdt zkX3_hear 324 rfl) (lv_at hl 0 rfl) ?_
          refine lv_ldc (v := Int32.ofInt (-2000000000)) hx hb hown (hz _ zw_838) (zdt zkX3_hear 326 rfl) ?_
          refine xi_icmp_ne (tgt := 336) hx hb (zdt zkX3_hear 328 rfl) (by decide) hf (fun hf => ?_) (fun hf => ?_)
          · refine lv_iload_n hx hb (zdt zkX3_hear 336 rfl) rfl (lv_at hl 6 rfl) ?_
            exact b_337 _ ih8 _ _ _ _ _ _ _ _ _ _ _ _ hf hP hD hS (lv_sub hl [3, 4, 5, 7, 8] rfl)
          · refine lv_iload hx hb (zdt zkX3_hear 331 rfl) (lv_at hl 7 rfl) ?_
            refine lv_goto (tgt := 337) hx hb (zdt zkX3_hear 333 rfl) (by decide) ?_
            exact b_337 _ ih8 _ _ _ _ _ _ _ _ _ _ _ _ hf hP hD hS (lv_sub hl [3, 4, 5, 7, 8] rfl)
        refine xz_if hf (fun hc hf => ?_) (fun hn4 hf => ?_)
        · refine xi_tin (tgt := 297) hx hb (zdt zkX3_hear 58 rfl) hc (by decide) (by decide) rfl (by decide) ?_
          refine lv_aload_n hx hb (zdt zkX3_hear 297 rfl) rfl (lv_at hl 2 rfl) ?_
          refine xe_d2 hf (fun v19 v20 hg hf => ?_)
          have hC : ([0, 3] : List Nat).map (fun i => (wd_Judge_hear cA q0 q1 q2 q3 q4 q5 q6 q7 q8 q9 q10 q11 q12 u0 u1 u2 u3 u4 i_words i_hill_orders i_piled i_tiring i_barred i_pile)[i]?) = (wd_Judge_pop cA q0 q1 q2 q3 i_tiring i_barred i_pile i_piled).map some := rfl
          refine xv_afterI (ws' := (wd_Judge_hear cA q0 q1 q2 q3 q4 q5 q6 q7 q8 q9 q10 q11 q12 u0 u1 u2 u3 u4 i_words i_hill_orders v20 i_tiring i_barred i_pile)) (isC := [0, 3]) (ps := [some 0, none, none, some 1, none]) (va_runV (As := []) (rest := []) ⟨hx, hb, hml, hown, hts⟩ (c_Judge_pop l ev dC dI cA q0 q1 q2 q3 i_tiring i_barred hg H.size) (cwV 0 hts (zgV zw_829 zw_831 zw_16 zw_108 zw_832) rfl rfl rfl hd_Judge_pop ⟨Nat.le_of_ble_eq_true rfl, Nat.le_of_ble_eq_true rfl⟩) (xv_preV (T := TX3) (N := 6) hE hA hS hK hP hD (isC := [0, 3]) (by decide +kernel) hC (q0 := 0) (ci := 3) rfl rfl) rfl rfl hl.1 rfl (lv_room (Nat.le_of_ble_eq_true rfl)) (zdt zkX3_hear 298 rfl) ⟨Nat.le_refl _, Nat.le_refl _⟩) hP hD hS hA (by decide +kernel) rfl hC rfl rfl (fun H locs hP hD hS => ?_)
          refine lv_istore (lv' := [(8, .int (Int32.ofInt v19)), (7, .int (Int32.ofInt v6)), (6, .int (Int32.ofInt v3)), (0, .ref q0), (1, .int (Int32.ofInt x1)), (2, .int (Int32.ofInt x2)), (3, .int (Int32.ofInt x3)), (4, .int (Int32.ofInt x4)), (5, .int (Int32.ofInt x5))]) hx hb (zdt zkX3_hear 301 rfl) hl (by decide) rfl (fun ls hl => ?_)
          refine lv_iload hx hb (zdt zkX3_hear 303 rfl) (lv_at hl 2 rfl) ?_
          refine lv_aload_n hx hb (zdt zkX3_hear 305 rfl) rfl (lv_at hl 3 rfl) ?_
          refine xe_d2 hf (fun v21 v22 hg hf => ?_)
          have hC : ([0, 3] : List Nat).map (fun i => (wd_Judge_hear cA q0 q1 q2 q3 q4 q5 q6 q7 q8 q9 q10 q11 q12 u0 u1 u2 u3 u4 i_words i_hill_orders v20 i_tiring i_barred i_pile)[i]?) = (wd_Judge_pop cA q0 q1 q2 q3 i_tiring i_barred i_pile v20).map some := rfl
          refine xv_afterI (ws' := (wd_Judge_hear cA q0 q1 q2 q3 q4 q5 q6 q7 q8 q9 q10 q11 q12 u0 u1 u2 u3 u4 i_words i_hill_orders v22 i_tiring i_barred i_pile)) (isC := [0, 3]) (ps := [some 0, none, none, some 1, none]) (va_runV (As := []) (rest := [.int (Int32.ofInt v3)]) ⟨hx, hb, hml, hown, hts⟩ (c_Judge_pop l ev dC dI cA q0 q1 q2 q3 i_tiring i_barred hg H.size) (cwV 0 hts (zgV zw_829 zw_831 zw_16 zw_108 zw_832) rfl rfl rfl hd_Judge_pop ⟨Nat.le_of_ble_eq_true rfl, Nat.le_of_ble_eq_true rfl⟩) (xv_preV (T := TX3) (N := 6) hE hA hS hK hP hD (isC := [0, 3]) (by decide +kernel) hC (q0 := 0) (ci := 3) rfl rfl) rfl rfl hl.1 rfl (lv_room (Nat.le_of_ble_eq_true rfl)) (zdt zkX3_hear 306 rfl) ⟨Nat.le_refl _, Nat.le_refl _⟩) hP hD hS hA (by decide +kernel) rfl hC rfl rfl (fun H locs hP hD hS => ?_)
          refine xi_i2l hx hb (zdt zkX3_hear 309 rfl) hf (fun v23 hf => ?_)
          refine lv_iload hx hb (zdt zkX3_hear 310 rfl) (lv_at hl 0 rfl) ?_
          refine xi_i2l hx hb (zdt zkX3_hear 312 rfl) hf (fun v24 hf => ?_)
          refine xe_d1 hf (fun v25 hg hf => ?_)
          have hC : ([] : List Nat).map (fun i => (wd_Judge_hear cA q0 q1 q2 q3 q4 q5 q6 q7 q8 q9 q10 q11 q12 u0 u1 u2 u3 u4 i_words i_hill_orders v22 i_tiring i_barred i_pile)[i]?) = (wd_Judge_worked cA).map some := rfl
          refine xv_afterI (ws' := (wd_Judge_hear cA q0 q1 q2 q3 q4 q5 q6 q7 q8 q9 q10 q11 q12 u0 u1 u2 u3 u4 i_words i_hill_orders v22 i_tiring i_barred i_pile)) (isC := []) (ps := [none, none, none, none, none]) (va_runS (As := [.int (Int32.ofInt v3), .long (Int64.ofInt v23), .long (Int64.ofInt v24)]) (rest := []) ⟨hx, hb, hml, hown, hts⟩ (c_Judge_worked l ev dC dI cA hg H.size) (va_cwS 3 hts (zgS zw_835 zw_836 zw_108 zw_837) rfl rfl rfl hd_Judge_worked.2 ⟨Nat.le_of_ble_eq_true rfl, Nat.le_of_ble_eq_true rfl⟩) (xv_preS hE hA hS hK hP hD (isC := []) (by decide +kernel) hC) rfl rfl hl.1 rfl (lv_room (Nat.le_of_ble_eq_true rfl)) (zdt zkX3_hear 313 rfl) ⟨Nat.le_refl _, Nat.le_refl _⟩) hP hD hS hA (by decide +kernel) rfl hC rfl rfl (fun H locs hP hD hS => ?_)
          refine lv_istore (lv' := [(8, .int (Int32.ofInt v25)), (7, .int (Int32.ofInt v6)), (6, .int (Int32.ofInt v3)), (0, .ref q0), (1, .int (Int32.ofInt x1)), (2, .int (Int32.ofInt x2)), (3, .int (Int32.ofInt x3)), (4, .int (Int32.ofInt x4)), (5, .int (Int32.ofInt x5))]) hx hb (zdt zkX3_hear 316 rfl) hl (by decide) rfl (fun ls hl => ?_)
          refine lv_aload_n hx hb (zdt zkX3_hear 318 rfl) rfl (lv_at hl 3 rfl) ?_
          refine lv_iload hx hb (zdt zkX3_hear 319 rfl) (lv_at hl 0 rfl) ?_
          refine xe_d2 hf (fun v26 a27 hg hf => ?_)
          have hC : ([0, 3] : List Nat).map (fun i => (wd_Judge_hear cA q0 q1 q2 q3 q4 q5 q6 q7 q8 q9 q10 q11 q12 u0 u1 u2 u3 u4 i_words i_hill_orders v22 i_tiring i_barred i_pile)[i]?) = (wd_Judge_push cA q0 q1 q2 q3 i_tiring i_barred v22 i_pile).map some := rfl
          refine xv_afterV (ws' := (wd_Judge_hear cA q0 q1 q2 q3 q4 q5 q6 q7 q8 q9 q10 q11 q12 u0 u1 u2 u3 u4 i_words i_hill_orders v26 i_tiring i_barred a27)) (isC := [0, 3]) (ps := [some 0, none, none, some 1, none]) (va_runV (As := [.int (Int32.ofInt v25)]) (rest := []) ⟨hx, hb, hml, hown, hts⟩ (c_Judge_push l ev dC dI cA q0 q1 q2 q3 i_tiring i_barred hg H.size) (cwV 1 hts (zgV zw_825 zw_827 zw_15 zw_108 zw_828) rfl rfl rfl hd_Judge_push ⟨Nat.le_of_ble_eq_true rfl, Nat.le_of_ble_eq_true rfl⟩) (xv_preV (T := TX3) (N := 6) hE hA hS hK hP hD (isC := [0, 3]) (by decide +kernel) hC (q0 := 0) (ci := 3) rfl rfl) rfl rfl hl.1 rfl (lv_room (Nat.le_of_ble_eq_true rfl)) (zdt zkX3_hear 321 rfl) ⟨Nat.le_refl _, Nat.le_refl _⟩) hP hD hS hA (by decide +kernel) rfl hC rfl rfl (fun H locs hP hD hS => ?_)
          refine lv_iload hx hb (zdt zkX3_hear 324 rfl) (lv_at hl 0 rfl) ?_
          refine lv_ldc (v := Int32.ofInt (-2000000000)) hx hb hown (hz _ zw_838) (zdt zkX3_hear 326 rfl) ?_
          refine xi_icmp_ne (tgt := 336) hx hb (zdt zkX3_hear 328 rfl) (by decide) hf (fun hf => ?_) (fun hf => ?_)
          · refine lv_iload_n hx hb (zdt zkX3_hear 336 rfl) rfl (lv_at hl 6 rfl) ?_
            exact b_337 _ ih8 _ _ _ _ _ _ _ _ _ _ _ _ hf hP hD hS (lv_sub hl [3, 4, 5, 7, 8] rfl)
          · refine lv_iload hx hb (zdt zkX3_hear 331 rfl) (lv_at hl 7 rfl) ?_
            refine lv_goto (tgt := 337) hx hb (zdt zkX3_hear 333 rfl) (by decide) ?_
            exact b_337 _ ih8 _ _ _ _ _ _ _ _ _ _ _ _ hf hP hD hS (lv_sub hl [3, 4, 5, 7, 8] rfl)
        refine xz_if hf (fun hc hf => ?_) (fun hn5 hf => ?_)
        · refine xi_tin (tgt := 297) hx hb (zdt zkX3_hear 58 rfl) hc (by decide) (by decide) rfl (by decide) ?_
          refine lv_aload_n hx hb (zdt zkX3_hear 297 rfl) rfl (lv_at hl 2 rfl) ?_
          refine xe_d2 hf (fun v28 v29 hg hf => ?_)
          have hC : ([0, 3] : List Nat).map (fun i => (wd_Judge_hear cA q0 q1 q2 q3 q4 q5 q6 q7 q8 q9 q10 q11 q12 u0 u1 u2 u3 u4 i_words i_hill_orders i_piled i_tiring i_barred i_pile)[i]?) = (wd_Judge_pop cA q0 q1 q2 q3 i_tiring i_barred i_pile i_piled).map some := rfl
          refine xv_afterI (ws' := (wd_Judge_hear cA q0 q1 q2 q3 q4 q5 q6 q7 q8 q9 q10 q11 q12 u0 u1 u2 u3 u4 i_words i_hill_orders v29 i_tiring i_barred i_pile)) (isC := [0, 3]) (ps := [some 0, none, none, some 1, none]) (va_runV (As := []) (rest := []) ⟨hx, hb, hml, hown, hts⟩ (c_Judge_pop l ev dC dI cA q0 q1 q2 q3 i_tiring i_barred hg H.size) (cwV 0 hts (zgV zw_829 zw_831 zw_16 zw_108 zw_832) rfl rfl rfl hd_Judge_pop ⟨Nat.le_of_ble_eq_true rfl, Nat.le_of_ble_eq_true rfl⟩) (xv_preV (T := TX3) (N := 6) hE hA hS hK hP hD (isC := [0, 3]) (by decide +kernel) hC (q0 := 0) (ci := 3) rfl rfl) rfl rfl hl.1 rfl (lv_room (Nat.le_of_ble_eq_true rfl)) (zdt zkX3_hear 298 rfl) ⟨Nat.le_refl _, Nat.le_refl _⟩) hP hD hS hA (by decide +kernel) rfl hC rfl rfl (fun H locs hP hD hS => ?_)
          refine lv_istore (lv' := [(8, .int (Int32.ofInt v28)), (7, .int (Int32.ofInt v6)), (6, .int (Int32.ofInt v3)), (0, .ref q0), (1, .int (Int32.ofInt x1)), (2, .int (Int32.ofInt x2)), (3, .int (Int32.ofInt x3)), (4, .int (Int32.ofInt x4)), (5, .int (Int32.ofInt x5))]) hx hb (zdt zkX3_hear 301 rfl) hl (by decide) rfl (fun ls hl => ?_)
          refine lv_iload hx hb (zdt zkX3_hear 303 rfl) (lv_at hl 2 rfl) ?_
          refine lv_aload_n hx hb (zdt zkX3_hear 305 rfl) rfl (lv_at hl 3 rfl) ?_
          refine xe_d2 hf (fun v30 v31 hg hf => ?_)
          have hC : ([0, 3] : List Nat).map (fun i => (wd_Judge_hear cA q0 q1 q2 q3 q4 q5 q6 q7 q8 q9 q10 q11 q12 u0 u1 u2 u3 u4 i_words i_hill_orders v29 i_tiring i_barred i_pile)[i]?) = (wd_Judge_pop cA q0 q1 q2 q3 i_tiring i_barred i_pile v29).map some := rfl
          refine xv_afterI (ws' := (wd_Judge_hear cA q0 q1 q2 q3 q4 q5 q6 q7 q8 q9 q10 q11 q12 u0 u1 u2 u3 u4 i_words i_hill_orders v31 i_tiring i_barred i_pile)) (isC := [0, 3]) (ps := [some 0, none, none, some 1, none]) (va_runV (As := []) (rest := [.int (Int32.ofInt v3)]) ⟨hx, hb, hml, hown, hts⟩ (c_Judge_pop l ev dC dI cA q0 q1 q2 q3 i_tiring i_barred hg H.size) (cwV 0 hts (zgV zw_829 zw_831 zw_16 zw_108 zw_832) rfl rfl rfl hd_Judge_pop ⟨Nat.le_of_ble_eq_true rfl, Nat.le_of_ble_eq_true rfl⟩) (xv_preV (T := TX3) (N := 6) hE hA hS hK hP hD (isC := [0, 3]) (by decide +kernel) hC (q0 := 0) (ci := 3) rfl rfl) rfl rfl hl.1 rfl (lv_room (Nat.le_of_ble_eq_true rfl)) (zdt zkX3_hear 306 rfl) ⟨Nat.le_refl _, Nat.le_refl _⟩) hP hD hS hA (by decide +kernel) rfl hC rfl rfl (fun H locs hP hD hS => ?_)
          refine xi_i2l hx hb (zdt zkX3_hear 309 rfl) hf (fun v32 hf => ?_)
          refine lv_iload hx hb (zdt zkX3_hear 310 rfl) (lv_at hl 0 rfl) ?_
          refine xi_i2l hx hb (zdt zkX3_hear 312 rfl) hf (fun v33 hf => ?_)
          refine xe_d1 hf (fun v34 hg hf => ?_)
          have hC : ([] : List Nat).map (fun i => (wd_Judge_hear cA q0 q1 q2 q3 q4 q5 q6 q7 q8 q9 q10 q11 q12 u0 u1 u2 u3 u4 i_words i_hill_orders v31 i_tiring i_barred i_pile)[i]?) = (wd_Judge_worked cA).map some := rfl
          refine xv_afterI (ws' := (wd_Judge_hear cA q0 q1 q2 q3 q4 q5 q6 q7 q8 q9 q10 q11 q12 u0 u1 u2 u3 u4 i_words i_hill_orders v31 i_tiring i_barred i_pile)) (isC := []) (ps := [none, none, none, none, none]) (va_runS (As := [.int (Int32.ofInt v3), .long (Int64.ofInt v32), .long (Int64.ofInt v33)]) (rest := []) ⟨hx, hb, hml, hown, hts⟩ (c_Judge_worked l ev dC dI cA hg H.size) (va_cwS 3 hts (zgS zw_835 zw_836 zw_108 zw_837) rfl rfl rfl hd_Judge_worked.2 ⟨Nat.le_of_ble_eq_true rfl, Nat.le_of_ble_eq_true rfl⟩) (xv_preS hE hA hS hK hP hD (isC := []) (by decide +kernel) hC) rfl rfl hl.1 rfl (lv_room (Nat.le_of_ble_eq_true rfl)) (zdt zkX3_hear 313 rfl) ⟨Nat.le_refl _, Nat.le_refl _⟩) hP hD hS hA (by decide +kernel) rfl hC rfl rfl (fun H locs hP hD hS => ?_)
          refine lv_istore (lv' := [(8, .int (Int32.ofInt v34)), (7, .int (Int32.ofInt v6)), (6, .int (Int32.ofInt v3)), (0, .ref q0), (1, .int (Int32.ofInt x1)), (2, .int (Int32.ofInt x2)), (3, .int (Int32.ofInt x3)), (4, .int (Int32.ofInt x4)), (5, .int (Int32.ofInt x5))]) hx hb (zdt zkX3_hear 316 rfl) hl (by decide) rfl (fun ls hl => ?_)
          refine lv_aload_n hx hb (zdt zkX3_hear 318 rfl) rfl (lv_at hl 3 rfl) ?_
          refine lv_iload hx hb (zdt zkX3_hear 319 rfl) (lv_at hl 0 rfl) ?_
          refine xe_d2 hf (fun v35 a36 hg hf => ?_)
          have hC : ([0, 3] : List Nat).map (fun i => (wd_Judge_hear cA q0 q1 q2 q3 q4 q5 q6 q7 q8 q9 q10 q11 q12 u0 u1 u2 u3 u4 i_words i_hill_orders v31 i_tiring i_barred i_pile)[i]?) = (wd_Judge_push cA q0 q1 q2 q3 i_tiring i_barred v31 i_pile).map some := rfl
          refine xv_afterV (ws' := (wd_Judge_hear cA q0 q1 q2 q3 q4 q5 q6 q7 q8 q9 q10 q11 q12 u0 u1 u2 u3 u4 i_words i_hill_orders v35 i_tiring i_barred a36)) (isC := [0, 3]) (ps := [some 0, none, none, some 1, none]) (va_runV (As := [.int (Int32.ofInt v34)]) (rest := []) ⟨hx, hb, hml, hown, hts⟩ (c_Judge_push l ev dC dI cA q0 q1 q2 q3 i_tiring i_barred hg H.size) (cwV 1 hts (zgV zw_825 zw_827 zw_15 zw_108 zw_828) rfl rfl rfl hd_Judge_push ⟨Nat.le_of_ble_eq_true rfl, Nat.le_of_ble_eq_true rfl⟩) (xv_preV (T := TX3) (N := 6) hE hA hS hK hP hD (isC := [0, 3]) (by decide +kernel) hC (q0 := 0) (ci := 3) rfl rfl) rfl rfl hl.1 rfl (lv_room (Nat.le_of_ble_eq_true rfl)) (zdt zkX3_hear 321 rfl) ⟨Nat.le_refl _, Nat.le_refl _⟩) hP hD hS hA (by decide +kernel) rfl hC rfl rfl (fun H locs hP hD hS => ?_)
          refine lv_iload hx hb (zdt zkX3_hear 324 rfl) (lv_at hl 0 rfl) ?_
          refine lv_ldc (v := Int32.ofInt (-2000000000)) hx hb hown (hz _ zw_838) (zdt zkX3_hear 326 rfl) ?_
          refine xi_icmp_ne (tgt := 336) hx hb (zdt zkX3_hear 328 rfl) (by decide) hf (fun hf => ?_) (fun hf => ?_)
          · refine lv_iload_n hx hb (zdt zkX3_hear 336 rfl) rfl (lv_at hl 6 rfl) ?_
            exact b_337 _ ih8 _ _ _ _ _ _ _ _ _ _ _ _ hf hP hD hS (lv_sub hl [3, 4, 5, 7, 8] rfl)
          · refine lv_iload hx hb (zdt zkX3_hear 331 rfl) (lv_at hl 7 rfl) ?_
            refine lv_goto (tgt := 337) hx hb (zdt zkX3_hear 333 rfl) (by decide) ?_
            exact b_337 _ ih8 _ _ _ _ _ _ _ _ _ _ _ _ hf hP hD hS (lv_sub hl [3, 4, 5, 7, 8] rfl)
        refine xz_if hf (fun hc hf => ?_) (fun hn6 hf => ?_)
        · refine xi_tin (tgt := 297) hx hb (zdt zkX3_hear 58 rfl) hc (by decide) (by decide) rfl (by decide) ?_
          refine lv_aload_n hx hb (zdt zkX3_hear 297 rfl) rfl (lv_at hl 2 rfl) ?_
          refine xe_d2 hf (fun v37 v38 hg hf => ?_)
          have hC : ([0, 3] : List Nat).map (fun i => (wd_Judge_hear cA q0 q1 q2 q3 q4 q5 q6 q7 q8 q9 q10 q11 q12 u0 u1 u2 u3 u4 i_words i_hill_orders i_piled i_tiring i_barred i_pile)[i]?) = (wd_Judge_pop cA q0 q1 q2 q3 i_tiring i_barred i_pile i_piled).map some := rfl
          refine xv_afterI (ws' := (wd_Judge_hear cA q0 q1 q2 q3 q4 q5 q6 q7 q8 q9 q10 q11 q12 u0 u1 u2 u3 u4 i_words i_hill_orders v38 i_tiring i_barred i_pile)) (isC := [0, 3]) (ps := [some 0, none, none, some 1, none]) (va_runV (As := []) (rest := []) ⟨hx, hb, hml, hown, hts⟩ (c_Judge_pop l ev dC dI cA q0 q1 q2 q3 i_tiring i_barred hg H.size) (cwV 0 hts (zgV zw_829 zw_831 zw_16 zw_108 zw_832) rfl rfl rfl hd_Judge_pop ⟨Nat.le_of_ble_eq_true rfl, Nat.le_of_ble_eq_true rfl⟩) (xv_preV (T := TX3) (N := 6) hE hA hS hK hP hD (isC := [0, 3]) (by decide +kernel) hC (q0 := 0) (ci := 3) rfl rfl) rfl rfl hl.1 rfl (lv_room (Nat.le_of_ble_eq_true rfl)) (zdt zkX3_hear 298 rfl) ⟨Nat.le_refl _, Nat.le_refl _⟩) hP hD hS hA (by decide +kernel) rfl hC rfl rfl (fun H locs hP hD hS => ?_)
          refine lv_istore (lv' := [(8, .int (Int32.ofInt v37)), (7, .int (Int32.ofInt v6)), (6, .int (Int32.ofInt v3)), (0, .ref q0), (1, .int (Int32.ofInt x1)), (2, .int (Int32.ofInt x2)), (3, .int (Int32.ofInt x3)), (4, .int (Int32.ofInt x4)), (5, .int (Int32.ofInt x5))]) hx hb (zdt zkX3_hear 301 rfl) hl (by decide) rfl (fun ls hl => ?_)
          refine lv_iload hx hb (zdt zkX3_hear 303 rfl) (lv_at hl 2 rfl) ?_
          refine lv_aload_n hx hb (zdt zkX3_hear 305 rfl) rfl (lv_at hl 3 rfl) ?_
          refine xe_d2 hf (fun v39 v40 hg hf => ?_)
          have hC : ([0, 3] : List Nat).map (fun i => (wd_Judge_hear cA q0 q1 q2 q3 q4 q5 q6 q7 q8 q9 q10 q11 q12 u0 u1 u2 u3 u4 i_words i_hill_orders v38 i_tiring i_barred i_pile)[i]?) = (wd_Judge_pop cA q0 q1 q2 q3 i_tiring i_barred i_pile v38).map some := rfl
          refine xv_afterI (ws' := (wd_Judge_hear cA q0 q1 q2 q3 q4 q5 q6 q7 q8 q9 q10 q11 q12 u0 u1 u2 u3 u4 i_words i_hill_orders v40 i_tiring i_barred i_pile)) (isC := [0, 3]) (ps := [some 0, none, none, some 1, none]) (va_runV (As := []) (rest := [.int (Int32.ofInt v3)]) ⟨hx, hb, hml, hown, hts⟩ (c_Judge_pop l ev dC dI cA q0 q1 q2 q3 i_tiring i_barred hg H.size) (cwV 0 hts (zgV zw_829 zw_831 zw_16 zw_108 zw_832) rfl rfl rfl hd_Judge_pop ⟨Nat.le_of_ble_eq_true rfl, Nat.le_of_ble_eq_true rfl⟩) (xv_preV (T := TX3) (N := 6) hE hA hS hK hP hD (isC := [0, 3]) (by decide +kernel) hC (q0 := 0) (ci := 3) rfl rfl) rfl rfl hl.1 rfl (lv_room (Nat.le_of_ble_eq_true rfl)) (zdt zkX3_hear 306 rfl) ⟨Nat.le_refl _, Nat.le_refl _⟩) hP hD hS hA (by decide +kernel) rfl hC rfl rfl (fun H locs hP hD hS => ?_)
          refine xi_i2l hx hb (zdt zkX3_hear 309 rfl) hf (fun v41 hf => ?_)
          refine lv_iload hx hb (zdt zkX3_hear 310 rfl) (lv_at hl 0 rfl) ?_
          refine xi_i2l hx hb (zdt zkX3_hear 312 rfl) hf (fun v42 hf => ?_)
          refine xe_d1 hf (fun v43 hg hf => ?_)
          have hC : ([] : List Nat).map (fun i => (wd_Judge_hear cA q0 q1 q2 q3 q4 q5 q6 q7 q8 q9 q10 q11 q12 u0 u1 u2 u3 u4 i_words i_hill_orders v40 i_tiring i_barred i_pile)[i]?) = (wd_Judge_worked cA).map some := rfl
          refine xv_afterI (ws' := (wd_Judge_hear cA q0 q1 q2 q3 q4 q5 q6 q7 q8 q9 q10 q11 q12 u0 u1 u2 u3 u4 i_words i_hill_orders v40 i_tiring i_barred i_pile)) (isC := []) (ps := [none, none, none, none, none]) (va_runS (As := [.int (Int32.ofInt v3), .long (Int64.ofInt v41), .long (Int64.ofInt v42)]) (rest := []) ⟨hx, hb, hml, hown, hts⟩ (c_Judge_worked l ev dC dI cA hg H.size) (va_cwS 3 hts (zgS zw_835 zw_836 zw_108 zw_837) rfl rfl rfl hd_Judge_worked.2 ⟨Nat.le_of_ble_eq_true rfl, Nat.le_of_ble_eq_true rfl⟩) (xv_preS hE hA hS hK hP hD (isC := []) (by decide +kernel) hC) rfl rfl hl.1 rfl (lv_room (Nat.le_of_ble_eq_true rfl)) (zdt zkX3_hear 313 rfl) ⟨Nat.le_refl _, Nat.le_refl _⟩) hP hD hS hA (by decide +kernel) rfl hC rfl rfl (fun H locs hP hD hS => ?_)
          refine lv_istore (lv' := [(8, .int (Int32.ofInt v43)), (7, .int (Int32.ofInt v6)), (6, .int (Int32.ofInt v3)), (0, .ref q0), (1, .int (Int32.ofInt x1)), (2, .int (Int32.ofInt x2)), (3, .int (Int32.ofInt x3)), (4, .int (Int32.ofInt x4)), (5, .int (Int32.ofInt x5))]) hx hb (zdt zkX3_hear 316 rfl) hl (by decide) rfl (fun ls hl => ?_)
          refine lv_aload_n hx hb (zdt zkX3_hear 318 rfl) rfl (lv_at hl 3 rfl) ?_
          refine lv_iload hx hb (zdt zkX3_hear 319 rfl) (lv_at hl 0 rfl) ?_
          refine xe_d2 hf (fun v44 a45 hg hf => ?_)
          have hC : ([0, 3] : List Nat).map (fun i => (wd_Judge_hear cA q0 q1 q2 q3 q4 q5 q6 q7 q8 q9 q10 q11 q12 u0 u1 u2 u3 u4 i_words i_hill_orders v40 i_tiring i_barred i_pile)[i]?) = (wd_Judge_push cA q0 q1 q2 q3 i_tiring i_barred v40 i_pile).map some := rfl
          refine xv_afterV (ws' := (wd_Judge_hear cA q0 q1 q2 q3 q4 q5 q6 q7 q8 q9 q10 q11 q12 u0 u1 u2 u3 u4 i_words i_hill_orders v44 i_tiring i_barred a45)) (isC := [0, 3]) (ps := [some 0, none, none, some 1, none]) (va_runV (As := [.int (Int32.ofInt v43)]) (rest := []) ⟨hx, hb, hml, hown, hts⟩ (c_Judge_push l ev dC dI cA q0 q1 q2 q3 i_tiring i_barred hg H.size) (cwV 1 hts (zgV zw_825 zw_827 zw_15 zw_108 zw_828) rfl rfl rfl hd_Judge_push ⟨Nat.le_of_ble_eq_true rfl, Nat.le_of_ble_eq_true rfl⟩) (xv_preV (T := TX3) (N := 6) hE hA hS hK hP hD (isC := [0, 3]) (by decide +kernel) hC (q0 := 0) (ci := 3) rfl rfl) rfl rfl hl.1 rfl (lv_room (Nat.le_of_ble_eq_true rfl)) (zdt zkX3_hear 321 rfl) ⟨Nat.le_refl _, Nat.le_refl _⟩) hP hD hS hA (by decide +kernel) rfl hC rfl rfl (fun H locs hP hD hS => ?_)
          refine lv_iload hx hb (zdt zkX3_hear 324 rfl) (lv_at hl 0 rfl) ?_
          refine lv_ldc (v := Int32.ofInt (-2000000000)) hx hb hown (hz _ zw_838) (zdt zkX3_hear 326 rfl) ?_
          refine xi_icmp_ne (tgt := 336) hx hb (zdt zkX3_hear 328 rfl) (by decide) hf (fun hf => ?_) (fun hf => ?_)
          · refine lv_iload_n hx hb (zdt zkX3_hear 336 rfl) rfl (lv_at hl 6 rfl) ?_
            exact b_337 _ ih8 _ _ _ _ _ _ _ _ _ _ _ _ hf hP hD hS (lv_sub hl [3, 4, 5, 7, 8] rfl)
          · refine lv_iload hx hb (zdt zkX3_hear 331 rfl) (lv_at hl 7 rfl) ?_
            refine lv_goto (tgt := 337) hx hb (zdt zkX3_hear 333 rfl) (by decide) ?_
            exact b_337 _ ih8 _ _ _ _ _ _ _ _ _ _ _ _ hf hP hD hS (lv_sub hl [3, 4, 5, 7, 8] rfl)
        refine xz_if hf (fun hc hf => ?_) (fun hn7 hf => ?_)
        · refine xi_tin (tgt := 297) hx hb (zdt zkX3_hear 58 rfl) hc (by decide) (by decide) rfl (by decide) ?_
          refine lv_aload_n hx hb (zdt zkX3_hear 297 rfl) rfl (lv_at hl 2 rfl) ?_
          refine xe_d2 hf (fun v46 v47 hg hf => ?_)
          have hC : ([0, 3] : List Nat).map (fun i => (wd_Judge_hear cA q0 q1 q2 q3 q4 q5 q6 q7 q8 q9 q10 q11 q12 u0 u1 u2 u3 u4 i_words i_hill_orders i_piled i_tiring i_barred i_pile)[i]?) = (wd_Judge_pop cA q0 q1 q2 q3 i_tiring i_barred i_pile i_piled).map some := rfl
          refine xv_afterI (ws' := (wd_Judge_hear cA q0 q1 q2 q3 q4 q5 q6 q7 q8 q9 q10 q11 q12 u0 u1 u2 u3 u4 i_words i_hill_orders v47 i_tiring i_barred i_pile)) (isC := [0, 3]) (ps := [some 0, none, none, some 1, none]) (va_runV (As := []) (rest := []) ⟨hx, hb, hml, hown, hts⟩ (c_Judge_pop l ev dC dI cA q0 q1 q2 q3 i_tiring i_barred hg H.size) (cwV 0 hts (zgV zw_829 zw_831 zw_16 zw_108 zw_832) rfl rfl rfl hd_Judge_pop ⟨Nat.le_of_ble_eq_true rfl, Nat.le_of_ble_eq_true rfl⟩) (xv_preV (T := TX3) (N := 6) hE hA hS hK hP hD (isC := [0, 3]) (by decide +kernel) hC (q0 := 0) (ci := 3) rfl rfl) rfl rfl hl.1 rfl (lv_room (Nat.le_of_ble_eq_true rfl)) (zdt zkX3_hear 298 rfl) ⟨Nat.le_refl _, Nat.le_refl _⟩) hP hD hS hA (by decide +kernel) rfl hC rfl rfl (fun H locs hP hD hS => ?_)
          refine lv_istore (lv' := [(8, .int (Int32.ofInt v46)), (7, .int (Int32.ofInt v6)), (6, .int (Int32.ofInt v3)), (0, .ref q0), (1, .int (Int32.ofInt x1)), (2, .int (Int32.ofInt x2)), (3, .int (Int32.ofInt x3)), (4, .int (Int32.ofInt x4)), (5, .int (Int32.ofInt x5))]) hx hb (zdt zkX3_hear 301 rfl) hl (by decide) rfl (fun ls hl => ?_)
          refine lv_iload hx hb (zdt zkX3_hear 303 rfl) (lv_at hl 2 rfl) ?_
          refine lv_aload_n hx hb (zdt zkX3_hear 305 rfl) rfl (lv_at hl 3 rfl) ?_
          refine xe_d2 hf (fun v48 v49 hg hf => ?_)
          have hC : ([0, 3] : List Nat).map (fun i => (wd_Judge_hear cA q0 q1 q2 q3 q4 q5 q6 q7 q8 q9 q10 q11 q12 u0 u1 u2 u3 u4 i_words i_hill_orders v47 i_tiring i_barred i_pile)[i]?) = (wd_Judge_pop cA q0 q1 q2 q3 i_tiring i_barred i_pile v47).map some := rfl
          refine xv_afterI (ws' := (wd_Judge_hear cA q0 q1 q2 q3 q4 q5 q6 q7 q8 q9 q10 q11 q12 u0 u1 u2 u3 u4 i_words i_hill_orders v49 i_tiring i_barred i_pile)) (isC := [0, 3]) (ps := [some 0, none, none, some 1, none]) (va_runV (As := []) (rest := [.int (Int32.ofInt v3)]) ⟨hx, hb, hml, hown, hts⟩ (c_Judge_pop l ev dC dI cA q0 q1 q2 q3 i_tiring i_barred hg H.size) (cwV 0 hts (zgV zw_829 zw_831 zw_16 zw_108 zw_832) rfl rfl rfl hd_Judge_pop ⟨Nat.le_of_ble_eq_true rfl, Nat.le_of_ble_eq_true rfl⟩) (xv_preV (T := TX3) (N := 6) hE hA hS hK hP hD (isC := [0, 3]) (by decide +kernel) hC (q0 := 0) (ci := 3) rfl rfl) rfl rfl hl.1 rfl (lv_room (Nat.le_of_ble_eq_true rfl)) (zdt zkX3_hear 306 rfl) ⟨Nat.le_refl _, Nat.le_refl _⟩) hP hD hS hA (by decide +kernel) rfl hC rfl rfl (fun H locs hP hD hS => ?_)
          refine xi_i2l hx hb (zdt zkX3_hear 309 rfl) hf (fun v50 hf => ?_)
          refine lv_iload hx hb (zdt zkX3_hear 310 rfl) (lv_at hl 0 rfl) ?_
          refine xi_i2l hx hb (zdt zkX3_hear 312 rfl) hf (fun v51 hf => ?_)
          refine xe_d1 hf (fun v52 hg hf => ?_)
          have hC : ([] : List Nat).map (fun i => (wd_Judge_hear cA q0 q1 q2 q3 q4 q5 q6 q7 q8 q9 q10 q11 q12 u0 u1 u2 u3 u4 i_words i_hill_orders v49 i_tiring i_barred i_pile)[i]?) = (wd_Judge_worked cA).map some := rfl
          refine xv_afterI (ws' := (wd_Judge_hear cA q0 q1 q2 q3 q4 q5 q6 q7 q8 q9 q10 q11 q12 u0 u1 u2 u3 u4 i_words i_hill_orders v49 i_tiring i_barred i_pile)) (isC := []) (ps := [none, none, none, none, none]) (va_runS (As := [.int (Int32.ofInt v3), .long (Int64.ofInt v50), .long (Int64.ofInt v51)]) (rest := []) ⟨hx, hb, hml, hown, hts⟩ (c_Judge_worked l ev dC dI cA hg H.size) (va_cwS 3 hts (zgS zw_835 zw_836 zw_108 zw_837) rfl rfl rfl hd_Judge_worked.2 ⟨Nat.le_of_ble_eq_true rfl, Nat.le_of_ble_eq_true rfl⟩) (xv_preS hE hA hS hK hP hD (isC := []) (by decide +kernel) hC) rfl rfl hl.1 rfl (lv_room (Nat.le_of_ble_eq_true rfl)) (zdt zkX3_hear 313 rfl) ⟨Nat.le_refl _, Nat.le_refl _⟩) hP hD hS hA (by decide +kernel) rfl hC rfl rfl (fun H locs hP hD hS => ?_)
          refine lv_istore (lv' := [(8, .int (Int32.ofInt v52)), (7, .int (Int32.ofInt v6)), (6, .int (Int32.ofInt v3)), (0, .ref q0), (1, .int (Int32.ofInt x1)), (2, .int (Int32.ofInt x2)), (3, .int (Int32.ofInt x3)), (4, .int (Int32.ofInt x4)), (5, .int (Int32.ofInt x5))]) hx hb (zdt zkX3_hear 316 rfl) hl (by decide) rfl (fun ls hl => ?_)
          refine lv_aload_n hx hb (zdt zkX3_hear 318 rfl) rfl (lv_at hl 3 rfl) ?_
          refine lv_iload hx hb (zdt zkX3_hear 319 rfl) (lv_at hl 0 rfl) ?_
          refine xe_d2 hf (fun v53 a54 hg hf => ?_)
          have hC : ([0, 3] : List Nat).map (fun i => (wd_Judge_hear cA q0 q1 q2 q3 q4 q5 q6 q7 q8 q9 q10 q11 q12 u0 u1 u2 u3 u4 i_words i_hill_orders v49 i_tiring i_barred i_pile)[i]?) = (wd_Judge_push cA q0 q1 q2 q3 i_tiring i_barred v49 i_pile).map some := rfl
          refine xv_afterV (ws' := (wd_Judge_hear cA q0 q1 q2 q3 q4 q5 q6 q7 q8 q9 q10 q11 q12 u0 u1 u2 u3 u4 i_words i_hill_orders v53 i_tiring i_barred a54)) (isC := [0, 3]) (ps := [some 0, none, none, some 1, none]) (va_runV (As := [.int (Int32.ofInt v52)]) (rest := []) ⟨hx, hb, hml, hown, hts⟩ (c_Judge_push l ev dC dI cA q0 q1 q2 q3 i_tiring i_barred hg H.size) (cwV 1 hts (zgV zw_825 zw_827 zw_15 zw_108 zw_828) rfl rfl rfl hd_Judge_push ⟨Nat.le_of_ble_eq_true rfl, Nat.le_of_ble_eq_true rfl⟩) (xv_preV (T := TX3) (N := 6) hE hA hS hK hP hD (isC := [0, 3]) (by decide +kernel) hC (q0 := 0) (ci := 3) rfl rfl) rfl rfl hl.1 rfl (lv_room (Nat.le_of_ble_eq_true rfl)) (zdt zkX3_hear 321 rfl) ⟨Nat.le_refl _, Nat.le_refl _⟩) hP hD hS hA (by decide +kernel) rfl hC rfl rfl (fun H locs hP hD hS => ?_)
          refine lv_iload hx hb (zdt zkX3_hear 324 rfl) (lv_at hl 0 rfl) ?_
          refine lv_ldc (v := Int32.ofInt (-2000000000)) hx hb hown (hz _ zw_838) (zdt zkX3_hear 326 rfl) ?_
          refine xi_icmp_ne (tgt := 336) hx hb (zdt zkX3_hear 328 rfl) (by decide) hf (fun hf => ?_) (fun hf => ?_)
          · refine lv_iload_n hx hb (zdt zkX3_hear 336 rfl) rfl (lv_at hl 6 rfl) ?_
            exact b_337 _ ih8 _ _ _ _ _ _ _ _ _ _ _ _ hf hP hD hS (lv_sub hl [3, 4, 5, 7, 8] rfl)
          · refine lv_iload hx hb (zdt zkX3_hear 331 rfl) (lv_at hl 7 rfl) ?_
            refine lv_goto (tgt := 337) hx hb (zdt zkX3_hear 333 rfl) (by decide) ?_
            exact b_337 _ ih8 _ _ _ _ _ _ _ _ _ _ _ _ hf hP hD hS (lv_sub hl [3, 4, 5, 7, 8] rfl)
        refine xz_if hf (fun hc hf => ?_) (fun hn8 hf => ?_)
        · refine xi_tin (tgt := 297) hx hb (zdt zkX3_hear 58 rfl) hc (by decide) (by decide) rfl (by decide) ?_
          refine lv_aload_n hx hb (zdt zkX3_hear 297 rfl) rfl (lv_at hl 2 rfl) ?_
          refine xe_d2 hf (fun v55 v56 hg hf => ?_)
          have hC : ([0, 3] : List Nat).map (fun i => (wd_Judge_hear cA q0 q1 q2 q3 q4 q5 q6 q7 q8 q9 q10 q11 q12 u0 u1 u2 u3 u4 i_words i_hill_orders i_piled i_tiring i_barred i_pile)[i]?) = (wd_Judge_pop cA q0 q1 q2 q3 i_tiring i_barred i_pile i_piled).map some := rfl
          refine xv_afterI (ws' := (wd_Judge_hear cA q0 q1 q2 q3 q4 q5 q6 q7 q8 q9 q10 q11 q12 u0 u1 u2 u3 u4 i_words i_hill_orders v56 i_tiring i_barred i_pile)) (isC := [0, 3]) (ps := [some 0, none, none, some 1, none]) (va_runV (As := []) (rest := []) ⟨hx, hb, hml, hown, hts⟩ (c_Judge_pop l ev dC dI cA q0 q1 q2 q3 i_tiring i_barred hg H.size) (cwV 0 hts (zgV zw_829 zw_831 zw_16 zw_108 zw_832) rfl rfl rfl hd_Judge_pop ⟨Nat.le_of_ble_eq_true rfl, Nat.le_of_ble_eq_true rfl⟩) (xv_preV (T := TX3) (N := 6) hE hA hS hK hP hD (isC := [0, 3]) (by decide +kernel) hC (q0 := 0) (ci := 3) rfl rfl) rfl rfl hl.1 rfl (lv_room (Nat.le_of_ble_eq_true rfl)) (zdt zkX3_hear 298 rfl) ⟨Nat.le_refl _, Nat.le_refl _⟩) hP hD hS hA (by decide +kernel) rfl hC rfl rfl (fun H locs hP hD hS => ?_)
          refine lv_istore (lv' := [(8, .int (Int32.ofInt v55)), (7, .int (Int32.ofInt v6)), (6, .int (Int32.ofInt v3)), (0, .ref q0), (1, .int (Int32.ofInt x1)), (2, .int (Int32.ofInt x2)), (3, .int (Int32.ofInt x3)), (4, .int (Int32.ofInt x4)), (5, .int (Int32.ofInt x5))]) hx hb (zdt zkX3_hear 301 rfl) hl (by decide) rfl (fun ls hl => ?_)
          refine lv_iload hx hb (zdt zkX3_hear 303 rfl) (lv_at hl 2 rfl) ?_
          refine lv_aload_n hx hb (zdt zkX3_hear 305 rfl) rfl (lv_at hl 3 rfl) ?_
          refine xe_d2 hf (fun v57 v58 hg hf => ?_)
          have hC : ([0, 3] : List Nat).map (fun i => (wd_Judge_hear cA q0 q1 q2 q3 q4 q5 q6 q7 q8 q9 q10 q11 q12 u0 u1 u2 u3 u4 i_words i_hill_orders v56 i_tiring i_barred i_pile)[i]?) = (wd_Judge_pop cA q0 q1 q2 q3 i_tiring i_barred i_pile v56).map some := rfl
          refine xv_afterI (ws' := (wd_Judge_hear cA q0 q1 q2 q3 q4 q5 q6 q7 q8 q9 q10 q11 q12 u0 u1 u2 u3 u4 i_words i_hill_orders v58 i_tiring i_barred i_pile)) (isC := [0, 3]) (ps := [some 0, none, none, some 1, none]) (va_runV (As := []) (rest := [.int (Int32.ofInt v3)]) ⟨hx, hb, hml, hown, hts⟩ (c_Judge_pop l ev dC dI cA q0 q1 q2 q3 i_tiring i_barred hg H.size) (cwV 0 hts (zgV zw_829 zw_831 zw_16 zw_108 zw_832) rfl rfl rfl hd_Judge_pop ⟨Nat.le_of_ble_eq_true rfl, Nat.le_of_ble_eq_true rfl⟩) (xv_preV (T := TX3) (N := 6) hE hA hS hK hP hD (isC := [0, 3]) (by decide +kernel) hC (q0 := 0) (ci := 3) rfl rfl) rfl rfl hl.1 rfl (lv_room (Nat.le_of_ble_eq_true rfl)) (zdt zkX3_hear 306 rfl) ⟨Nat.le_refl _, Nat.le_refl _⟩) hP hD hS hA (by decide +kernel) rfl hC rfl rfl (fun H locs hP hD hS => ?_)
          refine xi_i2l hx hb (zdt zkX3_hear 309 rfl) hf (fun v59 hf => ?_)
          refine lv_iload hx hb (zdt zkX3_hear 310 rfl) (lv_at hl 0 rfl) ?_
          refine xi_i2l hx hb (zdt zkX3_hear 312 rfl) hf (fun v60 hf => ?_)
          refine xe_d1 hf (fun v61 hg hf => ?_)
          have hC : ([] : List Nat).map (fun i => (wd_Judge_hear cA q0 q1 q2 q3 q4 q5 q6 q7 q8 q9 q10 q11 q12 u0 u1 u2 u3 u4 i_words i_hill_orders v58 i_tiring i_barred i_pile)[i]?) = (wd_Judge_worked cA).map some := rfl
          refine xv_afterI (ws' := (wd_Judge_hear cA q0 q1 q2 q3 q4 q5 q6 q7 q8 q9 q10 q11 q12 u0 u1 u2 u3 u4 i_words i_hill_orders v58 i_tiring i_barred i_pile)) (isC := []) (ps := [none, none, none, none, none]) (va_runS (As := [.int (Int32.ofInt v3), .long (Int64.ofInt v59), .long (Int64.ofInt v60)]) (rest := []) ⟨hx, hb, hml, hown, hts⟩ (c_Judge_worked l ev dC dI cA hg H.size) (va_cwS 3 hts (zgS zw_835 zw_836 zw_108 zw_837) rfl rfl rfl hd_Judge_worked.2 ⟨Nat.le_of_ble_eq_true rfl, Nat.le_of_ble_eq_true rfl⟩) (xv_preS hE hA hS hK hP hD (isC := []) (by decide +kernel) hC) rfl rfl hl.1 rfl (lv_room (Nat.le_of_ble_eq_true rfl)) (zdt zkX3_hear 313 rfl) ⟨Nat.le_refl _, Nat.le_refl _⟩) hP hD hS hA (by decide +kernel) rfl hC rfl rfl (fun H locs hP hD hS => ?_)
          refine lv_istore (lv' := [(8, .int (Int32.ofInt v61)), (7, .int (Int32.ofInt v6)), (6, .int (Int32.ofInt v3)), (0, .ref q0), (1, .int (Int32.ofInt x1)), (2, .int (Int32.ofInt x2)), (3, .int (Int32.ofInt x3)), (4, .int (Int32.ofInt x4)), (5, .int (Int32.ofInt x5))]) hx hb (zdt zkX3_hear 316 rfl) hl (by decide) rfl (fun ls hl => ?_)
          refine lv_aload_n hx hb (zdt zkX3_hear 318 rfl) rfl (lv_at hl 3 rfl) ?_
          refine lv_iload hx hb (zdt zkX3_hear 319 rfl) (lv_at hl 0 rfl) ?_
          refine xe_d2 hf (fun v62 a63 hg hf => ?_)
          have hC : ([0, 3] : List Nat).map (fun i => (wd_Judge_hear cA q0 q1 q2 q3 q4 q5 q6 q7 q8 q9 q10 q11 q12 u0 u1 u2 u3 u4 i_words i_hill_orders v58 i_tiring i_barred i_pile)[i]?) = (wd_Judge_push cA q0 q1 q2 q3 i_tiring i_barred v58 i_pile).map some := rfl
          refine xv_afterV (ws' := (wd_Judge_hear cA q0 q1 q2 q3 q4 q5 q6 q7 q8 q9 q10 q11 q12 u0 u1 u2 u3 u4 i_words i_hill_orders v62 i_tiring i_barred a63)) (isC := [0, 3]) (ps := [some 0, none, none, some 1, none]) (va_runV (As := [.int (Int32.ofInt v61)]) (rest := []) ⟨hx, hb, hml, hown, hts⟩ (c_Judge_push l ev dC dI cA q0 q1 q2 q3 i_tiring i_barred hg H.size) (cwV 1 hts (zgV zw_825 zw_827 zw_15 zw_108 zw_828) rfl rfl rfl hd_Judge_push ⟨Nat.le_of_ble_eq_true rfl, Nat.le_of_ble_eq_true rfl⟩) (xv_preV (T := TX3) (N := 6) hE hA hS hK hP hD (isC := [0, 3]) (by decide +kernel) hC (q0 := 0) (ci := 3) rfl rfl) rfl rfl hl.1 rfl (lv_room (Nat.le_of_ble_eq_true rfl)) (zdt zkX3_hear 321 rfl) ⟨Nat.le_refl _, Nat.le_refl _⟩) hP hD hS hA (by decide +kernel) rfl hC rfl rfl (fun H locs hP hD hS => ?_)
          refine lv_iload hx hb (zdt zkX3_hear 324 rfl) (lv_at hl 0 rfl) ?_
          refine lv_ldc (v := Int32.ofInt (-2000000000)) hx hb hown (hz _ zw_838) (zdt zkX3_hear 326 rfl) ?_
          refine xi_icmp_ne (tgt := 336) hx hb (zdt zkX3_hear 328 rfl) (by decide) hf (fun hf => ?_) (fun hf => ?_)
          · refine lv_iload_n hx hb (zdt zkX3_hear 336 rfl) rfl (lv_at hl 6 rfl) ?_
            exact b_337 _ ih8 _ _ _ _ _ _ _ _ _ _ _ _ hf hP hD hS (lv_sub hl [3, 4, 5, 7, 8] rfl)
          · refine lv_iload hx hb (zdt zkX3_hear 331 rfl) (lv_at hl 7 rfl) ?_
            refine lv_goto (tgt := 337) hx hb (zdt zkX3_hear 333 rfl) (by decide) ?_
            exact b_337 _ ih8 _ _ _ _ _ _ _ _ _ _ _ _ hf hP hD hS (lv_sub hl [3, 4, 5, 7, 8] rfl)
        refine xz_if hf (fun hc hf => ?_) (fun hn9 hf => ?_)
        · refine xi_tin (tgt := 297) hx hb (zdt zkX3_hear 58 rfl) hc (by decide) (by decide) rfl (by decide) ?_
          refine lv_aload_n hx hb (zdt zkX3_hear 297 rfl) rfl (lv_at hl 2 rfl) ?_
          refine xe_d2 hf (fun v64 v65 hg hf => ?_)
          have hC : ([0, 3] : List Nat).map (fun i => (wd_Judge_hear cA q0 q1 q2 q3 q4 q5 q6 q7 q8 q9 q10 q11 q12 u0 u1 u2 u3 u4 i_words i_hill_orders i_piled i_tiring i_barred i_pile)[i]?) = (wd_Judge_pop cA q0 q1 q2 q3 i_tiring i_barred i_pile i_piled).map some := rfl
          refine xv_afterI (ws' := (wd_Judge_hear cA q0 q1 q2 q3 q4 q5 q6 q7 q8 q9 q10 q11 q12 u0 u1 u2 u3 u4 i_words i_hill_orders v65 i_tiring i_barred i_pile)) (isC := [0, 3]) (ps := [some 0, none, none, some 1, none]) (va_runV (As := []) (rest := []) ⟨hx, hb, hml, hown, hts⟩ (c_Judge_pop l ev dC dI cA q0 q1 q2 q3 i_tiring i_barred hg H.size) (cwV 0 hts (zgV zw_829 zw_831 zw_16 zw_108 zw_832) rfl rfl rfl hd_Judge_pop ⟨Nat.le_of_ble_eq_true rfl, Nat.le_of_ble_eq_true rfl⟩) (xv_preV (T := TX3) (N := 6) hE hA hS hK hP hD (isC := [0, 3]) (by decide +kernel) hC (q0 := 0) (ci := 3) rfl rfl) rfl rfl hl.1 rfl (lv_room (Nat.le_of_ble_eq_true rfl)) (zdt zkX3_hear 298 rfl) ⟨Nat.le_refl _, Nat.le_refl _⟩) hP hD hS hA (by decide +kernel) rfl hC rfl rfl (fun H locs hP hD hS => ?_)
          refine lv_istore (lv' := [(8, .int (Int32.ofInt v64)), (7, .int (Int32.ofInt v6)), (6, .int (Int32.ofInt v3)), (0, .ref q0), (1, .int (Int32.ofInt x1)), (2, .int (Int32.ofInt x2)), (3, .int (Int32.ofInt x3)), (4, .int (Int32.ofInt x4)), (5, .int (Int32.ofInt x5))]) hx hb (zdt zkX3_hear 301 rfl) hl (by decide) rfl (fun ls hl => ?_)
          refine lv_iload hx hb (zdt zkX3_hear 303 rfl) (lv_at hl 2 rfl) ?_
          refine lv_aload_n hx hb (zdt zkX3_hear 305 rfl) rfl (lv_at hl 3 rfl) ?_
          refine xe_d2 hf (fun v66 v67 hg hf => ?_)
          have hC : ([0, 3] : List Nat).map (fun i => (wd_Judge_hear cA q0 q1 q2 q3 q4 q5 q6 q7 q8 q9 q10 q11 q12 u0 u1 u2 u3 u4 i_words i_hill_orders v65 i_tiring i_barred i_pile)[i]?) = (wd_Judge_pop cA q0 q1 q2 q3 i_tiring i_barred i_pile v65).map some := rfl
          refine xv_afterI (ws' := (wd_Judge_hear cA q0 q1 q2 q3 q4 q5 q6 q7 q8 q9 q10 q11 q12 u0 u1 u2 u3 u4 i_words i_hill_orders v67 i_tiring i_barred i_pile)) (isC := [0, 3]) (ps := [some 0, none, none, some 1, none]) (va_runV (As := []) (rest := [.int (Int32.ofInt v3)]) ⟨hx, hb, hml, hown, hts⟩ (c_Judge_pop l ev dC dI cA q0 q1 q2 q3 i_tiring i_barred hg H.size) (cwV 0 hts (zgV zw_829 zw_831 zw_16 zw_108 zw_832) rfl rfl rfl hd_Judge_pop ⟨Nat.le_of_ble_eq_true rfl, Nat.le_of_ble_eq_true rfl⟩) (xv_preV (T := TX3) (N := 6) hE hA hS hK hP hD (isC := [0, 3]) (by decide +kernel) hC (q0 := 0) (ci := 3) rfl rfl) rfl rfl hl.1 rfl (lv_room (Nat.le_of_ble_eq_true rfl)) (zdt zkX3_hear 306 rfl) ⟨Nat.le_refl _, Nat.le_refl _⟩) hP hD hS hA (by decide +kernel) rfl hC rfl rfl (fun H locs hP hD hS => ?_)
          refine xi_i2l hx hb (zdt zkX3_hear 309 rfl) hf (fun v68 hf => ?_)
          refine lv_iload hx hb (zdt zkX3_hear 310 rfl) (lv_at hl 0 rfl) ?_
          refine xi_i2l hx hb (zdt zkX3_hear 312 rfl) hf (fun v69 hf => ?_)
          refine xe_d1 hf (fun v70 hg hf => ?_)
          have hC : ([] : List Nat).map (fun i => (wd_Judge_hear cA q0 q1 q2 q3 q4 q5 q6 q7 q8 q9 q10 q11 q12 u0 u1 u2 u3 u4 i_words i_hill_orders v67 i_tiring i_barred i_pile)[i]?) = (wd_Judge_worked cA).map some := rfl
          refine xv_afterI (ws' := (wd_Judge_hear cA q0 q1 q2 q3 q4 q5 q6 q7 q8 q9 q10 q11 q12 u0 u1 u2 u3 u4 i_words i_hill_orders v67 i_tiring i_barred i_pile)) (isC := []) (ps := [none, none, none, none, none]) (va_runS (As := [.int (Int32.ofInt v3), .long (Int64.ofInt v68), .long (Int64.ofInt v69)]) (rest := []) ⟨hx, hb, hml, hown, hts⟩ (c_Judge_worked l ev dC dI cA hg H.size) (va_cwS 3 hts (zgS zw_835 zw_836 zw_108 zw_837) rfl rfl rfl hd_Judge_worked.2 ⟨Nat.le_of_ble_eq_true rfl, Nat.le_of_ble_eq_true rfl⟩) (xv_preS hE hA hS hK hP hD (isC := []) (by decide +kernel) hC) rfl rfl hl.1 rfl (lv_room (Nat.le_of_ble_eq_true rfl)) (zdt zkX3_hear 313 rfl) ⟨Nat.le_refl _, Nat.le_refl _⟩) hP hD hS hA (by decide +kernel) rfl hC rfl rfl (fun H locs hP hD hS => ?_)
          refine lv_istore (lv' := [(8, .int (Int32.ofInt v70)), (7, .int (Int32.ofInt v6)), (6, .int (Int32.ofInt v3)), (0, .ref q0), (1, .int (Int32.ofInt x1)), (2, .int (Int32.ofInt x2)), (3, .int (Int32.ofInt x3)), (4, .int (Int32.ofInt x4)), (5, .int (Int32.ofInt x5))]) hx hb (zdt zkX3_hear 316 rfl) hl (by decide) rfl (fun ls hl => ?_)
          refine lv_aload_n hx hb (zdt zkX3_hear 318 rfl) rfl (lv_at hl 3 rfl) ?_
          refine lv_iload hx hb (zdt zkX3_hear 319 rfl) (lv_at hl 0 rfl) ?_
          refine xe_d2 hf (fun v71 a72 hg hf => ?_)
          have hC : ([0, 3] : List Nat).map (fun i => (wd_Judge_hear cA q0 q1 q2 q3 q4 q5 q6 q7 q8 q9 q10 q11 q12 u0 u1 u2 u3 u4 i_words i_hill_orders v67 i_tiring i_barred i_pile)[i]?) = (wd_Judge_push cA q0 q1 q2 q3 i_tiring i_barred v67 i_pile).map some := rfl
          refine xv_afterV (ws' := (wd_Judge_hear cA q0 q1 q2 q3 q4 q5 q6 q7 q8 q9 q10 q11 q12 u0 u1 u2 u3 u4 i_words i_hill_orders v71 i_tiring i_barred a72)) (isC := [0, 3]) (ps := [some 0, none, none, some 1, none]) (va_runV (As := [.int (Int32.ofInt v70)]) (rest := []) ⟨hx, hb, hml, hown, hts⟩ (c_Judge_push l ev dC dI cA q0 q1 q2 q3 i_tiring i_barred hg H.size) (cwV 1 hts (zgV zw_825 zw_827 zw_15 zw_108 zw_828) rfl rfl rfl hd_Judge_push ⟨Nat.le_of_ble_eq_true rfl, Nat.le_of_ble_eq_true rfl⟩) (xv_preV (T := TX3) (N := 6) hE hA hS hK hP hD (isC := [0, 3]) (by decide +kernel) hC (q0 := 0) (ci := 3) rfl rfl) rfl rfl hl.1 rfl (lv_room (Nat.le_of_ble_eq_true rfl)) (zdt zkX3_hear 321 rfl) ⟨Nat.le_refl _, Nat.le_refl _⟩) hP hD hS hA (by decide +kernel) rfl hC rfl rfl (fun H locs hP hD hS => ?_)
          refine lv_iload hx hb (zdt zkX3_hear 324 rfl) (lv_at hl 0 rfl) ?_
          refine lv_ldc (v := Int32.ofInt (-2000000000)) hx hb hown (hz _ zw_838) (zdt zkX3_hear 326 rfl) ?_
          refine xi_icmp_ne (tgt := 336) hx hb (zdt zkX3_hear 328 rfl) (by decide) hf (fun hf => ?_) (fun hf => ?_)
          · refine lv_iload_n hx hb (zdt zkX3_hear 336 rfl) rfl (lv_at hl 6 rfl) ?_
            exact b_337 _ ih8 _ _ _ _ _ _ _ _ _ _ _ _ hf hP hD hS (lv_sub hl [3, 4, 5, 7, 8] rfl)
          · refine lv_iload hx hb (zdt zkX3_hear 331 rfl) (lv_at hl 7 rfl) ?_
            refine lv_goto (tgt := 337) hx hb (zdt zkX3_hear 333 rfl) (by decide) ?_
            exact b_337 _ ih8 _ _ _ _ _ _ _ _ _ _ _ _ hf hP hD hS (lv_sub hl [3, 4, 5, 7, 8] rfl)
        refine xz_if hf (fun hc hf => ?_) (fun hn10 hf => ?_)
        · refine xi_tin (tgt := 183) hx hb (zdt zkX3_hear 58 rfl) hc (by decide) (by decide) rfl (by decide) ?_
          refine lv_aload_n hx hb (zdt zkX3_hear 183 rfl) rfl (lv_at hl 2 rfl) ?_
          refine lv_iconst (v := Int32.ofInt 1) hx hb (zdt zkX3_hear 184 rfl) rfl ?_
          refine lv_aload_n hx hb (zdt zkX3_hear 185 rfl) rfl (lv_at hl 2 rfl) ?_
          refine xe_d2 hf (fun v73 v74 hg hf => ?_)
          have hC : ([0, 3] : List Nat).map (fun i => (wd_Judge_hear cA q0 q1 q2 q3 q4 q5 q6 q7 q8 q9 q10 q11 q12 u0 u1 u2 u3 u4 i_words i_hill_orders i_piled i_tiring i_barred i_pile)[i]?) = (wd_Judge_pop cA q0 q1 q2 q3 i_tiring i_barred i_pile i_piled).map some := rfl
          refine xv_afterI (ws' := (wd_Judge_hear cA q0 q1 q2 q3 q4 q5 q6 q7 q8 q9 q10 q11 q12 u0 u1 u2 u3 u4 i_words i_hill_orders v74 i_tiring i_barred i_pile)) (isC := [0, 3]) (ps := [some 0, none, none, some 1, none]) (va_runV (As := []) (rest := [.int (Int32.ofInt 1), .ref q0]) ⟨hx, hb, hml, hown, hts⟩ (c_Judge_pop l ev dC dI cA q0 q1 q2 q3 i_tiring i_barred hg H.size) (cwV 0 hts (zgV zw_829 zw_831 zw_16 zw_108 zw_832) rfl rfl rfl hd_Judge_pop ⟨Nat.le_of_ble_eq_true rfl, Nat.le_of_ble_eq_true rfl⟩) (xv_preV (T := TX3) (N := 6) hE hA hS hK hP hD (isC := [0, 3]) (by decide +kernel) hC (q0 := 0) (ci := 3) rfl rfl) rfl rfl hl.1 rfl (lv_room (Nat.le_of_ble_eq_true rfl)) (zdt zkX3_hear 186 rfl) ⟨Nat.le_refl _, Nat.le_refl _⟩) hP hD hS hA (by decide +kernel) rfl hC rfl rfl (fun H locs hP hD hS => ?_)
          refine xi_isub hx hb (zdt zkX3_hear 189 rfl) hf (fun v75 hf => ?_)
          refine xe_d2 hf (fun v76 a77 hg hf => ?_)
          have hC : ([0, 3] : List Nat).map (fun i => (wd_Judge_hear cA q0 q1 q2 q3 q4 q5 q6 q7 q8 q9 q10 q11 q12 u0 u1 u2 u3 u4 i_words i_hill_orders v74 i_tiring i_barred i_pile)[i]?) = (wd_Judge_push cA q0 q1 q2 q3 i_tiring i_barred v74 i_pile).map some := rfl
          refine xv_afterV (ws' := (wd_Judge_hear cA q0 q1 q2 q3 q4 q5 q6 q7 q8 q9 q10 q11 q12 u0 u1 u2 u3 u4 i_words i_hill_orders v76 i_tiring i_barred a77)) (isC := [0, 3]) (ps := [some 0, none, none, some 1, none]) (va_runV (As := [.int (Int32.ofInt v75)]) (rest := []) ⟨hx, hb, hml, hown, hts⟩ (c_Judge_push l ev dC dI cA q0 q1 q2 q3 i_tiring i_barred hg H.size) (cwV 1 hts (zgV zw_825 zw_827 zw_15 zw_108 zw_828) rfl rfl rfl hd_Judge_push ⟨Nat.le_of_ble_eq_true rfl, Nat.le_of_ble_eq_true rfl⟩) (xv_preV (T := TX3) (N := 6) hE hA hS hK hP hD (isC := [0, 3]) (by decide +kernel) hC (q0 := 0) (ci := 3) rfl rfl) rfl rfl hl.1 rfl (lv_room (Nat.le_of_ble_eq_true rfl)) (zdt zkX3_hear 190 rfl) ⟨Nat.le_refl _, Nat.le_refl _⟩) hP hD hS hA (by decide +kernel) rfl hC rfl rfl (fun H locs hP hD hS => ?_)
          refine lv_goto (tgt := 338) hx hb (zdt zkX3_hear 193 rfl) (by decide) ?_
          exact b_338 _ ih8 _ _ _ _ _ _ _ _ _ _ _ _ hf hP hD hS (lv_sub hl [2, 3, 4, 5, 6, 7] rfl)
        refine xz_if hf (fun hc hf => ?_) (fun hn11 hf => ?_)
        · refine xi_tin (tgt := 196) hx hb (zdt zkX3_hear 58 rfl) hc (by decide) (by decide) rfl (by decide) ?_
          refine lv_aload_n hx hb (zdt zkX3_hear 196 rfl) rfl (lv_at hl 2 rfl) ?_
          refine xe_d2 hf (fun v78 v79 hg hf => ?_)
          have hC : ([0, 3] : List Nat).map (fun i => (wd_Judge_hear cA q0 q1 q2 q3 q4 q5 q6 q7 q8 q9 q10 q11 q12 u0 u1 u2 u3 u4 i_words i_hill_orders i_piled i_tiring i_barred i_pile)[i]?) = (wd_Judge_pop cA q0 q1 q2 q3 i_tiring i_barred i_pile i_piled).map some := rfl
          refine xv_afterI (ws' := (wd_Judge_hear cA q0 q1 q2 q3 q4 q5 q6 q7 q8 q9 q10 q11 q12 u0 u1 u2 u3 u4 i_words i_hill_orders v79 i_tiring i_barred i_pile)) (isC := [0, 3]) (ps := [some 0, none, none, some 1, none]) (va_runV (As := []) (rest := []) ⟨hx, hb, hml, hown, hts⟩ (c_Judge_pop l ev dC dI cA q0 q1 q2 q3 i_tiring i_barred hg H.size) (cwV 0 hts (zgV zw_829 zw_831 zw_16 zw_108 zw_832) rfl rfl rfl hd_Judge_pop ⟨Nat.le_of_ble_eq_true rfl, Nat.le_of_ble_eq_true rfl⟩) (xv_preV (T := TX3) (N := 6) hE hA hS hK hP hD (isC := [0, 3]) (by decide +kernel) hC (q0 := 0) (ci := 3) rfl rfl) rfl rfl hl.1 rfl (lv_room (Nat.le_of_ble_eq_true rfl)) (zdt zkX3_hear 197 rfl) ⟨Nat.le_refl _, Nat.le_refl _⟩) hP hD hS hA (by decide +kernel) rfl hC rfl rfl (fun H locs hP hD hS => ?_)
          refine lv_istore (lv' := [(8, .int (Int32.ofInt v78)), (7, .int (Int32.ofInt v6)), (6, .int (Int32.ofInt v3)), (0, .ref q0), (1, .int (Int32.ofInt x1)), (2, .int (Int32.ofInt x2)), (3, .int (Int32.ofInt x3)), (4, .int (Int32.ofInt x4)), (5, .int (Int32.ofInt x5))]) hx hb (zdt zkX3_hear 200 rfl) hl (by decide) rfl (fun ls hl => ?_)
          refine lv_iload hx hb (zdt zkX3_hear 202 rfl) (lv_at hl 0 rfl) ?_
          refine lv_iload hx hb (zdt zkX3_hear 204 rfl) (lv_at hl 2 rfl) ?_
          refine lv_bipush (v := Int32.ofInt 12) hx hb (zdt zkX3_hear 206 rfl) (by decide) ?_
          refine xi_icmp_ne (tgt := 215) hx hb (zdt zkX3_hear 208 rfl) (by decide) hf (fun hf => ?_) (fun hf => ?_)
          · refine lv_iconst (v := Int32.ofInt 0) hx hb (zdt zkX3_hear 215 rfl) rfl ?_
            exact b_216 _ ih8 _ _ _ _ _ _ _ _ _ _ _ _ _ _ _ _ hf hP hD hS (lv_sub hl [3, 4, 5, 6, 7, 8, 1, 0] rfl)
          · refine lv_iconst (v := Int32.ofInt 1) hx hb (zdt zkX3_hear 211 rfl) rfl ?_
            refine lv_goto (tgt := 216) hx hb (zdt zkX3_hear 212 rfl) (by decide) ?_
            exact b_216 _ ih8 _ _ _ _ _ _ _ _ _ _ _ _ _ _ _ _ hf hP hD hS (lv_sub hl [3, 4, 5, 6, 7, 8, 1, 0] rfl)
        refine xz_if hf (fun hc hf => ?_) (fun hn12 hf => ?_)
        · refine xi_tin (tgt := 196) hx hb (zdt zkX3_hear 58 rfl) hc (by decide) (by decide) rfl (by decide) ?_
          refine lv_aload_n hx hb (zdt zkX3_hear 196 rfl) rfl (lv_at hl 2 rfl) ?_
          refine xe_d2 hf (fun v80 v81 hg hf => ?_)
          have hC : ([0, 3] : List Nat).map (fun i => (wd_Judge_hear cA q0 q1 q2 q3 q4 q5 q6 q7 q8 q9 q10 q11 q12 u0 u1 u2 u3 u4 i_words i_hill_orders i_piled i_tiring i_barred i_pile)[i]?) = (wd_Judge_pop cA q0 q1 q2 q3 i_tiring i_barred i_pile i_piled).map some := rfl
          refine xv_afterI (ws' := (wd_Judge_hear cA q0 q1 q2 q3 q4 q5 q6 q7 q8 q9 q10 q11 q12 u0 u1 u2 u3 u4 i_words i_hill_orders v81 i_tiring i_barred i_pile)) (isC := [0, 3]) (ps := [some 0, none, none, some 1, none]) (va_runV (As := []) (rest := []) ⟨hx, hb, hml, hown, hts⟩ (c_Judge_pop l ev dC dI cA q0 q1 q2 q3 i_tiring i_barred hg H.size) (cwV 0 hts (zgV zw_829 zw_831 zw_16 zw_108 zw_832) rfl rfl rfl hd_Judge_pop ⟨Nat.le_of_ble_eq_true rfl, Nat.le_of_ble_eq_true rfl⟩) (xv_preV (T := TX3) (N := 6) hE hA hS hK hP hD (isC := [0, 3]) (by decide +kernel) hC (q0 := 0) (ci := 3) rfl rfl) rfl rfl hl.1 rfl (lv_room (Nat.le_of_ble_eq_true rfl)) (zdt zkX3_hear 197 rfl) ⟨Nat.le_refl _, Nat.le_refl _⟩) hP hD hS hA (by decide +kernel) rfl hC rfl rfl (fun H locs hP hD hS => ?_)
          refine lv_istore (lv' := [(8, .int (Int32.ofInt v80)), (7, .int (Int32.ofInt v6)), (6, .int (Int32.ofInt v3)), (0, .ref q0), (1, .int (Int32.ofInt x1)), (2, .int (Int32.ofInt x2)), (3, .int (Int32.ofInt x3)), (4, .int (Int32.ofInt x4)), (5, .int (Int32.ofInt x5))]) hx hb (zdt zkX3_hear 200 rfl) hl (by decide) rfl (fun ls hl => ?_)
          refine lv_iload hx hb (zdt zkX3_hear 202 rfl) (lv_at hl 0 rfl) ?_
          refine lv_iload hx hb (zdt zkX3_hear 204 rfl) (lv_at hl 2 rfl) ?_
          refine lv_bipush (v := Int32.ofInt 12) hx hb (zdt zkX3_hear 206 rfl) (by decide) ?_
          refine xi_icmp_ne (tgt := 215) hx hb (zdt zkX3_hear 208 rfl) (by decide) hf (fun hf => ?_) (fun hf => ?_)
          · refine lv_iconst (v := Int32.ofInt 0) hx hb (zdt zkX3_hear 215 rfl) rfl ?_
            exact b_216 _ ih8 _ _ _ _ _ _ _ _ _ _ _ _ _ _ _ _ hf hP hD hS (lv_sub hl [3, 4, 5, 6, 7, 8, 1, 0] rfl)
          · refine lv_iconst (v := Int32.ofInt 1) hx hb (zdt zkX3_hear 211 rfl) rfl ?_
            refine lv_goto (tgt := 216) hx hb (zdt zkX3_hear 212 rfl) (by decide) ?_
            exact b_216 _ ih8 _ _ _ _ _ _ _ _ _ _ _ _ _ _ _ _ hf hP hD hS (lv_sub hl [3, 4, 5, 6, 7, 8, 1, 0] rfl)
        refine xz_if hf (fun hc hf => ?_) (fun hn13 hf => ?_)
        · refine xi_tin (tgt := 231) hx hb (zdt zkX3_hear 58 rfl) hc (by decide) (by decide) rfl (by decide) ?_
          refine lv_aload_n hx hb (zdt zkX3_hear 231 rfl) rfl (lv_at hl 2 rfl) ?_
          refine xe_d2 hf (fun v82 v83 hg hf => ?_)
          have hC : ([0, 3] : List Nat).map (fun i => (wd_Judge_hear cA q0 q1 q2 q3 q4 q5 q6 q7 q8 q9 q10 q11 q12 u0 u1 u2 u3 u4 i_words i_hill_orders i_piled i_tiring i_barred i_pile)[i]?) = (wd_Judge_pop cA q0 q1 q2 q3 i_tiring i_barred i_pile i_piled).map some := rfl
          refine xv_afterI (ws' := (wd_Judge_hear cA q0 q1 q2 q3 q4 q5 q6 q7 q8 q9 q10 q11 q12 u0 u1 u2 u3 u4 i_words i_hill_orders v83 i_tiring i_barred i_pile)) (isC := [0, 3]) (ps := [some 0, none, none, some 1, none]) (va_runV (As := []) (rest := []) ⟨hx, hb, hml, hown, hts⟩ (c_Judge_pop l ev dC dI cA q0 q1 q2 q3 i_tiring i_barred hg H.size) (cwV 0 hts (zgV zw_829 zw_831 zw_16 zw_108 zw_832) rfl rfl rfl hd_Judge_pop ⟨Nat.le_of_ble_eq_true rfl, Nat.le_of_ble_eq_true rfl⟩) (xv_preV (T := TX3) (N := 6) hE hA hS hK hP hD (isC := [0, 3]) (by decide +kernel) hC (q0 := 0) (ci := 3) rfl rfl) rfl rfl hl.1 rfl (lv_room (Nat.le_of_ble_eq_true rfl)) (zdt zkX3_hear 232 rfl) ⟨Nat.le_refl _, Nat.le_refl _⟩) hP hD hS hA (by decide +kernel) rfl hC rfl rfl (fun H locs hP hD hS => ?_)
          refine lv_istore (lv' := [(8, .int (Int32.ofInt v82)), (7, .int (Int32.ofInt v6)), (6, .int (Int32.ofInt v3)), (0, .ref q0), (1, .int (Int32.ofInt x1)), (2, .int (Int32.ofInt x2)), (3, .int (Int32.ofInt x3)), (4, .int (Int32.ofInt x4)), (5, .int (Int32.ofInt x5))]) hx hb (zdt zkX3_hear 235 rfl) hl (by decide) rfl (fun ls hl => ?_)
          refine lv_aload_n hx hb (zdt zkX3_hear 237 rfl) rfl (lv_at hl 3 rfl) ?_
          refine lv_iload hx hb (zdt zkX3_hear 238 rfl) (lv_at hl 0 rfl) ?_
          refine lv_iconst (v := Int32.ofInt 1) hx hb (zdt zkX3_hear 240 rfl) rfl ?_
          refine xi_icmp_ne (tgt := 260) hx hb (zdt zkX3_hear 241 rfl) (by decide) hf (fun hf => ?_) (fun hf => ?_)
          · refine lv_aload_n hx hb (zdt zkX3_hear 260 rfl) rfl (lv_at hl 3 rfl) ?_
            refine va_get (D := (dC, dI)) (ci := 3) (v := .int (Int32.ofInt i_tiring)) (C := RX3) (T := TX3) (N := 6) hx hb hz zi_X3 hown hK hP 0 rfl rfl 4 (by decide) (hz _ zw_283) (fun _ h9 => h9) rfl (zdt zkX3_hear 261 rfl) ?_
            exact b_264 _ ih8 _ _ _ _ _ _ _ _ _ _ _ _ _ hf hP hD hS (lv_sub hl [3, 4, 5, 6, 7, 8] rfl)
          · refine lv_iconst (v := Int32.ofInt 0) hx hb (zdt zkX3_hear 244 rfl) rfl ?_
            refine lv_bipush (v := Int32.ofInt 99) hx hb (zdt zkX3_hear 245 rfl) (by decide) ?_
            refine lv_aload_n hx hb (zdt zkX3_hear 247 rfl) rfl (lv_at hl 3 rfl) ?_
            refine xe_d2 hf (fun v84 v85 hg hf => ?_)
            have hC : ([0, 3] : List Nat).map (fun i => (wd_Judge_hear cA q0 q1 q2 q3 q4 q5 q6 q7 q8 q9 q10 q11 q12 u0 u1 u2 u3 u4 i_words i_hill_orders v83 i_tiring i_barred i_pile)[i]?) = (wd_Judge_pop cA q0 q1 q2 q3 i_tiring i_barred i_pile v83).map some := rfl
            refine xv_afterI (ws' := (wd_Judge_hear cA q0 q1 q2 q3 q4 q5 q6 q7 q8 q9 q10 q11 q12 u0 u1 u2 u3 u4 i_words i_hill_orders v85 i_tiring i_barred i_pile)) (isC := [0, 3]) (ps := [some 0, none, none, some 1, none]) (va_runV (As := []) (rest := [.int (Int32.ofInt 99), .int (Int32.ofInt 0), .ref q0]) ⟨hx, hb, hml, hown, hts⟩ (c_Judge_pop l ev dC dI cA q0 q1 q2 q3 i_tiring i_barred hg H.size) (cwV 0 hts (zgV zw_829 zw_831 zw_16 zw_108 zw_832) rfl rfl rfl hd_Judge_pop ⟨Nat.le_of_ble_eq_true rfl, Nat.le_of_ble_eq_true rfl⟩) (xv_preV (T := TX3) (N := 6) hE hA hS hK hP hD (isC := [0, 3]) (by decide +kernel) hC (q0 := 0) (ci := 3) rfl rfl) rfl rfl hl.1 rfl (lv_room (Nat.le_of_ble_eq_true rfl)) (zdt zkX3_hear 248 rfl) ⟨Nat.le_refl _, Nat.le_refl _⟩) hP hD hS hA (by decide +kernel) rfl hC rfl rfl (fun H locs hP hD hS => ?_)
            refine xi_mmin hx hb (hml.trans hl.1.symm) hown (hz _ zw_833) (hz _ zw_651) (hz _ zw_116) (hz _ zw_652) (Nat.le_of_ble_eq_true rfl) (Nat.le_of_ble_eq_true rfl) (Nat.zero_le _) (Nat.zero_le _) (zdt zkX3_hear 251 rfl) hf (fun v86 hf => ?_)
            refine xi_mmax hx hb (hml.trans hl.1.symm) hown (hz _ zw_834) (hz _ zw_654) (hz _ zw_116) (hz _ zw_655) (Nat.le_of_ble_eq_true rfl) (Nat.le_of_ble_eq_true rfl) (Nat.zero_le _) (Nat.zero_le _) (zdt zkX3_hear 254 rfl) hf (fun v87 hf => ?_)
            refine lv_goto (tgt := 264) hx hb (zdt zkX3_hear 257 rfl) (by decide) ?_
            exact b_264 _ ih8 _ _ _ _ _ _ _ _ _ _ _ _ _ hf hP hD hS (lv_sub hl [3, 4, 5, 6, 7, 8] rfl)
        refine xz_if hf (fun hc hf => ?_) (fun hn14 hf => ?_)
        · refine xi_tin (tgt := 270) hx hb (zdt zkX3_hear 58 rfl) hc (by decide) (by decide) rfl (by decide) ?_
          refine lv_aload_n hx hb (zdt zkX3_hear 270 rfl) rfl (lv_at hl 2 rfl) ?_
          refine lv_aload_n hx hb (zdt zkX3_hear 271 rfl) rfl (lv_at hl 2 rfl) ?_
          refine xe_d2 hf (fun v88 v89 hg hf => ?_)
          have hC : ([0, 3] : List Nat).map (fun i => (wd_Judge_hear cA q0 q1 q2 q3 q4 q5 q6 q7 q8 q9 q10 q11 q12 u0 u1 u2 u3 u4 i_words i_hill_orders i_piled i_tiring i_barred i_pile)[i]?) = (wd_Judge_pop cA q0 q1 q2 q3 i_tiring i_barred i_pile i_piled).map some := rfl
          refine xv_afterI (ws' := (wd_Judge_hear cA q0 q1 q2 q3 q4 q5 q6 q7 q8 q9 q10 q11 q12 u0 u1 u2 u3 u4 i_words i_hill_orders v89 i_tiring i_barred i_pile)) (isC := [0, 3]) (ps := [some 0, none, none, some 1, none]) (va_runV (As := []) (rest := [.ref q0]) ⟨hx, hb, hml, hown, hts⟩ (c_Judge_pop l ev dC dI cA q0 q1 q2 q3 i_tiring i_barred hg H.size) (cwV 0 hts (zgV zw_829 zw_831 zw_16 zw_108 zw_832) rfl rfl rfl hd_Judge_pop ⟨Nat.le_of_ble_eq_true rfl, Nat.le_of_ble_eq_true rfl⟩) (xv_preV (T := TX3) (N := 6) hE hA hS hK hP hD (isC := [0, 3]) (by decide +kernel) hC (q0 := 0) (ci := 3) rfl rfl) rfl rfl hl.1 rfl (lv_room (Nat.le_of_ble_eq_true rfl)) (zdt zkX3_hear 272 rfl) ⟨Nat.le_refl _, Nat.le_refl _⟩) hP hD hS hA (by decide +kernel) rfl hC rfl rfl (fun H locs hP hD hS => ?_)
          refine lv_iconst (v := Int32.ofInt 1) hx hb (zdt zkX3_hear 275 rfl) rfl ?_
          refine xi_icmp_eq (tgt := 286) hx hb (zdt zkX3_hear 276 rfl) (by decide) hf (fun hf => ?_) (fun hf => ?_)
          · exact b_286 _ ih8 _ _ _ _ _ _ _ _ _ _ _ _ hf hP hD hS (lv_sub hl [2, 3, 4, 5, 6, 7] rfl)
          · refine lv_aload_n hx hb (zdt zkX3_hear 279 rfl) rfl (lv_at hl 2 rfl) ?_
            refine va_get (D := (dC, dI)) (ci := 3) (v := .int (Int32.ofInt i_barred)) (C := RX3) (T := TX3) (N := 6) hx hb hz zi_X3 hown hK hP 0 rfl rfl 5 (by decide) (hz _ zw_284) (fun _ h9 => h9) rfl (zdt zkX3_hear 280 rfl) ?_
            refine xi_if_eq (tgt := 290) hx hb (zdt zkX3_hear 283 rfl) (by decide) hf (fun hf => ?_) (fun hf => ?_)
            · refine lv_iconst (v := Int32.ofInt 0) hx hb (zdt zkX3_hear 290 rfl) rfl ?_
              exact b_291 _ ih8 _ _ _ _ _ _ _ _ _ _ _ _ _ hf hP hD hS (lv_sub hl [2, 3, 4, 5, 6, 7] rfl)
            · exact b_286 _ ih8 _ _ _ _ _ _ _ _ _ _ _ _ hf hP hD hS (lv_sub hl [2, 3, 4, 5, 6, 7] rfl)
        refine xi_tout (tgt := 297) hx hb (zdt zkX3_hear 58 rfl) (by omega) (by decide) ?_
        refine lv_aload_n hx hb (zdt zkX3_hear 297 rfl) rfl (lv_at hl 2 rfl) ?_
        refine xe_d2 hf (fun v90 v91 hg hf => ?_)
        have hC : ([0, 3] : List Nat).map (fun i => (wd_Judge_hear cA q0 q1 q2 q3 q4 q5 q6 q7 q8 q9 q10 q11 q12 u0 u1 u2 u3 u4 i_words i_hill_orders i_piled i_tiring i_barred i_pile)[i]?) = (wd_Judge_pop cA q0 q1 q2 q3 i_tiring i_barred i_pile i_piled).map some := rfl
        refine xv_afterI (ws' := (wd_Judge_hear cA q0 q1 q2 q3 q4 q5 q6 q7 q8 q9 q10 q11 q12 u0 u1 u2 u3 u4 i_words i_hill_orders v91 i_tiring i_barred i_pile)) (isC := [0, 3]) (ps := [some 0, none, none, some 1, none]) (va_runV (As := []) (rest := []) ⟨hx, hb, hml, hown, hts⟩ (c_Judge_pop l ev dC dI cA q0 q1 q2 q3 i_tiring i_barred hg H.size) (cwV 0 hts (zgV zw_829 zw_831 zw_16 zw_108 zw_832) rfl rfl rfl hd_Judge_pop ⟨Nat.le_of_ble_eq_true rfl, Nat.le_of_ble_eq_true rfl⟩) (xv_preV (T := TX3) (N := 6) hE hA hS hK hP hD (isC := [0, 3]) (by decide +kernel) hC (q0 := 0) (ci := 3) rfl rfl) rfl rfl hl.1 rfl (lv_room (Nat.le_of_ble_eq_true rfl)) (zdt zkX3_hear 298 rfl) ⟨Nat.le_refl _, Nat.le_refl _⟩) hP hD hS hA (by decide +kernel) rfl hC rfl rfl (fun H locs hP hD hS => ?_)
        refine lv_istore (lv' := [(8, .int (Int32.ofInt v90)), (7, .int (Int32.ofInt v6)), (6, .int (Int32.ofInt v3)), (0, .ref q0), (1, .int (Int32.ofInt x1)), (2, .int (Int32.ofInt x2)), (3, .int (Int32.ofInt x3)), (4, .int (Int32.ofInt x4)), (5, .int (Int32.ofInt x5))]) hx hb (zdt zkX3_hear 301 rfl) hl (by decide) rfl (fun ls hl => ?_)
        refine lv_iload hx hb (zdt zkX3_hear 303 rfl) (lv_at hl 2 rfl) ?_
        refine lv_aload_n hx hb (zdt zkX3_hear 305 rfl) rfl (lv_at hl 3 rfl) ?_
        refine xe_d2 hf (fun v92 v93 hg hf => ?_)
        have hC : ([0, 3] : List Nat).map (fun i => (wd_Judge_hear cA q0 q1 q2 q3 q4 q5 q6 q7 q8 q9 q10 q11 q12 u0 u1 u2 u3 u4 i_words i_hill_orders v91 i_tiring i_barred i_pile)[i]?) = (wd_Judge_pop cA q0 q1 q2 q3 i_tiring i_barred i_pile v91).map some := rfl
        refine xv_afterI (ws' := (wd_Judge_hear cA q0 q1 q2 q3 q4 q5 q6 q7 q8 q9 q10 q11 q12 u0 u1 u2 u3 u4 i_words i_hill_orders v93 i_tiring i_barred i_pile)) (isC := [0, 3]) (ps := [some 0, none, none, some 1, none]) (va_runV (As := []) (rest := [.int (Int32.ofInt v3)]) ⟨hx, hb, hml, hown, hts⟩ (c_Judge_pop l ev dC dI cA q0 q1 q2 q3 i_tiring i_barred hg H.size) (cwV 0 hts (zgV zw_829 zw_831 zw_16 zw_108 zw_832) rfl rfl rfl hd_Judge_pop ⟨Nat.le_of_ble_eq_true rfl, Nat.le_of_ble_eq_true rfl⟩) (xv_preV (T := TX3) (N := 6) hE hA hS hK hP hD (isC := [0, 3]) (by decide +kernel) hC (q0 := 0) (ci := 3) rfl rfl) rfl rfl hl.1 rfl (lv_room (Nat.le_of_ble_eq_true rfl)) (zdt zkX3_hear 306 rfl) ⟨Nat.le_refl _, Nat.le_refl _⟩) hP hD hS hA (by decide +kernel) rfl hC rfl rfl (fun H locs hP hD hS => ?_)
        refine xi_i2l hx hb (zdt zkX3_hear 309 rfl) hf (fun v94 hf => ?_)
        refine lv_iload hx hb (zdt zkX3_hear 310 rfl) (lv_at hl 0 rfl) ?_
        refine xi_i2l hx hb (zdt zkX3_hear 312 rfl) hf (fun v95 hf => ?_)
        refine xe_d1 hf (fun v96 hg hf => ?_)
        have hC : ([] : List Nat).map (fun i => (wd_Judge_hear cA q0 q1 q2 q3 q4 q5 q6 q7 q8 q9 q10 q11 q12 u0 u1 u2 u3 u4 i_words i_hill_orders v93 i_tiring i_barred i_pile)[i]?) = (wd_Judge_worked cA).map some := rfl
        refine xv_afterI (ws' := (wd_Judge_hear cA q0 q1 q2 q3 q4 q5 q6 q7 q8 q9 q10 q11 q12 u0 u1 u2 u3 u4 i_words i_hill_orders v93 i_tiring i_barred i_pile)) (isC := []) (ps := [none, none, none, none, none]) (va_runS (As := [.int (Int32.ofInt v3), .long (Int64.ofInt v94), .long (Int64.ofInt v95)]) (rest := []) ⟨hx, hb, hml, hown, hts⟩ (c_Judge_worked l ev dC dI cA hg H.size) (va_cwS 3 hts (zgS zw_835 zw_836 zw_108 zw_837) rfl rfl rfl hd_Judge_worked.2 ⟨Nat.le_of_ble_eq_true rfl, Nat.le_of_ble_eq_true rfl⟩) (xv_preS hE hA hS hK hP hD (isC := []) (by decide +kernel) hC) rfl rfl hl.1 rfl (lv_room (Nat.le_of_ble_eq_true rfl)) (zdt zkX3_hear 313 rfl) ⟨Nat.le_refl _, Nat.le_refl _⟩) hP hD hS hA (by decide +kernel) rfl hC rfl rfl (fun H locs hP hD hS => ?_)
        refine lv_istore (lv' := [(8, .int (Int32.ofInt v96)), (7, .int (Int32.ofInt v6)), (6, .int (Int32.ofInt v3)), (0, .ref q0), (1, .int (Int32.ofInt x1)), (2, .int (Int32.ofInt x2)), (3, .int (Int32.ofInt x3)), (4, .int (Int32.ofInt x4)), (5, .int (Int32.ofInt x5))]) hx hb (zdt zkX3_hear 316 rfl) hl (by decide) rfl (fun ls hl => ?_)
        refine lv_aload_n hx hb (zdt zkX3_hear 318 rfl) rfl (lv_at hl 3 rfl) ?_
        refine lv_iload hx hb (zdt zkX3_hear 319 rfl) (lv_at hl 0 rfl) ?_
        refine xe_d2 hf (fun v97 a98 hg hf => ?_)
        have hC : ([0, 3] : List Nat).map (fun i => (wd_Judge_hear cA q0 q1 q2 q3 q4 q5 q6 q7 q8 q9 q10 q11 q12 u0 u1 u2 u3 u4 i_words i_hill_orders v93 i_tiring i_barred i_pile)[i]?) = (wd_Judge_push cA q0 q1 q2 q3 i_tiring i_barred v93 i_pile).map some := rfl
        refine xv_afterV (ws' := (wd_Judge_hear cA q0 q1 q2 q3 q4 q5 q6 q7 q8 q9 q10 q11 q12 u0 u1 u2 u3 u4 i_words i_hill_orders v97 i_tiring i_barred a98)) (isC := [0, 3]) (ps := [some 0, none, none, some 1, none]) (va_runV (As := [.int (Int32.ofInt v96)]) (rest := []) ⟨hx, hb, hml, hown, hts⟩ (c_Judge_push l ev dC dI cA q0 q1 q2 q3 i_tiring i_barred hg H.size) (cwV 1 hts (zgV zw_825 zw_827 zw_15 zw_108 zw_828) rfl rfl rfl hd_Judge_push ⟨Nat.le_of_ble_eq_true rfl, Nat.le_of_ble_eq_true rfl⟩) (xv_preV (T := TX3) (N := 6) hE hA hS hK hP hD (isC := [0, 3]) (by decide +kernel) hC (q0 := 0) (ci := 3) rfl rfl) rfl rfl hl.1 rfl (lv_room (Nat.le_of_ble_eq_true rfl)) (zdt zkX3_hear 321 rfl) ⟨Nat.le_refl _, Nat.le_refl _⟩) hP hD hS hA (by decide +kernel) rfl hC rfl rfl (fun H locs hP hD hS => ?_)
        refine lv_iload hx hb (zdt zkX3_hear 324 rfl) (lv_at hl 0 rfl) ?_
        refine lv_ldc (v := Int32.ofInt (-2000000000)) hx hb hown (hz _ zw_838) (zdt zkX3_hear 326 rfl) ?_
        refine xi_icmp_ne (tgt := 336) hx hb (zdt zkX3_hear 328 rfl) (by decide) hf (fun hf => ?_) (fun hf => ?_)
        · refine lv_iload_n hx hb (zdt zkX3_hear 336 rfl) rfl (lv_at hl 6 rfl) ?_
          exact b_337 _ ih8 _ _ _ _ _ _ _ _ _ _ _ _ hf hP hD hS (lv_sub hl [3, 4, 5, 7, 8] rfl)
        · refine lv_iload hx hb (zdt zkX3_hear 331 rfl) (lv_at hl 7 rfl) ?_
          refine lv_goto (tgt := 337) hx hb (zdt zkX3_hear 333 rfl) (by decide) ?_
          exact b_337 _ ih8 _ _ _ _ _ _ _ _ _ _ _ _ hf hP hD hS (lv_sub hl [3, 4, 5, 7, 8] rfl)
      · refine lv_goto (tgt := 338) hx hb (zdt zkX3_hear 20 rfl) (by decide) ?_
        exact b_338 _ ih8 _ _ _ _ _ _ _ _ _ _ _ _ hf hP hD hS (lv_sub hl [0, 1, 2, 3, 4, 5] rfl)
  have l_8 : ∀ (n : Nat), ∀ (x1 : Int) (x2 : Int) (x3 : Int) (x4 : Int) (x5 : Int) (i_piled : Int) (i_tiring : Int) (i_barred : Int) (i_pile : Nat → Int) (H : Heap) (locs : List Loc) (ls : Array Slot), f_Judge_hear_8 i_words i_hill_orders n x1 x2 x3 x4 x5 i_piled i_tiring i_barred i_pile = some out → va_P (dC, dI) vwCl (wd_Judge_hear cA q0 q1 q2 q3 q4 q5 q6 q7 q8 q9 q10 q11 q12 u0 u1 u2 u3 u4 i_words i_hill_orders i_piled i_tiring i_barred i_pile) H → va_D A (wd_Judge_hear cA q0 q1 q2 q3 q4 q5 q6 q7 q8 q9 q10 q11 q12 u0 u1 u2 u3 u4 i_words i_hill_orders i_piled i_tiring i_barred i_pile) → va_S A s.heap H locs → lv_has ls 9 [(0, .ref q0), (1, .int (Int32.ofInt x1)), (2, .int (Int32.ofInt x2)), (3, .int (Int32.ofInt x3)), (4, .int (Int32.ofInt x4)), (5, .int (Int32.ofInt x5))] → W p l e rm_Judge_hear s m args below meth c H locs 0 0 Q (F0 m 8 ls []) := by
    intro n
    induction n with
    | zero => intro x1 x2 x3 x4 x5 i_piled i_tiring i_barred i_pile H locs ls hf hP hD hS hl; exact nomatch hf
    | succ n ih => intro x1 x2 x3 x4 x5 i_piled i_tiring i_barred i_pile H locs ls hf hP hD hS hl; exact b_8 (f_Judge_hear_8 i_words i_hill_orders n) ih x1 x2 x3 x4 x5 i_piled i_tiring i_barred i_pile H locs ls hf hP hD hS hl
  unfold f_Judge_hear at hf
  refine lv_iconst (v := Int32.ofInt 0) hx hb (zdt zkX3_hear 0 rfl) rfl ?_
  refine lv_istore_n (lv' := [(3, .int (Int32.ofInt 0)), (0, .ref q0), (1, .int (Int32.ofInt x1)), (2, .int (Int32.ofInt x2))]) hx hb (zdt zkX3_hear 1 rfl) rfl hl (by decide) rfl (fun ls hl => ?_)
  refine lv_iconst (v := Int32.ofInt 0) hx hb (zdt zkX3_hear 2 rfl) rfl ?_
  refine lv_istore (lv' := [(4, .int (Int32.ofInt 0)), (3, .int (Int32.ofInt 0)), (0, .ref q0), (1, .int (Int32.ofInt x1)), (2, .int (Int32.ofInt x2))]) hx hb (zdt zkX3_hear 3 rfl) hl (by decide) rfl (fun ls hl => ?_)
  refine lv_iconst (v := Int32.ofInt 0) hx hb (zdt zkX3_hear 5 rfl) rfl ?_
  refine lv_istore (lv' := [(5, .int (Int32.ofInt 0)), (4, .int (Int32.ofInt 0)), (3, .int (Int32.ofInt 0)), (0, .ref q0), (1, .int (Int32.ofInt x1)), (2, .int (Int32.ofInt x2))]) hx hb (zdt zkX3_hear 6 rfl) hl (by decide) rfl (fun ls hl => ?_)
  exact l_8  _ _ _ _ _ _ _ _ _ _ _ _ _ hf hP hD hS (lv_sub hl [3, 4, 5, 2, 1, 0] rfl)
end
section
set_option maxRecDepth 100000 in
noncomputable def ztX3_effort (p : Nat) : Option (Jvm.ClassFile.Instr × Nat) := bif Nat.ble 101 p then (bif Nat.ble 143 p then (bif Nat.ble 168 p then (bif Nat.ble 183 p then (bif Nat.ble 190 p then (bif Nat.ble 194 p then (bif Nat.ble 197 p then (bif Nat.beq p 197 then some (.ireturn, 1) else none) else (bif Nat.beq p 194 then some (.getfield 22, 3) else none)) else (bif Nat.ble 193 p then (bif Nat.beq p 193 then some (.aload_n 0, 1) else none) else (bif Nat.beq p 190 then some (.goto 7, 3) else none))) else (bif Nat.ble 186 p then (bif Nat.ble 189 p then (bif Nat.beq p 189 then some (.iconst (-1), 1) else none) else (bif Nat.beq p 186 then some (.ifCond .eq 7, 3) else none)) else (bif Nat.beq p 183 then some (.getfield 25, 3) else none))) else (bif Nat.ble 175 p then (bif Nat.ble 179 p then (bif Nat.ble 182 p then (bif Nat.beq p 182 then some (.aload_n 0, 1) else none) else (bif Nat.beq p 179 then some (.invokevirtual 74, 3) else none)) else (bif Nat.ble 178 p then (bif Nat.beq p 178 then some (.iaload, 1) else none) else (bif Nat.beq p 175 then some (.getfield 57, 3) else none))) else (bif Nat.ble 171 p then (bif Nat.ble 172 p then (bif Nat.beq p 172 then some (.getfield 29, 3) else none) else (bif Nat.beq p 171 then some (.aload_n 0, 1) else none)) else (bif Nat.beq p 168 then some (.getfield 71, 3) else none)))) else (bif Nat.ble 153 p then (bif Nat.ble 160 p then (bif Nat.ble 164 p then (bif Nat.ble 165 p then (bif Nat.beq p 165 then some (.getfield 29, 3) else none) else (bif Nat.beq p 164 then some (.aload_n 0, 1) else none)) else (bif Nat.ble 163 p then (bif Nat.beq p 163 then some (.imul, 1) else none) else (bif Nat.beq p 160 then some (.sipush 424, 3) else none))) else (bif Nat.ble 154 p then (bif Nat.ble 157 p then (bif Nat.beq p 157 then some (.getfield 57, 3) else none) else (bif Nat.beq p 154 then some (.getfield 29, 3) else none)) else (bif Nat.beq p 153 then some (.aload_n 0, 1) else none))) else (bif Nat.ble 150 p then (bif Nat.ble 151 p then (bif Nat.ble 152 p then (bif Nat.beq p 152 then some (.aload_n 0, 1) else none) else (bif Nat.beq p 151 then some (.iastore, 1) else none)) else (bif Nat.beq p 150 then some (.iaload, 1) else none)) else (bif Nat.ble 146 p then (bif Nat.ble 149 p then (bif Nat.beq p 149 then some (.iconst 0, 1) else none) else (bif Nat.beq p 146 then some (.getfield 66, 3) else none)) else (bif Nat.beq p 143 then some (.getfield 29, 3) else none))))) else (bif Nat.ble 119 p then (bif Nat.ble 131 p then (bif Nat.ble 136 p then (bif Nat.ble 140 p then (bif Nat.ble 142 p then (bif Nat.beq p 142 then some (.aload_n 0, 1) else none) else (bif Nat.beq p 140 then some (.bipush 7, 2) else none)) else (bif Nat.ble 137 p then (bif Nat.beq p 137 then some (.getfield 11, 3) else none) else (bif Nat.beq p 136 then some (.aload_n 0, 1) else none))) else (bif Nat.ble 133 p then (bif Nat.ble 135 p then (bif Nat.beq p 135 then some (.iastore, 1) else none) else (bif Nat.beq p 133 then some (.iload 6, 2) else none)) else (bif Nat.beq p 131 then some (.bipush 6, 2) else none))) else (bif Nat.ble 124 p then (bif Nat.ble 127 p then (bif Nat.ble 128 p then (bif Nat.beq p 128 then some (.getfield 11, 3) else none) else (bif Nat.beq p 127 then some (.aload_n 0, 1) else none)) else (bif Nat.ble 126 p then (bif Nat.beq p 126 then some (.iastore, 1) else none) else (bif Nat.beq p 124 then some (.iload 5, 2) else none))) else (bif Nat.ble 120 p then (bif Nat.ble 123 p then (bif Nat.beq p 123 then some (.iconst 5, 1) else none) else (bif Nat.beq p 120 then some (.getfield 11, 3) else none)) else (bif Nat.beq p 119 then some (.aload_n 0, 1) else none)))) else (bif Nat.ble 110 p then (bif Nat.ble 113 p then (bif Nat.ble 117 p then (bif Nat.ble 118 p then (bif Nat.beq p 118 then some (.iastore, 1) else none) else (bif Nat.beq p 117 then some (.iload_n 3, 1) else none)) else (bif Nat.ble 116 p then (bif Nat.beq p 116 then some (.iconst 4, 1) else none) else (bif Nat.beq p 113 then some (.getfield 11, 3) else none))) else (bif Nat.ble 111 p then (bif Nat.ble 112 p then (bif Nat.beq p 112 then some (.aload_n 0, 1) else none) else (bif Nat.beq p 111 then some (.iastore, 1) else none)) else (bif Nat.beq p 110 then some (.iload_n 2, 1) else none))) else (bif Nat.ble 105 p then (bif Nat.ble 106 p then (bif Nat.ble 109 p then (bif Nat.beq p 109 then some (.iconst 3, 1) else none) else (bif Nat.beq p 106 then some (.getfield 11, 3) else none)) else (bif Nat.beq p 105 then some (.aload_n 0, 1) else none)) else (bif Nat.ble 102 p then (bif Nat.ble 104 p then (bif Nat.beq p 104 then some (.iastore, 1) else none) else (bif Nat.beq p 102 then some (.iload 4, 2) else none)) else (bif Nat.beq p 101 then some (.iconst 2, 1) else none)))))) else (bif Nat.ble 48 p then (bif Nat.ble 79 p then (bif Nat.ble 88 p then (bif Nat.ble 95 p then (bif Nat.ble 97 p then (bif Nat.ble 98 p then (bif Nat.beq p 98 then some (.getfield 11, 3) else none) else (bif Nat.beq p 97 then some (.aload_n 0, 1) else none)) else (bif Nat.ble 96 p then (bif Nat.beq p 96 then some (.iastore, 1) else none) else (bif Nat.beq p 95 then some (.iaload, 1) else none))) else (bif Nat.ble 91 p then (bif Nat.ble 94 p then (bif Nat.beq p 94 then some (.iload_n 1, 1) else none) else (bif Nat.beq p 91 then some (.getfield 63, 3) else none)) else (bif Nat.beq p 88 then some (.getfield 29, 3) else none))) else (bif Nat.ble 82 p then (bif Nat.ble 86 p then (bif Nat.ble 87 p then (bif Nat.beq p 87 then some (.aload_n 0, 1) else none) else (bif Nat.beq p 86 then some (.iconst 1, 1) else none)) else (bif Nat.ble 83 p then (bif Nat.beq p 83 then some (.getfield 11, 3) else none) else (bif Nat.beq p 82 then some (.aload_n 0, 1) else none))) else (bif Nat.ble 80 p then (bif Nat.ble 81 p then (bif Nat.beq p 81 then some (.iastore, 1) else none) else (bif Nat.beq p 80 then some (.iload_n 1, 1) else none)) else (bif Nat.beq p 79 then some (.iconst 0, 1) else none)))) else (bif Nat.ble 62 p then (bif Nat.ble 69 p then (bif Nat.ble 75 p then (bif Nat.ble 76 p then (bif Nat.beq p 76 then some (.getfield 11, 3) else none) else (bif Nat.beq p 75 then some (.aload_n 0, 1) else none)) else (bif Nat.ble 72 p then (bif Nat.beq p 72 then some (.if_icmp .ge 110, 3) else none) else (bif Nat.beq p 69 then some (.getfield 60, 3) else none))) else (bif Nat.ble 65 p then (bif Nat.ble 66 p then (bif Nat.beq p 66 then some (.getfield 29, 3) else none) else (bif Nat.beq p 65 then some (.aload_n 0, 1) else none)) else (bif Nat.beq p 62 then some (.getfield 57, 3) else none))) else (bif Nat.ble 55 p then (bif Nat.ble 58 p then (bif Nat.ble 59 p then (bif Nat.beq p 59 then some (.getfield 29, 3) else none) else (bif Nat.beq p 58 then some (.aload_n 0, 1) else none)) else (bif Nat.beq p 55 then some (.ifCond .lt 127, 3) else none)) else (bif Nat.ble 49 p then (bif Nat.ble 52 p then (bif Nat.beq p 52 then some (.getfield 57, 3) else none) else (bif Nat.beq p 49 then some (.getfield 29, 3) else none)) else (bif Nat.beq p 48 then some (.aload_n 0, 1) else none))))) else (bif Nat.ble 25 p then (bif Nat.ble 35 p then (bif Nat.ble 40 p then (bif Nat.ble 44 p then (bif Nat.ble 45 p then (bif Nat.beq p 45 then some (.putfield 25, 3) else none) else (bif Nat.beq p 44 then some (.iconst 0, 1) else none)) else (bif Nat.ble 43 p then (bif Nat.beq p 43 then some (.aload_n 0, 1) else none) else (bif Nat.beq p 40 then some (.putfield 22, 3) else none))) else (bif Nat.ble 36 p then (bif Nat.ble 37 p then (bif Nat.beq p 37 then some (.invokestatic 52, 3) else none) else (bif Nat.beq p 36 then some (.isub, 1) else none)) else (bif Nat.beq p 35 then some (.iload_n 3, 1) else none))) else (bif Nat.ble 32 p then (bif Nat.ble 33 p then (bif Nat.ble 34 p then (bif Nat.beq p 34 then some (.iload_n 2, 1) else none) else (bif Nat.beq p 33 then some (.aload_n 0, 1) else none)) else (bif Nat.beq p 32 then some (.ireturn, 1) else none)) else (bif Nat.ble 28 p then (bif Nat.ble 31 p then (bif Nat.beq p 31 then some (.iconst (-1), 1) else none) else (bif Nat.beq p 28 then some (.ifCond .ne 5, 3) else none)) else (bif Nat.beq p 25 then some (.invokevirtual 46, 3) else none)))) else (bif Nat.ble 13 p then (bif Nat.ble 18 p then (bif Nat.ble 22 p then (bif Nat.ble 23 p then (bif Nat.beq p 23 then some (.iload 4, 2) else none) else (bif Nat.beq p 22 then some (.iload_n 1, 1) else none)) else (bif Nat.ble 19 p then (bif Nat.beq p 19 then some (.getfield 29, 3) else none) else (bif Nat.beq p 18 then some (.aload_n 0, 1) else none))) else (bif Nat.ble 14 p then (bif Nat.ble 15 p then (bif Nat.beq p 15 then some (.if_icmp .eq 16, 3) else none) else (bif Nat.beq p 14 then some (.iload_n 3, 1) else none)) else (bif Nat.beq p 13 then some (.iload_n 2, 1) else none))) else (bif Nat.ble 6 p then (bif Nat.ble 8 p then (bif Nat.ble 10 p then (bif Nat.beq p 10 then some (.if_icmp .ge 21, 3) else none) else (bif Nat.beq p 8 then some (.bipush 10, 2) else none)) else (bif Nat.beq p 6 then some (.iload 6, 2) else none)) else (bif Nat.ble 2 p then (bif Nat.ble 3 p then (bif Nat.beq p 3 then some (.if_icmp .lt 28, 3) else none) else (bif Nat.beq p 2 then some (.iconst 1, 1) else none)) else (bif Nat.beq p 0 then some (.iload 5, 2) else none))))))
set_option maxRecDepth 100000 in
theorem zkX3_effort : (zbig cX3_effort.data.toList = 456056422021462277085933477312611795903137706882530196310262185715196770066685011793110329846689201482288090288921084084961471373890865399885932648769481366869627999733825621407270894746860353535369216964541420626519925832675612959738650945613678930878284933864148058081707253526513395390901974895529332413167339442308932297733128449292925920255075840771411016305423993393414426240753986737110169211624522796338554719603388875727969345054095600313683788719166667440988814050581 ∧ cX3_effort.data.toList.length = 198) ∧ zdk cX3_effort 456056422021462277085933477312611795903137706882530196310262185715196770066685011793110329846689201482288090288921084084961471373890865399885932648769481366869627999733825621407270894746860353535369216964541420626519925832675612959738650945613678930878284933864148058081707253526513395390901974895529332413167339442308932297733128449292925920255075840771411016305423993393414426240753986737110169211624522796338554719603388875727969345054095600313683788719166667440988814050581 198 ztX3_effort 197 = true := by decide +kernel
theorem zw_14 : (Jvm.Cond.selects "HillSchool$Judge" ({ cls := "HillSchool$Judge", name := "hear", desc := "(II)V" } : Jvm.MethodName) ({ cls := "HillSchool$Judge", name := "hear", desc := "(II)V" } : Jvm.MethodName)) ∈ zall := zmemG (zmj_0 14 rfl) rfl
theorem zw_178 : (Jvm.Cond.fieldLinkNest "HillSchool$Judge" (63 : Nat) "HillSchool$Hill" "strengths" "[I" "HillSchool") ∈ znest := zmemH (zmj_1 75 rfl) rfl
theorem zw_190 : (Jvm.Cond.fieldLinkNest "HillSchool$Judge" (66 : Nat) "HillSchool$Hill" "terms" "[I" "HillSchool") ∈ znest := zmemH (zmj_1 87 rfl) rfl
theorem zw_197 : (Jvm.Cond.fieldLinkNest "HillSchool$Judge" (60 : Nat) "HillSchool$Hill" "laws" "I" "HillSchool") ∈ znest := zmemH (zmj_1 94 rfl) rfl
theorem zw_202 : (Jvm.Cond.fieldLinkNest "HillSchool$Judge" (71 : Nat) "HillSchool$Hill" "ordered" "[I" "HillSchool") ∈ znest := zmemH (zmj_1 99 rfl) rfl
theorem zw_204 : (Jvm.Cond.fieldLinkNest "HillSchool$Judge" (57 : Nat) "HillSchool$Hill" "inForce" "I" "HillSchool") ∈ znest := zmemH (zmj_1 101 rfl) rfl
theorem zw_812 : (Jvm.Cond.code ({ cls := "HillSchool$Judge", name := "effort", desc := "(IIIIII)I" } : Jvm.MethodName) prog_5_method_3_code (7 : Nat) (Option.some Jvm.ClassFile.FieldType.int)) ∈ zall := zmemG (zmj_3 229 rfl) rfl
theorem zw_813 : (Jvm.Cond.methodLink "HillSchool$Judge" (46 : Nat) ({ cls := "HillSchool$Hill", name := "isAble", desc := "(II)Z" } : Jvm.MethodName)) ∈ zall := zmemG (zmj_3 230 rfl) rfl
theorem zw_814 : (Jvm.Cond.instanceMethod ({ cls := "HillSchool$Hill", name := "isAble", desc := "(II)Z" } : Jvm.MethodName)) ∈ zall := zmemG (zmj_3 231 rfl) rfl
theorem zw_815 : (Jvm.Cond.selects "HillSchool$Hill" ({ cls := "HillSchool$Hill", name := "isAble", desc := "(II)Z" } : Jvm.MethodName) ({ cls := "HillSchool$Hill", name := "isAble", desc := "(II)Z" } : Jvm.MethodName)) ∈ zall := zmemG (zmj_3 232 rfl) rfl
theorem zw_818 : (Jvm.Cond.methodLink "HillSchool$Judge" (52 : Nat) ({ cls := "java/lang/Math", name := "abs", desc := "(I)I" } : Jvm.MethodName)) ∈ zall := zmemG (zmj_3 235 rfl) rfl
theorem zw_819 : (Jvm.Cond.static ({ cls := "java/lang/Math", name := "abs", desc := "(I)I" } : Jvm.MethodName)) ∈ zall := zmemG (zmj_3 236 rfl) rfl
theorem zw_820 : (Jvm.Cond.code ({ cls := "java/lang/Math", name := "abs", desc := "(I)I" } : Jvm.MethodName) prog_15_method_59_code (1 : Nat) (Option.some Jvm.ClassFile.FieldType.int)) ∈ zall := zmemG (zmj_3 237 rfl) rfl
theorem zw_821 : (Jvm.Cond.methodLink "HillSchool$Judge" (74 : Nat) ({ cls := "HillSchool$Judge", name := "hear", desc := "(II)V" } : Jvm.MethodName)) ∈ zall := zmemG (zmj_3 238 rfl) rfl
theorem zw_823 : (Jvm.Cond.instanceMethod ({ cls := "HillSchool$Judge", name := "hear", desc := "(II)V" } : Jvm.MethodName)) ∈ zall := zmemG (zmj_4 0 rfl) rfl
noncomputable abbrev w_Judge_effort : List Cond := .code yX3_effort cX3_effort 7 (some .int) :: zall
noncomputable abbrev rm_Judge_effort : Room := { frames := 3, cells := 0, slots := 0, locals := 88 }
theorem hd_Judge_effort : yX3_effort.cls = "HillSchool$Judge" ∧ yX3_effort.cls ≠ "java/lang/invoke/MethodHandle" ∧ yX3_effort.cls ≠ "java/lang/invoke/VarHandle" ∧ (parseMethodDescriptor yX3_effort.desc).map (fun d => d.parameters.length) = some 6 := by decide +kernel
noncomputable def wd_Judge_effort (cA : Nat → ClassId) (q0 q1 q2 q3 q4 q5 q6 q7 q8 q9 q10 q11 q12 : Nat) (u0 u1 : Int) (i_hill_children : Int) (i_hill_laws : Int) (i_hill_inForce : Int) (i_hill_strengths : Nat → Int) (i_hill_expelled : Nat → Int) (i_hill_terms : Nat → Int) (i_hill_orders : Nat → Int) (i_hill_ordered : Nat → Int) (i_piled : Int) (i_tiring : Int) (i_barred : Int) (i_words : Nat → Int) (i_pile : Nat → Int) : va_W := [(q0, .inr (3, [.ref q1, .ref q2, .ref q3, .int (Int32.ofInt i_piled), .int (Int32.ofInt i_tiring), .int (Int32.ofInt i_barred)])), (q1, .inr (2, [.ref q4, .int (Int32.ofInt i_hill_children), .ref q5, .ref q6, .ref q7, .int (Int32.ofInt u0), .ref q8, .ref q9, .ref q10, .int (Int32.ofInt i_hill_laws), .ref q11, .ref q12, .int (Int32.ofInt i_hill_inForce), .int (Int32.ofInt u1)])), (q2, .inl (cA 0, 8, .inl (za i_words))), (q3, .inl (cA 0, 32, .inl (za i_pile))), (q5, .inl (cA 0, 6, .inl (za i_hill_strengths))), (q6, .inl (cA 0, 6, .inl (za i_hill_expelled))), (q9, .inl (cA 0, 4, .inl (za i_hill_terms))), (q11, .inl (cA 0, 2544, .inl (za i_hill_orders))), (q12, .inl (cA 0, 6, .inl (za i_hill_ordered)))]
noncomputable def wf_Judge_effort (cA : Nat → ClassId) (q0 q1 q2 q3 q4 q5 q6 q7 q8 q9 q10 q11 q12 : Nat) (u0 u1 : Int) (i_hill_children : Int) (i_hill_laws : Int) (i_hill_inForce : Int) (i_hill_strengths : Nat → Int) (i_hill_expelled : Nat → Int) (i_hill_terms : Nat → Int) (i_hill_orders : Nat → Int) (i_hill_ordered : Nat → Int) (o : Int × Int × Int × Int × (Nat → Int) × (Nat → Int)) : va_W := wd_Judge_effort cA q0 q1 q2 q3 q4 q5 q6 q7 q8 q9 q10 q11 q12 u0 u1 i_hill_children i_hill_laws i_hill_inForce i_hill_strengths i_hill_expelled i_hill_terms i_hill_orders i_hill_ordered o.2.1 o.2.2.1 o.2.2.2.1 o.2.2.2.2.1 o.2.2.2.2.2
noncomputable def f_Judge_effort_182 (i_hill_children : Int) (i_hill_laws : Int) (i_hill_inForce : Int) (i_hill_strengths : Nat → Int) (i_hill_expelled : Nat → Int) (i_hill_terms : Nat → Int) (i_hill_orders : Nat → Int) (i_hill_ordered : Nat → Int) (i_piled : Int) (i_tiring : Int) (i_barred : Int) (i_words : Nat → Int) (i_pile : Nat → Int) : Option (Int × Int × Int × Int × (Nat → Int) × (Nat → Int)) :=
  if zi_w i_barred = 0 then
    some (i_tiring, i_piled, i_tiring, i_barred, i_words, i_pile)
  else
    some ((-1), i_piled, i_tiring, i_barred, i_words, i_pile)
noncomputable def f_Judge_effort (x1 : Int) (x2 : Int) (x3 : Int) (x4 : Int) (x5 : Int) (x6 : Int) (i_hill_children : Int) (i_hill_laws : Int) (i_hill_inForce : Int) (i_hill_strengths : Nat → Int) (i_hill_expelled : Nat → Int) (i_hill_terms : Nat → Int) (i_hill_orders : Nat → Int) (i_hill_ordered : Nat → Int) (i_piled : Int) (i_tiring : Int) (i_barred : Int) (i_words : Nat → Int) (i_pile : Nat → Int) : Option (Int × Int × Int × Int × (Nat → Int) × (Nat → Int)) :=
  if zi_w x5 < zi_w 1 then
    some ((-1), i_piled, i_tiring, i_barred, i_words, i_pile)
  else
    if zi_w 10 ≤ zi_w x6 then
      some ((-1), i_piled, i_tiring, i_barred, i_words, i_pile)
    else
      if zi_w x2 = zi_w x3 then
        some ((-1), i_piled, i_tiring, i_barred, i_words, i_pile)
      else
        zd1 (f_Hill_isAble x1 x4 i_hill_children i_hill_strengths i_hill_expelled) fun v1 =>
        if zi_w v1 ≠ 0 then
          zn (x2 - x3) fun v2 =>
          zn (zi_abs v2) fun v3 =>
          if zi_w i_hill_inForce < 0 then
            f_Judge_effort_182 i_hill_children i_hill_laws i_hill_inForce i_hill_strengths i_hill_expelled i_hill_terms i_hill_orders i_hill_ordered i_piled v3 0 i_words i_pile
          else
            if zi_w i_hill_laws ≤ zi_w i_hill_inForce then
              f_Judge_effort_182 i_hill_children i_hill_laws i_hill_inForce i_hill_strengths i_hill_expelled i_hill_terms i_hill_orders i_hill_ordered i_piled v3 0 i_words i_pile
            else
              zs 8 i_words 0 x1 fun a4 =>
              zg 6 i_hill_strengths x1 fun v5 =>
              zs 8 a4 1 v5 fun a6 =>
              zs 8 a6 2 x4 fun a7 =>
              zs 8 a7 3 x2 fun a8 =>
              zs 8 a8 4 x3 fun a9 =>
              zs 8 a9 5 x5 fun a10 =>
              zs 8 a10 6 x6 fun a11 =>
              zg 4 i_hill_terms 0 fun v12 =>
              zs 8 a11 7 v12 fun a13 =>
              zn (i_hill_inForce * 424) fun v14 =>
              zg 6 i_hill_ordered i_hill_inForce fun v15 =>
              zd4 (f_Judge_hear v14 v15 a13 i_hill_orders i_piled v3 0 i_pile) fun v16 v17 v18 a19 =>
              f_Judge_effort_182 i_hill_children i_hill_laws i_hill_inForce i_hill_strengths i_hill_expelled i_hill_terms i_hill_orders i_hill_ordered v16 v17 v18 a13 a19
        else
          some ((-1), i_piled, i_tiring, i_barred, i_words, i_pile)
set_option maxHeartbeats 4000000 in
set_option maxRecDepth 100000 in
theorem c_Judge_effort (l : Launch) (ev : zEv) (dC : Nat → ClassId) (dI : Nat → Nat → Nat) (cA : Nat → ClassId) (q0 q1 q2 q3 q4 q5 q6 q7 q8 q9 q10 q11 q12 : Nat) (u0 u1 : Int) {x1 x2 x3 x4 x5 x6 : Int} {i_hill_children : Int} {i_hill_laws : Int} {i_hill_inForce : Int} {i_hill_strengths : Nat → Int} {i_hill_expelled : Nat → Int} {i_hill_terms : Nat → Int} {i_hill_orders : Nat → Int} {i_hill_ordered : Nat → Int} {i_piled : Int} {i_tiring : Int} {i_barred : Int} {i_words : Nat → Int} {i_pile : Nat → Int} {out : Int × Int × Int × Int × (Nat → Int) × (Nat → Int)} (hf : f_Judge_effort x1 x2 x3 x4 x5 x6 i_hill_children i_hill_laws i_hill_inForce i_hill_strengths i_hill_expelled i_hill_terms i_hill_orders i_hill_ordered i_piled i_tiring i_barred i_words i_pile = some out) : xc_I l ev (dC, dI) vwCl (tyl cA) yX3_effort w_Judge_effort rm_Judge_effort [.ref q0, .int (Int32.ofInt x1), .int (Int32.ofInt x2), .int (Int32.ofInt x3), .int (Int32.ofInt x4), .int (Int32.ofInt x5), .int (Int32.ofInt x6)] (wd_Judge_effort cA q0 q1 q2 q3 q4 q5 q6 q7 q8 q9 q10 q11 q12 u0 u1 i_hill_children i_hill_laws i_hill_inForce i_hill_strengths i_hill_expelled i_hill_terms i_hill_orders i_hill_ordered i_piled i_tiring i_barred i_words i_pile) (wf_Judge_effort cA q0 q1 q2 q3 q4 q5 q6 q7 q8 q9 q10 q11 q12 u0 u1 i_hill_children i_hill_laws i_hill_inForce i_hill_strengths i_hill_expelled i_hill_terms i_hill_orders i_hill_ordered out) out.1 := by
  refine xv_startI (cc := cX3_effort) (maxL := 7) (rt := .int) (by decide +kernel) rfl (Nat.le_of_ble_eq_true rfl) ?_
  intro p e s m args below meth c A Q H ls hx hb hml hts hown hK hA hP hD hS hl hE hret
  have hown : s.vm.findClass "HillSchool$Judge" = some m.cls := hown
  have hz : ∀ w ∈ zall, w.before args s = true := fun w h => hts w (List.mem_cons_of_mem _ h)
  have hl : lv_has ls 7 [(0, .ref q0), (1, .int (Int32.ofInt x1)), (2, .int (Int32.ofInt x2)), (3, .int (Int32.ofInt x3)), (4, .int (Int32.ofInt x4)), (5, .int (Int32.ofInt x5)), (6, .int (Int32.ofInt x6))] := hl
  have b_182 : ∀ (i_piled : Int) (i_tiring : Int) (i_barred : Int) (i_words : Nat → Int) (i_pile : Nat → Int) (H : Heap) (locs : List Loc) (ls : Array Slot), f_Judge_effort_182 i_hill_children i_hill_laws i_hill_inForce i_hill_strengths i_hill_expelled i_hill_terms i_hill_orders i_hill_ordered i_piled i_tiring i_barred i_words i_pile = some out → va_P (dC, dI) vwCl (wd_Judge_effort cA q0 q1 q2 q3 q4 q5 q6 q7 q8 q9 q10 q11 q12 u0 u1 i_hill_children i_hill_laws i_hill_inForce i_hill_strengths i_hill_expelled i_hill_terms i_hill_orders i_hill_ordered i_piled i_tiring i_barred i_words i_pile) H → va_D A (wd_Judge_effort cA q0 q1 q2 q3 q4 q5 q6 q7 q8 q9 q10 q11 q12 u0 u1 i_hill_children i_hill_laws i_hill_inForce i_hill_strengths i_hill_expelled i_hill_terms i_hill_orders i_hill_ordered i_piled i_tiring i_barred i_words i_pile) → va_S A s.heap H locs → lv_has ls 7 [(0, .ref q0)] → W p l e rm_Judge_effort s m args below meth c H locs 0 0 Q (F0 m 182 ls []) := by
    intro i_piled i_tiring i_barred i_words i_pile H locs ls hf hP hD hS hl
    unfold f_Judge_effort_182 at hf
    refine lv_aload_n hx hb (zdt zkX3_effort 182 rfl) rfl (lv_at hl 0 rfl) ?_
    refine va_get (D := (dC, dI)) (ci := 3) (v := .int (Int32.ofInt i_barred)) (C := RX3) (T := TX3) (N := 6) hx hb hz zi_X3 hown hK hP 0 rfl rfl 5 (by decide) (hz _ zw_284) (fun _ h9 => h9) rfl (zdt zkX3_effort 183 rfl) ?_
    refine xi_if_eq (tgt := 193) hx hb (zdt zkX3_effort 186 rfl) (by decide) hf (fun hf => ?_) (fun hf => ?_)
    · refine lv_aload_n hx hb (zdt zkX3_effort 193 rfl) rfl (lv_at hl 0 rfl) ?_
      refine va_get (D := (dC, dI)) (ci := 3) (v := .int (Int32.ofInt i_tiring)) (C := RX3) (T := TX3) (N := 6) hx hb hz zi_X3 hown hK hP 0 rfl rfl 4 (by decide) (hz _ zw_283) (fun _ h9 => h9) rfl (zdt zkX3_effort 194 rfl) ?_
      obtain rfl := Option.some.inj hf
      exact hret _ _ _ _ rfl (zdt zkX3_effort 197 rfl) hP hD hS
    · refine lv_iconst (v := Int32.ofInt (-1)) hx hb (zdt zkX3_effort 189 rfl) rfl ?_
      refine lv_goto (tgt := 197) hx hb (zdt zkX3_effort 190 rfl) (by decide) ?_
      obtain rfl := Option.some.inj hf
      exact hret _ _ _ _ rfl (zdt zkX3_effort 197 rfl) hP hD hS
  unfold f_Judge_effort at hf
  refine lv_iload hx hb (zdt zkX3_effort 0 rfl) (lv_at hl 5 rfl) ?_
  refine lv_iconst (v := Int32.ofInt 1) hx hb (zdt zkX3_effort 2 rfl) rfl ?_
  refine xi_icmp_lt (tgt := 31) hx hb (zdt zkX3_effort 3 rfl) (by decide) hf (fun hf => ?_) (fun hf => ?_)
  · refine lv_iconst (v := Int32.ofInt (-1)) hx hb (zdt zkX3_effort 31 rfl) rfl ?_
    obtain rfl := Option.some.inj hf
    exact hret _ _ _ _ rfl (zdt zkX3_effort 32 rfl) hP hD hS
  · refine lv_iload hx hb (zdt zkX3_effort 6 rfl) (lv_at hl 6 rfl) ?_
    refine lv_bipush (v := Int32.ofInt 10) hx hb (zdt zkX3_effort 8 rfl) (by decide) ?_
    refine xi_icmp_ge (tgt := 31) hx hb (zdt zkX3_effort 10 rfl) (by decide) hf (fun hf => ?_) (fun hf => ?_)
    · refine lv_iconst (v := Int32.ofInt (-1)) hx hb (zdt zkX3_effort 31 rfl) rfl ?_
      obtain rfl := Option.some.inj hf
      exact hret _ _ _ _ rfl (zdt zkX3_effort 32 rfl) hP hD hS
    · refine lv_iload_n hx hb (zdt zkX3_effort 13 rfl) rfl (lv_at hl 2 rfl) ?_
      refine lv_iload_n hx hb (zdt zkX3_effort 14 rfl) rfl (lv_at hl 3 rfl) ?_
      refine xi_icmp_eq (tgt := 31) hx hb (zdt zkX3_effort 15 rfl) (by decide) hf (fun hf => ?_) (fun hf => ?_)
      · refine lv_iconst (v := Int32.ofInt (-1)) hx hb (zdt zkX3_effort 31 rfl) rfl ?_
        obtain rfl := Option.some.inj hf
        exact hret _ _ _ _ rfl (zdt zkX3_effort 32 rfl) hP hD hS
      · refine lv_aload_n hx hb (zdt zkX3_effort 18 rfl) rfl (lv_at hl 0 rfl) ?_
        refine va_get (D := (dC, dI)) (ci := 3) (v := .ref q1) (C := RX3) (T := TX3) (N := 6) hx hb hz zi_X3 hown hK hP 0 rfl rfl 0 (by decide) (hz _ zw_279) (fun _ h9 => h9) rfl (zdt zkX3_effort 19 rfl) ?_
        refine lv_iload_n hx hb (zdt zkX3_effort 22 rfl) rfl (lv_at hl 1 rfl) ?_
        refine lv_iload hx hb (zdt zkX3_effort 23 rfl) (lv_at hl 4 rfl) ?_
        refine xe_d1 hf (fun v1 hg hf => ?_)
        have hC : ([1, 4, 5] : List Nat).map (fun i => (wd_Judge_effort cA q0 q1 q2 q3 q4 q5 q6 q7 q8 q9 q10 q11 q12 u0 u1 i_hill_children i_hill_laws i_hill_inForce i_hill_strengths i_hill_expelled i_hill_terms i_hill_orders i_hill_ordered i_piled i_tiring i_barred i_words i_pile)[i]?) = (wd_Hill_isAble cA q1 q4 q5 q6 q7 q8 q9 q10 q11 q12 u0 i_hill_laws i_hill_inForce u1 i_hill_children i_hill_strengths i_hill_expelled).map some := rfl
        refine xv_afterI (ws' := (wd_Judge_effort cA q0 q1 q2 q3 q4 q5 q6 q7 q8 q9 q10 q11 q12 u0 u1 i_hill_children i_hill_laws i_hill_inForce i_hill_strengths i_hill_expelled i_hill_terms i_hill_orders i_hill_ordered i_piled i_tiring i_barred i_words i_pile)) (isC := [1, 4, 5]) (ps := [none, some 0, none, none, some 1, some 2, none, none, none]) (va_runV (As := [.int (Int32.ofInt x1), .int (Int32.ofInt x4)]) (rest := []) ⟨hx, hb, hml, hown, hts⟩ (c_Hill_isAble l ev dC dI cA q1 q4 q5 q6 q7 q8 q9 q10 q11 q12 u0 i_hill_laws i_hill_inForce u1 hg H.size) (cwV 2 hts (zgV zw_813 zw_814 zw_815 zw_105 zw_816) rfl rfl rfl hd_Hill_isAble ⟨Nat.le_of_ble_eq_true rfl, Nat.le_of_ble_eq_true rfl⟩) (xv_preV (T := TX2) (N := 14) hE hA hS hK hP hD (isC := [1, 4, 5]) (by decide +kernel) hC (q0 := 1) (ci := 2) rfl rfl) rfl rfl hl.1 rfl (lv_room (Nat.le_of_ble_eq_true rfl)) (zdt zkX3_effort 25 rfl) ⟨Nat.le_refl _, Nat.le_refl _⟩) hP hD hS hA (by decide +kernel) rfl hC rfl rfl (fun H locs hP hD hS => ?_)
        refine xi_if_ne (tgt := 33) hx hb (zdt zkX3_effort 28 rfl) (by decide) hf (fun hf => ?_) (fun hf => ?_)
        · refine lv_aload_n hx hb (zdt zkX3_effort 33 rfl) rfl (lv_at hl 0 rfl) ?_
          refine lv_iload_n hx hb (zdt zkX3_effort 34 rfl) rfl (lv_at hl 2 rfl) ?_
          refine lv_iload_n hx hb (zdt zkX3_effort 35 rfl) rfl (lv_at hl 3 rfl) ?_
          refine xi_isub hx hb (zdt zkX3_effort 36 rfl) hf (fun v2 hf => ?_)
          refine xi_mabs hx hb (hml.trans hl.1.symm) hown (hz _ zw_818) (hz _ zw_819) (hz _ zw_116) (hz _ zw_820) (Nat.le_of_ble_eq_true rfl) (Nat.le_of_ble_eq_true rfl) (Nat.zero_le _) (Nat.zero_le _) (zdt zkX3_effort 37 rfl) hf (fun v3 hf => ?_)
          refine va_put (D := (dC, dI)) (ci := 3) (v := .int (Int32.ofInt v3)) (ty := .int) (C := RX3) (T := TX3) (N := 6) hx hb hz zi_X3 tyX3 tyX3_ok nmX3 hown hK hP hD hS 0 rfl rfl 4 (by decide) (hz _ zw_283) (fun _ h9 => h9) rfl (by decide +kernel) rfl rfl (Nat.le_of_ble_eq_true rfl) (zdt zkX3_effort 40 rfl) (fun H locs hP hD hS => ?_)
          refine xw_PD (wd_Judge_effort cA q0 q1 q2 q3 q4 q5 q6 q7 q8 q9 q10 q11 q12 u0 u1 i_hill_children i_hill_laws i_hill_inForce i_hill_strengths i_hill_expelled i_hill_terms i_hill_orders i_hill_ordered i_piled v3 i_barred i_words i_pile) hP hD (fun hP hD => ?_)
          refine lv_aload_n hx hb (zdt zkX3_effort 43 rfl) rfl (lv_at hl 0 rfl) ?_
          refine lv_iconst (v := Int32.ofInt 0) hx hb (zdt zkX3_effort 44 rfl) rfl ?_
          refine va_put (D := (dC, dI)) (ci := 3) (v := .int (Int32.ofInt 0)) (ty := .boolean) (C := RX3) (T := TX3) (N := 6) hx hb hz zi_X3 tyX3 tyX3_ok nmX3 hown hK hP hD hS 0 rfl rfl 5 (by decide) (hz _ zw_284) (fun _ h9 => h9) rfl (by decide +kernel) (by decide +kernel) (by decide +kernel) (Nat.le_of_ble_eq_true rfl) (zdt zkX3_effort 45 rfl) (fun H locs hP hD hS => ?_)
          refine xw_PD (wd_Judge_effort cA q0 q1 q2 q3 q4 q5 q6 q7 q8 q9 q10 q11 q12 u0 u1 i_hill_children i_hill_laws i_hill_inForce i_hill_strengths i_hill_expelled i_hill_terms i_hill_orders i_hill_ordered i_piled v3 0 i_words i_pile) hP hD (fun hP hD => ?_)
          refine lv_aload_n hx hb (zdt zkX3_effort 48 rfl) rfl (lv_at hl 0 rfl) ?_
          refine va_get (D := (dC, dI)) (ci := 3) (v := .ref q1) (C := RX3) (T := TX3) (N := 6) hx hb hz zi_X3 hown hK hP 0 rfl rfl 0 (by decide) (hz _ zw_279) (fun _ h9 => h9) rfl (zdt zkX3_effort 49 rfl) ?_
          refine va_getN (D := (dC, dI)) (ci := 2) (v := .int (Int32.ofInt i_hill_inForce)) (C := RX2) (T := TX2) (N := 14) hx hb hz zi_X2 hown hK hP 1 rfl rfl 12 (by decide) (va_Nw.use rfl (hE.1.1 _ zw_204)) (fun _ h9 => h9) rfl (zdt zkX3_effort 52 rfl) ?_
          refine xi_if_lt (tgt := 182) hx hb (zdt zkX3_effort 55 rfl) (by decide) hf (fun hf => ?_) (fun hf => ?_)
          · exact b_182  _ _ _ _ _ _ _ _ hf hP hD hS (lv_sub hl [0] rfl)
          · refine lv_aload_n hx hb (zdt zkX3_effort 58 rfl) rfl (lv_at hl 0 rfl) ?_
            refine va_get (D := (dC, dI)) (ci := 3) (v := .ref q1) (C := RX3) (T := TX3) (N := 6) hx hb hz zi_X3 hown hK hP 0 rfl rfl 0 (by decide) (hz _ zw_279) (fun _ h9 => h9) rfl (zdt zkX3_effort 59 rfl) ?_
            refine va_getN (D := (dC, dI)) (ci := 2) (v := .int (Int32.ofInt i_hill_inForce)) (C := RX2) (T := TX2) (N := 14) hx hb hz zi_X2 hown hK hP 1 rfl rfl 12 (by decide) (va_Nw.use rfl (hE.1.1 _ zw_204)) (fun _ h9 => h9) rfl (zdt zkX3_effort 62 rfl) ?_
            refine lv_aload_n hx hb (zdt zkX3_effort 65 rfl) rfl (lv_at hl 0 rfl) ?_
            refine va_get (D := (dC, dI)) (ci := 3) (v := .ref q1) (C := RX3) (T := TX3) (N := 6) hx hb hz zi_X3 hown hK hP 0 rfl rfl 0 (by decide) (hz _ zw_279) (fun _ h9 => h9) rfl (zdt zkX3_effort 66 rfl) ?_
            refine va_getN (D := (dC, dI)) (ci := 2) (v := .int (Int32.ofInt i_hill_laws)) (C := RX2) (T := TX2) (N := 14) hx hb hz zi_X2 hown hK hP 1 rfl rfl 9 (by decide) (va_Nw.use rfl (hE.1.1 _ zw_197)) (fun _ h9 => h9) rfl (zdt zkX3_effort 69 rfl) ?_
            refine xi_icmp_ge (tgt := 182) hx hb (zdt zkX3_effort 72 rfl) (by decide) hf (fun hf => ?_) (fun hf => ?_)
            · exact b_182  _ _ _ _ _ _ _ _ hf hP hD hS (lv_sub hl [0] rfl)
            · refine lv_aload_n hx hb (zdt zkX3_effort 75 rfl) rfl (lv_at hl 0 rfl) ?_
              refine va_get (D := (dC, dI)) (ci := 3) (v := .ref q2) (C := RX3) (T := TX3) (N := 6) hx hb hz zi_X3 hown hK hP 0 rfl rfl 1 (by decide) (hz _ zw_280) (fun _ h9 => h9) rfl (zdt zkX3_effort 76 rfl) ?_
              refine lv_iconst (v := Int32.ofInt 0) hx hb (zdt zkX3_effort 79 rfl) rfl ?_
              refine lv_iload_n hx hb (zdt zkX3_effort 80 rfl) rfl (lv_at hl 1 rfl) ?_
              refine xi_iast hx hb hK hP hD hS 2 0 rfl rfl (zdt zkX3_effort 81 rfl) hf (fun a4 H locs hP hD hS hf => ?_)
              refine xw_PD (wd_Judge_effort cA q0 q1 q2 q3 q4 q5 q6 q7 q8 q9 q10 q11 q12 u0 u1 i_hill_children i_hill_laws i_hill_inForce i_hill_strengths i_hill_expelled i_hill_terms i_hill_orders i_hill_ordered i_piled v3 0 a4 i_pile) hP hD (fun hP hD => ?_)
              refine lv_aload_n hx hb (zdt zkX3_effort 82 rfl) rfl (lv_at hl 0 rfl) ?_
              refine va_get (D := (dC, dI)) (ci := 3) (v := .ref q2) (C := RX3) (T := TX3) (N := 6) hx hb hz zi_X3 hown hK hP 0 rfl rfl 1 (by decide) (hz _ zw_280) (fun _ h9 => h9) rfl (zdt zkX3_effort 83 rfl) ?_
              refine lv_iconst (v := Int32.ofInt 1) hx hb (zdt zkX3_effort 86 rfl) rfl ?_
              refine lv_aload_n hx hb (zdt zkX3_effort 87 rfl) rfl (lv_at hl 0 rfl) ?_
              refine va_get (D := (dC, dI)) (ci := 3) (v := .ref q1) (C := RX3) (T := TX3) (N := 6) hx hb hz zi_X3 hown hK hP 0 rfl rfl 0 (by decide) (hz _ zw_279) (fun _ h9 => h9) rfl (zdt zkX3_effort 88 rfl) ?_
              refine va_getN (D := (dC, dI)) (ci := 2) (v := .ref q5) (C := RX2) (T := TX2) (N := 14) hx hb hz zi_X2 hown hK hP 1 rfl rfl 2 (by decide) (va_Nw.use rfl (hE.1.1 _ zw_178)) (fun _ h9 => h9) rfl (zdt zkX3_effort 91 rfl) ?_
              refine lv_iload_n hx hb (zdt zkX3_effort 94 rfl) rfl (lv_at hl 1 rfl) ?_
              refine xi_iald hx hb hK hP 4 0 rfl rfl (zdt zkX3_effort 95 rfl) hf (fun v5 hf => ?_)
              refine xi_iast hx hb hK hP hD hS 2 0 rfl rfl (zdt zkX3_effort 96 rfl) hf (fun a6 H locs hP hD hS hf => ?_)
              refine xw_PD (wd_Judge_effort cA q0 q1 q2 q3 q4 q5 q6 q7 q8 q9 q10 q11 q12 u0 u1 i_hill_children i_hill_laws i_hill_inForce i_hill_strengths i_hill_expelled i_hill_terms i_hill_orders i_hill_ordered i_piled v3 0 a6 i_pile) hP hD (fun hP hD => ?_)
              refine lv_aload_n hx hb (zdt zkX3_effort 97 rfl) rfl (lv_at hl 0 rfl) ?_
              refine va_get (D := (dC, dI)) (ci := 3) (v := .ref q2) (C := RX3) (T := TX3) (N := 6) hx hb hz zi_X3 hown hK hP 0 rfl rfl 1 (by decide) (hz _ zw_280) (fun _ h9 => h9) rfl (zdt zkX3_effort 98 rfl) ?_
              refine lv_iconst (v := Int32.ofInt 2) hx hb (zdt zkX3_effort 101 rfl) rfl ?_
              refine lv_iload hx hb (zdt zkX3_effort 102 rfl) (lv_at hl 4 rfl) ?_
              refine xi_iast hx hb hK hP hD hS 2 0 rfl rfl (zdt zkX3_effort 104 rfl) hf (fun a7 H locs hP hD hS hf => ?_)
              refine xw_PD (wd_Judge_effort cA q0 q1 q2 q3 q4 q5 q6 q7 q8 q9 q10 q11 q12 u0 u1 i_hill_children i_hill_laws i_hill_inForce i_hill_strengths i_hill_expelled i_hill_terms i_hill_orders i_hill_ordered i_piled v3 0 a7 i_pile) hP hD (fun hP hD => ?_)
              refine lv_aload_n hx hb (zdt zkX3_effort 105 rfl) rfl (lv_at hl 0 rfl) ?_
              refine va_get (D := (dC, dI)) (ci := 3) (v := .ref q2) (C := RX3) (T := TX3) (N := 6) hx hb hz zi_X3 hown hK hP 0 rfl rfl 1 (by decide) (hz _ zw_280) (fun _ h9 => h9) rfl (zdt zkX3_effort 106 rfl) ?_
              refine lv_iconst (v := Int32.ofInt 3) hx hb (zdt zkX3_effort 109 rfl) rfl ?_
              refine lv_iload_n hx hb (zdt zkX3_effort 110 rfl) rfl (lv_at hl 2 rfl) ?_
              refine xi_iast hx hb hK hP hD hS 2 0 rfl rfl (zdt zkX3_effort 111 rfl) hf (fun a8 H locs hP hD hS hf => ?_)
              refine xw_PD (wd_Judge_effort cA q0 q1 q2 q3 q4 q5 q6 q7 q8 q9 q10 q11 q12 u0 u1 i_hill_children i_hill_laws i_hill_inForce i_hill_strengths i_hill_expelled i_hill_terms i_hill_orders i_hill_ordered i_piled v3 0 a8 i_pile) hP hD (fun hP hD => ?_)
              refine lv_aload_n hx hb (zdt zkX3_effort 112 rfl) rfl (lv_at hl 0 rfl) ?_
              refine va_get (D := (dC, dI)) (ci := 3) (v := .ref q2) (C := RX3) (T := TX3) (N := 6) hx hb hz zi_X3 hown hK hP 0 rfl rfl 1 (by decide) (hz _ zw_280) (fun _ h9 => h9) rfl (zdt zkX3_effort 113 rfl) ?_
              refine lv_iconst (v := Int32.ofInt 4) hx hb (zdt zkX3_effort 116 rfl) rfl ?_
              refine lv_iload_n hx hb (zdt zkX3_effort 117 rfl) rfl (lv_at hl 3 rfl) ?_
              refine xi_iast hx hb hK hP hD hS 2 0 rfl rfl (zdt zkX3_effort 118 rfl) hf (fun a9 H locs hP hD hS hf => ?_)
              refine xw_PD (wd_Judge_effort cA q0 q1 q2 q3 q4 q5 q6 q7 q8 q9 q10 q11 q12 u0 u1 i_hill_children i_hill_laws i_hill_inForce i_hill_strengths i_hill_expelled i_hill_terms i_hill_orders i_hill_ordered i_piled v3 0 a9 i_pile) hP hD (fun hP hD => ?_)
              refine lv_aload_n hx hb (zdt zkX3_effort 119 rfl) rfl (lv_at hl 0 rfl) ?_
              refine va_get (D := (dC, dI)) (ci := 3) (v := .ref q2) (C := RX3) (T := TX3) (N := 6) hx hb hz zi_X3 hown hK hP 0 rfl rfl 1 (by decide) (hz _ zw_280) (fun _ h9 => h9) rfl (zdt zkX3_effort 120 rfl) ?_
              refine lv_iconst (v := Int32.ofInt 5) hx hb (zdt zkX3_effort 123 rfl) rfl ?_
              refine lv_iload hx hb (zdt zkX3_effort 124 rfl) (lv_at hl 5 rfl) ?_
              refine xi_iast hx hb hK hP hD hS 2 0 rfl rfl (zdt zkX3_effort 126 rfl) hf (fun a10 H locs hP hD hS hf => ?_)
              refine xw_PD (wd_Judge_effort cA q0 q1 q2 q3 q4 q5 q6 q7 q8 q9 q10 q11 q12 u0 u1 i_hill_children i_hill_laws i_hill_inForce i_hill_strengths i_hill_expelled i_hill_terms i_hill_orders i_hill_ordered i_piled v3 0 a10 i_pile) hP hD (fun hP hD => ?_)
              refine lv_aload_n hx hb (zdt zkX3_effort 127 rfl) rfl (lv_at hl 0 rfl) ?_
              refine va_get (D := (dC, dI)) (ci := 3) (v := .ref q2) (C := RX3) (T := TX3) (N := 6) hx hb hz zi_X3 hown hK hP 0 rfl rfl 1 (by decide) (hz _ zw_280) (fun _ h9 => h9) rfl (zdt zkX3_effort 128 rfl) ?_
              refine lv_bipush (v := Int32.ofInt 6) hx hb (zdt zkX3_effort 131 rfl) (by decide) ?_
              refine lv_iload hx hb (zdt zkX3_effort 133 rfl) (lv_at hl 6 rfl) ?_
              refine xi_iast hx hb hK hP hD hS 2 0 rfl rfl (zdt zkX3_effort 135 rfl) hf (fun a11 H locs hP hD hS hf => ?_)
              refine xw_PD (wd_Judge_effort cA q0 q1 q2 q3 q4 q5 q6 q7 q8 q9 q10 q11 q12 u0 u1 i_hill_children i_hill_laws i_hill_inForce i_hill_strengths i_hill_expelled i_hill_terms i_hill_orders i_hill_ordered i_piled v3 0 a11 i_pile) hP hD (fun hP hD => ?_)
              refine lv_aload_n hx hb (zdt zkX3_effort 136 rfl) rfl (lv_at hl 0 rfl) ?_
              refine va_get (D := (dC, dI)) (ci := 3) (v := .ref q2) (C := RX3) (T := TX3) (N := 6) hx hb hz zi_X3 hown hK hP 0 rfl rfl 1 (by decide) (hz _ zw_280) (fun _ h9 => h9) rfl (zdt zkX3_effort 137 rfl) ?_
              refine lv_bipush (v := Int32.ofInt 7) hx hb (zdt zkX3_effort 140 rfl) (by decide) ?_
              refine lv_aload_n hx hb (zdt zkX3_effort 142 rfl) rfl (lv_at hl 0 rfl) ?_
              refine va_get (D := (dC, dI)) (ci := 3) (v := .ref q1) (C := RX3) (T := TX3) (N := 6) hx hb hz zi_X3 hown hK hP 0 rfl rfl 0 (by decide) (hz _ zw_279) (fun _ h9 => h9) rfl (zdt zkX3_effort 143 rfl) ?_
              refine va_getN (D := (dC, dI)) (ci := 2) (v := .ref q9) (C := RX2) (T := TX2) (N := 14) hx hb hz zi_X2 hown hK hP 1 rfl rfl 7 (by decide) (va_Nw.use rfl (hE.1.1 _ zw_190)) (fun _ h9 => h9) rfl (zdt zkX3_effort 146 rfl) ?_
              refine lv_iconst (v := Int32.ofInt 0) hx hb (zdt zkX3_effort 149 rfl) rfl ?_
              refine xi_iald hx hb hK hP 6 0 rfl rfl (zdt zkX3_effort 150 rfl) hf (fun v12 hf => ?_)
              refine xi_iast hx hb hK hP hD hS 2 0 rfl rfl (zdt zkX3_effort 151 rfl) hf (fun a13 H locs hP hD hS hf => ?_)
              refine xw_PD (wd_Judge_effort cA q0 q1 q2 q3 q4 q5 q6 q7 q8 q9 q10 q11 q12 u0 u1 i_hill_children i_hill_laws i_hill_inForce i_hill_strengths i_hill_expelled i_hill_terms i_hill_orders i_hill_ordered i_piled v3 0 a13 i_pile) hP hD (fun hP hD => ?_)
              refine lv_aload_n hx hb (zdt zkX3_effort 152 rfl) rfl (lv_at hl 0 rfl) ?_
              refine lv_aload_n hx hb (zdt zkX3_effort 153 rfl) rfl (lv_at hl 0 rfl) ?_
              refine va_get (D := (dC, dI)) (ci := 3) (v := .ref q1) (C := RX3) (T := TX3) (N := 6) hx hb hz zi_X3 hown hK hP 0 rfl rfl 0 (by decide) (hz _ zw_279) (fun _ h9 => h9) rfl (zdt zkX3_effort 154 rfl) ?_
              refine va_getN (D := (dC, dI)) (ci := 2) (v := .int (Int32.ofInt i_hill_inForce)) (C := RX2) (T := TX2) (N := 14) hx hb hz zi_X2 hown hK hP 1 rfl rfl 12 (by decide) (va_Nw.use rfl (hE.1.1 _ zw_204)) (fun _ h9 => h9) rfl (zdt zkX3_effort 157 rfl) ?_
              refine lv_sipush (v := Int32.ofInt 424) hx hb (zdt zkX3_effort 160 rfl) (by decide) ?_
              refine xi_imul hx hb (zdt zkX3_effort 163 rfl) hf (fun v14 hf => ?_)
              refine lv_aload_n hx hb (zdt zkX3_effort 164 rfl) rfl (lv_at hl 0 rfl) ?_
              refine va_get (D := (dC, dI)) (ci := 3) (v := .ref q1) (C := RX3) (T := TX3) (N := 6) hx hb hz zi_X3 hown hK hP 0 rfl rfl 0 (by decide) (hz _ zw_279) (fun _ h9 => h9) rfl (zdt zkX3_effort 165 rfl) ?_
              refine va_getN (D := (dC, dI)) (ci := 2) (v := .ref q12) (C := RX2) (T := TX2) (N := 14) hx hb hz zi_X2 hown hK hP 1 rfl rfl 11 (by decide) (va_Nw.use rfl (hE.1.1 _ zw_202)) (fun _ h9 => h9) rfl (zdt zkX3_effort 168 rfl) ?_
              refine lv_aload_n hx hb (zdt zkX3_effort 171 rfl) rfl (lv_at hl 0 rfl) ?_
              refine va_get (D := (dC, dI)) (ci := 3) (v := .ref q1) (C := RX3) (T := TX3) (N := 6) hx hb hz zi_X3 hown hK hP 0 rfl rfl 0 (by decide) (hz _ zw_279) (fun _ h9 => h9) rfl (zdt zkX3_effort 172 rfl) ?_
              refine va_getN (D := (dC, dI)) (ci := 2) (v := .int (Int32.ofInt i_hill_inForce)) (C := RX2) (T := TX2) (N := 14) hx hb hz zi_X2 hown hK hP 1 rfl rfl 12 (by decide) (va_Nw.use rfl (hE.1.1 _ zw_204)) (fun _ h9 => h9) rfl (zdt zkX3_effort 175 rfl) ?_
              refine xi_iald hx hb hK hP 8 0 rfl rfl (zdt zkX3_effort 178 rfl) hf (fun v15 hf => ?_)
              refine xe_d4 hf (fun v16 v17 v18 a19 hg hf => ?_)
              have hC : ([0, 1, 2, 3, 7] : List Nat).map (fun i => (wd_Judge_effort cA q0 q1 q2 q3 q4 q5 q6 q7 q8 q9 q10 q11 q12 u0 u1 i_hill_children i_hill_laws i_hill_inForce i_hill_strengths i_hill_expelled i_hill_terms i_hill_orders i_hill_ordered i_piled v3 0 a13 i_pile)[i]?) = (wd_Judge_hear cA q0 q1 q2 q3 q4 q5 q6 q7 q8 q9 q10 q11 q12 i_hill_children u0 i_hill_laws i_hill_inForce u1 a13 i_hill_orders i_piled v3 0 i_pile).map some := rfl
              refine xv_afterV (ws' := (wd_Judge_effort cA q0 q1 q2 q3 q4 q5 q6 q7 q8 q9 q10 q11 q12 u0 u1 i_hill_children i_hill_laws i_hill_inForce i_hill_strengths i_hill_expelled i_hill_terms i_hill_orders i_hill_ordered v16 v17 v18 a13 a19)) (isC := [0, 1, 2, 3, 7]) (ps := [some 0, some 1, some 2, some 3, none, none, none, some 4, none]) (va_runV (As := [.int (Int32.ofInt v14), .int (Int32.ofInt v15)]) (rest := []) ⟨hx, hb, hml, hown, hts⟩ (c_Judge_hear l ev dC dI cA q0 q1 q2 q3 q4 q5 q6 q7 q8 q9 q10 q11 q12 i_hill_children u0 i_hill_laws i_hill_inForce u1 hg H.size) (cwV 2 hts (zgV zw_821 zw_823 zw_14 zw_108 zw_824) rfl rfl rfl hd_Judge_hear ⟨Nat.le_of_ble_eq_true rfl, Nat.le_of_ble_eq_true rfl⟩) (xv_preV (T := TX3) (N := 6) hE hA hS hK hP hD (isC := [0, 1, 2, 3, 7]) (by decide +kernel) hC (q0 := 0) (ci := 3) rfl rfl) rfl rfl hl.1 rfl (lv_room (Nat.le_of_ble_eq_true rfl)) (zdt zkX3_effort 179 rfl) ⟨Nat.le_refl _, Nat.le_refl _⟩) hP hD hS hA (by decide +kernel) rfl hC rfl rfl (fun H locs hP hD hS => ?_)
              exact b_182  _ _ _ _ _ _ _ _ hf hP hD hS (lv_sub hl [0] rfl)
        · refine lv_iconst (v := Int32.ofInt (-1)) hx hb (zdt zkX3_effort 31 rfl) rfl ?_
          obtain rfl := Option.some.inj hf
          exact hret _ _ _ _ rfl (zdt zkX3_effort 32 rfl) hP hD hS
set_option maxRecDepth 100000 in
noncomputable def ztX3_effortOn (p : Nat) : Option (Jvm.ClassFile.Instr × Nat) := bif Nat.ble 10 p then (bif Nat.ble 16 p then (bif Nat.ble 21 p then (bif Nat.ble 24 p then (bif Nat.beq p 24 then some (.ireturn, 1) else none) else (bif Nat.beq p 21 then some (.invokevirtual 42, 3) else none)) else (bif Nat.ble 18 p then (bif Nat.beq p 18 then some (.invokevirtual 39, 3) else none) else (bif Nat.beq p 16 then some (.iload 4, 2) else none))) else (bif Nat.ble 12 p then (bif Nat.ble 15 p then (bif Nat.beq p 15 then some (.aload_n 1, 1) else none) else (bif Nat.beq p 12 then some (.invokevirtual 39, 3) else none)) else (bif Nat.ble 11 p then (bif Nat.beq p 11 then some (.iload_n 3, 1) else none) else (bif Nat.beq p 10 then some (.aload_n 1, 1) else none)))) else (bif Nat.ble 3 p then (bif Nat.ble 6 p then (bif Nat.ble 7 p then (bif Nat.beq p 7 then some (.invokevirtual 33, 3) else none) else (bif Nat.beq p 6 then some (.iload_n 3, 1) else none)) else (bif Nat.ble 5 p then (bif Nat.beq p 5 then some (.aload_n 1, 1) else none) else (bif Nat.beq p 3 then some (.iload 4, 2) else none))) else (bif Nat.ble 1 p then (bif Nat.ble 2 p then (bif Nat.beq p 2 then some (.iload_n 3, 1) else none) else (bif Nat.beq p 1 then some (.iload_n 2, 1) else none)) else (bif Nat.beq p 0 then some (.aload_n 0, 1) else none)))
set_option maxRecDepth 100000 in
theorem zkX3_effortOn : (zbig cX3_effortOn.data.toList = 1080691403641257878161185134073608306577297270379609075817514 ∧ cX3_effortOn.data.toList.length = 25) ∧ zdk cX3_effortOn 1080691403641257878161185134073608306577297270379609075817514 25 ztX3_effortOn 24 = true := by decide +kernel
theorem zw_806 : (Jvm.Cond.code ({ cls := "HillSchool$Judge", name := "effortOn", desc := "(LHillSchool$Columns;III)I" } : Jvm.MethodName) prog_5_method_2_code (5 : Nat) (Option.some Jvm.ClassFile.FieldType.int)) ∈ zall := zmemG (zmj_3 223 rfl) rfl
theorem zw_807 : (Jvm.Cond.methodLink "HillSchool$Judge" (33 : Nat) ({ cls := "HillSchool$Columns", name := "top", desc := "(I)I" } : Jvm.MethodName)) ∈ zall := zmemG (zmj_3 224 rfl) rfl
theorem zw_808 : (Jvm.Cond.methodLink "HillSchool$Judge" (39 : Nat) ({ cls := "HillSchool$Columns", name := "high", desc := "(I)I" } : Jvm.MethodName)) ∈ zall := zmemG (zmj_3 225 rfl) rfl
theorem zw_809 : (Jvm.Cond.methodLink "HillSchool$Judge" (42 : Nat) ({ cls := "HillSchool$Judge", name := "effort", desc := "(IIIIII)I" } : Jvm.MethodName)) ∈ zall := zmemG (zmj_3 226 rfl) rfl
theorem zw_810 : (Jvm.Cond.instanceMethod ({ cls := "HillSchool$Judge", name := "effort", desc := "(IIIIII)I" } : Jvm.MethodName)) ∈ zall := zmemG (zmj_3 227 rfl) rfl
theorem zw_811 : (Jvm.Cond.selects "HillSchool$Judge" ({ cls := "HillSchool$Judge", name := "effort", desc := "(IIIIII)I" } : Jvm.MethodName) ({ cls := "HillSchool$Judge", name := "effort", desc := "(IIIIII)I" } : Jvm.MethodName)) ∈ zall := zmemG (zmj_3 228 rfl) rfl
noncomputable abbrev w_Judge_effortOn : List Cond := .code yX3_effortOn cX3_effortOn 5 (some .int) :: zall
noncomputable abbrev rm_Judge_effortOn : Room := { frames := 4, cells := 0, slots := 0, locals := 114 }
theorem hd_Judge_effortOn : yX3_effortOn.cls = "HillSchool$Judge" ∧ yX3_effortOn.cls ≠ "java/lang/invoke/MethodHandle" ∧ yX3_effortOn.cls ≠ "java/lang/invoke/VarHandle" ∧ (parseMethodDescriptor yX3_effortOn.desc).map (fun d => d.parameters.length) = some 4 := by decide +kernel
noncomputable def wd_Judge_effortOn (cA : Nat → ClassId) (q0 q1 q2 q3 q4 q5 q6 q7 q8 q9 q10 q11 q12 q13 q14 q15 : Nat) (u0 u1 : Int) (i_a1_many : Int) (i_hill_children : Int) (i_hill_laws : Int) (i_hill_inForce : Int) (i_a1_heights : Nat → Int) (i_a1_weights : Nat → Int) (i_hill_strengths : Nat → Int) (i_hill_expelled : Nat → Int) (i_hill_terms : Nat → Int) (i_hill_orders : Nat → Int) (i_hill_ordered : Nat → Int) (i_piled : Int) (i_tiring : Int) (i_barred : Int) (i_words : Nat → Int) (i_pile : Nat → Int) : va_W := [(q0, .inr (3, [.ref q1, .ref q2, .ref q3, .int (Int32.ofInt i_piled), .int (Int32.ofInt i_tiring), .int (Int32.ofInt i_barred)])), (q4, .inr (1, [.int (Int32.ofInt i_a1_many), .ref q5, .ref q6])), (q1, .inr (2, [.ref q7, .int (Int32.ofInt i_hill_children), .ref q8, .ref q9, .ref q10, .int (Int32.ofInt u0), .ref q11, .ref q12, .ref q13, .int (Int32.ofInt i_hill_laws), .ref q14, .ref q15, .int (Int32.ofInt i_hill_inForce), .int (Int32.ofInt u1)])), (q2, .inl (cA 0, 8, .inl (za i_words))), (q3, .inl (cA 0, 32, .inl (za i_pile))), (q5, .inl (cA 0, 12, .inl (za i_a1_heights))), (q6, .inl (cA 0, 120, .inl (za i_a1_weights))), (q8, .inl (cA 0, 6, .inl (za i_hill_strengths))), (q9, .inl (cA 0, 6, .inl (za i_hill_expelled))), (q12, .inl (cA 0, 4, .inl (za i_hill_terms))), (q14, .inl (cA 0, 2544, .inl (za i_hill_orders))), (q15, .inl (cA 0, 6, .inl (za i_hill_ordered)))]
noncomputable def wf_Judge_effortOn (cA : Nat → ClassId) (q0 q1 q2 q3 q4 q5 q6 q7 q8 q9 q10 q11 q12 q13 q14 q15 : Nat) (u0 u1 : Int) (i_a1_many : Int) (i_hill_children : Int) (i_hill_laws : Int) (i_hill_inForce : Int) (i_a1_heights : Nat → Int) (i_a1_weights : Nat → Int) (i_hill_strengths : Nat → Int) (i_hill_expelled : Nat → Int) (i_hill_terms : Nat → Int) (i_hill_orders : Nat → Int) (i_hill_ordered : Nat → Int) (o : Int × Int × Int × Int × (Nat → Int) × (Nat → Int)) : va_W := wd_Judge_effortOn cA q0 q1 q2 q3 q4 q5 q6 q7 q8 q9 q10 q11 q12 q13 q14 q15 u0 u1 i_a1_many i_hill_children i_hill_laws i_hill_inForce i_a1_heights i_a1_weights i_hill_strengths i_hill_expelled i_hill_terms i_hill_orders i_hill_ordered o.2.1 o.2.2.1 o.2.2.2.1 o.2.2.2.2.1 o.2.2.2.2.2
noncomputable def f_Judge_effortOn (x2 : Int) (x3 : Int) (x4 : Int) (i_a1_many : Int) (i_hill_children : Int) (i_hill_laws : Int) (i_hill_inForce : Int) (i_a1_heights : Nat → Int) (i_a1_weights : Nat → Int) (i_hill_strengths : Nat → Int) (i_hill_expelled : Nat → Int) (i_hill_terms : Nat → Int) (i_hill_orders : Nat → Int) (i_hill_ordered : Nat → Int) (i_piled : Int) (i_tiring : Int) (i_barred : Int) (i_words : Nat → Int) (i_pile : Nat → Int) : Option (Int × Int × Int × Int × (Nat → Int) × (Nat → Int)) :=
  zd1 (f_Columns_top x3 i_a1_many i_a1_heights i_a1_weights) fun v1 =>
  zd1 (f_Columns_high x3 i_a1_many i_a1_heights) fun v2 =>
  zd1 (f_Columns_high x4 i_a1_many i_a1_heights) fun v3 =>
  zd6 (f_Judge_effort x2 x3 x4 v1 v2 v3 i_hill_children i_hill_laws i_hill_inForce i_hill_strengths i_hill_expelled i_hill_terms i_hill_orders i_hill_ordered i_piled i_tiring i_barred i_words i_pile) fun v4 v5 v6 v7 a8 a9 =>
  some (v4, v5, v6, v7, a8, a9)
set_option maxHeartbeats 4000000 in
set_option maxRecDepth 100000 in
theorem c_Judge_effortOn (l : Launch) (ev : zEv) (dC : Nat → ClassId) (dI : Nat → Nat → Nat) (cA : Nat → ClassId) (q0 q1 q2 q3 q4 q5 q6 q7 q8 q9 q10 q11 q12 q13 q14 q15 : Nat) (u0 u1 : Int) {x2 x3 x4 : Int} {i_a1_many : Int} {i_hill_children : Int} {i_hill_laws : Int} {i_hill_inForce : Int} {i_a1_heights : Nat → Int} {i_a1_weights : Nat → Int} {i_hill_strengths : Nat → Int} {i_hill_expelled : Nat → Int} {i_hill_terms : Nat → Int} {i_hill_orders : Nat → Int} {i_hill_ordered : Nat → Int} {i_piled : Int} {i_tiring : Int} {i_barred : Int} {i_words : Nat → Int} {i_pile : Nat → Int} {out : Int × Int × Int × Int × (Nat → Int) × (Nat → Int)} (hf : f_Judge_effortOn x2 x3 x4 i_a1_many i_hill_children i_hill_laws i_hill_inForce i_a1_heights i_a1_weights i_hill_strengths i_hill_expelled i_hill_terms i_hill_orders i_hill_ordered i_piled i_tiring i_barred i_words i_pile = some out) : xc_I l ev (dC, dI) vwCl (tyl cA) yX3_effortOn w_Judge_effortOn rm_Judge_effortOn [.ref q0, .ref q4, .int (Int32.ofInt x2), .int (Int32.ofInt x3), .int (Int32.ofInt x4)] (wd_Judge_effortOn cA q0 q1 q2 q3 q4 q5 q6 q7 q8 q9 q10 q11 q12 q13 q14 q15 u0 u1 i_a1_many i_hill_children i_hill_laws i_hill_inForce i_a1_heights i_a1_weights i_hill_strengths i_hill_expelled i_hill_terms i_hill_orders i_hill_ordered i_piled i_tiring i_barred i_words i_pile) (wf_Judge_effortOn cA q0 q1 q2 q3 q4 q5 q6 q7 q8 q9 q10 q11 q12 q13 q14 q15 u0 u1 i_a1_many i_hill_children i_hill_laws i_hill_inForce i_a1_heights i_a1_weights i_hill_strengths i_hill_expelled i_hill_terms i_hill_orders i_hill_ordered out) out.1 := by
  refine xv_startI (cc := cX3_effortOn) (maxL := 5) (rt := .int) (by decide +kernel) rfl (Nat.le_of_ble_eq_true rfl) ?_
  intro p e s m args below meth c A Q H ls hx hb hml hts hown hK hA hP hD hS hl hE hret
  have hown : s.vm.findClass "HillSchool$Judge" = some m.cls := hown
  have hz : ∀ w ∈ zall, w.before args s = true := fun w h => hts w (List.mem_cons_of_mem _ h)
  have hl : lv_has ls 5 [(0, .ref q0), (1, .ref q4), (2, .int (Int32.ofInt x2)), (3, .int (Int32.ofInt x3)), (4, .int (Int32.ofInt x4))] := hl
  unfold f_Judge_effortOn at hf
  refine lv_aload_n hx hb (zdt zkX3_effortOn 0 rfl) rfl (lv_at hl 0 rfl) ?_
  refine lv_iload_n hx hb (zdt zkX3_effortOn 1 rfl) rfl (lv_at hl 2 rfl) ?_
  refine lv_iload_n hx hb (zdt zkX3_effortOn 2 rfl) rfl (lv_at hl 3 rfl) ?_
  refine lv_iload hx hb (zdt zkX3_effortOn 3 rfl) (lv_at hl 4 rfl) ?_
  refine lv_aload_n hx hb (zdt zkX3_effortOn 5 rfl) rfl (lv_at hl 1 rfl) ?_
  refine lv_iload_n hx hb (zdt zkX3_effortOn 6 rfl) rfl (lv_at hl 3 rfl) ?_
  refine xe_d1 hf (fun v1 hg hf => ?_)
  have hC : ([1, 5, 6] : List Nat).map (fun i => (wd_Judge_effortOn cA q0 q1 q2 q3 q4 q5 q6 q7 q8 q9 q10 q11 q12 q13 q14 q15 u0 u1 i_a1_many i_hill_children i_hill_laws i_hill_inForce i_a1_heights i_a1_weights i_hill_strengths i_hill_expelled i_hill_terms i_hill_orders i_hill_ordered i_piled i_tiring i_barred i_words i_pile)[i]?) = (wd_Columns_top cA q4 q5 q6 i_a1_many i_a1_heights i_a1_weights).map some := rfl
  refine xv_afterI (ws' := (wd_Judge_effortOn cA q0 q1 q2 q3 q4 q5 q6 q7 q8 q9 q10 q11 q12 q13 q14 q15 u0 u1 i_a1_many i_hill_children i_hill_laws i_hill_inForce i_a1_heights i_a1_weights i_hill_strengths i_hill_expelled i_hill_terms i_hill_orders i_hill_ordered i_piled i_tiring i_barred i_words i_pile)) (isC := [1, 5, 6]) (ps := [none, some 0, none, none, none, some 1, some 2, none, none, none, none, none]) (va_runV (As := [.int (Int32.ofInt x3)]) (rest := [.int (Int32.ofInt x4), .int (Int32.ofInt x3), .int (Int32.ofInt x2), .ref q0]) ⟨hx, hb, hml, hown, hts⟩ (c_Columns_top l ev dC dI cA q4 q5 q6 hg H.size) (cwV 1 hts (zgV zw_807 zw_568 zw_569 zw_106 zw_570) rfl rfl rfl hd_Columns_top ⟨Nat.le_of_ble_eq_true rfl, Nat.le_of_ble_eq_true rfl⟩) (xv_preV (T := TX1) (N := 3) hE hA hS hK hP hD (isC := [1, 5, 6]) (by decide +kernel) hC (q0 := 1) (ci := 1) rfl rfl) rfl rfl hl.1 rfl (lv_room (Nat.le_of_ble_eq_true rfl)) (zdt zkX3_effortOn 7 rfl) ⟨Nat.le_refl _, Nat.le_refl _⟩) hP hD hS hA (by decide +kernel) rfl hC rfl rfl (fun H locs hP hD hS => ?_)
  refine lv_aload_n hx hb (zdt zkX3_effortOn 10 rfl) rfl (lv_at hl 1 rfl) ?_
  refine lv_iload_n hx hb (zdt zkX3_effortOn 11 rfl) rfl (lv_at hl 3 rfl) ?_
  refine xe_d1 hf (fun v2 hg hf => ?_)
  have hC : ([1, 5] : List Nat).map (fun i => (wd_Judge_effortOn cA q0 q1 q2 q3 q4 q5 q6 q7 q8 q9 q10 q11 q12 q13 q14 q15 u0 u1 i_a1_many i_hill_children i_hill_laws i_hill_inForce i_a1_heights i_a1_weights i_hill_strengths i_hill_expelled i_hill_terms i_hill_orders i_hill_ordered i_piled i_tiring i_barred i_words i_pile)[i]?) = (wd_Columns_high cA q4 q5 q6 i_a1_many i_a1_heights).map some := rfl
  refine xv_afterI (ws' := (wd_Judge_effortOn cA q0 q1 q2 q3 q4 q5 q6 q7 q8 q9 q10 q11 q12 q13 q14 q15 u0 u1 i_a1_many i_hill_children i_hill_laws i_hill_inForce i_a1_heights i_a1_weights i_hill_strengths i_hill_expelled i_hill_terms i_hill_orders i_hill_ordered i_piled i_tiring i_barred i_words i_pile)) (isC := [1, 5]) (ps := [none, some 0, none, none, none, some 1, none, none, none, none, none, none]) (va_runV (As := [.int (Int32.ofInt x3)]) (rest := [.int (Int32.ofInt v1), .int (Int32.ofInt x4), .int (Int32.ofInt x3), .int (Int32.ofInt x2), .ref q0]) ⟨hx, hb, hml, hown, hts⟩ (c_Columns_high l ev dC dI cA q4 q5 q6 hg H.size) (cwV 1 hts (zgV zw_808 zw_556 zw_557 zw_106 zw_558) rfl rfl rfl hd_Columns_high ⟨Nat.le_of_ble_eq_true rfl, Nat.le_of_ble_eq_true rfl⟩) (xv_preV (T := TX1) (N := 3) hE hA hS hK hP hD (isC := [1, 5]) (by decide +kernel) hC (q0 := 1) (ci := 1) rfl rfl) rfl rfl hl.1 rfl (lv_room (Nat.le_of_ble_eq_true rfl)) (zdt zkX3_effortOn 12 rfl) ⟨Nat.le_refl _, Nat.le_refl _⟩) hP hD hS hA (by decide +kernel) rfl hC rfl rfl (fun H locs hP hD hS => ?_)
  refine lv_aload_n hx hb (zdt zkX3_effortOn 15 rfl) rfl (lv_at hl 1 rfl) ?_
  refine lv_iload hx hb (zdt zkX3_effortOn 16 rfl) (lv_at hl 4 rfl) ?_
  refine xe_d1 hf (fun v3 hg hf => ?_)
  have hC : ([1, 5] : List Nat).map (fun i => (wd_Judge_effortOn cA q0 q1 q2 q3 q4 q5 q6 q7 q8 q9 q10 q11 q12 q13 q14 q15 u0 u1 i_a1_many i_hill_children i_hill_laws i_hill_inForce i_a1_heights i_a1_weights i_hill_strengths i_hill_expelled i_hill_terms i_hill_orders i_hill_ordered i_piled i_tiring i_barred i_words i_pile)[i]?) = (wd_Columns_high cA q4 q5 q6 i_a1_many i_a1_heights).map some := rfl
  refine xv_afterI (ws' := (wd_Judge_effortOn cA q0 q1 q2 q3 q4 q5 q6 q7 q8 q9 q10 q11 q12 q13 q14 q15 u0 u1 i_a1_many i_hill_children i_hill_laws i_hill_inForce i_a1_heights i_a1_weights i_hill_strengths i_hill_expelled i_hill_terms i_hill_orders i_hill_ordered i_piled i_tiring i_barred i_words i_pile)) (isC := [1, 5]) (ps := [none, some 0, none, none, none, some 1, none, none, none, none, none, none]) (va_runV (As := [.int (Int32.ofInt x4)]) (rest := [.int (Int32.ofInt v2), .int (Int32.ofInt v1), .int (Int32.ofInt x4), .int (Int32.ofInt x3), .int (Int32.ofInt x2), .ref q0]) ⟨hx, hb, hml, hown, hts⟩ (c_Columns_high l ev dC dI cA q4 q5 q6 hg H.size) (cwV 1 hts (zgV zw_808 zw_556 zw_557 zw_106 zw_558) rfl rfl rfl hd_Columns_high ⟨Nat.le_of_ble_eq_true rfl, Nat.le_of_ble_eq_true rfl⟩) (xv_preV (T := TX1) (N := 3) hE hA hS hK hP hD (isC := [1, 5]) (by decide +kernel) hC (q0 := 1) (ci := 1) rfl rfl) rfl rfl hl.1 rfl (lv_room (Nat.le_of_ble_eq_true rfl)) (zdt zkX3_effortOn 18 rfl) ⟨Nat.le_refl _, Nat.le_refl _⟩) hP hD hS hA (by decide +kernel) rfl hC rfl rfl (fun H locs hP hD hS => ?_)
  refine xe_d6 hf (fun v4 v5 v6 v7 a8 a9 hg hf => ?_)
  have hC : ([0, 2, 3, 4, 7, 8, 9, 10, 11] : List Nat).map (fun i => (wd_Judge_effortOn cA q0 q1 q2 q3 q4 q5 q6 q7 q8 q9 q10 q11 q12 q13 q14 q15 u0 u1 i_a1_many i_hill_children i_hill_laws i_hill_inForce i_a1_heights i_a1_weights i_hill_strengths i_hill_expelled i_hill_terms i_hill_orders i_hill_ordered i_piled i_tiring i_barred i_words i_pile)[i]?) = (wd_Judge_effort cA q0 q1 q2 q3 q7 q8 q9 q10 q11 q12 q13 q14 q15 u0 u1 i_hill_children i_hill_laws i_hill_inForce i_hill_strengths i_hill_expelled i_hill_terms i_hill_orders i_hill_ordered i_piled i_tiring i_barred i_words i_pile).map some := rfl
  refine xv_afterI (ws' := (wd_Judge_effortOn cA q0 q1 q2 q3 q4 q5 q6 q7 q8 q9 q10 q11 q12 q13 q14 q15 u0 u1 i_a1_many i_hill_children i_hill_laws i_hill_inForce i_a1_heights i_a1_weights i_hill_strengths i_hill_expelled i_hill_terms i_hill_orders i_hill_ordered v5 v6 v7 a8 a9)) (isC := [0, 2, 3, 4, 7, 8, 9, 10, 11]) (ps := [some 0, none, some 1, some 2, some 3, none, none, some 4, some 5, some 6, some 7, some 8]) (va_runV (As := [.int (Int32.ofInt x2), .int (Int32.ofInt x3), .int (Int32.ofInt x4), .int (Int32.ofInt v1), .int (Int32.ofInt v2), .int (Int32.ofInt v3)]) (rest := []) ⟨hx, hb, hml, hown, hts⟩ (c_Judge_effort l ev dC dI cA q0 q1 q2 q3 q7 q8 q9 q10 q11 q12 q13 q14 q15 u0 u1 hg H.size) (cwV 6 hts (zgV zw_809 zw_810 zw_811 zw_108 zw_812) rfl rfl rfl hd_Judge_effort ⟨Nat.le_of_ble_eq_true rfl, Nat.le_of_ble_eq_true rfl⟩) (xv_preV (T := TX3) (N := 6) hE hA hS hK hP hD (isC := [0, 2, 3, 4, 7, 8, 9, 10, 11]) (by decide +kernel) hC (q0 := 0) (ci := 3) rfl rfl) rfl rfl hl.1 rfl (lv_room (Nat.le_of_ble_eq_true rfl)) (zdt zkX3_effortOn 21 rfl) ⟨Nat.le_refl _, Nat.le_refl _⟩) hP hD hS hA (by decide +kernel) rfl hC rfl rfl (fun H locs hP hD hS => ?_)
  obtain rfl := Option.some.inj hf
  exact hret _ _ _ _ rfl (zdt zkX3_effortOn 24 rfl) hP hD hS
set_option maxRecDepth 100000 in
noncomputable def ztX10_knows (p : Nat) : Option (Jvm.ClassFile.Instr × Nat) := bif Nat.ble 22 p then (bif Nat.ble 33 p then (bif Nat.ble 40 p then (bif Nat.ble 43 p then (bif Nat.ble 44 p then (bif Nat.beq p 44 then some (.ireturn, 1) else none) else (bif Nat.beq p 43 then some (.iconst 0, 1) else none)) else (bif Nat.beq p 40 then some (.goto 4, 3) else none)) else (bif Nat.ble 36 p then (bif Nat.ble 39 p then (bif Nat.beq p 39 then some (.iconst 1, 1) else none) else (bif Nat.beq p 36 then some (.ifCond .eq 7, 3) else none)) else (bif Nat.beq p 33 then some (.invokevirtual 122, 3) else none))) else (bif Nat.ble 26 p then (bif Nat.ble 29 p then (bif Nat.ble 32 p then (bif Nat.beq p 32 then some (.iload_n 3, 1) else none) else (bif Nat.beq p 29 then some (.getfield 99, 3) else none)) else (bif Nat.beq p 26 then some (.getfield 10, 3) else none)) else (bif Nat.ble 25 p then (bif Nat.beq p 25 then some (.aload_n 0, 1) else none) else (bif Nat.beq p 22 then some (.ifCond .eq 21, 3) else none)))) else (bif Nat.ble 11 p then (bif Nat.ble 15 p then (bif Nat.ble 18 p then (bif Nat.ble 19 p then (bif Nat.beq p 19 then some (.invokevirtual 122, 3) else none) else (bif Nat.beq p 18 then some (.iload_n 2, 1) else none)) else (bif Nat.beq p 15 then some (.getfield 99, 3) else none)) else (bif Nat.ble 12 p then (bif Nat.beq p 12 then some (.getfield 10, 3) else none) else (bif Nat.beq p 11 then some (.aload_n 0, 1) else none))) else (bif Nat.ble 4 p then (bif Nat.ble 5 p then (bif Nat.ble 8 p then (bif Nat.beq p 8 then some (.ifCond .eq 35, 3) else none) else (bif Nat.beq p 5 then some (.invokevirtual 149, 3) else none)) else (bif Nat.beq p 4 then some (.iload_n 1, 1) else none)) else (bif Nat.ble 1 p then (bif Nat.beq p 1 then some (.getfield 10, 3) else none) else (bif Nat.beq p 0 then some (.aload_n 0, 1) else none))))
set_option maxRecDepth 100000 in
theorem zkX10_knows : (zbig cX10_knows.data.toList = 1578035115841722717061989236174257619658785050721964553537511519638091964020347535718394853853946866210747434 ∧ cX10_knows.data.toList.length = 45) ∧ zdk cX10_knows 1578035115841722717061989236174257619658785050721964553537511519638091964020347535718394853853946866210747434 45 ztX10_knows 44 = true := by decide +kernel
theorem zw_802 : (Jvm.Cond.code ({ cls := "HillSchool", name := "knows", desc := "(III)Z" } : Jvm.MethodName) prog_1_method_43_code (4 : Nat) (Option.some Jvm.ClassFile.FieldType.boolean)) ∈ zall := zmemG (zmj_3 219 rfl) rfl
noncomputable abbrev w_HS_knows : List Cond := .code yX10_knows cX10_knows 4 (some .boolean) :: zall
noncomputable abbrev rm_HS_knows : Room := { frames := 1, cells := 0, slots := 0, locals := 21 }
theorem hd_HS_knows : yX10_knows.cls = "HillSchool" ∧ yX10_knows.cls ≠ "java/lang/invoke/MethodHandle" ∧ yX10_knows.cls ≠ "java/lang/invoke/VarHandle" ∧ (parseMethodDescriptor yX10_knows.desc).map (fun d => d.parameters.length) = some 3 := by decide +kernel
noncomputable def wd_HS_knows (cA : Nat → ClassId) (q0 q1 q2 q3 q4 q5 q6 q7 q8 q9 q10 q11 q12 q13 q14 q15 q16 q17 q18 q19 q20 q21 q22 q23 : Nat) (u0 u1 u2 u3 u4 u5 u6 u7 : Int) (i_hill_children : Int) (i_hill_columns_many : Int)  : va_W := [(q0, .inr (10, [.ref q1, .ref q2, .ref q3, .ref q4, .int (Int32.ofInt u0), .int (Int32.ofInt u1), .int (Int32.ofInt u2), .ref q5, .int (Int32.ofInt u3), .ref q6, .ref q7, .ref q8, .ref q9, .ref q10, .ref q11, .ref q12])), (q1, .inr (2, [.ref q13, .int (Int32.ofInt i_hill_children), .ref q14, .ref q15, .ref q16, .int (Int32.ofInt u4), .ref q17, .ref q18, .ref q19, .int (Int32.ofInt u5), .ref q20, .ref q21, .int (Int32.ofInt u6), .int (Int32.ofInt u7)])), (q13, .inr (1, [.int (Int32.ofInt i_hill_columns_many), .ref q22, .ref q23]))]
noncomputable def wf_HS_knows (cA : Nat → ClassId) (q0 q1 q2 q3 q4 q5 q6 q7 q8 q9 q10 q11 q12 q13 q14 q15 q16 q17 q18 q19 q20 q21 q22 q23 : Nat) (u0 u1 u2 u3 u4 u5 u6 u7 : Int) (i_hill_children : Int) (i_hill_columns_many : Int) (o : Int) : va_W := wd_HS_knows cA q0 q1 q2 q3 q4 q5 q6 q7 q8 q9 q10 q11 q12 q13 q14 q15 q16 q17 q18 q19 q20 q21 q22 q23 u0 u1 u2 u3 u4 u5 u6 u7 i_hill_children i_hill_columns_many
noncomputable def f_HS_knows (x1 : Int) (x2 : Int) (x3 : Int) (i_hill_children : Int) (i_hill_columns_many : Int) : Option (Int) :=
  zd1 (f_Hill_hasChild x1 i_hill_children) fun v1 =>
  if zi_w v1 = 0 then
    some 0
  else
    zd1 (f_Columns_has x2 i_hill_columns_many) fun v2 =>
    if zi_w v2 = 0 then
      some 0
    else
      zd1 (f_Columns_has x3 i_hill_columns_many) fun v3 =>
      if zi_w v3 = 0 then
        some 0
      else
        some 1
set_option maxHeartbeats 4000000 in
set_option maxRecDepth 100000 in
theorem c_HS_knows (l : Launch) (ev : zEv) (dC : Nat → ClassId) (dI : Nat → Nat → Nat) (cA : Nat → ClassId) (q0 q1 q2 q3 q4 q5 q6 q7 q8 q9 q10 q11 q12 q13 q14 q15 q16 q17 q18 q19 q20 q21 q22 q23 : Nat) (u0 u1 u2 u3 u4 u5 u6 u7 : Int) {x1 x2 x3 : Int} {i_hill_children : Int} {i_hill_columns_many : Int} {out : Int} (hf : f_HS_knows x1 x2 x3 i_hill_children i_hill_columns_many = some out) : xc_I l ev (dC, dI) vwCl (tyl cA) yX10_knows w_HS_knows rm_HS_knows [.ref q0, .int (Int32.ofInt x1), .int (Int32.ofInt x2), .int (Int32.ofInt x3)] (wd_HS_knows cA q0 q1 q2 q3 q4 q5 q6 q7 q8 q9 q10 q11 q12 q13 q14 q15 q16 q17 q18 q19 q20 q21 q22 q23 u0 u1 u2 u3 u4 u5 u6 u7 i_hill_children i_hill_columns_many) (wf_HS_knows cA q0 q1 q2 q3 q4 q5 q6 q7 q8 q9 q10 q11 q12 q13 q14 q15 q16 q17 q18 q19 q20 q21 q22 q23 u0 u1 u2 u3 u4 u5 u6 u7 i_hill_children i_hill_columns_many out) out := by
  refine xv_startI (cc := cX10_knows) (maxL := 4) (rt := .boolean) (by decide +kernel) rfl (Nat.le_of_ble_eq_true rfl) ?_
  intro p e s m args below meth c A Q H ls hx hb hml hts hown hK hA hP hD hS hl hE hret
  have hown : s.vm.findClass "HillSchool" = some m.cls := hown
  have hz : ∀ w ∈ zall, w.before args s = true := fun w h => hts w (List.mem_cons_of_mem _ h)
  have hl : lv_has ls 4 [(0, .ref q0), (1, .int (Int32.ofInt x1)), (2, .int (Int32.ofInt x2)), (3, .int (Int32.ofInt x3))] := hl
  unfold f_HS_knows at hf
  refine lv_aload_n hx hb (zdt zkX10_knows 0 rfl) rfl (lv_at hl 0 rfl) ?_
  refine va_get (D := (dC, dI)) (ci := 10) (v := .ref q1) (C := RX10) (T := TX10) (N := 16) hx hb hz zi_X10 hown hK hP 0 rfl rfl 0 (by decide) (hz _ zw_477) (fun _ h9 => h9) rfl (zdt zkX10_knows 1 rfl) ?_
  refine lv_iload_n hx hb (zdt zkX10_knows 4 rfl) rfl (lv_at hl 1 rfl) ?_
  refine xe_d1 hf (fun v1 hg hf => ?_)
  have hC : ([1] : List Nat).map (fun i => (wd_HS_knows cA q0 q1 q2 q3 q4 q5 q6 q7 q8 q9 q10 q11 q12 q13 q14 q15 q16 q17 q18 q19 q20 q21 q22 q23 u0 u1 u2 u3 u4 u5 u6 u7 i_hill_children i_hill_columns_many)[i]?) = (wd_Hill_hasChild cA q1 q13 q14 q15 q16 q17 q18 q19 q20 q21 u4 u5 u6 u7 i_hill_children).map some := rfl
  refine xv_afterI (ws' := (wd_HS_knows cA q0 q1 q2 q3 q4 q5 q6 q7 q8 q9 q10 q11 q12 q13 q14 q15 q16 q17 q18 q19 q20 q21 q22 q23 u0 u1 u2 u3 u4 u5 u6 u7 i_hill_children i_hill_columns_many)) (isC := [1]) (ps := [none, some 0, none]) (va_runV (As := [.int (Int32.ofInt x1)]) (rest := []) ⟨hx, hb, hml, hown, hts⟩ (c_Hill_hasChild l ev dC dI cA q1 q13 q14 q15 q16 q17 q18 q19 q20 q21 u4 u5 u6 u7 hg H.size) (cwV 1 hts (zgV zw_601 zw_602 zw_603 zw_105 zw_604) rfl rfl rfl hd_Hill_hasChild ⟨Nat.le_of_ble_eq_true rfl, Nat.le_of_ble_eq_true rfl⟩) (xv_preV (T := TX2) (N := 14) hE hA hS hK hP hD (isC := [1]) (by decide +kernel) hC (q0 := 1) (ci := 2) rfl rfl) rfl rfl hl.1 rfl (lv_room (Nat.le_of_ble_eq_true rfl)) (zdt zkX10_knows 5 rfl) ⟨Nat.le_refl _, Nat.le_refl _⟩) hP hD hS hA (by decide +kernel) rfl hC rfl rfl (fun H locs hP hD hS => ?_)
  refine xi_if_eq (tgt := 43) hx hb (zdt zkX10_knows 8 rfl) (by decide) hf (fun hf => ?_) (fun hf => ?_)
  · refine lv_iconst (v := Int32.ofInt 0) hx hb (zdt zkX10_knows 43 rfl) rfl ?_
    obtain rfl := Option.some.inj hf
    exact hret _ _ _ _ zz_b0 (zdt zkX10_knows 44 rfl) hP hD hS
  · refine lv_aload_n hx hb (zdt zkX10_knows 11 rfl) rfl (lv_at hl 0 rfl) ?_
    refine va_get (D := (dC, dI)) (ci := 10) (v := .ref q1) (C := RX10) (T := TX10) (N := 16) hx hb hz zi_X10 hown hK hP 0 rfl rfl 0 (by decide) (hz _ zw_477) (fun _ h9 => h9) rfl (zdt zkX10_knows 12 rfl) ?_
    refine va_getN (D := (dC, dI)) (ci := 2) (v := .ref q13) (C := RX2) (T := TX2) (N := 14) hx hb hz zi_X2 hown hK hP 1 rfl rfl 0 (by decide) (va_Nw.use rfl (hE.1.1 _ zw_169)) (fun _ h9 => h9) rfl (zdt zkX10_knows 15 rfl) ?_
    refine lv_iload_n hx hb (zdt zkX10_knows 18 rfl) rfl (lv_at hl 2 rfl) ?_
    refine xe_d1 hf (fun v2 hg hf => ?_)
    have hC : ([2] : List Nat).map (fun i => (wd_HS_knows cA q0 q1 q2 q3 q4 q5 q6 q7 q8 q9 q10 q11 q12 q13 q14 q15 q16 q17 q18 q19 q20 q21 q22 q23 u0 u1 u2 u3 u4 u5 u6 u7 i_hill_children i_hill_columns_many)[i]?) = (wd_Columns_has cA q13 q22 q23 i_hill_columns_many).map some := rfl
    refine xv_afterI (ws' := (wd_HS_knows cA q0 q1 q2 q3 q4 q5 q6 q7 q8 q9 q10 q11 q12 q13 q14 q15 q16 q17 q18 q19 q20 q21 q22 q23 u0 u1 u2 u3 u4 u5 u6 u7 i_hill_children i_hill_columns_many)) (isC := [2]) (ps := [none, none, some 0]) (va_runV (As := [.int (Int32.ofInt x2)]) (rest := []) ⟨hx, hb, hml, hown, hts⟩ (c_Columns_has l ev dC dI cA q13 q22 q23 hg H.size) (cwV 1 hts (zgV zw_546 zw_547 zw_548 zw_106 zw_549) rfl rfl rfl hd_Columns_has ⟨Nat.le_of_ble_eq_true rfl, Nat.le_of_ble_eq_true rfl⟩) (xv_preV (T := TX1) (N := 3) hE hA hS hK hP hD (isC := [2]) (by decide +kernel) hC (q0 := 2) (ci := 1) rfl rfl) rfl rfl hl.1 rfl (lv_room (Nat.le_of_ble_eq_true rfl)) (zdt zkX10_knows 19 rfl) ⟨Nat.le_refl _, Nat.le_refl _⟩) hP hD hS hA (by decide +kernel) rfl hC rfl rfl (fun H locs hP hD hS => ?_)
    refine xi_if_eq (tgt := 43) hx hb (zdt zkX10_knows 22 rfl) (by decide) hf (fun hf => ?_) (fun hf => ?_)
    · refine lv_iconst (v := Int32.ofInt 0) hx hb (zdt zkX10_knows 43 rfl) rfl ?_
      obtain rfl := Option.some.inj hf
      exact hret _ _ _ _ zz_b0 (zdt zkX10_knows 44 rfl) hP hD hS
    · refine lv_aload_n hx hb (zdt zkX10_knows 25 rfl) rfl (lv_at hl 0 rfl) ?_
      refine va_get (D := (dC, dI)) (ci := 10) (v := .ref q1) (C := RX10) (T := TX10) (N := 16) hx hb hz zi_X10 hown hK hP 0 rfl rfl 0 (by decide) (hz _ zw_477) (fun _ h9 => h9) rfl (zdt zkX10_knows 26 rfl) ?_
      refine va_getN (D := (dC, dI)) (ci := 2) (v := .ref q13) (C := RX2) (T := TX2) (N := 14) hx hb hz zi_X2 hown hK hP 1 rfl rfl 0 (by decide) (va_Nw.use rfl (hE.1.1 _ zw_169)) (fun _ h9 => h9) rfl (zdt zkX10_knows 29 rfl) ?_
      refine lv_iload_n hx hb (zdt zkX10_knows 32 rfl) rfl (lv_at hl 3 rfl) ?_
      refine xe_d1 hf (fun v3 hg hf => ?_)
      have hC : ([2] : List Nat).map (fun i => (wd_HS_knows cA q0 q1 q2 q3 q4 q5 q6 q7 q8 q9 q10 q11 q12 q13 q14 q15 q16 q17 q18 q19 q20 q21 q22 q23 u0 u1 u2 u3 u4 u5 u6 u7 i_hill_children i_hill_columns_many)[i]?) = (wd_Columns_has cA q13 q22 q23 i_hill_columns_many).map some := rfl
      refine xv_afterI (ws' := (wd_HS_knows cA q0 q1 q2 q3 q4 q5 q6 q7 q8 q9 q10 q11 q12 q13 q14 q15 q16 q17 q18 q19 q20 q21 q22 q23 u0 u1 u2 u3 u4 u5 u6 u7 i_hill_children i_hill_columns_many)) (isC := [2]) (ps := [none, none, some 0]) (va_runV (As := [.int (Int32.ofInt x3)]) (rest := []) ⟨hx, hb, hml, hown, hts⟩ (c_Columns_has l ev dC dI cA q13 q22 q23 hg H.size) (cwV 1 hts (zgV zw_546 zw_547 zw_548 zw_106 zw_549) rfl rfl rfl hd_Columns_has ⟨Nat.le_of_ble_eq_true rfl, Nat.le_of_ble_eq_true rfl⟩) (xv_preV (T := TX1) (N := 3) hE hA hS hK hP hD (isC := [2]) (by decide +kernel) hC (q0 := 2) (ci := 1) rfl rfl) rfl rfl hl.1 rfl (lv_room (Nat.le_of_ble_eq_true rfl)) (zdt zkX10_knows 33 rfl) ⟨Nat.le_refl _, Nat.le_refl _⟩) hP hD hS hA (by decide +kernel) rfl hC rfl rfl (fun H locs hP hD hS => ?_)
      refine xi_if_eq (tgt := 43) hx hb (zdt zkX10_knows 36 rfl) (by decide) hf (fun hf => ?_) (fun hf => ?_)
      · refine lv_iconst (v := Int32.ofInt 0) hx hb (zdt zkX10_knows 43 rfl) rfl ?_
        obtain rfl := Option.some.inj hf
        exact hret _ _ _ _ zz_b0 (zdt zkX10_knows 44 rfl) hP hD hS
      · refine lv_iconst (v := Int32.ofInt 1) hx hb (zdt zkX10_knows 39 rfl) rfl ?_
        refine lv_goto (tgt := 44) hx hb (zdt zkX10_knows 40 rfl) (by decide) ?_
        obtain rfl := Option.some.inj hf
        exact hret _ _ _ _ zz_b1 (zdt zkX10_knows 44 rfl) hP hD hS
set_option maxRecDepth 100000 in
noncomputable def ztX10_can (p : Nat) : Option (Jvm.ClassFile.Instr × Nat) := bif Nat.ble 17 p then (bif Nat.ble 29 p then (bif Nat.ble 34 p then (bif Nat.ble 37 p then (bif Nat.ble 38 p then (bif Nat.beq p 38 then some (.ireturn, 1) else none) else (bif Nat.beq p 37 then some (.iconst 1, 1) else none)) else (bif Nat.beq p 34 then some (.goto 4, 3) else none)) else (bif Nat.ble 30 p then (bif Nat.ble 33 p then (bif Nat.beq p 33 then some (.iconst 0, 1) else none) else (bif Nat.beq p 30 then some (.if_icmp .ne 7, 3) else none)) else (bif Nat.beq p 29 then some (.iconst (-1), 1) else none))) else (bif Nat.ble 24 p then (bif Nat.ble 25 p then (bif Nat.ble 26 p then (bif Nat.beq p 26 then some (.invokevirtual 201, 3) else none) else (bif Nat.beq p 25 then some (.iload_n 3, 1) else none)) else (bif Nat.beq p 24 then some (.iload_n 2, 1) else none)) else (bif Nat.ble 20 p then (bif Nat.ble 23 p then (bif Nat.beq p 23 then some (.iload_n 1, 1) else none) else (bif Nat.beq p 20 then some (.getfield 99, 3) else none)) else (bif Nat.beq p 17 then some (.getfield 10, 3) else none)))) else (bif Nat.ble 7 p then (bif Nat.ble 12 p then (bif Nat.ble 13 p then (bif Nat.ble 16 p then (bif Nat.beq p 16 then some (.aload_n 0, 1) else none) else (bif Nat.beq p 13 then some (.getfield 56, 3) else none)) else (bif Nat.beq p 12 then some (.aload_n 0, 1) else none)) else (bif Nat.ble 10 p then (bif Nat.ble 11 p then (bif Nat.beq p 11 then some (.ireturn, 1) else none) else (bif Nat.beq p 10 then some (.iconst (-1), 1) else none)) else (bif Nat.beq p 7 then some (.ifCond .ne 5, 3) else none))) else (bif Nat.ble 2 p then (bif Nat.ble 3 p then (bif Nat.ble 4 p then (bif Nat.beq p 4 then some (.invokevirtual 197, 3) else none) else (bif Nat.beq p 3 then some (.iload_n 3, 1) else none)) else (bif Nat.beq p 2 then some (.iload_n 2, 1) else none)) else (bif Nat.ble 1 p then (bif Nat.beq p 1 then some (.iload_n 1, 1) else none) else (bif Nat.beq p 0 then some (.aload_n 0, 1) else none))))
set_option maxRecDepth 100000 in
theorem zkX10_can : (zbig cX10_can.data.toList = 5606434256426912619393649888994207032961319760279569311463860653503505593387377585262425807658 ∧ cX10_can.data.toList.length = 39) ∧ zdk cX10_can 5606434256426912619393649888994207032961319760279569311463860653503505593387377585262425807658 39 ztX10_can 38 = true := by decide +kernel
theorem zw_13 : (Jvm.Cond.selects "HillSchool" ({ cls := "HillSchool", name := "knows", desc := "(III)Z" } : Jvm.MethodName) ({ cls := "HillSchool", name := "knows", desc := "(III)Z" } : Jvm.MethodName)) ∈ zall := zmemG (zmj_0 13 rfl) rfl
theorem zw_487 : (Jvm.Cond.fieldLink "HillSchool" (56 : Nat) "HillSchool" "judge" "LHillSchool$Judge;") ∈ zall := zmemG (zmj_2 144 rfl) rfl
theorem zw_798 : (Jvm.Cond.code ({ cls := "HillSchool", name := "can", desc := "(III)I" } : Jvm.MethodName) prog_1_method_19_code (4 : Nat) (Option.some Jvm.ClassFile.FieldType.int)) ∈ zall := zmemG (zmj_3 215 rfl) rfl
theorem zw_799 : (Jvm.Cond.methodLink "HillSchool" (197 : Nat) ({ cls := "HillSchool", name := "knows", desc := "(III)Z" } : Jvm.MethodName)) ∈ zall := zmemG (zmj_3 216 rfl) rfl
theorem zw_801 : (Jvm.Cond.instanceMethod ({ cls := "HillSchool", name := "knows", desc := "(III)Z" } : Jvm.MethodName)) ∈ zall := zmemG (zmj_3 218 rfl) rfl
theorem zw_803 : (Jvm.Cond.methodLink "HillSchool" (201 : Nat) ({ cls := "HillSchool$Judge", name := "effortOn", desc := "(LHillSchool$Columns;III)I" } : Jvm.MethodName)) ∈ zall := zmemG (zmj_3 220 rfl) rfl
theorem zw_804 : (Jvm.Cond.instanceMethod ({ cls := "HillSchool$Judge", name := "effortOn", desc := "(LHillSchool$Columns;III)I" } : Jvm.MethodName)) ∈ zall := zmemG (zmj_3 221 rfl) rfl
theorem zw_805 : (Jvm.Cond.selects "HillSchool$Judge" ({ cls := "HillSchool$Judge", name := "effortOn", desc := "(LHillSchool$Columns;III)I" } : Jvm.MethodName) ({ cls := "HillSchool$Judge", name := "effortOn", desc := "(LHillSchool$Columns;III)I" } : Jvm.MethodName)) ∈ zall := zmemG (zmj_3 222 rfl) rfl
noncomputable abbrev w_HS_can : List Cond := .code yX10_can cX10_can 4 (some .int) :: zall
noncomputable abbrev rm_HS_can : Room := { frames := 5, cells := 0, slots := 0, locals := 138 }
theorem hd_HS_can : yX10_can.cls = "HillSchool" ∧ yX10_can.cls ≠ "java/lang/invoke/MethodHandle" ∧ yX10_can.cls ≠ "java/lang/invoke/VarHandle" ∧ (parseMethodDescriptor yX10_can.desc).map (fun d => d.parameters.length) = some 3 := by decide +kernel
noncomputable def wd_HS_can (cA : Nat → ClassId) (q0 q1 q2 q3 q4 q5 q6 q7 q8 q9 q10 q11 q12 q13 q14 q15 q16 q17 q18 q19 q20 q21 q22 q23 q24 q25 : Nat) (u0 u1 u2 u3 u4 u5 : Int) (i_hill_children : Int) (i_hill_laws : Int) (i_hill_inForce : Int) (i_hill_columns_many : Int) (i_hill_strengths : Nat → Int) (i_hill_expelled : Nat → Int) (i_hill_terms : Nat → Int) (i_hill_orders : Nat → Int) (i_hill_ordered : Nat → Int) (i_hill_columns_heights : Nat → Int) (i_hill_columns_weights : Nat → Int) (i_judge_piled : Int) (i_judge_tiring : Int) (i_judge_barred : Int) (i_judge_words : Nat → Int) (i_judge_pile : Nat → Int) : va_W := [(q0, .inr (10, [.ref q1, .ref q2, .ref q3, .ref q4, .int (Int32.ofInt u0), .int (Int32.ofInt u1), .int (Int32.ofInt u2), .ref q5, .int (Int32.ofInt u3), .ref q6, .ref q7, .ref q8, .ref q9, .ref q10, .ref q11, .ref q12])), (q1, .inr (2, [.ref q13, .int (Int32.ofInt i_hill_children), .ref q14, .ref q15, .ref q16, .int (Int32.ofInt u4), .ref q17, .ref q18, .ref q19, .int (Int32.ofInt i_hill_laws), .ref q20, .ref q21, .int (Int32.ofInt i_hill_inForce), .int (Int32.ofInt u5)])), (q7, .inr (3, [.ref q1, .ref q22, .ref q23, .int (Int32.ofInt i_judge_piled), .int (Int32.ofInt i_judge_tiring), .int (Int32.ofInt i_judge_barred)])), (q13, .inr (1, [.int (Int32.ofInt i_hill_columns_many), .ref q24, .ref q25])), (q14, .inl (cA 0, 6, .inl (za i_hill_strengths))), (q15, .inl (cA 0, 6, .inl (za i_hill_expelled))), (q18, .inl (cA 0, 4, .inl (za i_hill_terms))), (q20, .inl (cA 0, 2544, .inl (za i_hill_orders))), (q21, .inl (cA 0, 6, .inl (za i_hill_ordered))), (q22, .inl (cA 0, 8, .inl (za i_judge_words))), (q23, .inl (cA 0, 32, .inl (za i_judge_pile))), (q24, .inl (cA 0, 12, .inl (za i_hill_columns_heights))), (q25, .inl (cA 0, 120, .inl (za i_hill_columns_weights)))]
noncomputable def wf_HS_can (cA : Nat → ClassId) (q0 q1 q2 q3 q4 q5 q6 q7 q8 q9 q10 q11 q12 q13 q14 q15 q16 q17 q18 q19 q20 q21 q22 q23 q24 q25 : Nat) (u0 u1 u2 u3 u4 u5 : Int) (i_hill_children : Int) (i_hill_laws : Int) (i_hill_inForce : Int) (i_hill_columns_many : Int) (i_hill_strengths : Nat → Int) (i_hill_expelled : Nat → Int) (i_hill_terms : Nat → Int) (i_hill_orders : Nat → Int) (i_hill_ordered : Nat → Int) (i_hill_columns_heights : Nat → Int) (i_hill_columns_weights : Nat → Int) (o : Int × Int × Int × Int × (Nat → Int) × (Nat → Int)) : va_W := wd_HS_can cA q0 q1 q2 q3 q4 q5 q6 q7 q8 q9 q10 q11 q12 q13 q14 q15 q16 q17 q18 q19 q20 q21 q22 q23 q24 q25 u0 u1 u2 u3 u4 u5 i_hill_children i_hill_laws i_hill_inForce i_hill_columns_many i_hill_strengths i_hill_expelled i_hill_terms i_hill_orders i_hill_ordered i_hill_columns_heights i_hill_columns_weights o.2.1 o.2.2.1 o.2.2.2.1 o.2.2.2.2.1 o.2.2.2.2.2
noncomputable def f_HS_can (x1 : Int) (x2 : Int) (x3 : Int) (i_hill_children : Int) (i_hill_laws : Int) (i_hill_inForce : Int) (i_hill_columns_many : Int) (i_hill_strengths : Nat → Int) (i_hill_expelled : Nat → Int) (i_hill_terms : Nat → Int) (i_hill_orders : Nat → Int) (i_hill_ordered : Nat → Int) (i_hill_columns_heights : Nat → Int) (i_hill_columns_weights : Nat → Int) (i_judge_piled : Int) (i_judge_tiring : Int) (i_judge_barred : Int) (i_judge_words : Nat → Int) (i_judge_pile : Nat → Int) : Option (Int × Int × Int × Int × (Nat → Int) × (Nat → Int)) :=
  zd1 (f_HS_knows x1 x2 x3 i_hill_children i_hill_columns_many) fun v1 =>
  if zi_w v1 ≠ 0 then
    zd6 (f_Judge_effortOn x1 x2 x3 i_hill_columns_many i_hill_children i_hill_laws i_hill_inForce i_hill_columns_heights i_hill_columns_weights i_hill_strengths i_hill_expelled i_hill_terms i_hill_orders i_hill_ordered i_judge_piled i_judge_tiring i_judge_barred i_judge_words i_judge_pile) fun v2 v3 v4 v5 a6 a7 =>
    if zi_w v2 ≠ zi_w (-1) then
      some (1, v3, v4, v5, a6, a7)
    else
      some (0, v3, v4, v5, a6, a7)
  else
    some ((-1), i_judge_piled, i_judge_tiring, i_judge_barred, i_judge_words, i_judge_pile)
set_option maxHeartbeats 4000000 in
set_option maxRecDepth 100000 in
theorem c_HS_can (l : Launch) (ev : zEv) (dC : Nat → ClassId) (dI : Nat → Nat → Nat) (cA : Nat → ClassId) (q0 q1 q2 q3 q4 q5 q6 q7 q8 q9 q10 q11 q12 q13 q14 q15 q16 q17 q18 q19 q20 q21 q22 q23 q24 q25 : Nat) (u0 u1 u2 u3 u4 u5 : Int) {x1 x2 x3 : Int} {i_hill_children : Int} {i_hill_laws : Int} {i_hill_inForce : Int} {i_hill_columns_many : Int} {i_hill_strengths : Nat → Int} {i_hill_expelled : Nat → Int} {i_hill_terms : Nat → Int} {i_hill_orders : Nat → Int} {i_hill_ordered : Nat → Int} {i_hill_columns_heights : Nat → Int} {i_hill_columns_weights : Nat → Int} {i_judge_piled : Int} {i_judge_tiring : Int} {i_judge_barred : Int} {i_judge_words : Nat → Int} {i_judge_pile : Nat → Int} {out : Int × Int × Int × Int × (Nat → Int) × (Nat → Int)} (hf : f_HS_can x1 x2 x3 i_hill_children i_hill_laws i_hill_inForce i_hill_columns_many i_hill_strengths i_hill_expelled i_hill_terms i_hill_orders i_hill_ordered i_hill_columns_heights i_hill_columns_weights i_judge_piled i_judge_tiring i_judge_barred i_judge_words i_judge_pile = some out) : xc_I l ev (dC, dI) vwCl (tyl cA) yX10_can w_HS_can rm_HS_can [.ref q0, .int (Int32.ofInt x1), .int (Int32.ofInt x2), .int (Int32.ofInt x3)] (wd_HS_can cA q0 q1 q2 q3 q4 q5 q6 q7 q8 q9 q10 q11 q12 q13 q14 q15 q16 q17 q18 q19 q20 q21 q22 q23 q24 q25 u0 u1 u2 u3 u4 u5 i_hill_children i_hill_laws i_hill_inForce i_hill_columns_many i_hill_strengths i_hill_expelled i_hill_terms i_hill_orders i_hill_ordered i_hill_columns_heights i_hill_columns_weights i_judge_piled i_judge_tiring i_judge_barred i_judge_words i_judge_pile) (wf_HS_can cA q0 q1 q2 q3 q4 q5 q6 q7 q8 q9 q10 q11 q12 q13 q14 q15 q16 q17 q18 q19 q20 q21 q22 q23 q24 q25 u0 u1 u2 u3 u4 u5 i_hill_children i_hill_laws i_hill_inForce i_hill_columns_many i_hill_strengths i_hill_expelled i_hill_terms i_hill_orders i_hill_ordered i_hill_columns_heights i_hill_columns_weights out) out.1 := by
  refine xv_startI (cc := cX10_can) (maxL := 4) (rt := .int) (by decide +kernel) rfl (Nat.le_of_ble_eq_true rfl) ?_
  intro p e s m args below meth c A Q H ls hx hb hml hts hown hK hA hP hD hS hl hE hret
  have hown : s.vm.findClass "HillSchool" = some m.cls := hown
  have hz : ∀ w ∈ zall, w.before args s = true := fun w h => hts w (List.mem_cons_of_mem _ h)
  have hl : lv_has ls 4 [(0, .ref q0), (1, .int (Int32.ofInt x1)), (2, .int (Int32.ofInt x2)), (3, .int (Int32.ofInt x3))] := hl
  unfold f_HS_can at hf
  refine lv_aload_n hx hb (zdt zkX10_can 0 rfl) rfl (lv_at hl 0 rfl) ?_
  refine lv_iload_n hx hb (zdt zkX10_can 1 rfl) rfl (lv_at hl 1 rfl) ?_
  refine lv_iload_n hx hb (zdt zkX10_can 2 rfl) rfl (lv_at hl 2 rfl) ?_
  refine lv_iload_n hx hb (zdt zkX10_can 3 rfl) rfl (lv_at hl 3 rfl) ?_
  refine xe_d1 hf (fun v1 hg hf => ?_)
  have hC : ([0, 1, 3] : List Nat).map (fun i => (wd_HS_can cA q0 q1 q2 q3 q4 q5 q6 q7 q8 q9 q10 q11 q12 q13 q14 q15 q16 q17 q18 q19 q20 q21 q22 q23 q24 q25 u0 u1 u2 u3 u4 u5 i_hill_children i_hill_laws i_hill_inForce i_hill_columns_many i_hill_strengths i_hill_expelled i_hill_terms i_hill_orders i_hill_ordered i_hill_columns_heights i_hill_columns_weights i_judge_piled i_judge_tiring i_judge_barred i_judge_words i_judge_pile)[i]?) = (wd_HS_knows cA q0 q1 q2 q3 q4 q5 q6 q7 q8 q9 q10 q11 q12 q13 q14 q15 q16 q17 q18 q19 q20 q21 q24 q25 u0 u1 u2 u3 u4 i_hill_laws i_hill_inForce u5 i_hill_children i_hill_columns_many).map some := rfl
  refine xv_afterI (ws' := (wd_HS_can cA q0 q1 q2 q3 q4 q5 q6 q7 q8 q9 q10 q11 q12 q13 q14 q15 q16 q17 q18 q19 q20 q21 q22 q23 q24 q25 u0 u1 u2 u3 u4 u5 i_hill_children i_hill_laws i_hill_inForce i_hill_columns_many i_hill_strengths i_hill_expelled i_hill_terms i_hill_orders i_hill_ordered i_hill_columns_heights i_hill_columns_weights i_judge_piled i_judge_tiring i_judge_barred i_judge_words i_judge_pile)) (isC := [0, 1, 3]) (ps := [some 0, some 1, none, some 2, none, none, none, none, none, none, none, none, none]) (va_runV (As := [.int (Int32.ofInt x1), .int (Int32.ofInt x2), .int (Int32.ofInt x3)]) (rest := []) ⟨hx, hb, hml, hown, hts⟩ (c_HS_knows l ev dC dI cA q0 q1 q2 q3 q4 q5 q6 q7 q8 q9 q10 q11 q12 q13 q14 q15 q16 q17 q18 q19 q20 q21 q24 q25 u0 u1 u2 u3 u4 i_hill_laws i_hill_inForce u5 hg H.size) (cwV 3 hts (zgV zw_799 zw_801 zw_13 zw_104 zw_802) rfl rfl rfl hd_HS_knows ⟨Nat.le_of_ble_eq_true rfl, Nat.le_of_ble_eq_true rfl⟩) (xv_preV (T := TX10) (N := 16) hE hA hS hK hP hD (isC := [0, 1, 3]) (by decide +kernel) hC (q0 := 0) (ci := 10) rfl rfl) rfl rfl hl.1 rfl (lv_room (Nat.le_of_ble_eq_true rfl)) (zdt zkX10_can 4 rfl) ⟨Nat.le_refl _, Nat.le_refl _⟩) hP hD hS hA (by decide +kernel) rfl hC rfl rfl (fun H locs hP hD hS => ?_)
  refine xi_if_ne (tgt := 12) hx hb (zdt zkX10_can 7 rfl) (by decide) hf (fun hf => ?_) (fun hf => ?_)
  · refine lv_aload_n hx hb (zdt zkX10_can 12 rfl) rfl (lv_at hl 0 rfl) ?_
    refine va_get (D := (dC, dI)) (ci := 10) (v := .ref q7) (C := RX10) (T := TX10) (N := 16) hx hb hz zi_X10 hown hK hP 0 rfl rfl 10 (by decide) (hz _ zw_487) (fun _ h9 => h9) rfl (zdt zkX10_can 13 rfl) ?_
    refine lv_aload_n hx hb (zdt zkX10_can 16 rfl) rfl (lv_at hl 0 rfl) ?_
    refine va_get (D := (dC, dI)) (ci := 10) (v := .ref q1) (C := RX10) (T := TX10) (N := 16) hx hb hz zi_X10 hown hK hP 0 rfl rfl 0 (by decide) (hz _ zw_477) (fun _ h9 => h9) rfl (zdt zkX10_can 17 rfl) ?_
    refine va_getN (D := (dC, dI)) (ci := 2) (v := .ref q13) (C := RX2) (T := TX2) (N := 14) hx hb hz zi_X2 hown hK hP 1 rfl rfl 0 (by decide) (va_Nw.use rfl (hE.1.1 _ zw_169)) (fun _ h9 => h9) rfl (zdt zkX10_can 20 rfl) ?_
    refine lv_iload_n hx hb (zdt zkX10_can 23 rfl) rfl (lv_at hl 1 rfl) ?_
    refine lv_iload_n hx hb (zdt zkX10_can 24 rfl) rfl (lv_at hl 2 rfl) ?_
    refine lv_iload_n hx hb (zdt zkX10_can 25 rfl) rfl (lv_at hl 3 rfl) ?_
    refine xe_d6 hf (fun v2 v3 v4 v5 a6 a7 hg hf => ?_)
    have hC : ([2, 3, 1, 9, 10, 11, 12, 4, 5, 6, 7, 8] : List Nat).map (fun i => (wd_HS_can cA q0 q1 q2 q3 q4 q5 q6 q7 q8 q9 q10 q11 q12 q13 q14 q15 q16 q17 q18 q19 q20 q21 q22 q23 q24 q25 u0 u1 u2 u3 u4 u5 i_hill_children i_hill_laws i_hill_inForce i_hill_columns_many i_hill_strengths i_hill_expelled i_hill_terms i_hill_orders i_hill_ordered i_hill_columns_heights i_hill_columns_weights i_judge_piled i_judge_tiring i_judge_barred i_judge_words i_judge_pile)[i]?) = (wd_Judge_effortOn cA q7 q1 q22 q23 q13 q24 q25 q13 q14 q15 q16 q17 q18 q19 q20 q21 u4 u5 i_hill_columns_many i_hill_children i_hill_laws i_hill_inForce i_hill_columns_heights i_hill_columns_weights i_hill_strengths i_hill_expelled i_hill_terms i_hill_orders i_hill_ordered i_judge_piled i_judge_tiring i_judge_barred i_judge_words i_judge_pile).map some := rfl
    refine xv_afterI (ws' := (wd_HS_can cA q0 q1 q2 q3 q4 q5 q6 q7 q8 q9 q10 q11 q12 q13 q14 q15 q16 q17 q18 q19 q20 q21 q22 q23 q24 q25 u0 u1 u2 u3 u4 u5 i_hill_children i_hill_laws i_hill_inForce i_hill_columns_many i_hill_strengths i_hill_expelled i_hill_terms i_hill_orders i_hill_ordered i_hill_columns_heights i_hill_columns_weights v3 v4 v5 a6 a7)) (isC := [2, 3, 1, 9, 10, 11, 12, 4, 5, 6, 7, 8]) (ps := [none, some 2, some 0, some 1, some 7, some 8, some 9, some 10, some 11, some 3, some 4, some 5, some 6]) (va_runV (As := [.ref q13, .int (Int32.ofInt x1), .int (Int32.ofInt x2), .int (Int32.ofInt x3)]) (rest := []) ⟨hx, hb, hml, hown, hts⟩ (c_Judge_effortOn l ev dC dI cA q7 q1 q22 q23 q13 q24 q25 q13 q14 q15 q16 q17 q18 q19 q20 q21 u4 u5 hg H.size) (cwV 4 hts (zgV zw_803 zw_804 zw_805 zw_108 zw_806) rfl rfl rfl hd_Judge_effortOn ⟨Nat.le_of_ble_eq_true rfl, Nat.le_of_ble_eq_true rfl⟩) (xv_preV (T := TX3) (N := 6) hE hA hS hK hP hD (isC := [2, 3, 1, 9, 10, 11, 12, 4, 5, 6, 7, 8]) (by decide +kernel) hC (q0 := 2) (ci := 3) rfl rfl) rfl rfl hl.1 rfl (lv_room (Nat.le_of_ble_eq_true rfl)) (zdt zkX10_can 26 rfl) ⟨Nat.le_refl _, Nat.le_refl _⟩) hP hD hS hA (by decide +kernel) rfl hC rfl rfl (fun H locs hP hD hS => ?_)
    refine lv_iconst (v := Int32.ofInt (-1)) hx hb (zdt zkX10_can 29 rfl) rfl ?_
    refine xi_icmp_ne (tgt := 37) hx hb (zdt zkX10_can 30 rfl) (by decide) hf (fun hf => ?_) (fun hf => ?_)
    · refine lv_iconst (v := Int32.ofInt 1) hx hb (zdt zkX10_can 37 rfl) rfl ?_
      obtain rfl := Option.some.inj hf
      exact hret _ _ _ _ rfl (zdt zkX10_can 38 rfl) hP hD hS
    · refine lv_iconst (v := Int32.ofInt 0) hx hb (zdt zkX10_can 33 rfl) rfl ?_
      refine lv_goto (tgt := 38) hx hb (zdt zkX10_can 34 rfl) (by decide) ?_
      obtain rfl := Option.some.inj hf
      exact hret _ _ _ _ rfl (zdt zkX10_can 38 rfl) hP hD hS
  · refine lv_iconst (v := Int32.ofInt (-1)) hx hb (zdt zkX10_can 10 rfl) rfl ?_
    obtain rfl := Option.some.inj hf
    exact hret _ _ _ _ rfl (zdt zkX10_can 11 rfl) hP hD hS
set_option maxRecDepth 100000 in
noncomputable def ztX10_tires (p : Nat) : Option (Jvm.ClassFile.Instr × Nat) := bif Nat.ble 15 p then (bif Nat.ble 23 p then (bif Nat.ble 27 p then (bif Nat.ble 30 p then (bif Nat.ble 31 p then (bif Nat.beq p 31 then some (.ireturn, 1) else none) else (bif Nat.beq p 30 then some (.iconst (-1), 1) else none)) else (bif Nat.beq p 27 then some (.goto 4, 3) else none)) else (bif Nat.ble 24 p then (bif Nat.beq p 24 then some (.invokevirtual 201, 3) else none) else (bif Nat.beq p 23 then some (.iload_n 3, 1) else none))) else (bif Nat.ble 21 p then (bif Nat.ble 22 p then (bif Nat.beq p 22 then some (.iload_n 2, 1) else none) else (bif Nat.beq p 21 then some (.iload_n 1, 1) else none)) else (bif Nat.ble 18 p then (bif Nat.beq p 18 then some (.getfield 99, 3) else none) else (bif Nat.beq p 15 then some (.getfield 10, 3) else none)))) else (bif Nat.ble 4 p then (bif Nat.ble 10 p then (bif Nat.ble 11 p then (bif Nat.ble 14 p then (bif Nat.beq p 14 then some (.aload_n 0, 1) else none) else (bif Nat.beq p 11 then some (.getfield 56, 3) else none)) else (bif Nat.beq p 10 then some (.aload_n 0, 1) else none)) else (bif Nat.ble 7 p then (bif Nat.beq p 7 then some (.ifCond .eq 23, 3) else none) else (bif Nat.beq p 4 then some (.invokevirtual 197, 3) else none))) else (bif Nat.ble 2 p then (bif Nat.ble 3 p then (bif Nat.beq p 3 then some (.iload_n 3, 1) else none) else (bif Nat.beq p 2 then some (.iload_n 2, 1) else none)) else (bif Nat.ble 1 p then (bif Nat.beq p 1 then some (.iload_n 1, 1) else none) else (bif Nat.beq p 0 then some (.aload_n 0, 1) else none))))
set_option maxRecDepth 100000 in
theorem zkX10_tires : (zbig cX10_tires.data.toList = 77801371275106603186926798554033901944998214538660645904554660850951752784682 ∧ cX10_tires.data.toList.length = 32) ∧ zdk cX10_tires 77801371275106603186926798554033901944998214538660645904554660850951752784682 32 ztX10_tires 31 = true := by decide +kernel
theorem zw_844 : (Jvm.Cond.code ({ cls := "HillSchool", name := "tires", desc := "(III)I" } : Jvm.MethodName) prog_1_method_20_code (4 : Nat) (Option.some Jvm.ClassFile.FieldType.int)) ∈ zall := zmemG (zmj_4 21 rfl) rfl
noncomputable abbrev w_HS_tires : List Cond := .code yX10_tires cX10_tires 4 (some .int) :: zall
noncomputable abbrev rm_HS_tires : Room := { frames := 5, cells := 0, slots := 0, locals := 138 }
theorem hd_HS_tires : yX10_tires.cls = "HillSchool" ∧ yX10_tires.cls ≠ "java/lang/invoke/MethodHandle" ∧ yX10_tires.cls ≠ "java/lang/invoke/VarHandle" ∧ (parseMethodDescriptor yX10_tires.desc).map (fun d => d.parameters.length) = some 3 := by decide +kernel
noncomputable def wd_HS_tires (cA : Nat → ClassId) (q0 q1 q2 q3 q4 q5 q6 q7 q8 q9 q10 q11 q12 q13 q14 q15 q16 q17 q18 q19 q20 q21 q22 q23 q24 q25 : Nat) (u0 u1 u2 u3 u4 u5 : Int) (i_hill_children : Int) (i_hill_laws : Int) (i_hill_inForce : Int) (i_hill_columns_many : Int) (i_hill_strengths : Nat → Int) (i_hill_expelled : Nat → Int) (i_hill_terms : Nat → Int) (i_hill_orders : Nat → Int) (i_hill_ordered : Nat → Int) (i_hill_columns_heights : Nat → Int) (i_hill_columns_weights : Nat → Int) (i_judge_piled : Int) (i_judge_tiring : Int) (i_judge_barred : Int) (i_judge_words : Nat → Int) (i_judge_pile : Nat → Int) : va_W := [(q0, .inr (10, [.ref q1, .ref q2, .ref q3, .ref q4, .int (Int32.ofInt u0), .int (Int32.ofInt u1), .int (Int32.ofInt u2), .ref q5, .int (Int32.ofInt u3), .ref q6, .ref q7, .ref q8, .ref q9, .ref q10, .ref q11, .ref q12])), (q1, .inr (2, [.ref q13, .int (Int32.ofInt i_hill_children), .ref q14, .ref q15, .ref q16, .int (Int32.ofInt u4), .ref q17, .ref q18, .ref q19, .int (Int32.ofInt i_hill_laws), .ref q20, .ref q21, .int (Int32.ofInt i_hill_inForce), .int (Int32.ofInt u5)])), (q7, .inr (3, [.ref q1, .ref q22, .ref q23, .int (Int32.ofInt i_judge_piled), .int (Int32.ofInt i_judge_tiring), .int (Int32.ofInt i_judge_barred)])), (q13, .inr (1, [.int (Int32.ofInt i_hill_columns_many), .ref q24, .ref q25])), (q14, .inl (cA 0, 6, .inl (za i_hill_strengths))), (q15, .inl (cA 0, 6, .inl (za i_hill_expelled))), (q18, .inl (cA 0, 4, .inl (za i_hill_terms))), (q20, .inl (cA 0, 2544, .inl (za i_hill_orders))), (q21, .inl (cA 0, 6, .inl (za i_hill_ordered))), (q22, .inl (cA 0, 8, .inl (za i_judge_words))), (q23, .inl (cA 0, 32, .inl (za i_judge_pile))), (q24, .inl (cA 0, 12, .inl (za i_hill_columns_heights))), (q25, .inl (cA 0, 120, .inl (za i_hill_columns_weights)))]
noncomputable def wf_HS_tires (cA : Nat → ClassId) (q0 q1 q2 q3 q4 q5 q6 q7 q8 q9 q10 q11 q12 q13 q14 q15 q16 q17 q18 q19 q20 q21 q22 q23 q24 q25 : Nat) (u0 u1 u2 u3 u4 u5 : Int) (i_hill_children : Int) (i_hill_laws : Int) (i_hill_inForce : Int) (i_hill_columns_many : Int) (i_hill_strengths : Nat → Int) (i_hill_expelled : Nat → Int) (i_hill_terms : Nat → Int) (i_hill_orders : Nat → Int) (i_hill_ordered : Nat → Int) (i_hill_columns_heights : Nat → Int) (i_hill_columns_weights : Nat → Int) (o : Int × Int × Int × Int × (Nat → Int) × (Nat → Int)) : va_W := wd_HS_tires cA q0 q1 q2 q3 q4 q5 q6 q7 q8 q9 q10 q11 q12 q13 q14 q15 q16 q17 q18 q19 q20 q21 q22 q23 q24 q25 u0 u1 u2 u3 u4 u5 i_hill_children i_hill_laws i_hill_inForce i_hill_columns_many i_hill_strengths i_hill_expelled i_hill_terms i_hill_orders i_hill_ordered i_hill_columns_heights i_hill_columns_weights o.2.1 o.2.2.1 o.2.2.2.1 o.2.2.2.2.1 o.2.2.2.2.2
noncomputable def f_HS_tires (x1 : Int) (x2 : Int) (x3 : Int) (i_hill_children : Int) (i_hill_laws : Int) (i_hill_inForce : Int) (i_hill_columns_many : Int) (i_hill_strengths : Nat → Int) (i_hill_expelled : Nat → Int) (i_hill_terms : Nat → Int) (i_hill_orders : Nat → Int) (i_hill_ordered : Nat → Int) (i_hill_columns_heights : Nat → Int) (i_hill_columns_weights : Nat → Int) (i_judge_piled : Int) (i_judge_tiring : Int) (i_judge_barred : Int) (i_judge_words : Nat → Int) (i_judge_pile : Nat → Int) : Option (Int × Int × Int × Int × (Nat → Int) × (Nat → Int)) :=
  zd1 (f_HS_knows x1 x2 x3 i_hill_children i_hill_columns_many) fun v1 =>
  if zi_w v1 = 0 then
    some ((-1), i_judge_piled, i_judge_tiring, i_judge_barred, i_judge_words, i_judge_pile)
  else
    zd6 (f_Judge_effortOn x1 x2 x3 i_hill_columns_many i_hill_children i_hill_laws i_hill_inForce i_hill_columns_heights i_hill_columns_weights i_hill_strengths i_hill_expelled i_hill_terms i_hill_orders i_hill_ordered i_judge_piled i_judge_tiring i_judge_barred i_judge_words i_judge_pile) fun v2 v3 v4 v5 a6 a7 =>
    some (v2, v3, v4, v5, a6, a7)
set_option maxHeartbeats 4000000 in
set_option maxRecDepth 100000 in
theorem c_HS_tires (l : Launch) (ev : zEv) (dC : Nat → ClassId) (dI : Nat → Nat → Nat) (cA : Nat → ClassId) (q0 q1 q2 q3 q4 q5 q6 q7 q8 q9 q10 q11 q12 q13 q14 q15 q16 q17 q18 q19 q20 q21 q22 q23 q24 q25 : Nat) (u0 u1 u2 u3 u4 u5 : Int) {x1 x2 x3 : Int} {i_hill_children : Int} {i_hill_laws : Int} {i_hill_inForce : Int} {i_hill_columns_many : Int} {i_hill_strengths : Nat → Int} {i_hill_expelled : Nat → Int} {i_hill_terms : Nat → Int} {i_hill_orders : Nat → Int} {i_hill_ordered : Nat → Int} {i_hill_columns_heights : Nat → Int} {i_hill_columns_weights : Nat → Int} {i_judge_piled : Int} {i_judge_tiring : Int} {i_judge_barred : Int} {i_judge_words : Nat → Int} {i_judge_pile : Nat → Int} {out : Int × Int × Int × Int × (Nat → Int) × (Nat → Int)} (hf : f_HS_tires x1 x2 x3 i_hill_children i_hill_laws i_hill_inForce i_hill_columns_many i_hill_strengths i_hill_expelled i_hill_terms i_hill_orders i_hill_ordered i_hill_columns_heights i_hill_columns_weights i_judge_piled i_judge_tiring i_judge_barred i_judge_words i_judge_pile = some out) : xc_I l ev (dC, dI) vwCl (tyl cA) yX10_tires w_HS_tires rm_HS_tires [.ref q0, .int (Int32.ofInt x1), .int (Int32.ofInt x2), .int (Int32.ofInt x3)] (wd_HS_tires cA q0 q1 q2 q3 q4 q5 q6 q7 q8 q9 q10 q11 q12 q13 q14 q15 q16 q17 q18 q19 q20 q21 q22 q23 q24 q25 u0 u1 u2 u3 u4 u5 i_hill_children i_hill_laws i_hill_inForce i_hill_columns_many i_hill_strengths i_hill_expelled i_hill_terms i_hill_orders i_hill_ordered i_hill_columns_heights i_hill_columns_weights i_judge_piled i_judge_tiring i_judge_barred i_judge_words i_judge_pile) (wf_HS_tires cA q0 q1 q2 q3 q4 q5 q6 q7 q8 q9 q10 q11 q12 q13 q14 q15 q16 q17 q18 q19 q20 q21 q22 q23 q24 q25 u0 u1 u2 u3 u4 u5 i_hill_children i_hill_laws i_hill_inForce i_hill_columns_many i_hill_strengths i_hill_expelled i_hill_terms i_hill_orders i_hill_ordered i_hill_columns_heights i_hill_columns_weights out) out.1 := by
  refine xv_startI (cc := cX10_tires) (maxL := 4) (rt := .int) (by decide +kernel) rfl (Nat.le_of_ble_eq_true rfl) ?_
  intro p e s m args below meth c A Q H ls hx hb hml hts hown hK hA hP hD hS hl hE hret
  have hown : s.vm.findClass "HillSchool" = some m.cls := hown
  have hz : ∀ w ∈ zall, w.before args s = true := fun w h => hts w (List.mem_cons_of_mem _ h)
  have hl : lv_has ls 4 [(0, .ref q0), (1, .int (Int32.ofInt x1)), (2, .int (Int32.ofInt x2)), (3, .int (Int32.ofInt x3))] := hl
  unfold f_HS_tires at hf
  refine lv_aload_n hx hb (zdt zkX10_tires 0 rfl) rfl (lv_at hl 0 rfl) ?_
  refine lv_iload_n hx hb (zdt zkX10_tires 1 rfl) rfl (lv_at hl 1 rfl) ?_
  refine lv_iload_n hx hb (zdt zkX10_tires 2 rfl) rfl (lv_at hl 2 rfl) ?_
  refine lv_iload_n hx hb (zdt zkX10_tires 3 rfl) rfl (lv_at hl 3 rfl) ?_
  refine xe_d1 hf (fun v1 hg hf => ?_)
  have hC : ([0, 1, 3] : List Nat).map (fun i => (wd_HS_tires cA q0 q1 q2 q3 q4 q5 q6 q7 q8 q9 q10 q11 q12 q13 q14 q15 q16 q17 q18 q19 q20 q21 q22 q23 q24 q25 u0 u1 u2 u3 u4 u5 i_hill_children i_hill_laws i_hill_inForce i_hill_columns_many i_hill_strengths i_hill_expelled i_hill_terms i_hill_orders i_hill_ordered i_hill_columns_heights i_hill_columns_weights i_judge_piled i_judge_tiring i_judge_barred i_judge_words i_judge_pile)[i]?) = (wd_HS_knows cA q0 q1 q2 q3 q4 q5 q6 q7 q8 q9 q10 q11 q12 q13 q14 q15 q16 q17 q18 q19 q20 q21 q24 q25 u0 u1 u2 u3 u4 i_hill_laws i_hill_inForce u5 i_hill_children i_hill_columns_many).map some := rfl
  refine xv_afterI (ws' := (wd_HS_tires cA q0 q1 q2 q3 q4 q5 q6 q7 q8 q9 q10 q11 q12 q13 q14 q15 q16 q17 q18 q19 q20 q21 q22 q23 q24 q25 u0 u1 u2 u3 u4 u5 i_hill_children i_hill_laws i_hill_inForce i_hill_columns_many i_hill_strengths i_hill_expelled i_hill_terms i_hill_orders i_hill_ordered i_hill_columns_heights i_hill_columns_weights i_judge_piled i_judge_tiring i_judge_barred i_judge_words i_judge_pile)) (isC := [0, 1, 3]) (ps := [some 0, some 1, none, some 2, none, none, none, none, none, none, none, none, none]) (va_runV (As := [.int (Int32.ofInt x1), .int (Int32.ofInt x2), .int (Int32.ofInt x3)]) (rest := []) ⟨hx, hb, hml, hown, hts⟩ (c_HS_knows l ev dC dI cA q0 q1 q2 q3 q4 q5 q6 q7 q8 q9 q10 q11 q12 q13 q14 q15 q16 q17 q18 q19 q20 q21 q24 q25 u0 u1 u2 u3 u4 i_hill_laws i_hill_inForce u5 hg H.size) (cwV 3 hts (zgV zw_799 zw_801 zw_13 zw_104 zw_802) rfl rfl rfl hd_HS_knows ⟨Nat.le_of_ble_eq_true rfl, Nat.le_of_ble_eq_true rfl⟩) (xv_preV (T := TX10) (N := 16) hE hA hS hK hP hD (isC := [0, 1, 3]) (by decide +kernel) hC (q0 := 0) (ci := 10) rfl rfl) rfl rfl hl.1 rfl (lv_room (Nat.le_of_ble_eq_true rfl)) (zdt zkX10_tires 4 rfl) ⟨Nat.le_refl _, Nat.le_refl _⟩) hP hD hS hA (by decide +kernel) rfl hC rfl rfl (fun H locs hP hD hS => ?_)
  refine xi_if_eq (tgt := 30) hx hb (zdt zkX10_tires 7 rfl) (by decide) hf (fun hf => ?_) (fun hf => ?_)
  · refine lv_iconst (v := Int32.ofInt (-1)) hx hb (zdt zkX10_tires 30 rfl) rfl ?_
    obtain rfl := Option.some.inj hf
    exact hret _ _ _ _ rfl (zdt zkX10_tires 31 rfl) hP hD hS
  · refine lv_aload_n hx hb (zdt zkX10_tires 10 rfl) rfl (lv_at hl 0 rfl) ?_
    refine va_get (D := (dC, dI)) (ci := 10) (v := .ref q7) (C := RX10) (T := TX10) (N := 16) hx hb hz zi_X10 hown hK hP 0 rfl rfl 10 (by decide) (hz _ zw_487) (fun _ h9 => h9) rfl (zdt zkX10_tires 11 rfl) ?_
    refine lv_aload_n hx hb (zdt zkX10_tires 14 rfl) rfl (lv_at hl 0 rfl) ?_
    refine va_get (D := (dC, dI)) (ci := 10) (v := .ref q1) (C := RX10) (T := TX10) (N := 16) hx hb hz zi_X10 hown hK hP 0 rfl rfl 0 (by decide) (hz _ zw_477) (fun _ h9 => h9) rfl (zdt zkX10_tires 15 rfl) ?_
    refine va_getN (D := (dC, dI)) (ci := 2) (v := .ref q13) (C := RX2) (T := TX2) (N := 14) hx hb hz zi_X2 hown hK hP 1 rfl rfl 0 (by decide) (va_Nw.use rfl (hE.1.1 _ zw_169)) (fun _ h9 => h9) rfl (zdt zkX10_tires 18 rfl) ?_
    refine lv_iload_n hx hb (zdt zkX10_tires 21 rfl) rfl (lv_at hl 1 rfl) ?_
    refine lv_iload_n hx hb (zdt zkX10_tires 22 rfl) rfl (lv_at hl 2 rfl) ?_
    refine lv_iload_n hx hb (zdt zkX10_tires 23 rfl) rfl (lv_at hl 3 rfl) ?_
    refine xe_d6 hf (fun v2 v3 v4 v5 a6 a7 hg hf => ?_)
    have hC : ([2, 3, 1, 9, 10, 11, 12, 4, 5, 6, 7, 8] : List Nat).map (fun i => (wd_HS_tires cA q0 q1 q2 q3 q4 q5 q6 q7 q8 q9 q10 q11 q12 q13 q14 q15 q16 q17 q18 q19 q20 q21 q22 q23 q24 q25 u0 u1 u2 u3 u4 u5 i_hill_children i_hill_laws i_hill_inForce i_hill_columns_many i_hill_strengths i_hill_expelled i_hill_terms i_hill_orders i_hill_ordered i_hill_columns_heights i_hill_columns_weights i_judge_piled i_judge_tiring i_judge_barred i_judge_words i_judge_pile)[i]?) = (wd_Judge_effortOn cA q7 q1 q22 q23 q13 q24 q25 q13 q14 q15 q16 q17 q18 q19 q20 q21 u4 u5 i_hill_columns_many i_hill_children i_hill_laws i_hill_inForce i_hill_columns_heights i_hill_columns_weights i_hill_strengths i_hill_expelled i_hill_terms i_hill_orders i_hill_ordered i_judge_piled i_judge_tiring i_judge_barred i_judge_words i_judge_pile).map some := rfl
    refine xv_afterI (ws' := (wd_HS_tires cA q0 q1 q2 q3 q4 q5 q6 q7 q8 q9 q10 q11 q12 q13 q14 q15 q16 q17 q18 q19 q20 q21 q22 q23 q24 q25 u0 u1 u2 u3 u4 u5 i_hill_children i_hill_laws i_hill_inForce i_hill_columns_many i_hill_strengths i_hill_expelled i_hill_terms i_hill_orders i_hill_ordered i_hill_columns_heights i_hill_columns_weights v3 v4 v5 a6 a7)) (isC := [2, 3, 1, 9, 10, 11, 12, 4, 5, 6, 7, 8]) (ps := [none, some 2, some 0, some 1, some 7, some 8, some 9, some 10, some 11, some 3, some 4, some 5, some 6]) (va_runV (As := [.ref q13, .int (Int32.ofInt x1), .int (Int32.ofInt x2), .int (Int32.ofInt x3)]) (rest := []) ⟨hx, hb, hml, hown, hts⟩ (c_Judge_effortOn l ev dC dI cA q7 q1 q22 q23 q13 q24 q25 q13 q14 q15 q16 q17 q18 q19 q20 q21 u4 u5 hg H.size) (cwV 4 hts (zgV zw_803 zw_804 zw_805 zw_108 zw_806) rfl rfl rfl hd_Judge_effortOn ⟨Nat.le_of_ble_eq_true rfl, Nat.le_of_ble_eq_true rfl⟩) (xv_preV (T := TX3) (N := 6) hE hA hS hK hP hD (isC := [2, 3, 1, 9, 10, 11, 12, 4, 5, 6, 7, 8]) (by decide +kernel) hC (q0 := 2) (ci := 3) rfl rfl) rfl rfl hl.1 rfl (lv_room (Nat.le_of_ble_eq_true rfl)) (zdt zkX10_tires 24 rfl) ⟨Nat.le_refl _, Nat.le_refl _⟩) hP hD hS hA (by decide +kernel) rfl hC rfl rfl (fun H locs hP hD hS => ?_)
    refine lv_goto (tgt := 31) hx hb (zdt zkX10_tires 27 rfl) (by decide) ?_
    obtain rfl := Option.some.inj hf
    exact hret _ _ _ _ rfl (zdt zkX10_tires 31 rfl) hP hD hS
set_option maxRecDepth 100000 in
noncomputable def ztX1_move (p : Nat) : Option (Jvm.ClassFile.Instr × Nat) := bif Nat.ble 18 p then (bif Nat.ble 27 p then (bif Nat.ble 29 p then (bif Nat.ble 30 p then (bif Nat.ble 31 p then (bif Nat.beq p 31 then some (.return_, 1) else none) else (bif Nat.beq p 30 then some (.iastore, 1) else none)) else (bif Nat.beq p 29 then some (.isub, 1) else none)) else (bif Nat.ble 28 p then (bif Nat.beq p 28 then some (.iconst 1, 1) else none) else (bif Nat.beq p 27 then some (.iaload, 1) else none))) else (bif Nat.ble 22 p then (bif Nat.ble 25 p then (bif Nat.ble 26 p then (bif Nat.beq p 26 then some (.dup2, 1) else none) else (bif Nat.beq p 25 then some (.iload_n 1, 1) else none)) else (bif Nat.beq p 22 then some (.getfield 15, 3) else none)) else (bif Nat.ble 21 p then (bif Nat.beq p 21 then some (.aload_n 0, 1) else none) else (bif Nat.beq p 18 then some (.ifCond .eq 13, 3) else none)))) else (bif Nat.ble 9 p then (bif Nat.ble 11 p then (bif Nat.ble 12 p then (bif Nat.ble 15 p then (bif Nat.beq p 15 then some (.invokevirtual 37, 3) else none) else (bif Nat.beq p 12 then some (.invokevirtual 34, 3) else none)) else (bif Nat.beq p 11 then some (.iload_n 1, 1) else none)) else (bif Nat.ble 10 p then (bif Nat.beq p 10 then some (.aload_n 0, 1) else none) else (bif Nat.beq p 9 then some (.iload_n 2, 1) else none))) else (bif Nat.ble 2 p then (bif Nat.ble 5 p then (bif Nat.ble 8 p then (bif Nat.beq p 8 then some (.aload_n 0, 1) else none) else (bif Nat.beq p 5 then some (.ifCond .le 26, 3) else none)) else (bif Nat.beq p 2 then some (.invokevirtual 26, 3) else none)) else (bif Nat.ble 1 p then (bif Nat.beq p 1 then some (.iload_n 1, 1) else none) else (bif Nat.beq p 0 then some (.aload_n 0, 1) else none))))
set_option maxRecDepth 100000 in
theorem zkX1_move : (zbig cX1_move.data.toList = 80199645404712364332169755168990829411948579451262480024105513658767317015338 ∧ cX1_move.data.toList.length = 32) ∧ zdk cX1_move 80199645404712364332169755168990829411948579451262480024105513658767317015338 32 ztX1_move 31 = true := by decide +kernel
theorem zw_853 : (Jvm.Cond.code ({ cls := "HillSchool$Columns", name := "move", desc := "(II)V" } : Jvm.MethodName) prog_3_method_11_code (3 : Nat) (Option.none : Option Jvm.ClassFile.FieldType)) ∈ zall := zmemG (zmj_4 30 rfl) rfl
theorem zw_854 : (Jvm.Cond.methodLink "HillSchool$Columns" (37 : Nat) ({ cls := "HillSchool$Columns", name := "put", desc := "(II)Z" } : Jvm.MethodName)) ∈ zall := zmemG (zmj_4 31 rfl) rfl
noncomputable abbrev w_Columns_move : List Cond := .code yX1_move cX1_move 3 none :: zall
noncomputable abbrev rm_Columns_move : Room := { frames := 3, cells := 0, slots := 0, locals := 64 }
theorem hd_Columns_move : yX1_move.cls = "HillSchool$Columns" ∧ yX1_move.cls ≠ "java/lang/invoke/MethodHandle" ∧ yX1_move.cls ≠ "java/lang/invoke/VarHandle" ∧ (parseMethodDescriptor yX1_move.desc).map (fun d => d.parameters.length) = some 2 := by decide +kernel
noncomputable def wd_Columns_move (cA : Nat → ClassId) (q0 q1 q2 : Nat) (i_many : Int) (i_heights : Nat → Int) (i_weights : Nat → Int) : va_W := [(q0, .inr (1, [.int (Int32.ofInt i_many), .ref q1, .ref q2])), (q1, .inl (cA 0, 12, .inl (za i_heights))), (q2, .inl (cA 0, 120, .inl (za i_weights)))]
noncomputable def wf_Columns_move (cA : Nat → ClassId) (q0 q1 q2 : Nat) (i_many : Int) (o : (Nat → Int) × (Nat → Int)) : va_W := wd_Columns_move cA q0 q1 q2 i_many o.1 o.2
noncomputable def f_Columns_move (x1 : Int) (x2 : Int) (i_many : Int) (i_heights : Nat → Int) (i_weights : Nat → Int) : Option ((Nat → Int) × (Nat → Int)) :=
  zd1 (f_Columns_high x1 i_many i_heights) fun v1 =>
  if zi_w v1 ≤ 0 then
    some (i_heights, i_weights)
  else
    zd1 (f_Columns_top x1 i_many i_heights i_weights) fun v2 =>
    zd3 (f_Columns_put x2 v2 i_many i_heights i_weights) fun v3 a4 a5 =>
    if zi_w v3 = 0 then
      some (a4, a5)
    else
      zg 12 a4 x1 fun v6 =>
      zn (v6 - 1) fun v7 =>
      zs 12 a4 x1 v7 fun a8 =>
      some (a8, a5)
set_option maxHeartbeats 4000000 in
set_option maxRecDepth 100000 in
theorem c_Columns_move (l : Launch) (ev : zEv) (dC : Nat → ClassId) (dI : Nat → Nat → Nat) (cA : Nat → ClassId) (q0 q1 q2 : Nat) {x1 x2 : Int} {i_many : Int} {i_heights : Nat → Int} {i_weights : Nat → Int} {out : (Nat → Int) × (Nat → Int)} (hf : f_Columns_move x1 x2 i_many i_heights i_weights = some out) : xc_V l ev (dC, dI) vwCl (tyl cA) yX1_move w_Columns_move rm_Columns_move [.ref q0, .int (Int32.ofInt x1), .int (Int32.ofInt x2)] (wd_Columns_move cA q0 q1 q2 i_many i_heights i_weights) (wf_Columns_move cA q0 q1 q2 i_many out) := by
  refine xv_startV (cc := cX1_move) (maxL := 3) (by decide +kernel) rfl (Nat.le_of_ble_eq_true rfl) ?_
  intro p e s m args below meth c A Q H ls hx hb hml hts hown hK hA hP hD hS hl hE hret
  have hown : s.vm.findClass "HillSchool$Columns" = some m.cls := hown
  have hz : ∀ w ∈ zall, w.before args s = true := fun w h => hts w (List.mem_cons_of_mem _ h)
  have hl : lv_has ls 3 [(0, .ref q0), (1, .int (Int32.ofInt x1)), (2, .int (Int32.ofInt x2))] := hl
  unfold f_Columns_move at hf
  refine lv_aload_n hx hb (zdt zkX1_move 0 rfl) rfl (lv_at hl 0 rfl) ?_
  refine lv_iload_n hx hb (zdt zkX1_move 1 rfl) rfl (lv_at hl 1 rfl) ?_
  refine xe_d1 hf (fun v1 hg hf => ?_)
  have hC : ([0, 1] : List Nat).map (fun i => (wd_Columns_move cA q0 q1 q2 i_many i_heights i_weights)[i]?) = (wd_Columns_high cA q0 q1 q2 i_many i_heights).map some := rfl
  refine xv_afterI (ws' := (wd_Columns_move cA q0 q1 q2 i_many i_heights i_weights)) (isC := [0, 1]) (ps := [some 0, some 1, none]) (va_runV (As := [.int (Int32.ofInt x1)]) (rest := []) ⟨hx, hb, hml, hown, hts⟩ (c_Columns_high l ev dC dI cA q0 q1 q2 hg H.size) (cwV 1 hts (zgV zw_571 zw_556 zw_557 zw_106 zw_558) rfl rfl rfl hd_Columns_high ⟨Nat.le_of_ble_eq_true rfl, Nat.le_of_ble_eq_true rfl⟩) (xv_preV (T := TX1) (N := 3) hE hA hS hK hP hD (isC := [0, 1]) (by decide +kernel) hC (q0 := 0) (ci := 1) rfl rfl) rfl rfl hl.1 rfl (lv_room (Nat.le_of_ble_eq_true rfl)) (zdt zkX1_move 2 rfl) ⟨Nat.le_refl _, Nat.le_refl _⟩) hP hD hS hA (by decide +kernel) rfl hC rfl rfl (fun H locs hP hD hS => ?_)
  refine xi_if_le (tgt := 31) hx hb (zdt zkX1_move 5 rfl) (by decide) hf (fun hf => ?_) (fun hf => ?_)
  · obtain rfl := Option.some.inj hf
    exact hret _ _ _ _ (zdt zkX1_move 31 rfl) hP hD hS
  · refine lv_aload_n hx hb (zdt zkX1_move 8 rfl) rfl (lv_at hl 0 rfl) ?_
    refine lv_iload_n hx hb (zdt zkX1_move 9 rfl) rfl (lv_at hl 2 rfl) ?_
    refine lv_aload_n hx hb (zdt zkX1_move 10 rfl) rfl (lv_at hl 0 rfl) ?_
    refine lv_iload_n hx hb (zdt zkX1_move 11 rfl) rfl (lv_at hl 1 rfl) ?_
    refine xe_d1 hf (fun v2 hg hf => ?_)
    have hC : ([0, 1, 2] : List Nat).map (fun i => (wd_Columns_move cA q0 q1 q2 i_many i_heights i_weights)[i]?) = (wd_Columns_top cA q0 q1 q2 i_many i_heights i_weights).map some := rfl
    refine xv_afterI (ws' := (wd_Columns_move cA q0 q1 q2 i_many i_heights i_weights)) (isC := [0, 1, 2]) (ps := [some 0, some 1, some 2]) (va_runV (As := [.int (Int32.ofInt x1)]) (rest := [.int (Int32.ofInt x2), .ref q0]) ⟨hx, hb, hml, hown, hts⟩ (c_Columns_top l ev dC dI cA q0 q1 q2 hg H.size) (cwV 1 hts (zgV zw_567 zw_568 zw_569 zw_106 zw_570) rfl rfl rfl hd_Columns_top ⟨Nat.le_of_ble_eq_true rfl, Nat.le_of_ble_eq_true rfl⟩) (xv_preV (T := TX1) (N := 3) hE hA hS hK hP hD (isC := [0, 1, 2]) (by decide +kernel) hC (q0 := 0) (ci := 1) rfl rfl) rfl rfl hl.1 rfl (lv_room (Nat.le_of_ble_eq_true rfl)) (zdt zkX1_move 12 rfl) ⟨Nat.le_refl _, Nat.le_refl _⟩) hP hD hS hA (by decide +kernel) rfl hC rfl rfl (fun H locs hP hD hS => ?_)
    refine xe_d3 hf (fun v3 a4 a5 hg hf => ?_)
    have hC : ([0, 1, 2] : List Nat).map (fun i => (wd_Columns_move cA q0 q1 q2 i_many i_heights i_weights)[i]?) = (wd_Columns_put cA q0 q1 q2 i_many i_heights i_weights).map some := rfl
    refine xv_afterI (ws' := (wd_Columns_move cA q0 q1 q2 i_many a4 a5)) (isC := [0, 1, 2]) (ps := [some 0, some 1, some 2]) (va_runV (As := [.int (Int32.ofInt x2), .int (Int32.ofInt v2)]) (rest := []) ⟨hx, hb, hml, hown, hts⟩ (c_Columns_put l ev dC dI cA q0 q1 q2 hg H.size) (cwV 2 hts (zgV zw_854 zw_551 zw_552 zw_106 zw_553) rfl rfl rfl hd_Columns_put ⟨Nat.le_of_ble_eq_true rfl, Nat.le_of_ble_eq_true rfl⟩) (xv_preV (T := TX1) (N := 3) hE hA hS hK hP hD (isC := [0, 1, 2]) (by decide +kernel) hC (q0 := 0) (ci := 1) rfl rfl) rfl rfl hl.1 rfl (lv_room (Nat.le_of_ble_eq_true rfl)) (zdt zkX1_move 15 rfl) ⟨Nat.le_refl _, Nat.le_refl _⟩) hP hD hS hA (by decide +kernel) rfl hC rfl rfl (fun H locs hP hD hS => ?_)
    refine xi_if_eq (tgt := 31) hx hb (zdt zkX1_move 18 rfl) (by decide) hf (fun hf => ?_) (fun hf => ?_)
    · obtain rfl := Option.some.inj hf
      exact hret _ _ _ _ (zdt zkX1_move 31 rfl) hP hD hS
    · refine lv_aload_n hx hb (zdt zkX1_move 21 rfl) rfl (lv_at hl 0 rfl) ?_
      refine va_get (D := (dC, dI)) (ci := 1) (v := .ref q1) (C := RX1) (T := TX1) (N := 3) hx hb hz zi_X1 hown hK hP 0 rfl rfl 1 (by decide) (hz _ zw_149) (fun _ h9 => h9) rfl (zdt zkX1_move 22 rfl) ?_
      refine lv_iload_n hx hb (zdt zkX1_move 25 rfl) rfl (lv_at hl 1 rfl) ?_
      refine lv_dup2_11 hx hb (zdt zkX1_move 26 rfl) rfl rfl ?_
      refine xi_iald hx hb hK hP 1 0 rfl rfl (zdt zkX1_move 27 rfl) hf (fun v6 hf => ?_)
      refine lv_iconst (v := Int32.ofInt 1) hx hb (zdt zkX1_move 28 rfl) rfl ?_
      refine xi_isub hx hb (zdt zkX1_move 29 rfl) hf (fun v7 hf => ?_)
      refine xi_iast hx hb hK hP hD hS 1 0 rfl rfl (zdt zkX1_move 30 rfl) hf (fun a8 H locs hP hD hS hf => ?_)
      refine xw_PD (wd_Columns_move cA q0 q1 q2 i_many a8 a5) hP hD (fun hP hD => ?_)
      obtain rfl := Option.some.inj hf
      exact hret _ _ _ _ (zdt zkX1_move 31 rfl) hP hD hS
set_option maxRecDepth 100000 in
noncomputable def ztX10_carry (p : Nat) : Option (Jvm.ClassFile.Instr × Nat) := bif Nat.ble 35 p then (bif Nat.ble 56 p then (bif Nat.ble 66 p then (bif Nat.ble 71 p then (bif Nat.ble 73 p then (bif Nat.ble 76 p then (bif Nat.beq p 76 then some (.ireturn, 1) else none) else (bif Nat.beq p 73 then some (.invokevirtual 119, 3) else none)) else (bif Nat.beq p 71 then some (.iload 4, 2) else none)) else (bif Nat.ble 67 p then (bif Nat.ble 70 p then (bif Nat.beq p 70 then some (.aload_n 0, 1) else none) else (bif Nat.beq p 67 then some (.invokevirtual 208, 3) else none)) else (bif Nat.beq p 66 then some (.iload_n 3, 1) else none))) else (bif Nat.ble 59 p then (bif Nat.ble 62 p then (bif Nat.ble 65 p then (bif Nat.beq p 65 then some (.iload_n 2, 1) else none) else (bif Nat.beq p 62 then some (.getfield 99, 3) else none)) else (bif Nat.beq p 59 then some (.getfield 10, 3) else none)) else (bif Nat.ble 58 p then (bif Nat.beq p 58 then some (.aload_n 0, 1) else none) else (bif Nat.beq p 56 then some (.istore 4, 2) else none)))) else (bif Nat.ble 45 p then (bif Nat.ble 49 p then (bif Nat.ble 52 p then (bif Nat.ble 53 p then (bif Nat.beq p 53 then some (.invokevirtual 205, 3) else none) else (bif Nat.beq p 52 then some (.iload_n 2, 1) else none)) else (bif Nat.beq p 49 then some (.getfield 99, 3) else none)) else (bif Nat.ble 46 p then (bif Nat.beq p 46 then some (.getfield 10, 3) else none) else (bif Nat.beq p 45 then some (.aload_n 0, 1) else none))) else (bif Nat.ble 39 p then (bif Nat.ble 41 p then (bif Nat.ble 44 p then (bif Nat.beq p 44 then some (.ireturn, 1) else none) else (bif Nat.beq p 41 then some (.invokevirtual 109, 3) else none)) else (bif Nat.beq p 39 then some (.bipush (-3), 2) else none)) else (bif Nat.ble 38 p then (bif Nat.beq p 38 then some (.aload_n 0, 1) else none) else (bif Nat.beq p 35 then some (.if_icmp .ne 10, 3) else none))))) else (bif Nat.ble 17 p then (bif Nat.ble 28 p then (bif Nat.ble 30 p then (bif Nat.ble 31 p then (bif Nat.ble 34 p then (bif Nat.beq p 34 then some (.iconst (-1), 1) else none) else (bif Nat.beq p 31 then some (.invokevirtual 201, 3) else none)) else (bif Nat.beq p 30 then some (.iload_n 3, 1) else none)) else (bif Nat.ble 29 p then (bif Nat.beq p 29 then some (.iload_n 2, 1) else none) else (bif Nat.beq p 28 then some (.iload_n 1, 1) else none))) else (bif Nat.ble 21 p then (bif Nat.ble 22 p then (bif Nat.ble 25 p then (bif Nat.beq p 25 then some (.getfield 99, 3) else none) else (bif Nat.beq p 22 then some (.getfield 10, 3) else none)) else (bif Nat.beq p 21 then some (.aload_n 0, 1) else none)) else (bif Nat.ble 18 p then (bif Nat.beq p 18 then some (.getfield 56, 3) else none) else (bif Nat.beq p 17 then some (.aload_n 0, 1) else none)))) else (bif Nat.ble 7 p then (bif Nat.ble 11 p then (bif Nat.ble 13 p then (bif Nat.ble 16 p then (bif Nat.beq p 16 then some (.ireturn, 1) else none) else (bif Nat.beq p 13 then some (.invokevirtual 109, 3) else none)) else (bif Nat.beq p 11 then some (.bipush (-2), 2) else none)) else (bif Nat.ble 10 p then (bif Nat.beq p 10 then some (.aload_n 0, 1) else none) else (bif Nat.beq p 7 then some (.ifCond .ne 10, 3) else none))) else (bif Nat.ble 2 p then (bif Nat.ble 3 p then (bif Nat.ble 4 p then (bif Nat.beq p 4 then some (.invokevirtual 197, 3) else none) else (bif Nat.beq p 3 then some (.iload_n 3, 1) else none)) else (bif Nat.beq p 2 then some (.iload_n 2, 1) else none)) else (bif Nat.ble 1 p then (bif Nat.beq p 1 then some (.iload_n 1, 1) else none) else (bif Nat.beq p 0 then some (.aload_n 0, 1) else none)))))
set_option maxRecDepth 100000 in
theorem zkX10_carry : (zbig cX10_carry.data.toList = 183205273406292557546863307646646553401251775107646627900565707149444235244730260668106416813991038253522345067369057995496968545431207638122433452323091208017516658499017641503844211498 ∧ cX10_carry.data.toList.length = 77) ∧ zdk cX10_carry 183205273406292557546863307646646553401251775107646627900565707149444235244730260668106416813991038253522345067369057995496968545431207638122433452323091208017516658499017641503844211498 77 ztX10_carry 76 = true := by decide +kernel
theorem zw_848 : (Jvm.Cond.code ({ cls := "HillSchool", name := "carry", desc := "(III)I" } : Jvm.MethodName) prog_1_method_21_code (5 : Nat) (Option.some Jvm.ClassFile.FieldType.int)) ∈ zall := zmemG (zmj_4 25 rfl) rfl
theorem zw_849 : (Jvm.Cond.methodLink "HillSchool" (205 : Nat) ({ cls := "HillSchool$Columns", name := "top", desc := "(I)I" } : Jvm.MethodName)) ∈ zall := zmemG (zmj_4 26 rfl) rfl
theorem zw_850 : (Jvm.Cond.methodLink "HillSchool" (208 : Nat) ({ cls := "HillSchool$Columns", name := "move", desc := "(II)V" } : Jvm.MethodName)) ∈ zall := zmemG (zmj_4 27 rfl) rfl
theorem zw_851 : (Jvm.Cond.instanceMethod ({ cls := "HillSchool$Columns", name := "move", desc := "(II)V" } : Jvm.MethodName)) ∈ zall := zmemG (zmj_4 28 rfl) rfl
theorem zw_852 : (Jvm.Cond.selects "HillSchool$Columns" ({ cls := "HillSchool$Columns", name := "move", desc := "(II)V" } : Jvm.MethodName) ({ cls := "HillSchool$Columns", name := "move", desc := "(II)V" } : Jvm.MethodName)) ∈ zall := zmemG (zmj_4 29 rfl) rfl
noncomputable abbrev w_HS_carry : List Cond := .code yX10_carry cX10_carry 5 (some .int) :: zall
noncomputable abbrev rm_HS_carry : Room := { frames := 5, cells := 0, slots := 0, locals := 138 }
theorem hd_HS_carry : yX10_carry.cls = "HillSchool" ∧ yX10_carry.cls ≠ "java/lang/invoke/MethodHandle" ∧ yX10_carry.cls ≠ "java/lang/invoke/VarHandle" ∧ (parseMethodDescriptor yX10_carry.desc).map (fun d => d.parameters.length) = some 3 := by decide +kernel
noncomputable def wd_HS_carry (cA : Nat → ClassId) (q0 q1 q2 q3 q4 q5 q6 q7 q8 q9 q10 q11 q12 q13 q14 q15 q16 q17 q18 q19 q20 q21 q22 q23 q24 q25 : Nat) (u0 u1 u2 u3 : Int) (i_hill_children : Int) (i_hill_laws : Int) (i_hill_inForce : Int) (i_hill_columns_many : Int) (i_hill_strengths : Nat → Int) (i_hill_expelled : Nat → Int) (i_hill_terms : Nat → Int) (i_hill_orders : Nat → Int) (i_hill_ordered : Nat → Int) (i_latestStatus : Int) (i_hill_changes : Int) (i_refusals : Nat → Int) (i_judge_piled : Int) (i_judge_tiring : Int) (i_judge_barred : Int) (i_judge_words : Nat → Int) (i_judge_pile : Nat → Int) (i_hill_columns_heights : Nat → Int) (i_hill_columns_weights : Nat → Int) : va_W := [(q0, .inr (10, [.ref q1, .ref q2, .ref q3, .ref q4, .int (Int32.ofInt u0), .int (Int32.ofInt u1), .int (Int32.ofInt u2), .ref q5, .int (Int32.ofInt i_latestStatus), .ref q6, .ref q7, .ref q8, .ref q9, .ref q10, .ref q11, .ref q12])), (q1, .inr (2, [.ref q13, .int (Int32.ofInt i_hill_children), .ref q14, .ref q15, .ref q16, .int (Int32.ofInt u3), .ref q17, .ref q18, .ref q19, .int (Int32.ofInt i_hill_laws), .ref q20, .ref q21, .int (Int32.ofInt i_hill_inForce), .int (Int32.ofInt i_hill_changes)])), (q5, .inl (cA 0, 7, .inl (za i_refusals))), (q7, .inr (3, [.ref q1, .ref q22, .ref q23, .int (Int32.ofInt i_judge_piled), .int (Int32.ofInt i_judge_tiring), .int (Int32.ofInt i_judge_barred)])), (q13, .inr (1, [.int (Int32.ofInt i_hill_columns_many), .ref q24, .ref q25])), (q14, .inl (cA 0, 6, .inl (za i_hill_strengths))), (q15, .inl (cA 0, 6, .inl (za i_hill_expelled))), (q18, .inl (cA 0, 4, .inl (za i_hill_terms))), (q20, .inl (cA 0, 2544, .inl (za i_hill_orders))), (q21, .inl (cA 0, 6, .inl (za i_hill_ordered))), (q22, .inl (cA 0, 8, .inl (za i_judge_words))), (q23, .inl (cA 0, 32, .inl (za i_judge_pile))), (q24, .inl (cA 0, 12, .inl (za i_hill_columns_heights))), (q25, .inl (cA 0, 120, .inl (za i_hill_columns_weights)))]
noncomputable def wf_HS_carry (cA : Nat → ClassId) (q0 q1 q2 q3 q4 q5 q6 q7 q8 q9 q10 q11 q12 q13 q14 q15 q16 q17 q18 q19 q20 q21 q22 q23 q24 q25 : Nat) (u0 u1 u2 u3 : Int) (i_hill_children : Int) (i_hill_laws : Int) (i_hill_inForce : Int) (i_hill_columns_many : Int) (i_hill_strengths : Nat → Int) (i_hill_expelled : Nat → Int) (i_hill_terms : Nat → Int) (i_hill_orders : Nat → Int) (i_hill_ordered : Nat → Int) (o : Int × Int × Int × (Nat → Int) × Int × Int × Int × (Nat → Int) × (Nat → Int) × (Nat → Int) × (Nat → Int)) : va_W := wd_HS_carry cA q0 q1 q2 q3 q4 q5 q6 q7 q8 q9 q10 q11 q12 q13 q14 q15 q16 q17 q18 q19 q20 q21 q22 q23 q24 q25 u0 u1 u2 u3 i_hill_children i_hill_laws i_hill_inForce i_hill_columns_many i_hill_strengths i_hill_expelled i_hill_terms i_hill_orders i_hill_ordered o.2.1 o.2.2.1 o.2.2.2.1 o.2.2.2.2.1 o.2.2.2.2.2.1 o.2.2.2.2.2.2.1 o.2.2.2.2.2.2.2.1 o.2.2.2.2.2.2.2.2.1 o.2.2.2.2.2.2.2.2.2.1 o.2.2.2.2.2.2.2.2.2.2
noncomputable def f_HS_carry (x1 : Int) (x2 : Int) (x3 : Int) (i_hill_children : Int) (i_hill_laws : Int) (i_hill_inForce : Int) (i_hill_columns_many : Int) (i_hill_strengths : Nat → Int) (i_hill_expelled : Nat → Int) (i_hill_terms : Nat → Int) (i_hill_orders : Nat → Int) (i_hill_ordered : Nat → Int) (i_latestStatus : Int) (i_hill_changes : Int) (i_refusals : Nat → Int) (i_judge_piled : Int) (i_judge_tiring : Int) (i_judge_barred : Int) (i_judge_words : Nat → Int) (i_judge_pile : Nat → Int) (i_hill_columns_heights : Nat → Int) (i_hill_columns_weights : Nat → Int) : Option (Int × Int × Int × (Nat → Int) × Int × Int × Int × (Nat → Int) × (Nat → Int) × (Nat → Int) × (Nat → Int)) :=
  zd1 (f_HS_knows x1 x2 x3 i_hill_children i_hill_columns_many) fun v1 =>
  if zi_w v1 ≠ 0 then
    zd6 (f_Judge_effortOn x1 x2 x3 i_hill_columns_many i_hill_children i_hill_laws i_hill_inForce i_hill_columns_heights i_hill_columns_weights i_hill_strengths i_hill_expelled i_hill_terms i_hill_orders i_hill_ordered i_judge_piled i_judge_tiring i_judge_barred i_judge_words i_judge_pile) fun v2 v3 v4 v5 a6 a7 =>
    if zi_w v2 ≠ zi_w (-1) then
      zd1 (f_Columns_top x2 i_hill_columns_many i_hill_columns_heights i_hill_columns_weights) fun v8 =>
      zd2 (f_Columns_move x2 x3 i_hill_columns_many i_hill_columns_heights i_hill_columns_weights) fun a9 a10 =>
      zd3 (f_HS_accept v8 i_latestStatus i_hill_changes) fun v11 v12 v13 =>
      some (v11, v12, v13, i_refusals, v3, v4, v5, a6, a7, a9, a10)
    else
      zd3 (f_HS_refuse (-3) i_latestStatus i_refusals) fun v14 v15 a16 =>
      some (v14, v15, i_hill_changes, a16, v3, v4, v5, a6, a7, i_hill_columns_heights, i_hill_columns_weights)
  else
    zd3 (f_HS_refuse (-2) i_latestStatus i_refusals) fun v17 v18 a19 =>
    some (v17, v18, i_hill_changes, a19, i_judge_piled, i_judge_tiring, i_judge_barred, i_judge_words, i_judge_pile, i_hill_columns_heights, i_hill_columns_weights)
set_option maxHeartbeats 4000000 in
set_option maxRecDepth 100000 in
theorem c_HS_carry (l : Launch) (ev : zEv) (dC : Nat → ClassId) (dI : Nat → Nat → Nat) (cA : Nat → ClassId) (q0 q1 q2 q3 q4 q5 q6 q7 q8 q9 q10 q11 q12 q13 q14 q15 q16 q17 q18 q19 q20 q21 q22 q23 q24 q25 : Nat) (u0 u1 u2 u3 : Int) {x1 x2 x3 : Int} {i_hill_children : Int} {i_hill_laws : Int} {i_hill_inForce : Int} {i_hill_columns_many : Int} {i_hill_strengths : Nat → Int} {i_hill_expelled : Nat → Int} {i_hill_terms : Nat → Int} {i_hill_orders : Nat → Int} {i_hill_ordered : Nat → Int} {i_latestStatus : Int} {i_hill_changes : Int} {i_refusals : Nat → Int} {i_judge_piled : Int} {i_judge_tiring : Int} {i_judge_barred : Int} {i_judge_words : Nat → Int} {i_judge_pile : Nat → Int} {i_hill_columns_heights : Nat → Int} {i_hill_columns_weights : Nat → Int} {out : Int × Int × Int × (Nat → Int) × Int × Int × Int × (Nat → Int) × (Nat → Int) × (Nat → Int) × (Nat → Int)} (hf : f_HS_carry x1 x2 x3 i_hill_children i_hill_laws i_hill_inForce i_hill_columns_many i_hill_strengths i_hill_expelled i_hill_terms i_hill_orders i_hill_ordered i_latestStatus i_hill_changes i_refusals i_judge_piled i_judge_tiring i_judge_barred i_judge_words i_judge_pile i_hill_columns_heights i_hill_columns_weights = some out) : xc_I l ev (dC, dI) vwCl (tyl cA) yX10_carry w_HS_carry rm_HS_carry [.ref q0, .int (Int32.ofInt x1), .int (Int32.ofInt x2), .int (Int32.ofInt x3)] (wd_HS_carry cA q0 q1 q2 q3 q4 q5 q6 q7 q8 q9 q10 q11 q12 q13 q14 q15 q16 q17 q18 q19 q20 q21 q22 q23 q24 q25 u0 u1 u2 u3 i_hill_children i_hill_laws i_hill_inForce i_hill_columns_many i_hill_strengths i_hill_expelled i_hill_terms i_hill_orders i_hill_ordered i_latestStatus i_hill_changes i_refusals i_judge_piled i_judge_tiring i_judge_barred i_judge_words i_judge_pile i_hill_columns_heights i_hill_columns_weights) (wf_HS_carry cA q0 q1 q2 q3 q4 q5 q6 q7 q8 q9 q10 q11 q12 q13 q14 q15 q16 q17 q18 q19 q20 q21 q22 q23 q24 q25 u0 u1 u2 u3 i_hill_children i_hill_laws i_hill_inForce i_hill_columns_many i_hill_strengths i_hill_expelled i_hill_terms i_hill_orders i_hill_ordered out) out.1 := by
  refine xv_startI (cc := cX10_carry) (maxL := 5) (rt := .int) (by decide +kernel) rfl (Nat.le_of_ble_eq_true rfl) ?_
  intro p e s m args below meth c A Q H ls hx hb hml hts hown hK hA hP hD hS hl hE hret
  have hown : s.vm.findClass "HillSchool" = some m.cls := hown
  have hz : ∀ w ∈ zall, w.before args s = true := fun w h => hts w (List.mem_cons_of_mem _ h)
  have hl : lv_has ls 5 [(0, .ref q0), (1, .int (Int32.ofInt x1)), (2, .int (Int32.ofInt x2)), (3, .int (Int32.ofInt x3))] := hl
  unfold f_HS_carry at hf
  refine lv_aload_n hx hb (zdt zkX10_carry 0 rfl) rfl (lv_at hl 0 rfl) ?_
  refine lv_iload_n hx hb (zdt zkX10_carry 1 rfl) rfl (lv_at hl 1 rfl) ?_
  refine lv_iload_n hx hb (zdt zkX10_carry 2 rfl) rfl (lv_at hl 2 rfl) ?_
  refine lv_iload_n hx hb (zdt zkX10_carry 3 rfl) rfl (lv_at hl 3 rfl) ?_
  refine xe_d1 hf (fun v1 hg hf => ?_)
  have hC : ([0, 1, 4] : List Nat).map (fun i => (wd_HS_carry cA q0 q1 q2 q3 q4 q5 q6 q7 q8 q9 q10 q11 q12 q13 q14 q15 q16 q17 q18 q19 q20 q21 q22 q23 q24 q25 u0 u1 u2 u3 i_hill_children i_hill_laws i_hill_inForce i_hill_columns_many i_hill_strengths i_hill_expelled i_hill_terms i_hill_orders i_hill_ordered i_latestStatus i_hill_changes i_refusals i_judge_piled i_judge_tiring i_judge_barred i_judge_words i_judge_pile i_hill_columns_heights i_hill_columns_weights)[i]?) = (wd_HS_knows cA q0 q1 q2 q3 q4 q5 q6 q7 q8 q9 q10 q11 q12 q13 q14 q15 q16 q17 q18 q19 q20 q21 q24 q25 u0 u1 u2 i_latestStatus u3 i_hill_laws i_hill_inForce i_hill_changes i_hill_children i_hill_columns_many).map some := rfl
  refine xv_afterI (ws' := (wd_HS_carry cA q0 q1 q2 q3 q4 q5 q6 q7 q8 q9 q10 q11 q12 q13 q14 q15 q16 q17 q18 q19 q20 q21 q22 q23 q24 q25 u0 u1 u2 u3 i_hill_children i_hill_laws i_hill_inForce i_hill_columns_many i_hill_strengths i_hill_expelled i_hill_terms i_hill_orders i_hill_ordered i_latestStatus i_hill_changes i_refusals i_judge_piled i_judge_tiring i_judge_barred i_judge_words i_judge_pile i_hill_columns_heights i_hill_columns_weights)) (isC := [0, 1, 4]) (ps := [some 0, some 1, none, none, some 2, none, none, none, none, none, none, none, none, none]) (va_runV (As := [.int (Int32.ofInt x1), .int (Int32.ofInt x2), .int (Int32.ofInt x3)]) (rest := []) ⟨hx, hb, hml, hown, hts⟩ (c_HS_knows l ev dC dI cA q0 q1 q2 q3 q4 q5 q6 q7 q8 q9 q10 q11 q12 q13 q14 q15 q16 q17 q18 q19 q20 q21 q24 q25 u0 u1 u2 i_latestStatus u3 i_hill_laws i_hill_inForce i_hill_changes hg H.size) (cwV 3 hts (zgV zw_799 zw_801 zw_13 zw_104 zw_802) rfl rfl rfl hd_HS_knows ⟨Nat.le_of_ble_eq_true rfl, Nat.le_of_ble_eq_true rfl⟩) (xv_preV (T := TX10) (N := 16) hE hA hS hK hP hD (isC := [0, 1, 4]) (by decide +kernel) hC (q0 := 0) (ci := 10) rfl rfl) rfl rfl hl.1 rfl (lv_room (Nat.le_of_ble_eq_true rfl)) (zdt zkX10_carry 4 rfl) ⟨Nat.le_refl _, Nat.le_refl _⟩) hP hD hS hA (by decide +kernel) rfl hC rfl rfl (fun H locs hP hD hS => ?_)
  refine xi_if_ne (tgt := 17) hx hb (zdt zkX10_carry 7 rfl) (by decide) hf (fun hf => ?_) (fun hf => ?_)
  · refine lv_aload_n hx hb (zdt zkX10_carry 17 rfl) rfl (lv_at hl 0 rfl) ?_
    refine va_get (D := (dC, dI)) (ci := 10) (v := .ref q7) (C := RX10) (T := TX10) (N := 16) hx hb hz zi_X10 hown hK hP 0 rfl rfl 10 (by decide) (hz _ zw_487) (fun _ h9 => h9) rfl (zdt zkX10_carry 18 rfl) ?_
    refine lv_aload_n hx hb (zdt zkX10_carry 21 rfl) rfl (lv_at hl 0 rfl) ?_
    refine va_get (D := (dC, dI)) (ci := 10) (v := .ref q1) (C := RX10) (T := TX10) (N := 16) hx hb hz zi_X10 hown hK hP 0 rfl rfl 0 (by decide) (hz _ zw_477) (fun _ h9 => h9) rfl (zdt zkX10_carry 22 rfl) ?_
    refine va_getN (D := (dC, dI)) (ci := 2) (v := .ref q13) (C := RX2) (T := TX2) (N := 14) hx hb hz zi_X2 hown hK hP 1 rfl rfl 0 (by decide) (va_Nw.use rfl (hE.1.1 _ zw_169)) (fun _ h9 => h9) rfl (zdt zkX10_carry 25 rfl) ?_
    refine lv_iload_n hx hb (zdt zkX10_carry 28 rfl) rfl (lv_at hl 1 rfl) ?_
    refine lv_iload_n hx hb (zdt zkX10_carry 29 rfl) rfl (lv_at hl 2 rfl) ?_
    refine lv_iload_n hx hb (zdt zkX10_carry 30 rfl) rfl (lv_at hl 3 rfl) ?_
    refine xe_d6 hf (fun v2 v3 v4 v5 a6 a7 hg hf => ?_)
    have hC : ([3, 4, 1, 10, 11, 12, 13, 5, 6, 7, 8, 9] : List Nat).map (fun i => (wd_HS_carry cA q0 q1 q2 q3 q4 q5 q6 q7 q8 q9 q10 q11 q12 q13 q14 q15 q16 q17 q18 q19 q20 q21 q22 q23 q24 q25 u0 u1 u2 u3 i_hill_children i_hill_laws i_hill_inForce i_hill_columns_many i_hill_strengths i_hill_expelled i_hill_terms i_hill_orders i_hill_ordered i_latestStatus i_hill_changes i_refusals i_judge_piled i_judge_tiring i_judge_barred i_judge_words i_judge_pile i_hill_columns_heights i_hill_columns_weights)[i]?) = (wd_Judge_effortOn cA q7 q1 q22 q23 q13 q24 q25 q13 q14 q15 q16 q17 q18 q19 q20 q21 u3 i_hill_changes i_hill_columns_many i_hill_children i_hill_laws i_hill_inForce i_hill_columns_heights i_hill_columns_weights i_hill_strengths i_hill_expelled i_hill_terms i_hill_orders i_hill_ordered i_judge_piled i_judge_tiring i_judge_barred i_judge_words i_judge_pile).map some := rfl
    refine xv_afterI (ws' := (wd_HS_carry cA q0 q1 q2 q3 q4 q5 q6 q7 q8 q9 q10 q11 q12 q13 q14 q15 q16 q17 q18 q19 q20 q21 q22 q23 q24 q25 u0 u1 u2 u3 i_hill_children i_hill_laws i_hill_inForce i_hill_columns_many i_hill_strengths i_hill_expelled i_hill_terms i_hill_orders i_hill_ordered i_latestStatus i_hill_changes i_refusals v3 v4 v5 a6 a7 i_hill_columns_heights i_hill_columns_weights)) (isC := [3, 4, 1, 10, 11, 12, 13, 5, 6, 7, 8, 9]) (ps := [none, some 2, none, some 0, some 1, some 7, some 8, some 9, some 10, some 11, some 3, some 4, some 5, some 6]) (va_runV (As := [.ref q13, .int (Int32.ofInt x1), .int (Int32.ofInt x2), .int (Int32.ofInt x3)]) (rest := []) ⟨hx, hb, hml, hown, hts⟩ (c_Judge_effortOn l ev dC dI cA q7 q1 q22 q23 q13 q24 q25 q13 q14 q15 q16 q17 q18 q19 q20 q21 u3 i_hill_changes hg H.size) (cwV 4 hts (zgV zw_803 zw_804 zw_805 zw_108 zw_806) rfl rfl rfl hd_Judge_effortOn ⟨Nat.le_of_ble_eq_true rfl, Nat.le_of_ble_eq_true rfl⟩) (xv_preV (T := TX3) (N := 6) hE hA hS hK hP hD (isC := [3, 4, 1, 10, 11, 12, 13, 5, 6, 7, 8, 9]) (by decide +kernel) hC (q0 := 3) (ci := 3) rfl rfl) rfl rfl hl.1 rfl (lv_room (Nat.le_of_ble_eq_true rfl)) (zdt zkX10_carry 31 rfl) ⟨Nat.le_refl _, Nat.le_refl _⟩) hP hD hS hA (by decide +kernel) rfl hC rfl rfl (fun H locs hP hD hS => ?_)
    refine lv_iconst (v := Int32.ofInt (-1)) hx hb (zdt zkX10_carry 34 rfl) rfl ?_
    refine xi_icmp_ne (tgt := 45) hx hb (zdt zkX10_carry 35 rfl) (by decide) hf (fun hf => ?_) (fun hf => ?_)
    · refine lv_aload_n hx hb (zdt zkX10_carry 45 rfl) rfl (lv_at hl 0 rfl) ?_
      refine va_get (D := (dC, dI)) (ci := 10) (v := .ref q1) (C := RX10) (T := TX10) (N := 16) hx hb hz zi_X10 hown hK hP 0 rfl rfl 0 (by decide) (hz _ zw_477) (fun _ h9 => h9) rfl (zdt zkX10_carry 46 rfl) ?_
      refine va_getN (D := (dC, dI)) (ci := 2) (v := .ref q13) (C := RX2) (T := TX2) (N := 14) hx hb hz zi_X2 hown hK hP 1 rfl rfl 0 (by decide) (va_Nw.use rfl (hE.1.1 _ zw_169)) (fun _ h9 => h9) rfl (zdt zkX10_carry 49 rfl) ?_
      refine lv_iload_n hx hb (zdt zkX10_carry 52 rfl) rfl (lv_at hl 2 rfl) ?_
      refine xe_d1 hf (fun v8 hg hf => ?_)
      have hC : ([4, 12, 13] : List Nat).map (fun i => (wd_HS_carry cA q0 q1 q2 q3 q4 q5 q6 q7 q8 q9 q10 q11 q12 q13 q14 q15 q16 q17 q18 q19 q20 q21 q22 q23 q24 q25 u0 u1 u2 u3 i_hill_children i_hill_laws i_hill_inForce i_hill_columns_many i_hill_strengths i_hill_expelled i_hill_terms i_hill_orders i_hill_ordered i_latestStatus i_hill_changes i_refusals v3 v4 v5 a6 a7 i_hill_columns_heights i_hill_columns_weights)[i]?) = (wd_Columns_top cA q13 q24 q25 i_hill_columns_many i_hill_columns_heights i_hill_columns_weights).map some := rfl
      refine xv_afterI (ws' := (wd_HS_carry cA q0 q1 q2 q3 q4 q5 q6 q7 q8 q9 q10 q11 q12 q13 q14 q15 q16 q17 q18 q19 q20 q21 q22 q23 q24 q25 u0 u1 u2 u3 i_hill_children i_hill_laws i_hill_inForce i_hill_columns_many i_hill_strengths i_hill_expelled i_hill_terms i_hill_orders i_hill_ordered i_latestStatus i_hill_changes i_refusals v3 v4 v5 a6 a7 i_hill_columns_heights i_hill_columns_weights)) (isC := [4, 12, 13]) (ps := [none, none, none, none, some 0, none, none, none, none, none, none, none, some 1, some 2]) (va_runV (As := [.int (Int32.ofInt x2)]) (rest := []) ⟨hx, hb, hml, hown, hts⟩ (c_Columns_top l ev dC dI cA q13 q24 q25 hg H.size) (cwV 1 hts (zgV zw_849 zw_568 zw_569 zw_106 zw_570) rfl rfl rfl hd_Columns_top ⟨Nat.le_of_ble_eq_true rfl, Nat.le_of_ble_eq_true rfl⟩) (xv_preV (T := TX1) (N := 3) hE hA hS hK hP hD (isC := [4, 12, 13]) (by decide +kernel) hC (q0 := 4) (ci := 1) rfl rfl) rfl rfl hl.1 rfl (lv_room (Nat.le_of_ble_eq_true rfl)) (zdt zkX10_carry 53 rfl) ⟨Nat.le_refl _, Nat.le_refl _⟩) hP hD hS hA (by decide +kernel) rfl hC rfl rfl (fun H locs hP hD hS => ?_)
      refine lv_istore (lv' := [(4, .int (Int32.ofInt v8)), (0, .ref q0), (1, .int (Int32.ofInt x1)), (2, .int (Int32.ofInt x2)), (3, .int (Int32.ofInt x3))]) hx hb (zdt zkX10_carry 56 rfl) hl (by decide) rfl (fun ls hl => ?_)
      refine lv_aload_n hx hb (zdt zkX10_carry 58 rfl) rfl (lv_at hl 1 rfl) ?_
      refine va_get (D := (dC, dI)) (ci := 10) (v := .ref q1) (C := RX10) (T := TX10) (N := 16) hx hb hz zi_X10 hown hK hP 0 rfl rfl 0 (by decide) (hz _ zw_477) (fun _ h9 => h9) rfl (zdt zkX10_carry 59 rfl) ?_
      refine va_getN (D := (dC, dI)) (ci := 2) (v := .ref q13) (C := RX2) (T := TX2) (N := 14) hx hb hz zi_X2 hown hK hP 1 rfl rfl 0 (by decide) (va_Nw.use rfl (hE.1.1 _ zw_169)) (fun _ h9 => h9) rfl (zdt zkX10_carry 62 rfl) ?_
      refine lv_iload_n hx hb (zdt zkX10_carry 65 rfl) rfl (lv_at hl 3 rfl) ?_
      refine lv_iload_n hx hb (zdt zkX10_carry 66 rfl) rfl (lv_at hl 4 rfl) ?_
      refine xe_d2 hf (fun a9 a10 hg hf => ?_)
      have hC : ([4, 12, 13] : List Nat).map (fun i => (wd_HS_carry cA q0 q1 q2 q3 q4 q5 q6 q7 q8 q9 q10 q11 q12 q13 q14 q15 q16 q17 q18 q19 q20 q21 q22 q23 q24 q25 u0 u1 u2 u3 i_hill_children i_hill_laws i_hill_inForce i_hill_columns_many i_hill_strengths i_hill_expelled i_hill_terms i_hill_orders i_hill_ordered i_latestStatus i_hill_changes i_refusals v3 v4 v5 a6 a7 i_hill_columns_heights i_hill_columns_weights)[i]?) = (wd_Columns_move cA q13 q24 q25 i_hill_columns_many i_hill_columns_heights i_hill_columns_weights).map some := rfl
      refine xv_afterV (ws' := (wd_HS_carry cA q0 q1 q2 q3 q4 q5 q6 q7 q8 q9 q10 q11 q12 q13 q14 q15 q16 q17 q18 q19 q20 q21 q22 q23 q24 q25 u0 u1 u2 u3 i_hill_children i_hill_laws i_hill_inForce i_hill_columns_many i_hill_strengths i_hill_expelled i_hill_terms i_hill_orders i_hill_ordered i_latestStatus i_hill_changes i_refusals v3 v4 v5 a6 a7 a9 a10)) (isC := [4, 12, 13]) (ps := [none, none, none, none, some 0, none, none, none, none, none, none, none, some 1, some 2]) (va_runV (As := [.int (Int32.ofInt x2), .int (Int32.ofInt x3)]) (rest := []) ⟨hx, hb, hml, hown, hts⟩ (c_Columns_move l ev dC dI cA q13 q24 q25 hg H.size) (cwV 2 hts (zgV zw_850 zw_851 zw_852 zw_106 zw_853) rfl rfl rfl hd_Columns_move ⟨Nat.le_of_ble_eq_true rfl, Nat.le_of_ble_eq_true rfl⟩) (xv_preV (T := TX1) (N := 3) hE hA hS hK hP hD (isC := [4, 12, 13]) (by decide +kernel) hC (q0 := 4) (ci := 1) rfl rfl) rfl rfl hl.1 rfl (lv_room (Nat.le_of_ble_eq_true rfl)) (zdt zkX10_carry 67 rfl) ⟨Nat.le_refl _, Nat.le_refl _⟩) hP hD hS hA (by decide +kernel) rfl hC rfl rfl (fun H locs hP hD hS => ?_)
      refine lv_aload_n hx hb (zdt zkX10_carry 70 rfl) rfl (lv_at hl 1 rfl) ?_
      refine lv_iload hx hb (zdt zkX10_carry 71 rfl) (lv_at hl 0 rfl) ?_
      refine xe_d3 hf (fun v11 v12 v13 hg hf => ?_)
      have hC : ([0, 1] : List Nat).map (fun i => (wd_HS_carry cA q0 q1 q2 q3 q4 q5 q6 q7 q8 q9 q10 q11 q12 q13 q14 q15 q16 q17 q18 q19 q20 q21 q22 q23 q24 q25 u0 u1 u2 u3 i_hill_children i_hill_laws i_hill_inForce i_hill_columns_many i_hill_strengths i_hill_expelled i_hill_terms i_hill_orders i_hill_ordered i_latestStatus i_hill_changes i_refusals v3 v4 v5 a6 a7 a9 a10)[i]?) = (wd_HS_accept cA q0 q1 q2 q3 q4 q5 q6 q7 q8 q9 q10 q11 q12 q13 q14 q15 q16 q17 q18 q19 q20 q21 u0 u1 u2 i_hill_children u3 i_hill_laws i_hill_inForce i_latestStatus i_hill_changes).map some := rfl
      refine xv_afterI (ws' := (wd_HS_carry cA q0 q1 q2 q3 q4 q5 q6 q7 q8 q9 q10 q11 q12 q13 q14 q15 q16 q17 q18 q19 q20 q21 q22 q23 q24 q25 u0 u1 u2 u3 i_hill_children i_hill_laws i_hill_inForce i_hill_columns_many i_hill_strengths i_hill_expelled i_hill_terms i_hill_orders i_hill_ordered v12 v13 i_refusals v3 v4 v5 a6 a7 a9 a10)) (isC := [0, 1]) (ps := [some 0, some 1, none, none, none, none, none, none, none, none, none, none, none, none]) (va_runV (As := [.int (Int32.ofInt v8)]) (rest := []) ⟨hx, hb, hml, hown, hts⟩ (c_HS_accept l ev dC dI cA q0 q1 q2 q3 q4 q5 q6 q7 q8 q9 q10 q11 q12 q13 q14 q15 q16 q17 q18 q19 q20 q21 u0 u1 u2 i_hill_children u3 i_hill_laws i_hill_inForce hg H.size) (cwV 1 hts (zgV zw_538 zw_540 zw_1 zw_104 zw_541) rfl rfl rfl hd_HS_accept ⟨Nat.le_of_ble_eq_true rfl, Nat.le_of_ble_eq_true rfl⟩) (xv_preV (T := TX10) (N := 16) hE hA hS hK hP hD (isC := [0, 1]) (by decide +kernel) hC (q0 := 0) (ci := 10) rfl rfl) rfl rfl hl.1 rfl (lv_room (Nat.le_of_ble_eq_true rfl)) (zdt zkX10_carry 73 rfl) ⟨Nat.le_refl _, Nat.le_refl _⟩) hP hD hS hA (by decide +kernel) rfl hC rfl rfl (fun H locs hP hD hS => ?_)
      obtain rfl := Option.some.inj hf
      exact hret _ _ _ _ rfl (zdt zkX10_carry 76 rfl) hP hD hS
    · refine lv_aload_n hx hb (zdt zkX10_carry 38 rfl) rfl (lv_at hl 0 rfl) ?_
      refine lv_bipush (v := Int32.ofInt (-3)) hx hb (zdt zkX10_carry 39 rfl) (by decide) ?_
      refine xe_d3 hf (fun v14 v15 a16 hg hf => ?_)
      have hC : ([0, 2] : List Nat).map (fun i => (wd_HS_carry cA q0 q1 q2 q3 q4 q5 q6 q7 q8 q9 q10 q11 q12 q13 q14 q15 q16 q17 q18 q19 q20 q21 q22 q23 q24 q25 u0 u1 u2 u3 i_hill_children i_hill_laws i_hill_inForce i_hill_columns_many i_hill_strengths i_hill_expelled i_hill_terms i_hill_orders i_hill_ordered i_latestStatus i_hill_changes i_refusals v3 v4 v5 a6 a7 i_hill_columns_heights i_hill_columns_weights)[i]?) = (wd_HS_refuse cA q0 q1 q2 q3 q4 q5 q6 q7 q8 q9 q10 q11 q12 u0 u1 u2 i_latestStatus i_refusals).map some := rfl
      refine xv_afterI (ws' := (wd_HS_carry cA q0 q1 q2 q3 q4 q5 q6 q7 q8 q9 q10 q11 q12 q13 q14 q15 q16 q17 q18 q19 q20 q21 q22 q23 q24 q25 u0 u1 u2 u3 i_hill_children i_hill_laws i_hill_inForce i_hill_columns_many i_hill_strengths i_hill_expelled i_hill_terms i_hill_orders i_hill_ordered v15 i_hill_changes a16 v3 v4 v5 a6 a7 i_hill_columns_heights i_hill_columns_weights)) (isC := [0, 2]) (ps := [some 0, none, some 1, none, none, none, none, none, none, none, none, none, none, none]) (va_runV (As := [.int (Int32.ofInt (-3))]) (rest := []) ⟨hx, hb, hml, hown, hts⟩ (c_HS_refuse l ev dC dI cA q0 q1 q2 q3 q4 q5 q6 q7 q8 q9 q10 q11 q12 u0 u1 u2 hg H.size) (cwV 1 hts (zgV zw_534 zw_536 zw_0 zw_104 zw_537) rfl rfl rfl hd_HS_refuse ⟨Nat.le_of_ble_eq_true rfl, Nat.le_of_ble_eq_true rfl⟩) (xv_preV (T := TX10) (N := 16) hE hA hS hK hP hD (isC := [0, 2]) (by decide +kernel) hC (q0 := 0) (ci := 10) rfl rfl) rfl rfl hl.1 rfl (lv_room (Nat.le_of_ble_eq_true rfl)) (zdt zkX10_carry 41 rfl) ⟨Nat.le_refl _, Nat.le_refl _⟩) hP hD hS hA (by decide +kernel) rfl hC rfl rfl (fun H locs hP hD hS => ?_)
      obtain rfl := Option.some.inj hf
      exact hret _ _ _ _ rfl (zdt zkX10_carry 44 rfl) hP hD hS
  · refine lv_aload_n hx hb (zdt zkX10_carry 10 rfl) rfl (lv_at hl 0 rfl) ?_
    refine lv_bipush (v := Int32.ofInt (-2)) hx hb (zdt zkX10_carry 11 rfl) (by decide) ?_
    refine xe_d3 hf (fun v17 v18 a19 hg hf => ?_)
    have hC : ([0, 2] : List Nat).map (fun i => (wd_HS_carry cA q0 q1 q2 q3 q4 q5 q6 q7 q8 q9 q10 q11 q12 q13 q14 q15 q16 q17 q18 q19 q20 q21 q22 q23 q24 q25 u0 u1 u2 u3 i_hill_children i_hill_laws i_hill_inForce i_hill_columns_many i_hill_strengths i_hill_expelled i_hill_terms i_hill_orders i_hill_ordered i_latestStatus i_hill_changes i_refusals i_judge_piled i_judge_tiring i_judge_barred i_judge_words i_judge_pile i_hill_columns_heights i_hill_columns_weights)[i]?) = (wd_HS_refuse cA q0 q1 q2 q3 q4 q5 q6 q7 q8 q9 q10 q11 q12 u0 u1 u2 i_latestStatus i_refusals).map some := rfl
    refine xv_afterI (ws' := (wd_HS_carry cA q0 q1 q2 q3 q4 q5 q6 q7 q8 q9 q10 q11 q12 q13 q14 q15 q16 q17 q18 q19 q20 q21 q22 q23 q24 q25 u0 u1 u2 u3 i_hill_children i_hill_laws i_hill_inForce i_hill_columns_many i_hill_strengths i_hill_expelled i_hill_terms i_hill_orders i_hill_ordered v18 i_hill_changes a19 i_judge_piled i_judge_tiring i_judge_barred i_judge_words i_judge_pile i_hill_columns_heights i_hill_columns_weights)) (isC := [0, 2]) (ps := [some 0, none, some 1, none, none, none, none, none, none, none, none, none, none, none]) (va_runV (As := [.int (Int32.ofInt (-2))]) (rest := []) ⟨hx, hb, hml, hown, hts⟩ (c_HS_refuse l ev dC dI cA q0 q1 q2 q3 q4 q5 q6 q7 q8 q9 q10 q11 q12 u0 u1 u2 hg H.size) (cwV 1 hts (zgV zw_534 zw_536 zw_0 zw_104 zw_537) rfl rfl rfl hd_HS_refuse ⟨Nat.le_of_ble_eq_true rfl, Nat.le_of_ble_eq_true rfl⟩) (xv_preV (T := TX10) (N := 16) hE hA hS hK hP hD (isC := [0, 2]) (by decide +kernel) hC (q0 := 0) (ci := 10) rfl rfl) rfl rfl hl.1 rfl (lv_room (Nat.le_of_ble_eq_true rfl)) (zdt zkX10_carry 13 rfl) ⟨Nat.le_refl _, Nat.le_refl _⟩) hP hD hS hA (by decide +kernel) rfl hC rfl rfl (fun H locs hP hD hS => ?_)
    obtain rfl := Option.some.inj hf
    exact hret _ _ _ _ rfl (zdt zkX10_carry 16 rfl) hP hD hS
set_option maxRecDepth 100000 in
noncomputable def ztX10_exchange (p : Nat) : Option (Jvm.ClassFile.Instr × Nat) := bif Nat.ble 88 p then (bif Nat.ble 136 p then (bif Nat.ble 156 p then (bif Nat.ble 169 p then (bif Nat.ble 174 p then (bif Nat.ble 176 p then (bif Nat.ble 179 p then (bif Nat.beq p 179 then some (.ireturn, 1) else none) else (bif Nat.beq p 176 then some (.invokevirtual 119, 3) else none)) else (bif Nat.beq p 174 then some (.iload 6, 2) else none)) else (bif Nat.ble 170 p then (bif Nat.ble 173 p then (bif Nat.beq p 173 then some (.aload_n 0, 1) else none) else (bif Nat.beq p 170 then some (.invokevirtual 208, 3) else none)) else (bif Nat.beq p 169 then some (.iload_n 2, 1) else none))) else (bif Nat.ble 161 p then (bif Nat.ble 164 p then (bif Nat.ble 167 p then (bif Nat.beq p 167 then some (.iload 4, 2) else none) else (bif Nat.beq p 164 then some (.getfield 99, 3) else none)) else (bif Nat.beq p 161 then some (.getfield 10, 3) else none)) else (bif Nat.ble 159 p then (bif Nat.ble 160 p then (bif Nat.beq p 160 then some (.aload_n 0, 1) else none) else (bif Nat.beq p 159 then some (.ireturn, 1) else none)) else (bif Nat.beq p 156 then some (.invokevirtual 109, 3) else none)))) else (bif Nat.ble 145 p then (bif Nat.ble 150 p then (bif Nat.ble 153 p then (bif Nat.ble 154 p then (bif Nat.beq p 154 then some (.bipush (-3), 2) else none) else (bif Nat.beq p 153 then some (.aload_n 0, 1) else none)) else (bif Nat.beq p 150 then some (.invokevirtual 208, 3) else none)) else (bif Nat.ble 148 p then (bif Nat.ble 149 p then (bif Nat.beq p 149 then some (.iload_n 2, 1) else none) else (bif Nat.beq p 148 then some (.iload_n 3, 1) else none)) else (bif Nat.beq p 145 then some (.getfield 99, 3) else none))) else (bif Nat.ble 138 p then (bif Nat.ble 141 p then (bif Nat.ble 142 p then (bif Nat.beq p 142 then some (.getfield 10, 3) else none) else (bif Nat.beq p 141 then some (.aload_n 0, 1) else none)) else (bif Nat.beq p 138 then some (.if_icmp .ge 22, 3) else none)) else (bif Nat.ble 137 p then (bif Nat.beq p 137 then some (.iaload, 1) else none) else (bif Nat.beq p 136 then some (.iconst 3, 1) else none))))) else (bif Nat.ble 113 p then (bif Nat.ble 123 p then (bif Nat.ble 129 p then (bif Nat.ble 130 p then (bif Nat.ble 133 p then (bif Nat.beq p 133 then some (.getfield 176, 3) else none) else (bif Nat.beq p 130 then some (.getfield 10, 3) else none)) else (bif Nat.beq p 129 then some (.aload_n 0, 1) else none)) else (bif Nat.ble 124 p then (bif Nat.ble 127 p then (bif Nat.beq p 127 then some (.iload 6, 2) else none) else (bif Nat.beq p 124 then some (.if_icmp .eq 17, 3) else none)) else (bif Nat.beq p 123 then some (.iconst (-1), 1) else none))) else (bif Nat.ble 117 p then (bif Nat.ble 119 p then (bif Nat.ble 120 p then (bif Nat.beq p 120 then some (.invokevirtual 201, 3) else none) else (bif Nat.beq p 119 then some (.iload_n 2, 1) else none)) else (bif Nat.beq p 117 then some (.iload 4, 2) else none)) else (bif Nat.ble 116 p then (bif Nat.beq p 116 then some (.iload_n 1, 1) else none) else (bif Nat.beq p 113 then some (.getfield 99, 3) else none)))) else (bif Nat.ble 100 p then (bif Nat.ble 106 p then (bif Nat.ble 109 p then (bif Nat.ble 110 p then (bif Nat.beq p 110 then some (.getfield 10, 3) else none) else (bif Nat.beq p 109 then some (.aload_n 0, 1) else none)) else (bif Nat.beq p 106 then some (.getfield 56, 3) else none)) else (bif Nat.ble 103 p then (bif Nat.ble 105 p then (bif Nat.beq p 105 then some (.aload_n 0, 1) else none) else (bif Nat.beq p 103 then some (.istore 6, 2) else none)) else (bif Nat.beq p 100 then some (.invokestatic 212, 3) else none))) else (bif Nat.ble 94 p then (bif Nat.ble 96 p then (bif Nat.ble 99 p then (bif Nat.beq p 99 then some (.isub, 1) else none) else (bif Nat.beq p 96 then some (.invokevirtual 205, 3) else none)) else (bif Nat.beq p 94 then some (.iload 4, 2) else none)) else (bif Nat.ble 91 p then (bif Nat.beq p 91 then some (.getfield 99, 3) else none) else (bif Nat.beq p 88 then some (.getfield 10, 3) else none)))))) else (bif Nat.ble 44 p then (bif Nat.ble 64 p then (bif Nat.ble 77 p then (bif Nat.ble 82 p then (bif Nat.ble 85 p then (bif Nat.ble 87 p then (bif Nat.beq p 87 then some (.aload_n 0, 1) else none) else (bif Nat.beq p 85 then some (.iload 5, 2) else none)) else (bif Nat.beq p 82 then some (.invokevirtual 208, 3) else none)) else (bif Nat.ble 80 p then (bif Nat.ble 81 p then (bif Nat.beq p 81 then some (.iload_n 3, 1) else none) else (bif Nat.beq p 80 then some (.iload_n 2, 1) else none)) else (bif Nat.beq p 77 then some (.getfield 99, 3) else none))) else (bif Nat.ble 71 p then (bif Nat.ble 73 p then (bif Nat.ble 74 p then (bif Nat.beq p 74 then some (.getfield 10, 3) else none) else (bif Nat.beq p 73 then some (.aload_n 0, 1) else none)) else (bif Nat.beq p 71 then some (.istore 5, 2) else none)) else (bif Nat.ble 67 p then (bif Nat.ble 68 p then (bif Nat.beq p 68 then some (.invokevirtual 205, 3) else none) else (bif Nat.beq p 67 then some (.iload_n 2, 1) else none)) else (bif Nat.beq p 64 then some (.getfield 99, 3) else none)))) else (bif Nat.ble 53 p then (bif Nat.ble 59 p then (bif Nat.ble 60 p then (bif Nat.ble 61 p then (bif Nat.beq p 61 then some (.getfield 10, 3) else none) else (bif Nat.beq p 60 then some (.aload_n 0, 1) else none)) else (bif Nat.beq p 59 then some (.ireturn, 1) else none)) else (bif Nat.ble 54 p then (bif Nat.ble 56 p then (bif Nat.beq p 56 then some (.invokevirtual 109, 3) else none) else (bif Nat.beq p 54 then some (.bipush (-3), 2) else none)) else (bif Nat.beq p 53 then some (.aload_n 0, 1) else none))) else (bif Nat.ble 46 p then (bif Nat.ble 49 p then (bif Nat.ble 50 p then (bif Nat.beq p 50 then some (.if_icmp .ne 10, 3) else none) else (bif Nat.beq p 49 then some (.iconst (-1), 1) else none)) else (bif Nat.beq p 46 then some (.invokevirtual 201, 3) else none)) else (bif Nat.ble 45 p then (bif Nat.beq p 45 then some (.iload_n 3, 1) else none) else (bif Nat.beq p 44 then some (.iload_n 2, 1) else none))))) else (bif Nat.ble 22 p then (bif Nat.ble 32 p then (bif Nat.ble 37 p then (bif Nat.ble 40 p then (bif Nat.ble 43 p then (bif Nat.beq p 43 then some (.iload_n 1, 1) else none) else (bif Nat.beq p 40 then some (.getfield 99, 3) else none)) else (bif Nat.beq p 37 then some (.getfield 10, 3) else none)) else (bif Nat.ble 33 p then (bif Nat.ble 36 p then (bif Nat.beq p 36 then some (.aload_n 0, 1) else none) else (bif Nat.beq p 33 then some (.getfield 56, 3) else none)) else (bif Nat.beq p 32 then some (.aload_n 0, 1) else none))) else (bif Nat.ble 26 p then (bif Nat.ble 28 p then (bif Nat.ble 31 p then (bif Nat.beq p 31 then some (.ireturn, 1) else none) else (bif Nat.beq p 28 then some (.invokevirtual 109, 3) else none)) else (bif Nat.beq p 26 then some (.bipush (-2), 2) else none)) else (bif Nat.ble 25 p then (bif Nat.beq p 25 then some (.aload_n 0, 1) else none) else (bif Nat.beq p 22 then some (.ifCond .ne 10, 3) else none)))) else (bif Nat.ble 7 p then (bif Nat.ble 14 p then (bif Nat.ble 17 p then (bif Nat.ble 19 p then (bif Nat.beq p 19 then some (.invokevirtual 122, 3) else none) else (bif Nat.beq p 17 then some (.iload 4, 2) else none)) else (bif Nat.beq p 14 then some (.getfield 99, 3) else none)) else (bif Nat.ble 10 p then (bif Nat.ble 11 p then (bif Nat.beq p 11 then some (.getfield 10, 3) else none) else (bif Nat.beq p 10 then some (.aload_n 0, 1) else none)) else (bif Nat.beq p 7 then some (.ifCond .eq 18, 3) else none))) else (bif Nat.ble 2 p then (bif Nat.ble 3 p then (bif Nat.ble 4 p then (bif Nat.beq p 4 then some (.invokevirtual 197, 3) else none) else (bif Nat.beq p 3 then some (.iload_n 3, 1) else none)) else (bif Nat.beq p 2 then some (.iload_n 2, 1) else none)) else (bif Nat.ble 1 p then (bif Nat.beq p 1 then some (.iload_n 1, 1) else none) else (bif Nat.beq p 0 then some (.aload_n 0, 1) else none))))))
set_option maxRecDepth 100000 in
theorem zkX10_exchange : (zbig cX10_exchange.data.toList = 20495305556464512002749380856675412124390409634383986743788038928582387922472795395123251723855065733523947015696501039275125423168379843125035076050505605396698840018594992954130839739825422967522413793031528491495972957519191134711851407346112230092479405846273920858670581313097651425932021640380167045278420489917355529014821446615653722497668848336602737301582270549133545932839500653720787288740547169177996288855761253327182634 ∧ cX10_exchange.data.toList.length = 180) ∧ zdk cX10_exchange 20495305556464512002749380856675412124390409634383986743788038928582387922472795395123251723855065733523947015696501039275125423168379843125035076050505605396698840018594992954130839739825422967522413793031528491495972957519191134711851407346112230092479405846273920858670581313097651425932021640380167045278420489917355529014821446615653722497668848336602737301582270549133545932839500653720787288740547169177996288855761253327182634 180 ztX10_exchange 179 = true := by decide +kernel
theorem zw_858 : (Jvm.Cond.code ({ cls := "HillSchool", name := "exchange", desc := "(IIII)I" } : Jvm.MethodName) prog_1_method_22_code (7 : Nat) (Option.some Jvm.ClassFile.FieldType.int)) ∈ zall := zmemG (zmj_4 35 rfl) rfl
theorem zw_859 : (Jvm.Cond.methodLink "HillSchool" (212 : Nat) ({ cls := "java/lang/Math", name := "abs", desc := "(I)I" } : Jvm.MethodName)) ∈ zall := zmemG (zmj_4 36 rfl) rfl
noncomputable abbrev w_HS_exchange : List Cond := .code yX10_exchange cX10_exchange 7 (some .int) :: zall
noncomputable abbrev rm_HS_exchange : Room := { frames := 5, cells := 0, slots := 0, locals := 138 }
theorem hd_HS_exchange : yX10_exchange.cls = "HillSchool" ∧ yX10_exchange.cls ≠ "java/lang/invoke/MethodHandle" ∧ yX10_exchange.cls ≠ "java/lang/invoke/VarHandle" ∧ (parseMethodDescriptor yX10_exchange.desc).map (fun d => d.parameters.length) = some 4 := by decide +kernel
noncomputable def wd_HS_exchange (cA : Nat → ClassId) (q0 q1 q2 q3 q4 q5 q6 q7 q8 q9 q10 q11 q12 q13 q14 q15 q16 q17 q18 q19 q20 q21 q22 q23 q24 q25 : Nat) (u0 u1 u2 u3 : Int) (i_hill_children : Int) (i_hill_laws : Int) (i_hill_inForce : Int) (i_hill_columns_many : Int) (i_hill_strengths : Nat → Int) (i_hill_expelled : Nat → Int) (i_hill_terms : Nat → Int) (i_hill_orders : Nat → Int) (i_hill_ordered : Nat → Int) (i_latestStatus : Int) (i_hill_changes : Int) (i_refusals : Nat → Int) (i_judge_piled : Int) (i_judge_tiring : Int) (i_judge_barred : Int) (i_judge_words : Nat → Int) (i_judge_pile : Nat → Int) (i_hill_columns_heights : Nat → Int) (i_hill_columns_weights : Nat → Int) : va_W := [(q0, .inr (10, [.ref q1, .ref q2, .ref q3, .ref q4, .int (Int32.ofInt u0), .int (Int32.ofInt u1), .int (Int32.ofInt u2), .ref q5, .int (Int32.ofInt i_latestStatus), .ref q6, .ref q7, .ref q8, .ref q9, .ref q10, .ref q11, .ref q12])), (q1, .inr (2, [.ref q13, .int (Int32.ofInt i_hill_children), .ref q14, .ref q15, .ref q16, .int (Int32.ofInt u3), .ref q17, .ref q18, .ref q19, .int (Int32.ofInt i_hill_laws), .ref q20, .ref q21, .int (Int32.ofInt i_hill_inForce), .int (Int32.ofInt i_hill_changes)])), (q5, .inl (cA 0, 7, .inl (za i_refusals))), (q7, .inr (3, [.ref q1, .ref q22, .ref q23, .int (Int32.ofInt i_judge_piled), .int (Int32.ofInt i_judge_tiring), .int (Int32.ofInt i_judge_barred)])), (q13, .inr (1, [.int (Int32.ofInt i_hill_columns_many), .ref q24, .ref q25])), (q14, .inl (cA 0, 6, .inl (za i_hill_strengths))), (q15, .inl (cA 0, 6, .inl (za i_hill_expelled))), (q18, .inl (cA 0, 4, .inl (za i_hill_terms))), (q20, .inl (cA 0, 2544, .inl (za i_hill_orders))), (q21, .inl (cA 0, 6, .inl (za i_hill_ordered))), (q22, .inl (cA 0, 8, .inl (za i_judge_words))), (q23, .inl (cA 0, 32, .inl (za i_judge_pile))), (q24, .inl (cA 0, 12, .inl (za i_hill_columns_heights))), (q25, .inl (cA 0, 120, .inl (za i_hill_columns_weights)))]
noncomputable def wf_HS_exchange (cA : Nat → ClassId) (q0 q1 q2 q3 q4 q5 q6 q7 q8 q9 q10 q11 q12 q13 q14 q15 q16 q17 q18 q19 q20 q21 q22 q23 q24 q25 : Nat) (u0 u1 u2 u3 : Int) (i_hill_children : Int) (i_hill_laws : Int) (i_hill_inForce : Int) (i_hill_columns_many : Int) (i_hill_strengths : Nat → Int) (i_hill_expelled : Nat → Int) (i_hill_terms : Nat → Int) (i_hill_orders : Nat → Int) (i_hill_ordered : Nat → Int) (o : Int × Int × Int × (Nat → Int) × Int × Int × Int × (Nat → Int) × (Nat → Int) × (Nat → Int) × (Nat → Int)) : va_W := wd_HS_exchange cA q0 q1 q2 q3 q4 q5 q6 q7 q8 q9 q10 q11 q12 q13 q14 q15 q16 q17 q18 q19 q20 q21 q22 q23 q24 q25 u0 u1 u2 u3 i_hill_children i_hill_laws i_hill_inForce i_hill_columns_many i_hill_strengths i_hill_expelled i_hill_terms i_hill_orders i_hill_ordered o.2.1 o.2.2.1 o.2.2.2.1 o.2.2.2.2.1 o.2.2.2.2.2.1 o.2.2.2.2.2.2.1 o.2.2.2.2.2.2.2.1 o.2.2.2.2.2.2.2.2.1 o.2.2.2.2.2.2.2.2.2.1 o.2.2.2.2.2.2.2.2.2.2
noncomputable def f_HS_exchange_25 (i_hill_children : Int) (i_hill_laws : Int) (i_hill_inForce : Int) (i_hill_columns_many : Int) (i_hill_strengths : Nat → Int) (i_hill_expelled : Nat → Int) (i_hill_terms : Nat → Int) (i_hill_orders : Nat → Int) (i_hill_ordered : Nat → Int) (i_latestStatus : Int) (i_hill_changes : Int) (i_refusals : Nat → Int) (i_judge_piled : Int) (i_judge_tiring : Int) (i_judge_barred : Int) (i_judge_words : Nat → Int) (i_judge_pile : Nat → Int) (i_hill_columns_heights : Nat → Int) (i_hill_columns_weights : Nat → Int) : Option (Int × Int × Int × (Nat → Int) × Int × Int × Int × (Nat → Int) × (Nat → Int) × (Nat → Int) × (Nat → Int)) :=
  zd3 (f_HS_refuse (-2) i_latestStatus i_refusals) fun v1 v2 a3 =>
  some (v1, v2, i_hill_changes, a3, i_judge_piled, i_judge_tiring, i_judge_barred, i_judge_words, i_judge_pile, i_hill_columns_heights, i_hill_columns_weights)
noncomputable def f_HS_exchange_141 (i_hill_children : Int) (i_hill_laws : Int) (i_hill_inForce : Int) (i_hill_columns_many : Int) (i_hill_strengths : Nat → Int) (i_hill_expelled : Nat → Int) (i_hill_terms : Nat → Int) (i_hill_orders : Nat → Int) (i_hill_ordered : Nat → Int) (x2 : Int) (x3 : Int) (i_latestStatus : Int) (i_hill_changes : Int) (i_refusals : Nat → Int) (i_judge_piled : Int) (i_judge_tiring : Int) (i_judge_barred : Int) (i_judge_words : Nat → Int) (i_judge_pile : Nat → Int) (i_hill_columns_heights : Nat → Int) (i_hill_columns_weights : Nat → Int) : Option (Int × Int × Int × (Nat → Int) × Int × Int × Int × (Nat → Int) × (Nat → Int) × (Nat → Int) × (Nat → Int)) :=
  zd2 (f_Columns_move x3 x2 i_hill_columns_many i_hill_columns_heights i_hill_columns_weights) fun a1 a2 =>
  zd3 (f_HS_refuse (-3) i_latestStatus i_refusals) fun v3 v4 a5 =>
  some (v3, v4, i_hill_changes, a5, i_judge_piled, i_judge_tiring, i_judge_barred, i_judge_words, i_judge_pile, a1, a2)
noncomputable def f_HS_exchange (x1 : Int) (x2 : Int) (x3 : Int) (x4 : Int) (i_hill_children : Int) (i_hill_laws : Int) (i_hill_inForce : Int) (i_hill_columns_many : Int) (i_hill_strengths : Nat → Int) (i_hill_expelled : Nat → Int) (i_hill_terms : Nat → Int) (i_hill_orders : Nat → Int) (i_hill_ordered : Nat → Int) (i_latestStatus : Int) (i_hill_changes : Int) (i_refusals : Nat → Int) (i_judge_piled : Int) (i_judge_tiring : Int) (i_judge_barred : Int) (i_judge_words : Nat → Int) (i_judge_pile : Nat → Int) (i_hill_columns_heights : Nat → Int) (i_hill_columns_weights : Nat → Int) : Option (Int × Int × Int × (Nat → Int) × Int × Int × Int × (Nat → Int) × (Nat → Int) × (Nat → Int) × (Nat → Int)) :=
  zd1 (f_HS_knows x1 x2 x3 i_hill_children i_hill_columns_many) fun v1 =>
  if zi_w v1 = 0 then
    f_HS_exchange_25 i_hill_children i_hill_laws i_hill_inForce i_hill_columns_many i_hill_strengths i_hill_expelled i_hill_terms i_hill_orders i_hill_ordered i_latestStatus i_hill_changes i_refusals i_judge_piled i_judge_tiring i_judge_barred i_judge_words i_judge_pile i_hill_columns_heights i_hill_columns_weights
  else
    zd1 (f_Columns_has x4 i_hill_columns_many) fun v2 =>
    if zi_w v2 ≠ 0 then
      zd6 (f_Judge_effortOn x1 x2 x3 i_hill_columns_many i_hill_children i_hill_laws i_hill_inForce i_hill_columns_heights i_hill_columns_weights i_hill_strengths i_hill_expelled i_hill_terms i_hill_orders i_hill_ordered i_judge_piled i_judge_tiring i_judge_barred i_judge_words i_judge_pile) fun v3 v4 v5 v6 a7 a8 =>
      if zi_w v3 ≠ zi_w (-1) then
        zd1 (f_Columns_top x2 i_hill_columns_many i_hill_columns_heights i_hill_columns_weights) fun v9 =>
        zd2 (f_Columns_move x2 x3 i_hill_columns_many i_hill_columns_heights i_hill_columns_weights) fun a10 a11 =>
        zd1 (f_Columns_top x4 i_hill_columns_many a10 a11) fun v12 =>
        zn (v9 - v12) fun v13 =>
        zn (zi_abs v13) fun v14 =>
        zd6 (f_Judge_effortOn x1 x4 x2 i_hill_columns_many i_hill_children i_hill_laws i_hill_inForce a10 a11 i_hill_strengths i_hill_expelled i_hill_terms i_hill_orders i_hill_ordered v4 v5 v6 a7 a8) fun v15 v16 v17 v18 a19 a20 =>
        if zi_w v15 = zi_w (-1) then
          f_HS_exchange_141 i_hill_children i_hill_laws i_hill_inForce i_hill_columns_many i_hill_strengths i_hill_expelled i_hill_terms i_hill_orders i_hill_ordered x2 x3 i_latestStatus i_hill_changes i_refusals v16 v17 v18 a19 a20 a10 a11
        else
          zg 4 i_hill_terms 3 fun v21 =>
          if zi_w v21 ≤ zi_w v14 then
            zd2 (f_Columns_move x4 x2 i_hill_columns_many a10 a11) fun a22 a23 =>
            zd3 (f_HS_accept v14 i_latestStatus i_hill_changes) fun v24 v25 v26 =>
            some (v24, v25, v26, i_refusals, v16, v17, v18, a19, a20, a22, a23)
          else
            f_HS_exchange_141 i_hill_children i_hill_laws i_hill_inForce i_hill_columns_many i_hill_strengths i_hill_expelled i_hill_terms i_hill_orders i_hill_ordered x2 x3 i_latestStatus i_hill_changes i_refusals v16 v17 v18 a19 a20 a10 a11
      else
        zd3 (f_HS_refuse (-3) i_latestStatus i_refusals) fun v27 v28 a29 =>
        some (v27, v28, i_hill_changes, a29, v4, v5, v6, a7, a8, i_hill_columns_heights, i_hill_columns_weights)
    else
      f_HS_exchange_25 i_hill_children i_hill_laws i_hill_inForce i_hill_columns_many i_hill_strengths i_hill_expelled i_hill_terms i_hill_orders i_hill_ordered i_latestStatus i_hill_changes i_refusals i_judge_piled i_judge_tiring i_judge_barred i_judge_words i_judge_pile i_hill_columns_heights i_hill_columns_weights
set_option maxHeartbeats 4000000 in
set_option maxRecDepth 100000 in
theorem c_HS_exchange (l : Launch) (ev : zEv) (dC : Nat → ClassId) (dI : Nat → Nat → Nat) (cA : Nat → ClassId) (q0 q1 q2 q3 q4 q5 q6 q7 q8 q9 q10 q11 q12 q13 q14 q15 q16 q17 q18 q19 q20 q21 q22 q23 q24 q25 : Nat) (u0 u1 u2 u3 : Int) {x1 x2 x3 x4 : Int} {i_hill_children : Int} {i_hill_laws : Int} {i_hill_inForce : Int} {i_hill_columns_many : Int} {i_hill_strengths : Nat → Int} {i_hill_expelled : Nat → Int} {i_hill_terms : Nat → Int} {i_hill_orders : Nat → Int} {i_hill_ordered : Nat → Int} {i_latestStatus : Int} {i_hill_changes : Int} {i_refusals : Nat → Int} {i_judge_piled : Int} {i_judge_tiring : Int} {i_judge_barred : Int} {i_judge_words : Nat → Int} {i_judge_pile : Nat → Int} {i_hill_columns_heights : Nat → Int} {i_hill_columns_weights : Nat → Int} {out : Int × Int × Int × (Nat → Int) × Int × Int × Int × (Nat → Int) × (Nat → Int) × (Nat → Int) × (Nat → Int)} (hf : f_HS_exchange x1 x2 x3 x4 i_hill_children i_hill_laws i_hill_inForce i_hill_columns_many i_hill_strengths i_hill_expelled i_hill_terms i_hill_orders i_hill_ordered i_latestStatus i_hill_changes i_refusals i_judge_piled i_judge_tiring i_judge_barred i_judge_words i_judge_pile i_hill_columns_heights i_hill_columns_weights = some out) : xc_I l ev (dC, dI) vwCl (tyl cA) yX10_exchange w_HS_exchange rm_HS_exchange [.ref q0, .int (Int32.ofInt x1), .int (Int32.ofInt x2), .int (Int32.ofInt x3), .int (Int32.ofInt x4)] (wd_HS_exchange cA q0 q1 q2 q3 q4 q5 q6 q7 q8 q9 q10 q11 q12 q13 q14 q15 q16 q17 q18 q19 q20 q21 q22 q23 q24 q25 u0 u1 u2 u3 i_hill_children i_hill_laws i_hill_inForce i_hill_columns_many i_hill_strengths i_hill_expelled i_hill_terms i_hill_orders i_hill_ordered i_latestStatus i_hill_changes i_refusals i_judge_piled i_judge_tiring i_judge_barred i_judge_words i_judge_pile i_hill_columns_heights i_hill_columns_weights) (wf_HS_exchange cA q0 q1 q2 q3 q4 q5 q6 q7 q8 q9 q10 q11 q12 q13 q14 q15 q16 q17 q18 q19 q20 q21 q22 q23 q24 q25 u0 u1 u2 u3 i_hill_children i_hill_laws i_hill_inForce i_hill_columns_many i_hill_strengths i_hill_expelled i_hill_terms i_hill_orders i_hill_ordered out) out.1 := by
  refine xv_startI (cc := cX10_exchange) (maxL := 7) (rt := .int) (by decide +kernel) rfl (Nat.le_of_ble_eq_true rfl) ?_
  intro p e s m args below meth c A Q H ls hx hb hml hts hown hK hA hP hD hS hl hE hret
  have hown : s.vm.findClass "HillSchool" = some m.cls := hown
  have hz : ∀ w ∈ zall, w.before args s = true := fun w h => hts w (List.mem_cons_of_mem _ h)
  have hl : lv_has ls 7 [(0, .ref q0), (1, .int (Int32.ofInt x1)), (2, .int (Int32.ofInt x2)), (3, .int (Int32.ofInt x3)), (4, .int (Int32.ofInt x4))] := hl
  have b_25 : ∀ (i_latestStatus : Int) (i_hill_changes : Int) (i_refusals : Nat → Int) (i_judge_piled : Int) (i_judge_tiring : Int) (i_judge_barred : Int) (i_judge_words : Nat → Int) (i_judge_pile : Nat → Int) (i_hill_columns_heights : Nat → Int) (i_hill_columns_weights : Nat → Int) (H : Heap) (locs : List Loc) (ls : Array Slot), f_HS_exchange_25 i_hill_children i_hill_laws i_hill_inForce i_hill_columns_many i_hill_strengths i_hill_expelled i_hill_terms i_hill_orders i_hill_ordered i_latestStatus i_hill_changes i_refusals i_judge_piled i_judge_tiring i_judge_barred i_judge_words i_judge_pile i_hill_columns_heights i_hill_columns_weights = some out → va_P (dC, dI) vwCl (wd_HS_exchange cA q0 q1 q2 q3 q4 q5 q6 q7 q8 q9 q10 q11 q12 q13 q14 q15 q16 q17 q18 q19 q20 q21 q22 q23 q24 q25 u0 u1 u2 u3 i_hill_children i_hill_laws i_hill_inForce i_hill_columns_many i_hill_strengths i_hill_expelled i_hill_terms i_hill_orders i_hill_ordered i_latestStatus i_hill_changes i_refusals i_judge_piled i_judge_tiring i_judge_barred i_judge_words i_judge_pile i_hill_columns_heights i_hill_columns_weights) H → va_D A (wd_HS_exchange cA q0 q1 q2 q3 q4 q5 q6 q7 q8 q9 q10 q11 q12 q13 q14 q15 q16 q17 q18 q19 q20 q21 q22 q23 q24 q25 u0 u1 u2 u3 i_hill_children i_hill_laws i_hill_inForce i_hill_columns_many i_hill_strengths i_hill_expelled i_hill_terms i_hill_orders i_hill_ordered i_latestStatus i_hill_changes i_refusals i_judge_piled i_judge_tiring i_judge_barred i_judge_words i_judge_pile i_hill_columns_heights i_hill_columns_weights) → va_S A s.heap H locs → lv_has ls 7 [(0, .ref q0)] → W p l e rm_HS_exchange s m args below meth c H locs 0 0 Q (F0 m 25 ls []) := by
    intro i_latestStatus i_hill_changes i_refusals i_judge_piled i_judge_tiring i_judge_barred i_judge_words i_judge_pile i_hill_columns_heights i_hill_columns_weights H locs ls hf hP hD hS hl
    unfold f_HS_exchange_25 at hf
    refine lv_aload_n hx hb (zdt zkX10_exchange 25 rfl) rfl (lv_at hl 0 rfl) ?_
    refine lv_bipush (v := Int32.ofInt (-2)) hx hb (zdt zkX10_exchange 26 rfl) (by decide) ?_
    refine xe_d3 hf (fun v1 v2 a3 hg hf => ?_)
    have hC : ([0, 2] : List Nat).map (fun i => (wd_HS_exchange cA q0 q1 q2 q3 q4 q5 q6 q7 q8 q9 q10 q11 q12 q13 q14 q15 q16 q17 q18 q19 q20 q21 q22 q23 q24 q25 u0 u1 u2 u3 i_hill_children i_hill_laws i_hill_inForce i_hill_columns_many i_hill_strengths i_hill_expelled i_hill_terms i_hill_orders i_hill_ordered i_latestStatus i_hill_changes i_refusals i_judge_piled i_judge_tiring i_judge_barred i_judge_words i_judge_pile i_hill_columns_heights i_hill_columns_weights)[i]?) = (wd_HS_refuse cA q0 q1 q2 q3 q4 q5 q6 q7 q8 q9 q10 q11 q12 u0 u1 u2 i_latestStatus i_refusals).map some := rfl
    refine xv_afterI (ws' := (wd_HS_exchange cA q0 q1 q2 q3 q4 q5 q6 q7 q8 q9 q10 q11 q12 q13 q14 q15 q16 q17 q18 q19 q20 q21 q22 q23 q24 q25 u0 u1 u2 u3 i_hill_children i_hill_laws i_hill_inForce i_hill_columns_many i_hill_strengths i_hill_expelled i_hill_terms i_hill_orders i_hill_ordered v2 i_hill_changes a3 i_judge_piled i_judge_tiring i_judge_barred i_judge_words i_judge_pile i_hill_columns_heights i_hill_columns_weights)) (isC := [0, 2]) (ps := [some 0, none, some 1, none, none, none, none, none, none, none, none, none, none, none]) (va_runV (As := [.int (Int32.ofInt (-2))]) (rest := []) ⟨hx, hb, hml, hown, hts⟩ (c_HS_refuse l ev dC dI cA q0 q1 q2 q3 q4 q5 q6 q7 q8 q9 q10 q11 q12 u0 u1 u2 hg H.size) (cwV 1 hts (zgV zw_534 zw_536 zw_0 zw_104 zw_537) rfl rfl rfl hd_HS_refuse ⟨Nat.le_of_ble_eq_true rfl, Nat.le_of_ble_eq_true rfl⟩) (xv_preV (T := TX10) (N := 16) hE hA hS hK hP hD (isC := [0, 2]) (by decide +kernel) hC (q0 := 0) (ci := 10) rfl rfl) rfl rfl hl.1 rfl (lv_room (Nat.le_of_ble_eq_true rfl)) (zdt zkX10_exchange 28 rfl) ⟨Nat.le_refl _, Nat.le_refl _⟩) hP hD hS hA (by decide +kernel) rfl hC rfl rfl (fun H locs hP hD hS => ?_)
    obtain rfl := Option.some.inj hf
    exact hret _ _ _ _ rfl (zdt zkX10_exchange 31 rfl) hP hD hS
  have b_141 : ∀ (x2 : Int) (x3 : Int) (i_latestStatus : Int) (i_hill_changes : Int) (i_refusals : Nat → Int) (i_judge_piled : Int) (i_judge_tiring : Int) (i_judge_barred : Int) (i_judge_words : Nat → Int) (i_judge_pile : Nat → Int) (i_hill_columns_heights : Nat → Int) (i_hill_columns_weights : Nat → Int) (H : Heap) (locs : List Loc) (ls : Array Slot), f_HS_exchange_141 i_hill_children i_hill_laws i_hill_inForce i_hill_columns_many i_hill_strengths i_hill_expelled i_hill_terms i_hill_orders i_hill_ordered x2 x3 i_latestStatus i_hill_changes i_refusals i_judge_piled i_judge_tiring i_judge_barred i_judge_words i_judge_pile i_hill_columns_heights i_hill_columns_weights = some out → va_P (dC, dI) vwCl (wd_HS_exchange cA q0 q1 q2 q3 q4 q5 q6 q7 q8 q9 q10 q11 q12 q13 q14 q15 q16 q17 q18 q19 q20 q21 q22 q23 q24 q25 u0 u1 u2 u3 i_hill_children i_hill_laws i_hill_inForce i_hill_columns_many i_hill_strengths i_hill_expelled i_hill_terms i_hill_orders i_hill_ordered i_latestStatus i_hill_changes i_refusals i_judge_piled i_judge_tiring i_judge_barred i_judge_words i_judge_pile i_hill_columns_heights i_hill_columns_weights) H → va_D A (wd_HS_exchange cA q0 q1 q2 q3 q4 q5 q6 q7 q8 q9 q10 q11 q12 q13 q14 q15 q16 q17 q18 q19 q20 q21 q22 q23 q24 q25 u0 u1 u2 u3 i_hill_children i_hill_laws i_hill_inForce i_hill_columns_many i_hill_strengths i_hill_expelled i_hill_terms i_hill_orders i_hill_ordered i_latestStatus i_hill_changes i_refusals i_judge_piled i_judge_tiring i_judge_barred i_judge_words i_judge_pile i_hill_columns_heights i_hill_columns_weights) → va_S A s.heap H locs → lv_has ls 7 [(0, .ref q0), (2, .int (Int32.ofInt x2)), (3, .int (Int32.ofInt x3))] → W p l e rm_HS_exchange s m args below meth c H locs 0 0 Q (F0 m 141 ls []) := by
    intro x2 x3 i_latestStatus i_hill_changes i_refusals i_judge_piled i_judge_tiring i_judge_barred i_judge_words i_judge_pile i_hill_columns_heights i_hill_columns_weights H locs ls hf hP hD hS hl
    unfold f_HS_exchange_141 at hf
    refine lv_aload_n hx hb (zdt zkX10_exchange 141 rfl) rfl (lv_at hl 0 rfl) ?_
    refine va_get (D := (dC, dI)) (ci := 10) (v := .ref q1) (C := RX10) (T := TX10) (N := 16) hx hb hz zi_X10 hown hK hP 0 rfl rfl 0 (by decide) (hz _ zw_477) (fun _ h9 => h9) rfl (zdt zkX10_exchange 142 rfl) ?_
    refine va_getN (D := (dC, dI)) (ci := 2) (v := .ref q13) (C := RX2) (T := TX2) (N := 14) hx hb hz zi_X2 hown hK hP 1 rfl rfl 0 (by decide) (va_Nw.use rfl (hE.1.1 _ zw_169)) (fun _ h9 => h9) rfl (zdt zkX10_exchange 145 rfl) ?_
    refine lv_iload_n hx hb (zdt zkX10_exchange 148 rfl) rfl (lv_at hl 2 rfl) ?_
    refine lv_iload_n hx hb (zdt zkX10_exchange 149 rfl) rfl (lv_at hl 1 rfl) ?_
    refine xe_d2 hf (fun a1 a2 hg hf => ?_)
    have hC : ([4, 12, 13] : List Nat).map (fun i => (wd_HS_exchange cA q0 q1 q2 q3 q4 q5 q6 q7 q8 q9 q10 q11 q12 q13 q14 q15 q16 q17 q18 q19 q20 q21 q22 q23 q24 q25 u0 u1 u2 u3 i_hill_children i_hill_laws i_hill_inForce i_hill_columns_many i_hill_strengths i_hill_expelled i_hill_terms i_hill_orders i_hill_ordered i_latestStatus i_hill_changes i_refusals i_judge_piled i_judge_tiring i_judge_barred i_judge_words i_judge_pile i_hill_columns_heights i_hill_columns_weights)[i]?) = (wd_Columns_move cA q13 q24 q25 i_hill_columns_many i_hill_columns_heights i_hill_columns_weights).map some := rfl
    refine xv_afterV (ws' := (wd_HS_exchange cA q0 q1 q2 q3 q4 q5 q6 q7 q8 q9 q10 q11 q12 q13 q14 q15 q16 q17 q18 q19 q20 q21 q22 q23 q24 q25 u0 u1 u2 u3 i_hill_children i_hill_laws i_hill_inForce i_hill_columns_many i_hill_strengths i_hill_expelled i_hill_terms i_hill_orders i_hill_ordered i_latestStatus i_hill_changes i_refusals i_judge_piled i_judge_tiring i_judge_barred i_judge_words i_judge_pile a1 a2)) (isC := [4, 12, 13]) (ps := [none, none, none, none, some 0, none, none, none, none, none, none, none, some 1, some 2]) (va_runV (As := [.int (Int32.ofInt x3), .int (Int32.ofInt x2)]) (rest := []) ⟨hx, hb, hml, hown, hts⟩ (c_Columns_move l ev dC dI cA q13 q24 q25 hg H.size) (cwV 2 hts (zgV zw_850 zw_851 zw_852 zw_106 zw_853) rfl rfl rfl hd_Columns_move ⟨Nat.le_of_ble_eq_true rfl, Nat.le_of_ble_eq_true rfl⟩) (xv_preV (T := TX1) (N := 3) hE hA hS hK hP hD (isC := [4, 12, 13]) (by decide +kernel) hC (q0 := 4) (ci := 1) rfl rfl) rfl rfl hl.1 rfl (lv_room (Nat.le_of_ble_eq_true rfl)) (zdt zkX10_exchange 150 rfl) ⟨Nat.le_refl _, Nat.le_refl _⟩) hP hD hS hA (by decide +kernel) rfl hC rfl rfl (fun H locs hP hD hS => ?_)
    refine lv_aload_n hx hb (zdt zkX10_exchange 153 rfl) rfl (lv_at hl 0 rfl) ?_
    refine lv_bipush (v := Int32.ofInt (-3)) hx hb (zdt zkX10_exchange 154 rfl) (by decide) ?_
    refine xe_d3 hf (fun v3 v4 a5 hg hf => ?_)
    have hC : ([0, 2] : List Nat).map (fun i => (wd_HS_exchange cA q0 q1 q2 q3 q4 q5 q6 q7 q8 q9 q10 q11 q12 q13 q14 q15 q16 q17 q18 q19 q20 q21 q22 q23 q24 q25 u0 u1 u2 u3 i_hill_children i_hill_laws i_hill_inForce i_hill_columns_many i_hill_strengths i_hill_expelled i_hill_terms i_hill_orders i_hill_ordered i_latestStatus i_hill_changes i_refusals i_judge_piled i_judge_tiring i_judge_barred i_judge_words i_judge_pile a1 a2)[i]?) = (wd_HS_refuse cA q0 q1 q2 q3 q4 q5 q6 q7 q8 q9 q10 q11 q12 u0 u1 u2 i_latestStatus i_refusals).map some := rfl
    refine xv_afterI (ws' := (wd_HS_exchange cA q0 q1 q2 q3 q4 q5 q6 q7 q8 q9 q10 q11 q12 q13 q14 q15 q16 q17 q18 q19 q20 q21 q22 q23 q24 q25 u0 u1 u2 u3 i_hill_children i_hill_laws i_hill_inForce i_hill_columns_many i_hill_strengths i_hill_expelled i_hill_terms i_hill_orders i_hill_ordered v4 i_hill_changes a5 i_judge_piled i_judge_tiring i_judge_barred i_judge_words i_judge_pile a1 a2)) (isC := [0, 2]) (ps := [some 0, none, some 1, none, none, none, none, none, none, none, none, none, none, none]) (va_runV (As := [.int (Int32.ofInt (-3))]) (rest := []) ⟨hx, hb, hml, hown, hts⟩ (c_HS_refuse l ev dC dI cA q0 q1 q2 q3 q4 q5 q6 q7 q8 q9 q10 q11 q12 u0 u1 u2 hg H.size) (cwV 1 hts (zgV zw_534 zw_536 zw_0 zw_104 zw_537) rfl rfl rfl hd_HS_refuse ⟨Nat.le_of_ble_eq_true rfl, Nat.le_of_ble_eq_true rfl⟩) (xv_preV (T := TX10) (N := 16) hE hA hS hK hP hD (isC := [0, 2]) (by decide +kernel) hC (q0 := 0) (ci := 10) rfl rfl) rfl rfl hl.1 rfl (lv_room (Nat.le_of_ble_eq_true rfl)) (zdt zkX10_exchange 156 rfl) ⟨Nat.le_refl _, Nat.le_refl _⟩) hP hD hS hA (by decide +kernel) rfl hC rfl rfl (fun H locs hP hD hS => ?_)
    obtain rfl := Option.some.inj hf
    exact hret _ _ _ _ rfl (zdt zkX10_exchange 159 rfl) hP hD hS
  unfold f_HS_exchange at hf
  refine lv_aload_n hx hb (zdt zkX10_exchange 0 rfl) rfl (lv_at hl 0 rfl) ?_
  refine lv_iload_n hx hb (zdt zkX10_exchange 1 rfl) rfl (lv_at hl 1 rfl) ?_
  refine lv_iload_n hx hb (zdt zkX10_exchange 2 rfl) rfl (lv_at hl 2 rfl) ?_
  refine lv_iload_n hx hb (zdt zkX10_exchange 3 rfl) rfl (lv_at hl 3 rfl) ?_
  refine xe_d1 hf (fun v1 hg hf => ?_)
  have hC : ([0, 1, 4] : List Nat).map (fun i => (wd_HS_exchange cA q0 q1 q2 q3 q4 q5 q6 q7 q8 q9 q10 q11 q12 q13 q14 q15 q16 q17 q18 q19 q20 q21 q22 q23 q24 q25 u0 u1 u2 u3 i_hill_children i_hill_laws i_hill_inForce i_hill_columns_many i_hill_strengths i_hill_expelled i_hill_terms i_hill_orders i_hill_ordered i_latestStatus i_hill_changes i_refusals i_judge_piled i_judge_tiring i_judge_barred i_judge_words i_judge_pile i_hill_columns_heights i_hill_columns_weights)[i]?) = (wd_HS_knows cA q0 q1 q2 q3 q4 q5 q6 q7 q8 q9 q10 q11 q12 q13 q14 q15 q16 q17 q18 q19 q20 q21 q24 q25 u0 u1 u2 i_latestStatus u3 i_hill_laws i_hill_inForce i_hill_changes i_hill_children i_hill_columns_many).map some := rfl
  refine xv_afterI (ws' := (wd_HS_exchange cA q0 q1 q2 q3 q4 q5 q6 q7 q8 q9 q10 q11 q12 q13 q14 q15 q16 q17 q18 q19 q20 q21 q22 q23 q24 q25 u0 u1 u2 u3 i_hill_children i_hill_laws i_hill_inForce i_hill_columns_many i_hill_strengths i_hill_expelled i_hill_terms i_hill_orders i_hill_ordered i_latestStatus i_hill_changes i_refusals i_judge_piled i_judge_tiring i_judge_barred i_judge_words i_judge_pile i_hill_columns_heights i_hill_columns_weights)) (isC := [0, 1, 4]) (ps := [some 0, some 1, none, none, some 2, none, none, none, none, none, none, none, none, none]) (va_runV (As := [.int (Int32.ofInt x1), .int (Int32.ofInt x2), .int (Int32.ofInt x3)]) (rest := []) ⟨hx, hb, hml, hown, hts⟩ (c_HS_knows l ev dC dI cA q0 q1 q2 q3 q4 q5 q6 q7 q8 q9 q10 q11 q12 q13 q14 q15 q16 q17 q18 q19 q20 q21 q24 q25 u0 u1 u2 i_latestStatus u3 i_hill_laws i_hill_inForce i_hill_changes hg H.size) (cwV 3 hts (zgV zw_799 zw_801 zw_13 zw_104 zw_802) rfl rfl rfl hd_HS_knows ⟨Nat.le_of_ble_eq_true rfl, Nat.le_of_ble_eq_true rfl⟩) (xv_preV (T := TX10) (N := 16) hE hA hS hK hP hD (isC := [0, 1, 4]) (by decide +kernel) hC (q0 := 0) (ci := 10) rfl rfl) rfl rfl hl.1 rfl (lv_room (Nat.le_of_ble_eq_true rfl)) (zdt zkX10_exchange 4 rfl) ⟨Nat.le_refl _, Nat.le_refl _⟩) hP hD hS hA (by decide +kernel) rfl hC rfl rfl (fun H locs hP hD hS => ?_)
  refine xi_if_eq (tgt := 25) hx hb (zdt zkX10_exchange 7 rfl) (by decide) hf (fun hf => ?_) (fun hf => ?_)
  · exact b_25  _ _ _ _ _ _ _ _ _ _ _ _ _ hf hP hD hS (lv_sub hl [0] rfl)
  · refine lv_aload_n hx hb (zdt zkX10_exchange 10 rfl) rfl (lv_at hl 0 rfl) ?_
    refine va_get (D := (dC, dI)) (ci := 10) (v := .ref q1) (C := RX10) (T := TX10) (N := 16) hx hb hz zi_X10 hown hK hP 0 rfl rfl 0 (by decide) (hz _ zw_477) (fun _ h9 => h9) rfl (zdt zkX10_exchange 11 rfl) ?_
    refine va_getN (D := (dC, dI)) (ci := 2) (v := .ref q13) (C := RX2) (T := TX2) (N := 14) hx hb hz zi_X2 hown hK hP 1 rfl rfl 0 (by decide) (va_Nw.use rfl (hE.1.1 _ zw_169)) (fun _ h9 => h9) rfl (zdt zkX10_exchange 14 rfl) ?_
    refine lv_iload hx hb (zdt zkX10_exchange 17 rfl) (lv_at hl 4 rfl) ?_
    refine xe_d1 hf (fun v2 hg hf => ?_)
    have hC : ([4] : List Nat).map (fun i => (wd_HS_exchange cA q0 q1 q2 q3 q4 q5 q6 q7 q8 q9 q10 q11 q12 q13 q14 q15 q16 q17 q18 q19 q20 q21 q22 q23 q24 q25 u0 u1 u2 u3 i_hill_children i_hill_laws i_hill_inForce i_hill_columns_many i_hill_strengths i_hill_expelled i_hill_terms i_hill_orders i_hill_ordered i_latestStatus i_hill_changes i_refusals i_judge_piled i_judge_tiring i_judge_barred i_judge_words i_judge_pile i_hill_columns_heights i_hill_columns_weights)[i]?) = (wd_Columns_has cA q13 q24 q25 i_hill_columns_many).map some := rfl
    refine xv_afterI (ws' := (wd_HS_exchange cA q0 q1 q2 q3 q4 q5 q6 q7 q8 q9 q10 q11 q12 q13 q14 q15 q16 q17 q18 q19 q20 q21 q22 q23 q24 q25 u0 u1 u2 u3 i_hill_children i_hill_laws i_hill_inForce i_hill_columns_many i_hill_strengths i_hill_expelled i_hill_terms i_hill_orders i_hill_ordered i_latestStatus i_hill_changes i_refusals i_judge_piled i_judge_tiring i_judge_barred i_judge_words i_judge_pile i_hill_columns_heights i_hill_columns_weights)) (isC := [4]) (ps := [none, none, none, none, some 0, none, none, none, none, none, none, none, none, none]) (va_runV (As := [.int (Int32.ofInt x4)]) (rest := []) ⟨hx, hb, hml, hown, hts⟩ (c_Columns_has l ev dC dI cA q13 q24 q25 hg H.size) (cwV 1 hts (zgV zw_546 zw_547 zw_548 zw_106 zw_549) rfl rfl rfl hd_Columns_has ⟨Nat.le_of_ble_eq_true rfl, Nat.le_of_ble_eq_true rfl⟩) (xv_preV (T := TX1) (N := 3) hE hA hS hK hP hD (isC := [4]) (by decide +kernel) hC (q0 := 4) (ci := 1) rfl rfl) rfl rfl hl.1 rfl (lv_room (Nat.le_of_ble_eq_true rfl)) (zdt zkX10_exchange 19 rfl) ⟨Nat.le_refl _, Nat.le_refl _⟩) hP hD hS hA (by decide +kernel) rfl hC rfl rfl (fun H locs hP hD hS => ?_)
    refine xi_if_ne (tgt := 32) hx hb (zdt zkX10_exchange 22 rfl) (by decide) hf (fun hf => ?_) (fun hf => ?_)
    · refine lv_aload_n hx hb (zdt zkX10_exchange 32 rfl) rfl (lv_at hl 0 rfl) ?_
      refine va_get (D := (dC, dI)) (ci := 10) (v := .ref q7) (C := RX10) (T := TX10) (N := 16) hx hb hz zi_X10 hown hK hP 0 rfl rfl 10 (by decide) (hz _ zw_487) (fun _ h9 => h9) rfl (zdt zkX10_exchange 33 rfl) ?_
      refine lv_aload_n hx hb (zdt zkX10_exchange 36 rfl) rfl (lv_at hl 0 rfl) ?_
      refine va_get (D := (dC, dI)) (ci := 10) (v := .ref q1) (C := RX10) (T := TX10) (N := 16) hx hb hz zi_X10 hown hK hP 0 rfl rfl 0 (by decide) (hz _ zw_477) (fun _ h9 => h9) rfl (zdt zkX10_exchange 37 rfl) ?_
      refine va_getN (D := (dC, dI)) (ci := 2) (v := .ref q13) (C := RX2) (T := TX2) (N := 14) hx hb hz zi_X2 hown hK hP 1 rfl rfl 0 (by decide) (va_Nw.use rfl (hE.1.1 _ zw_169)) (fun _ h9 => h9) rfl (zdt zkX10_exchange 40 rfl) ?_
      refine lv_iload_n hx hb (zdt zkX10_exchange 43 rfl) rfl (lv_at hl 1 rfl) ?_
      refine lv_iload_n hx hb (zdt zkX10_exchange 44 rfl) rfl (lv_at hl 2 rfl) ?_
      refine lv_iload_n hx hb (zdt zkX10_exchange 45 rfl) rfl (lv_at hl 3 rfl) ?_
      refine xe_d6 hf (fun v3 v4 v5 v6 a7 a8 hg hf => ?_)
      have hC : ([3, 4, 1, 10, 11, 12, 13, 5, 6, 7, 8, 9] : List Nat).map (fun i => (wd_HS_exchange cA q0 q1 q2 q3 q4 q5 q6 q7 q8 q9 q10 q11 q12 q13 q14 q15 q16 q17 q18 q19 q20 q21 q22 q23 q24 q25 u0 u1 u2 u3 i_hill_children i_hill_laws i_hill_inForce i_hill_columns_many i_hill_strengths i_hill_expelled i_hill_terms i_hill_orders i_hill_ordered i_latestStatus i_hill_changes i_refusals i_judge_piled i_judge_tiring i_judge_barred i_judge_words i_judge_pile i_hill_columns_heights i_hill_columns_weights)[i]?) = (wd_Judge_effortOn cA q7 q1 q22 q23 q13 q24 q25 q13 q14 q15 q16 q17 q18 q19 q20 q21 u3 i_hill_changes i_hill_columns_many i_hill_children i_hill_laws i_hill_inForce i_hill_columns_heights i_hill_columns_weights i_hill_strengths i_hill_expelled i_hill_terms i_hill_orders i_hill_ordered i_judge_piled i_judge_tiring i_judge_barred i_judge_words i_judge_pile).map some := rfl
      refine xv_afterI (ws' := (wd_HS_exchange cA q0 q1 q2 q3 q4 q5 q6 q7 q8 q9 q10 q11 q12 q13 q14 q15 q16 q17 q18 q19 q20 q21 q22 q23 q24 q25 u0 u1 u2 u3 i_hill_children i_hill_laws i_hill_inForce i_hill_columns_many i_hill_strengths i_hill_expelled i_hill_terms i_hill_orders i_hill_ordered i_latestStatus i_hill_changes i_refusals v4 v5 v6 a7 a8 i_hill_columns_heights i_hill_columns_weights)) (isC := [3, 4, 1, 10, 11, 12, 13, 5, 6, 7, 8, 9]) (ps := [none, some 2, none, some 0, some 1, some 7, some 8, some 9, some 10, some 11, some 3, some 4, some 5, some 6]) (va_runV (As := [.ref q13, .int (Int32.ofInt x1), .int (Int32.ofInt x2), .int (Int32.ofInt x3)]) (rest := []) ⟨hx, hb, hml, hown, hts⟩ (c_Judge_effortOn l ev dC dI cA q7 q1 q22 q23 q13 q24 q25 q13 q14 q15 q16 q17 q18 q19 q20 q21 u3 i_hill_changes hg H.size) (cwV 4 hts (zgV zw_803 zw_804 zw_805 zw_108 zw_806) rfl rfl rfl hd_Judge_effortOn ⟨Nat.le_of_ble_eq_true rfl, Nat.le_of_ble_eq_true rfl⟩) (xv_preV (T := TX3) (N := 6) hE hA hS hK hP hD (isC := [3, 4, 1, 10, 11, 12, 13, 5, 6, 7, 8, 9]) (by decide +kernel) hC (q0 := 3) (ci := 3) rfl rfl) rfl rfl hl.1 rfl (lv_room (Nat.le_of_ble_eq_true rfl)) (zdt zkX10_exchange 46 rfl) ⟨Nat.le_refl _, Nat.le_refl _⟩) hP hD hS hA (by decide +kernel) rfl hC rfl rfl (fun H locs hP hD hS => ?_)
      refine lv_iconst (v := Int32.ofInt (-1)) hx hb (zdt zkX10_exchange 49 rfl) rfl ?_
      refine xi_icmp_ne (tgt := 60) hx hb (zdt zkX10_exchange 50 rfl) (by decide) hf (fun hf => ?_) (fun hf => ?_)
      · refine lv_aload_n hx hb (zdt zkX10_exchange 60 rfl) rfl (lv_at hl 0 rfl) ?_
        refine va_get (D := (dC, dI)) (ci := 10) (v := .ref q1) (C := RX10) (T := TX10) (N := 16) hx hb hz zi_X10 hown hK hP 0 rfl rfl 0 (by decide) (hz _ zw_477) (fun _ h9 => h9) rfl (zdt zkX10_exchange 61 rfl) ?_
        refine va_getN (D := (dC, dI)) (ci := 2) (v := .ref q13) (C := RX2) (T := TX2) (N := 14) hx hb hz zi_X2 hown hK hP 1 rfl rfl 0 (by decide) (va_Nw.use rfl (hE.1.1 _ zw_169)) (fun _ h9 => h9) rfl (zdt zkX10_exchange 64 rfl) ?_
        refine lv_iload_n hx hb (zdt zkX10_exchange 67 rfl) rfl (lv_at hl 2 rfl) ?_
        refine xe_d1 hf (fun v9 hg hf => ?_)
        have hC : ([4, 12, 13] : List Nat).map (fun i => (wd_HS_exchange cA q0 q1 q2 q3 q4 q5 q6 q7 q8 q9 q10 q11 q12 q13 q14 q15 q16 q17 q18 q19 q20 q21 q22 q23 q24 q25 u0 u1 u2 u3 i_hill_children i_hill_laws i_hill_inForce i_hill_columns_many i_hill_strengths i_hill_expelled i_hill_terms i_hill_orders i_hill_ordered i_latestStatus i_hill_changes i_refusals v4 v5 v6 a7 a8 i_hill_columns_heights i_hill_columns_weights)[i]?) = (wd_Columns_top cA q13 q24 q25 i_hill_columns_many i_hill_columns_heights i_hill_columns_weights).map some := rfl
        refine xv_afterI (ws' := (wd_HS_exchange cA q0 q1 q2 q3 q4 q5 q6 q7 q8 q9 q10 q11 q12 q13 q14 q15 q16 q17 q18 q19 q20 q21 q22 q23 q24 q25 u0 u1 u2 u3 i_hill_children i_hill_laws i_hill_inForce i_hill_columns_many i_hill_strengths i_hill_expelled i_hill_terms i_hill_orders i_hill_ordered i_latestStatus i_hill_changes i_refusals v4 v5 v6 a7 a8 i_hill_columns_heights i_hill_columns_weights)) (isC := [4, 12, 13]) (ps := [none, none, none, none, some 0, none, none, none, none, none, none, none, some 1, some 2]) (va_runV (As := [.int (Int32.ofInt x2)]) (rest := []) ⟨hx, hb, hml, hown, hts⟩ (c_Columns_top l ev dC dI cA q13 q24 q25 hg H.size) (cwV 1 hts (zgV zw_849 zw_568 zw_569 zw_106 zw_570) rfl rfl rfl hd_Columns_top ⟨Nat.le_of_ble_eq_true rfl, Nat.le_of_ble_eq_true rfl⟩) (xv_preV (T := TX1) (N := 3) hE hA hS hK hP hD (isC := [4, 12, 13]) (by decide +kernel) hC (q0 := 4) (ci := 1) rfl rfl) rfl rfl hl.1 rfl (lv_room (Nat.le_of_ble_eq_true rfl)) (zdt zkX10_exchange 68 rfl) ⟨Nat.le_refl _, Nat.le_refl _⟩) hP hD hS hA (by decide +kernel) rfl hC rfl rfl (fun H locs hP hD hS => ?_)
        refine lv_istore (lv' := [(5, .int (Int32.ofInt v9)), (0, .ref q0), (1, .int (Int32.ofInt x1)), (2, .int (Int32.ofInt x2)), (3, .int (Int32.ofInt x3)), (4, .int (Int32.ofInt x4))]) hx hb (zdt zkX10_exchange 71 rfl) hl (by decide) rfl (fun ls hl => ?_)
        refine lv_aload_n hx hb (zdt zkX10_exchange 73 rfl) rfl (lv_at hl 1 rfl) ?_
        refine va_get (D := (dC, dI)) (ci := 10) (v := .ref q1) (C := RX10) (T := TX10) (N := 16) hx hb hz zi_X10 hown hK hP 0 rfl rfl 0 (by decide) (hz _ zw_477) (fun _ h9 => h9) rfl (zdt zkX10_exchange 74 rfl) ?_
        refine va_getN (D := (dC, dI)) (ci := 2) (v := .ref q13) (C := RX2) (T := TX2) (N := 14) hx hb hz zi_X2 hown hK hP 1 rfl rfl 0 (by decide) (va_Nw.use rfl (hE.1.1 _ zw_169)) (fun _ h9 => h9) rfl (zdt zkX10_exchange 77 rfl) ?_
        refine lv_iload_n hx hb (zdt zkX10_exchange 80 rfl) rfl (lv_at hl 3 rfl) ?_
        refine lv_iload_n hx hb (zdt zkX10_exchange 81 rfl) rfl (lv_at hl 4 rfl) ?_
        refine xe_d2 hf (fun a10 a11 hg hf => ?_)
        have hC : ([4, 12, 13] : List Nat).map (fun i => (wd_HS_exchange cA q0 q1 q2 q3 q4 q5 q6 q7 q8 q9 q10 q11 q12 q13 q14 q15 q16 q17 q18 q19 q20 q21 q22 q23 q24 q25 u0 u1 u2 u3 i_hill_children i_hill_laws i_hill_inForce i_hill_columns_many i_hill_strengths i_hill_expelled i_hill_terms i_hill_orders i_hill_ordered i_latestStatus i_hill_changes i_refusals v4 v5 v6 a7 a8 i_hill_columns_heights i_hill_columns_weights)[i]?) = (wd_Columns_move cA q13 q24 q25 i_hill_columns_many i_hill_columns_heights i_hill_columns_weights).map some := rfl
        refine xv_afterV (ws' := (wd_HS_exchange cA q0 q1 q2 q3 q4 q5 q6 q7 q8 q9 q10 q11 q12 q13 q14 q15 q16 q17 q18 q19 q20 q21 q22 q23 q24 q25 u0 u1 u2 u3 i_hill_children i_hill_laws i_hill_inForce i_hill_columns_many i_hill_strengths i_hill_expelled i_hill_terms i_hill_orders i_hill_ordered i_latestStatus i_hill_changes i_refusals v4 v5 v6 a7 a8 a10 a11)) (isC := [4, 12, 13]) (ps := [none, none, none, none, some 0, none, none, none, none, none, none, none, some 1, some 2]) (va_runV (As := [.int (Int32.ofInt x2), .int (Int32.ofInt x3)]) (rest := []) ⟨hx, hb, hml, hown, hts⟩ (c_Columns_move l ev dC dI cA q13 q24 q25 hg H.size) (cwV 2 hts (zgV zw_850 zw_851 zw_852 zw_106 zw_853) rfl rfl rfl hd_Columns_move ⟨Nat.le_of_ble_eq_true rfl, Nat.le_of_ble_eq_true rfl⟩) (xv_preV (T := TX1) (N := 3) hE hA hS hK hP hD (isC := [4, 12, 13]) (by decide +kernel) hC (q0 := 4) (ci := 1) rfl rfl) rfl rfl hl.1 rfl (lv_room (Nat.le_of_ble_eq_true rfl)) (zdt zkX10_exchange 82 rfl) ⟨Nat.le_refl _, Nat.le_refl _⟩) hP hD hS hA (by decide +kernel) rfl hC rfl rfl (fun H locs hP hD hS => ?_)
        refine lv_iload hx hb (zdt zkX10_exchange 85 rfl) (lv_at hl 0 rfl) ?_
        refine lv_aload_n hx hb (zdt zkX10_exchange 87 rfl) rfl (lv_at hl 1 rfl) ?_
        refine va_get (D := (dC, dI)) (ci := 10) (v := .ref q1) (C := RX10) (T := TX10) (N := 16) hx hb hz zi_X10 hown hK hP 0 rfl rfl 0 (by decide) (hz _ zw_477) (fun _ h9 => h9) rfl (zdt zkX10_exchange 88 rfl) ?_
        refine va_getN (D := (dC, dI)) (ci := 2) (v := .ref q13) (C := RX2) (T := TX2) (N := 14) hx hb hz zi_X2 hown hK hP 1 rfl rfl 0 (by decide) (va_Nw.use rfl (hE.1.1 _ zw_169)) (fun _ h9 => h9) rfl (zdt zkX10_exchange 91 rfl) ?_
        refine lv_iload hx hb (zdt zkX10_exchange 94 rfl) (lv_at hl 5 rfl) ?_
        refine xe_d1 hf (fun v12 hg hf => ?_)
        have hC : ([4, 12, 13] : List Nat).map (fun i => (wd_HS_exchange cA q0 q1 q2 q3 q4 q5 q6 q7 q8 q9 q10 q11 q12 q13 q14 q15 q16 q17 q18 q19 q20 q21 q22 q23 q24 q25 u0 u1 u2 u3 i_hill_children i_hill_laws i_hill_inForce i_hill_columns_many i_hill_strengths i_hill_expelled i_hill_terms i_hill_orders i_hill_ordered i_latestStatus i_hill_changes i_refusals v4 v5 v6 a7 a8 a10 a11)[i]?) = (wd_Columns_top cA q13 q24 q25 i_hill_columns_many a10 a11).map some := rfl
        refine xv_afterI (ws' := (wd_HS_exchange cA q0 q1 q2 q3 q4 q5 q6 q7 q8 q9 q10 q11 q12 q13 q14 q15 q16 q17 q18 q19 q20 q21 q22 q23 q24 q25 u0 u1 u2 u3 i_hill_children i_hill_laws i_hill_inForce i_hill_columns_many i_hill_strengths i_hill_expelled i_hill_terms i_hill_orders i_hill_ordered i_latestStatus i_hill_changes i_refusals v4 v5 v6 a7 a8 a10 a11)) (isC := [4, 12, 13]) (ps := [none, none, none, none, some 0, none, none, none, none, none, none, none, some 1, some 2]) (va_runV (As := [.int (Int32.ofInt x4)]) (rest := [.int (Int32.ofInt v9)]) ⟨hx, hb, hml, hown, hts⟩ (c_Columns_top l ev dC dI cA q13 q24 q25 hg H.size) (cwV 1 hts (zgV zw_849 zw_568 zw_569 zw_106 zw_570) rfl rfl rfl hd_Columns_top ⟨Nat.le_of_ble_eq_true rfl, Nat.le_of_ble_eq_true rfl⟩) (xv_preV (T := TX1) (N := 3) hE hA hS hK hP hD (isC := [4, 12, 13]) (by decide +kernel) hC (q0 := 4) (ci := 1) rfl rfl) rfl rfl hl.1 rfl (lv_room (Nat.le_of_ble_eq_true rfl)) (zdt zkX10_exchange 96 rfl) ⟨Nat.le_refl _, Nat.le_refl _⟩) hP hD hS hA (by decide +kernel) rfl hC rfl rfl (fun H locs hP hD hS => ?_)
        refine xi_isub hx hb (zdt zkX10_exchange 99 rfl) hf (fun v13 hf => ?_)
        refine xi_mabs hx hb (hml.trans hl.1.symm) hown (hz _ zw_859) (hz _ zw_819) (hz _ zw_116) (hz _ zw_820) (Nat.le_of_ble_eq_true rfl) (Nat.le_of_ble_eq_true rfl) (Nat.zero_le _) (Nat.zero_le _) (zdt zkX10_exchange 100 rfl) hf (fun v14 hf => ?_)
        refine lv_istore (lv' := [(6, .int (Int32.ofInt v14)), (5, .int (Int32.ofInt v9)), (0, .ref q0), (1, .int (Int32.ofInt x1)), (2, .int (Int32.ofInt x2)), (3, .int (Int32.ofInt x3)), (4, .int (Int32.ofInt x4))]) hx hb (zdt zkX10_exchange 103 rfl) hl (by decide) rfl (fun ls hl => ?_)
        refine lv_aload_n hx hb (zdt zkX10_exchange 105 rfl) rfl (lv_at hl 2 rfl) ?_
        refine va_get (D := (dC, dI)) (ci := 10) (v := .ref q7) (C := RX10) (T := TX10) (N := 16) hx hb hz zi_X10 hown hK hP 0 rfl rfl 10 (by decide) (hz _ zw_487) (fun _ h9 => h9) rfl (zdt zkX10_exchange 106 rfl) ?_
        refine lv_aload_n hx hb (zdt zkX10_exchange 109 rfl) rfl (lv_at hl 2 rfl) ?_
        refine va_get (D := (dC, dI)) (ci := 10) (v := .ref q1) (C := RX10) (T := TX10) (N := 16) hx hb hz zi_X10 hown hK hP 0 rfl rfl 0 (by decide) (hz _ zw_477) (fun _ h9 => h9) rfl (zdt zkX10_exchange 110 rfl) ?_
        refine va_getN (D := (dC, dI)) (ci := 2) (v := .ref q13) (C := RX2) (T := TX2) (N := 14) hx hb hz zi_X2 hown hK hP 1 rfl rfl 0 (by decide) (va_Nw.use rfl (hE.1.1 _ zw_169)) (fun _ h9 => h9) rfl (zdt zkX10_exchange 113 rfl) ?_
        refine lv_iload_n hx hb (zdt zkX10_exchange 116 rfl) rfl (lv_at hl 3 rfl) ?_
        refine lv_iload hx hb (zdt zkX10_exchange 117 rfl) (lv_at hl 6 rfl) ?_
        refine lv_iload_n hx hb (zdt zkX10_exchange 119 rfl) rfl (lv_at hl 4 rfl) ?_
        refine xe_d6 hf (fun v15 v16 v17 v18 a19 a20 hg hf => ?_)
        have hC : ([3, 4, 1, 10, 11, 12, 13, 5, 6, 7, 8, 9] : List Nat).map (fun i => (wd_HS_exchange cA q0 q1 q2 q3 q4 q5 q6 q7 q8 q9 q10 q11 q12 q13 q14 q15 q16 q17 q18 q19 q20 q21 q22 q23 q24 q25 u0 u1 u2 u3 i_hill_children i_hill_laws i_hill_inForce i_hill_columns_many i_hill_strengths i_hill_expelled i_hill_terms i_hill_orders i_hill_ordered i_latestStatus i_hill_changes i_refusals v4 v5 v6 a7 a8 a10 a11)[i]?) = (wd_Judge_effortOn cA q7 q1 q22 q23 q13 q24 q25 q13 q14 q15 q16 q17 q18 q19 q20 q21 u3 i_hill_changes i_hill_columns_many i_hill_children i_hill_laws i_hill_inForce a10 a11 i_hill_strengths i_hill_expelled i_hill_terms i_hill_orders i_hill_ordered v4 v5 v6 a7 a8).map some := rfl
        refine xv_afterI (ws' := (wd_HS_exchange cA q0 q1 q2 q3 q4 q5 q6 q7 q8 q9 q10 q11 q12 q13 q14 q15 q16 q17 q18 q19 q20 q21 q22 q23 q24 q25 u0 u1 u2 u3 i_hill_children i_hill_laws i_hill_inForce i_hill_columns_many i_hill_strengths i_hill_expelled i_hill_terms i_hill_orders i_hill_ordered i_latestStatus i_hill_changes i_refusals v16 v17 v18 a19 a20 a10 a11)) (isC := [3, 4, 1, 10, 11, 12, 13, 5, 6, 7, 8, 9]) (ps := [none, some 2, none, some 0, some 1, some 7, some 8, some 9, some 10, some 11, some 3, some 4, some 5, some 6]) (va_runV (As := [.ref q13, .int (Int32.ofInt x1), .int (Int32.ofInt x4), .int (Int32.ofInt x2)]) (rest := []) ⟨hx, hb, hml, hown, hts⟩ (c_Judge_effortOn l ev dC dI cA q7 q1 q22 q23 q13 q24 q25 q13 q14 q15 q16 q17 q18 q19 q20 q21 u3 i_hill_changes hg H.size) (cwV 4 hts (zgV zw_803 zw_804 zw_805 zw_108 zw_806) rfl rfl rfl hd_Judge_effortOn ⟨Nat.le_of_ble_eq_true rfl, Nat.le_of_ble_eq_true rfl⟩) (xv_preV (T := TX3) (N := 6) hE hA hS hK hP hD (isC := [3, 4, 1, 10, 11, 12, 13, 5, 6, 7, 8, 9]) (by decide +kernel) hC (q0 := 3) (ci := 3) rfl rfl) rfl rfl hl.1 rfl (lv_room (Nat.le_of_ble_eq_true rfl)) (zdt zkX10_exchange 120 rfl) ⟨Nat.le_refl _, Nat.le_refl _⟩) hP hD hS hA (by decide +kernel) rfl hC rfl rfl (fun H locs hP hD hS => ?_)
        refine lv_iconst (v := Int32.ofInt (-1)) hx hb (zdt zkX10_exchange 123 rfl) rfl ?_
        refine xi_icmp_eq (tgt := 141) hx hb (zdt zkX10_exchange 124 rfl) (by decide) hf (fun hf => ?_) (fun hf => ?_)
        · exact b_141  _ _ _ _ _ _ _ _ _ _ _ _ _ _ _ hf hP hD hS (lv_sub hl [2, 4, 5] rfl)
        · refine lv_iload hx hb (zdt zkX10_exchange 127 rfl) (lv_at hl 0 rfl) ?_
          refine lv_aload_n hx hb (zdt zkX10_exchange 129 rfl) rfl (lv_at hl 2 rfl) ?_
          refine va_get (D := (dC, dI)) (ci := 10) (v := .ref q1) (C := RX10) (T := TX10) (N := 16) hx hb hz zi_X10 hown hK hP 0 rfl rfl 0 (by decide) (hz _ zw_477) (fun _ h9 => h9) rfl (zdt zkX10_exchange 130 rfl) ?_
          refine va_getN (D := (dC, dI)) (ci := 2) (v := .ref q18) (C := RX2) (T := TX2) (N := 14) hx hb hz zi_X2 hown hK hP 1 rfl rfl 7 (by decide) (va_Nw.use rfl (hE.1.1 _ zw_191)) (fun _ h9 => h9) rfl (zdt zkX10_exchange 133 rfl) ?_
          refine lv_iconst (v := Int32.ofInt 3) hx hb (zdt zkX10_exchange 136 rfl) rfl ?_
          refine xi_iald hx hb hK hP 7 0 rfl rfl (zdt zkX10_exchange 137 rfl) hf (fun v21 hf => ?_)
          refine xi_icmp_ge (tgt := 160) hx hb (zdt zkX10_exchange 138 rfl) (by decide) hf (fun hf => ?_) (fun hf => ?_)
          · refine lv_aload_n hx hb (zdt zkX10_exchange 160 rfl) rfl (lv_at hl 2 rfl) ?_
            refine va_get (D := (dC, dI)) (ci := 10) (v := .ref q1) (C := RX10) (T := TX10) (N := 16) hx hb hz zi_X10 hown hK hP 0 rfl rfl 0 (by decide) (hz _ zw_477) (fun _ h9 => h9) rfl (zdt zkX10_exchange 161 rfl) ?_
            refine va_getN (D := (dC, dI)) (ci := 2) (v := .ref q13) (C := RX2) (T := TX2) (N := 14) hx hb hz zi_X2 hown hK hP 1 rfl rfl 0 (by decide) (va_Nw.use rfl (hE.1.1 _ zw_169)) (fun _ h9 => h9) rfl (zdt zkX10_exchange 164 rfl) ?_
            refine lv_iload hx hb (zdt zkX10_exchange 167 rfl) (lv_at hl 6 rfl) ?_
            refine lv_iload_n hx hb (zdt zkX10_exchange 169 rfl) rfl (lv_at hl 4 rfl) ?_
            refine xe_d2 hf (fun a22 a23 hg hf => ?_)
            have hC : ([4, 12, 13] : List Nat).map (fun i => (wd_HS_exchange cA q0 q1 q2 q3 q4 q5 q6 q7 q8 q9 q10 q11 q12 q13 q14 q15 q16 q17 q18 q19 q20 q21 q22 q23 q24 q25 u0 u1 u2 u3 i_hill_children i_hill_laws i_hill_inForce i_hill_columns_many i_hill_strengths i_hill_expelled i_hill_terms i_hill_orders i_hill_ordered i_latestStatus i_hill_changes i_refusals v16 v17 v18 a19 a20 a10 a11)[i]?) = (wd_Columns_move cA q13 q24 q25 i_hill_columns_many a10 a11).map some := rfl
            refine xv_afterV (ws' := (wd_HS_exchange cA q0 q1 q2 q3 q4 q5 q6 q7 q8 q9 q10 q11 q12 q13 q14 q15 q16 q17 q18 q19 q20 q21 q22 q23 q24 q25 u0 u1 u2 u3 i_hill_children i_hill_laws i_hill_inForce i_hill_columns_many i_hill_strengths i_hill_expelled i_hill_terms i_hill_orders i_hill_ordered i_latestStatus i_hill_changes i_refusals v16 v17 v18 a19 a20 a22 a23)) (isC := [4, 12, 13]) (ps := [none, none, none, none, some 0, none, none, none, none, none, none, none, some 1, some 2]) (va_runV (As := [.int (Int32.ofInt x4), .int (Int32.ofInt x2)]) (rest := []) ⟨hx, hb, hml, hown, hts⟩ (c_Columns_move l ev dC dI cA q13 q24 q25 hg H.size) (cwV 2 hts (zgV zw_850 zw_851 zw_852 zw_106 zw_853) rfl rfl rfl hd_Columns_move ⟨Nat.le_of_ble_eq_true rfl, Nat.le_of_ble_eq_true rfl⟩) (xv_preV (T := TX1) (N := 3) hE hA hS hK hP hD (isC := [4, 12, 13]) (by decide +kernel) hC (q0 := 4) (ci := 1) rfl rfl) rfl rfl hl.1 rfl (lv_room (Nat.le_of_ble_eq_true rfl)) (zdt zkX10_exchange 170 rfl) ⟨Nat.le_refl _, Nat.le_refl _⟩) hP hD hS hA (by decide +kernel) rfl hC rfl rfl (fun H locs hP hD hS => ?_)
            refine lv_aload_n hx hb (zdt zkX10_exchange 173 rfl) rfl (lv_at hl 2 rfl) ?_
            refine lv_iload hx hb (zdt zkX10_exchange 174 rfl) (lv_at hl 0 rfl) ?_
            refine xe_d3 hf (fun v24 v25 v26 hg hf => ?_)
            have hC : ([0, 1] : List Nat).map (fun i => (wd_HS_exchange cA q0 q1 q2 q3 q4 q5 q6 q7 q8 q9 q10 q11 q12 q13 q14 q15 q16 q17 q18 q19 q20 q21 q22 q23 q24 q25 u0 u1 u2 u3 i_hill_children i_hill_laws i_hill_inForce i_hill_columns_many i_hill_strengths i_hill_expelled i_hill_terms i_hill_orders i_hill_ordered i_latestStatus i_hill_changes i_refusals v16 v17 v18 a19 a20 a22 a23)[i]?) = (wd_HS_accept cA q0 q1 q2 q3 q4 q5 q6 q7 q8 q9 q10 q11 q12 q13 q14 q15 q16 q17 q18 q19 q20 q21 u0 u1 u2 i_hill_children u3 i_hill_laws i_hill_inForce i_latestStatus i_hill_changes).map some := rfl
            refine xv_afterI (ws' := (wd_HS_exchange cA q0 q1 q2 q3 q4 q5 q6 q7 q8 q9 q10 q11 q12 q13 q14 q15 q16 q17 q18 q19 q20 q21 q22 q23 q24 q25 u0 u1 u2 u3 i_hill_children i_hill_laws i_hill_inForce i_hill_columns_many i_hill_strengths i_hill_expelled i_hill_terms i_hill_orders i_hill_ordered v25 v26 i_refusals v16 v17 v18 a19 a20 a22 a23)) (isC := [0, 1]) (ps := [some 0, some 1, none, none, none, none, none, none, none, none, none, none, none, none]) (va_runV (As := [.int (Int32.ofInt v14)]) (rest := []) ⟨hx, hb, hml, hown, hts⟩ (c_HS_accept l ev dC dI cA q0 q1 q2 q3 q4 q5 q6 q7 q8 q9 q10 q11 q12 q13 q14 q15 q16 q17 q18 q19 q20 q21 u0 u1 u2 i_hill_children u3 i_hill_laws i_hill_inForce hg H.size) (cwV 1 hts (zgV zw_538 zw_540 zw_1 zw_104 zw_541) rfl rfl rfl hd_HS_accept ⟨Nat.le_of_ble_eq_true rfl, Nat.le_of_ble_eq_true rfl⟩) (xv_preV (T := TX10) (N := 16) hE hA hS hK hP hD (isC := [0, 1]) (by decide +kernel) hC (q0 := 0) (ci := 10) rfl rfl) rfl rfl hl.1 rfl (lv_room (Nat.le_of_ble_eq_true rfl)) (zdt zkX10_exchange 176 rfl) ⟨Nat.le_refl _, Nat.le_refl _⟩) hP hD hS hA (by decide +kernel) rfl hC rfl rfl (fun H locs hP hD hS => ?_)
            obtain rfl := Option.some.inj hf
            exact hret _ _ _ _ rfl (zdt zkX10_exchange 179 rfl) hP hD hS
          · exact b_141  _ _ _ _ _ _ _ _ _ _ _ _ _ _ _ hf hP hD hS (lv_sub hl [2, 4, 5] rfl)
      · refine lv_aload_n hx hb (zdt zkX10_exchange 53 rfl) rfl (lv_at hl 0 rfl) ?_
        refine lv_bipush (v := Int32.ofInt (-3)) hx hb (zdt zkX10_exchange 54 rfl) (by decide) ?_
        refine xe_d3 hf (fun v27 v28 a29 hg hf => ?_)
        have hC : ([0, 2] : List Nat).map (fun i => (wd_HS_exchange cA q0 q1 q2 q3 q4 q5 q6 q7 q8 q9 q10 q11 q12 q13 q14 q15 q16 q17 q18 q19 q20 q21 q22 q23 q24 q25 u0 u1 u2 u3 i_hill_children i_hill_laws i_hill_inForce i_hill_columns_many i_hill_strengths i_hill_expelled i_hill_terms i_hill_orders i_hill_ordered i_latestStatus i_hill_changes i_refusals v4 v5 v6 a7 a8 i_hill_columns_heights i_hill_columns_weights)[i]?) = (wd_HS_refuse cA q0 q1 q2 q3 q4 q5 q6 q7 q8 q9 q10 q11 q12 u0 u1 u2 i_latestStatus i_refusals).map some := rfl
        refine xv_afterI (ws' := (wd_HS_exchange cA q0 q1 q2 q3 q4 q5 q6 q7 q8 q9 q10 q11 q12 q13 q14 q15 q16 q17 q18 q19 q20 q21 q22 q23 q24 q25 u0 u1 u2 u3 i_hill_children i_hill_laws i_hill_inForce i_hill_columns_many i_hill_strengths i_hill_expelled i_hill_terms i_hill_orders i_hill_ordered v28 i_hill_changes a29 v4 v5 v6 a7 a8 i_hill_columns_heights i_hill_columns_weights)) (isC := [0, 2]) (ps := [some 0, none, some 1, none, none, none, none, none, none, none, none, none, none, none]) (va_runV (As := [.int (Int32.ofInt (-3))]) (rest := []) ⟨hx, hb, hml, hown, hts⟩ (c_HS_refuse l ev dC dI cA q0 q1 q2 q3 q4 q5 q6 q7 q8 q9 q10 q11 q12 u0 u1 u2 hg H.size) (cwV 1 hts (zgV zw_534 zw_536 zw_0 zw_104 zw_537) rfl rfl rfl hd_HS_refuse ⟨Nat.le_of_ble_eq_true rfl, Nat.le_of_ble_eq_true rfl⟩) (xv_preV (T := TX10) (N := 16) hE hA hS hK hP hD (isC := [0, 2]) (by decide +kernel) hC (q0 := 0) (ci := 10) rfl rfl) rfl rfl hl.1 rfl (lv_room (Nat.le_of_ble_eq_true rfl)) (zdt zkX10_exchange 56 rfl) ⟨Nat.le_refl _, Nat.le_refl _⟩) hP hD hS hA (by decide +kernel) rfl hC rfl rfl (fun H locs hP hD hS => ?_)
        obtain rfl := Option.some.inj hf
        exact hret _ _ _ _ rfl (zdt zkX10_exchange 59 rfl) hP hD hS
    · exact b_25  _ _ _ _ _ _ _ _ _ _ _ _ _ hf hP hD hS (lv_sub hl [0] rfl)
set_option maxRecDepth 100000 in
noncomputable def ztX1_isSteep (p : Nat) : Option (Jvm.ClassFile.Instr × Nat) := bif Nat.ble 21 p then (bif Nat.ble 29 p then (bif Nat.ble 34 p then (bif Nat.ble 37 p then (bif Nat.ble 38 p then (bif Nat.beq p 38 then some (.ireturn, 1) else none) else (bif Nat.beq p 37 then some (.iconst 0, 1) else none)) else (bif Nat.beq p 34 then some (.goto 4, 3) else none)) else (bif Nat.ble 30 p then (bif Nat.ble 33 p then (bif Nat.beq p 33 then some (.iconst 1, 1) else none) else (bif Nat.beq p 30 then some (.if_icmp .le 7, 3) else none)) else (bif Nat.beq p 29 then some (.iload_n 3, 1) else none))) else (bif Nat.ble 26 p then (bif Nat.ble 27 p then (bif Nat.ble 28 p then (bif Nat.beq p 28 then some (.isub, 1) else none) else (bif Nat.beq p 27 then some (.iaload, 1) else none)) else (bif Nat.beq p 26 then some (.iload_n 2, 1) else none)) else (bif Nat.ble 22 p then (bif Nat.ble 23 p then (bif Nat.beq p 23 then some (.getfield 15, 3) else none) else (bif Nat.beq p 22 then some (.aload_n 0, 1) else none)) else (bif Nat.beq p 21 then some (.iaload, 1) else none)))) else (bif Nat.ble 9 p then (bif Nat.ble 16 p then (bif Nat.ble 17 p then (bif Nat.ble 20 p then (bif Nat.beq p 20 then some (.iload_n 1, 1) else none) else (bif Nat.beq p 17 then some (.getfield 15, 3) else none)) else (bif Nat.beq p 16 then some (.aload_n 0, 1) else none)) else (bif Nat.ble 10 p then (bif Nat.ble 13 p then (bif Nat.beq p 13 then some (.ifCond .eq 24, 3) else none) else (bif Nat.beq p 10 then some (.invokevirtual 22, 3) else none)) else (bif Nat.beq p 9 then some (.iload_n 2, 1) else none))) else (bif Nat.ble 2 p then (bif Nat.ble 5 p then (bif Nat.ble 8 p then (bif Nat.beq p 8 then some (.aload_n 0, 1) else none) else (bif Nat.beq p 5 then some (.ifCond .eq 32, 3) else none)) else (bif Nat.beq p 2 then some (.invokevirtual 22, 3) else none)) else (bif Nat.ble 1 p then (bif Nat.beq p 1 then some (.iload_n 1, 1) else none) else (bif Nat.beq p 0 then some (.aload_n 0, 1) else none))))
set_option maxRecDepth 100000 in
theorem zkX1_isSteep : (zbig cX1_isSteep.data.toList = 5606306941678421356795353881321564203475793429179885824480617188126180264563658794102418709290 ∧ cX1_isSteep.data.toList.length = 39) ∧ zdk cX1_isSteep 5606306941678421356795353881321564203475793429179885824480617188126180264563658794102418709290 39 ztX1_isSteep 38 = true := by decide +kernel
theorem zw_871 : (Jvm.Cond.code ({ cls := "HillSchool$Columns", name := "isSteep", desc := "(III)Z" } : Jvm.MethodName) prog_3_method_12_code (4 : Nat) (Option.some Jvm.ClassFile.FieldType.boolean)) ∈ zall := zmemG (zmj_4 48 rfl) rfl
noncomputable abbrev w_Columns_isSteep : List Cond := .code yX1_isSteep cX1_isSteep 4 (some .boolean) :: zall
noncomputable abbrev rm_Columns_isSteep : Room := { frames := 1, cells := 0, slots := 0, locals := 21 }
theorem hd_Columns_isSteep : yX1_isSteep.cls = "HillSchool$Columns" ∧ yX1_isSteep.cls ≠ "java/lang/invoke/MethodHandle" ∧ yX1_isSteep.cls ≠ "java/lang/invoke/VarHandle" ∧ (parseMethodDescriptor yX1_isSteep.desc).map (fun d => d.parameters.length) = some 3 := by decide +kernel
noncomputable def wd_Columns_isSteep (cA : Nat → ClassId) (q0 q1 q2 : Nat) (i_many : Int) (i_heights : Nat → Int)  : va_W := [(q0, .inr (1, [.int (Int32.ofInt i_many), .ref q1, .ref q2])), (q1, .inl (cA 0, 12, .inl (za i_heights)))]
noncomputable def wf_Columns_isSteep (cA : Nat → ClassId) (q0 q1 q2 : Nat) (i_many : Int) (i_heights : Nat → Int) (o : Int) : va_W := wd_Columns_isSteep cA q0 q1 q2 i_many i_heights
noncomputable def f_Columns_isSteep (x1 : Int) (x2 : Int) (x3 : Int) (i_many : Int) (i_heights : Nat → Int) : Option (Int) :=
  zd1 (f_Columns_has x1 i_many) fun v1 =>
  if zi_w v1 = 0 then
    some 0
  else
    zd1 (f_Columns_has x2 i_many) fun v2 =>
    if zi_w v2 = 0 then
      some 0
    else
      zg 12 i_heights x1 fun v3 =>
      zg 12 i_heights x2 fun v4 =>
      zn (v3 - v4) fun v5 =>
      if zi_w v5 ≤ zi_w x3 then
        some 0
      else
        some 1
set_option maxHeartbeats 4000000 in
set_option maxRecDepth 100000 in
theorem c_Columns_isSteep (l : Launch) (ev : zEv) (dC : Nat → ClassId) (dI : Nat → Nat → Nat) (cA : Nat → ClassId) (q0 q1 q2 : Nat) {x1 x2 x3 : Int} {i_many : Int} {i_heights : Nat → Int} {out : Int} (hf : f_Columns_isSteep x1 x2 x3 i_many i_heights = some out) : xc_I l ev (dC, dI) vwCl (tyl cA) yX1_isSteep w_Columns_isSteep rm_Columns_isSteep [.ref q0, .int (Int32.ofInt x1), .int (Int32.ofInt x2), .int (Int32.ofInt x3)] (wd_Columns_isSteep cA q0 q1 q2 i_many i_heights) (wf_Columns_isSteep cA q0 q1 q2 i_many i_heights out) out := by
  refine xv_startI (cc := cX1_isSteep) (maxL := 4) (rt := .boolean) (by decide +kernel) rfl (Nat.le_of_ble_eq_true rfl) ?_
  intro p e s m args below meth c A Q H ls hx hb hml hts hown hK hA hP hD hS hl hE hret
  have hown : s.vm.findClass "HillSchool$Columns" = some m.cls := hown
  have hz : ∀ w ∈ zall, w.before args s = true := fun w h => hts w (List.mem_cons_of_mem _ h)
  have hl : lv_has ls 4 [(0, .ref q0), (1, .int (Int32.ofInt x1)), (2, .int (Int32.ofInt x2)), (3, .int (Int32.ofInt x3))] := hl
  unfold f_Columns_isSteep at hf
  refine lv_aload_n hx hb (zdt zkX1_isSteep 0 rfl) rfl (lv_at hl 0 rfl) ?_
  refine lv_iload_n hx hb (zdt zkX1_isSteep 1 rfl) rfl (lv_at hl 1 rfl) ?_
  refine xe_d1 hf (fun v1 hg hf => ?_)
  have hC : ([0] : List Nat).map (fun i => (wd_Columns_isSteep cA q0 q1 q2 i_many i_heights)[i]?) = (wd_Columns_has cA q0 q1 q2 i_many).map some := rfl
  refine xv_afterI (ws' := (wd_Columns_isSteep cA q0 q1 q2 i_many i_heights)) (isC := [0]) (ps := [some 0, none]) (va_runV (As := [.int (Int32.ofInt x1)]) (rest := []) ⟨hx, hb, hml, hown, hts⟩ (c_Columns_has l ev dC dI cA q0 q1 q2 hg H.size) (cwV 1 hts (zgV zw_554 zw_547 zw_548 zw_106 zw_549) rfl rfl rfl hd_Columns_has ⟨Nat.le_of_ble_eq_true rfl, Nat.le_of_ble_eq_true rfl⟩) (xv_preV (T := TX1) (N := 3) hE hA hS hK hP hD (isC := [0]) (by decide +kernel) hC (q0 := 0) (ci := 1) rfl rfl) rfl rfl hl.1 rfl (lv_room (Nat.le_of_ble_eq_true rfl)) (zdt zkX1_isSteep 2 rfl) ⟨Nat.le_refl _, Nat.le_refl _⟩) hP hD hS hA (by decide +kernel) rfl hC rfl rfl (fun H locs hP hD hS => ?_)
  refine xi_if_eq (tgt := 37) hx hb (zdt zkX1_isSteep 5 rfl) (by decide) hf (fun hf => ?_) (fun hf => ?_)
  · refine lv_iconst (v := Int32.ofInt 0) hx hb (zdt zkX1_isSteep 37 rfl) rfl ?_
    obtain rfl := Option.some.inj hf
    exact hret _ _ _ _ zz_b0 (zdt zkX1_isSteep 38 rfl) hP hD hS
  · refine lv_aload_n hx hb (zdt zkX1_isSteep 8 rfl) rfl (lv_at hl 0 rfl) ?_
    refine lv_iload_n hx hb (zdt zkX1_isSteep 9 rfl) rfl (lv_at hl 2 rfl) ?_
    refine xe_d1 hf (fun v2 hg hf => ?_)
    have hC : ([0] : List Nat).map (fun i => (wd_Columns_isSteep cA q0 q1 q2 i_many i_heights)[i]?) = (wd_Columns_has cA q0 q1 q2 i_many).map some := rfl
    refine xv_afterI (ws' := (wd_Columns_isSteep cA q0 q1 q2 i_many i_heights)) (isC := [0]) (ps := [some 0, none]) (va_runV (As := [.int (Int32.ofInt x2)]) (rest := []) ⟨hx, hb, hml, hown, hts⟩ (c_Columns_has l ev dC dI cA q0 q1 q2 hg H.size) (cwV 1 hts (zgV zw_554 zw_547 zw_548 zw_106 zw_549) rfl rfl rfl hd_Columns_has ⟨Nat.le_of_ble_eq_true rfl, Nat.le_of_ble_eq_true rfl⟩) (xv_preV (T := TX1) (N := 3) hE hA hS hK hP hD (isC := [0]) (by decide +kernel) hC (q0 := 0) (ci := 1) rfl rfl) rfl rfl hl.1 rfl (lv_room (Nat.le_of_ble_eq_true rfl)) (zdt zkX1_isSteep 10 rfl) ⟨Nat.le_refl _, Nat.le_refl _⟩) hP hD hS hA (by decide +kernel) rfl hC rfl rfl (fun H locs hP hD hS => ?_)
    refine xi_if_eq (tgt := 37) hx hb (zdt zkX1_isSteep 13 rfl) (by decide) hf (fun hf => ?_) (fun hf => ?_)
    · refine lv_iconst (v := Int32.ofInt 0) hx hb (zdt zkX1_isSteep 37 rfl) rfl ?_
      obtain rfl := Option.some.inj hf
      exact hret _ _ _ _ zz_b0 (zdt zkX1_isSteep 38 rfl) hP hD hS
    · refine lv_aload_n hx hb (zdt zkX1_isSteep 16 rfl) rfl (lv_at hl 0 rfl) ?_
      refine va_get (D := (dC, dI)) (ci := 1) (v := .ref q1) (C := RX1) (T := TX1) (N := 3) hx hb hz zi_X1 hown hK hP 0 rfl rfl 1 (by decide) (hz _ zw_149) (fun _ h9 => h9) rfl (zdt zkX1_isSteep 17 rfl) ?_
      refine lv_iload_n hx hb (zdt zkX1_isSteep 20 rfl) rfl (lv_at hl 1 rfl) ?_
      refine xi_iald hx hb hK hP 1 0 rfl rfl (zdt zkX1_isSteep 21 rfl) hf (fun v3 hf => ?_)
      refine lv_aload_n hx hb (zdt zkX1_isSteep 22 rfl) rfl (lv_at hl 0 rfl) ?_
      refine va_get (D := (dC, dI)) (ci := 1) (v := .ref q1) (C := RX1) (T := TX1) (N := 3) hx hb hz zi_X1 hown hK hP 0 rfl rfl 1 (by decide) (hz _ zw_149) (fun _ h9 => h9) rfl (zdt zkX1_isSteep 23 rfl) ?_
      refine lv_iload_n hx hb (zdt zkX1_isSteep 26 rfl) rfl (lv_at hl 2 rfl) ?_
      refine xi_iald hx hb hK hP 1 0 rfl rfl (zdt zkX1_isSteep 27 rfl) hf (fun v4 hf => ?_)
      refine xi_isub hx hb (zdt zkX1_isSteep 28 rfl) hf (fun v5 hf => ?_)
      refine lv_iload_n hx hb (zdt zkX1_isSteep 29 rfl) rfl (lv_at hl 3 rfl) ?_
      refine xi_icmp_le (tgt := 37) hx hb (zdt zkX1_isSteep 30 rfl) (by decide) hf (fun hf => ?_) (fun hf => ?_)
      · refine lv_iconst (v := Int32.ofInt 0) hx hb (zdt zkX1_isSteep 37 rfl) rfl ?_
        obtain rfl := Option.some.inj hf
        exact hret _ _ _ _ zz_b0 (zdt zkX1_isSteep 38 rfl) hP hD hS
      · refine lv_iconst (v := Int32.ofInt 1) hx hb (zdt zkX1_isSteep 33 rfl) rfl ?_
        refine lv_goto (tgt := 38) hx hb (zdt zkX1_isSteep 34 rfl) (by decide) ?_
        obtain rfl := Option.some.inj hf
        exact hret _ _ _ _ zz_b1 (zdt zkX1_isSteep 38 rfl) hP hD hS
set_option maxRecDepth 100000 in
noncomputable def ztX1_lowestSteep (p : Nat) : Option (Jvm.ClassFile.Instr × Nat) := bif Nat.ble 22 p then (bif Nat.ble 31 p then (bif Nat.ble 36 p then (bif Nat.ble 42 p then (bif Nat.ble 43 p then (bif Nat.beq p 43 then some (.ireturn, 1) else none) else (bif Nat.beq p 42 then some (.iconst (-1), 1) else none)) else (bif Nat.ble 39 p then (bif Nat.beq p 39 then some (.goto (-37), 3) else none) else (bif Nat.beq p 36 then some (.iinc 2 1, 3) else none))) else (bif Nat.ble 34 p then (bif Nat.ble 35 p then (bif Nat.beq p 35 then some (.ireturn, 1) else none) else (bif Nat.beq p 34 then some (.iload_n 2, 1) else none)) else (bif Nat.beq p 31 then some (.ifCond .eq 5, 3) else none))) else (bif Nat.ble 25 p then (bif Nat.ble 27 p then (bif Nat.ble 28 p then (bif Nat.beq p 28 then some (.invokevirtual 41, 3) else none) else (bif Nat.beq p 27 then some (.iload_n 1, 1) else none)) else (bif Nat.ble 26 p then (bif Nat.beq p 26 then some (.iadd, 1) else none) else (bif Nat.beq p 25 then some (.iconst 1, 1) else none))) else (bif Nat.ble 23 p then (bif Nat.ble 24 p then (bif Nat.beq p 24 then some (.iload_n 2, 1) else none) else (bif Nat.beq p 23 then some (.iload_n 2, 1) else none)) else (bif Nat.beq p 22 then some (.aload_n 0, 1) else none)))) else (bif Nat.ble 11 p then (bif Nat.ble 14 p then (bif Nat.ble 16 p then (bif Nat.ble 19 p then (bif Nat.beq p 19 then some (.ifCond .ne 15, 3) else none) else (bif Nat.beq p 16 then some (.invokevirtual 41, 3) else none)) else (bif Nat.ble 15 p then (bif Nat.beq p 15 then some (.iload_n 1, 1) else none) else (bif Nat.beq p 14 then some (.isub, 1) else none))) else (bif Nat.ble 12 p then (bif Nat.ble 13 p then (bif Nat.beq p 13 then some (.iconst 1, 1) else none) else (bif Nat.beq p 12 then some (.iload_n 2, 1) else none)) else (bif Nat.beq p 11 then some (.iload_n 2, 1) else none))) else (bif Nat.ble 3 p then (bif Nat.ble 7 p then (bif Nat.ble 10 p then (bif Nat.beq p 10 then some (.aload_n 0, 1) else none) else (bif Nat.beq p 7 then some (.if_icmp .ge 35, 3) else none)) else (bif Nat.ble 4 p then (bif Nat.beq p 4 then some (.getfield 9, 3) else none) else (bif Nat.beq p 3 then some (.aload_n 0, 1) else none))) else (bif Nat.ble 1 p then (bif Nat.ble 2 p then (bif Nat.beq p 2 then some (.iload_n 2, 1) else none) else (bif Nat.beq p 1 then some (.istore_n 2, 1) else none)) else (bif Nat.beq p 0 then some (.iconst 0, 1) else none))))
set_option maxRecDepth 100000 in
theorem zkX1_lowestSteep : (zbig cX1_lowestSteep.data.toList = 6164177796613396148865499705035317880814800344135701536816389252520373270594405156682618205243985910054147 ∧ cX1_lowestSteep.data.toList.length = 44) ∧ zdk cX1_lowestSteep 6164177796613396148865499705035317880814800344135701536816389252520373270594405156682618205243985910054147 44 ztX1_lowestSteep 43 = true := by decide +kernel
theorem zw_867 : (Jvm.Cond.code ({ cls := "HillSchool$Columns", name := "lowestSteep", desc := "(I)I" } : Jvm.MethodName) prog_3_method_13_code (3 : Nat) (Option.some Jvm.ClassFile.FieldType.int)) ∈ zall := zmemG (zmj_4 44 rfl) rfl
theorem zw_868 : (Jvm.Cond.methodLink "HillSchool$Columns" (41 : Nat) ({ cls := "HillSchool$Columns", name := "isSteep", desc := "(III)Z" } : Jvm.MethodName)) ∈ zall := zmemG (zmj_4 45 rfl) rfl
theorem zw_869 : (Jvm.Cond.instanceMethod ({ cls := "HillSchool$Columns", name := "isSteep", desc := "(III)Z" } : Jvm.MethodName)) ∈ zall := zmemG (zmj_4 46 rfl) rfl
theorem zw_870 : (Jvm.Cond.selects "HillSchool$Columns" ({ cls := "HillSchool$Columns", name := "isSteep", desc := "(III)Z" } : Jvm.MethodName) ({ cls := "HillSchool$Columns", name := "isSteep", desc := "(III)Z" } : Jvm.MethodName)) ∈ zall := zmemG (zmj_4 47 rfl) rfl
noncomputable abbrev w_Columns_lowestSteep : List Cond := .code yX1_lowestSteep cX1_lowestSteep 3 (some .int) :: zall
noncomputable abbrev rm_Columns_lowestSteep : Room := { frames := 2, cells := 0, slots := 0, locals := 44 }
theorem hd_Columns_lowestSteep : yX1_lowestSteep.cls = "HillSchool$Columns" ∧ yX1_lowestSteep.cls ≠ "java/lang/invoke/MethodHandle" ∧ yX1_lowestSteep.cls ≠ "java/lang/invoke/VarHandle" ∧ (parseMethodDescriptor yX1_lowestSteep.desc).map (fun d => d.parameters.length) = some 1 := by decide +kernel
noncomputable def wd_Columns_lowestSteep (cA : Nat → ClassId) (q0 q1 q2 : Nat) (i_many : Int) (i_heights : Nat → Int)  : va_W := [(q0, .inr (1, [.int (Int32.ofInt i_many), .ref q1, .ref q2])), (q1, .inl (cA 0, 12, .inl (za i_heights)))]
noncomputable def wf_Columns_lowestSteep (cA : Nat → ClassId) (q0 q1 q2 : Nat) (i_many : Int) (i_heights : Nat → Int) (o : Int) : va_W := wd_Columns_lowestSteep cA q0 q1 q2 i_many i_heights
noncomputable def f_Columns_lowestSteep_2_b (i_many : Int) (i_heights : Nat → Int) (k2 : Int → Int → Option (Int)) (x1 : Int) (x2 : Int) : Option (Int) :=
  if zi_w i_many ≤ zi_w x2 then
    some (-1)
  else
    zn (x2 - 1) fun v1 =>
    zd1 (f_Columns_isSteep x2 v1 x1 i_many i_heights) fun v2 =>
    if zi_w v2 ≠ 0 then
      some x2
    else
      zn (x2 + 1) fun v3 =>
      zd1 (f_Columns_isSteep x2 v3 x1 i_many i_heights) fun v4 =>
      if zi_w v4 = 0 then
        zn (x2 + 1) fun v5 =>
        k2 x1 v5
      else
        some x2
noncomputable def f_Columns_lowestSteep_2 (i_many : Int) (i_heights : Nat → Int) : Nat → Int → Int → Option (Int)
  | 0 => fun _ _ => none
  | n + 1 => fun y0 y1 => f_Columns_lowestSteep_2_b i_many i_heights (f_Columns_lowestSteep_2 i_many i_heights n) y0 y1
noncomputable def f_Columns_lowestSteep (x1 : Int) (i_many : Int) (i_heights : Nat → Int) : Option (Int) :=
  f_Columns_lowestSteep_2 i_many i_heights zfu x1 0
set_option maxHeartbeats 4000000 in
set_option maxRecDepth 100000 in
theorem c_Columns_lowestSteep (l : Launch) (ev : zEv) (dC : Nat → ClassId) (dI : Nat → Nat → Nat) (cA : Nat → ClassId) (q0 q1 q2 : Nat) {x1 : Int} {i_many : Int} {i_heights : Nat → Int} {out : Int} (hf : f_Columns_lowestSteep x1 i_many i_heights = some out) : xc_I l ev (dC, dI) vwCl (tyl cA) yX1_lowestSteep w_Columns_lowestSteep rm_Columns_lowestSteep [.ref q0, .int (Int32.ofInt x1)] (wd_Columns_lowestSteep cA q0 q1 q2 i_many i_heights) (wf_Columns_lowestSteep cA q0 q1 q2 i_many i_heights out) out := by
  refine xv_startI (cc := cX1_lowestSteep) (maxL := 3) (rt := .int) (by decide +kernel) rfl (Nat.le_of_ble_eq_true rfl) ?_
  intro p e s m args below meth c A Q H ls hx hb hml hts hown hK hA hP hD hS hl hE hret
  have hown : s.vm.findClass "HillSchool$Columns" = some m.cls := hown
  have hz : ∀ w ∈ zall, w.before args s = true := fun w h => hts w (List.mem_cons_of_mem _ h)
  have hl : lv_has ls 3 [(0, .ref q0), (1, .int (Int32.ofInt x1))] := hl
  have b_2 : ∀ (k2 : Int → Int → Option (Int)) (_ : ∀ (x1 : Int) (x2 : Int) (H : Heap) (locs : List Loc) (ls : Array Slot), k2 x1 x2 = some out → va_P (dC, dI) vwCl (wd_Columns_lowestSteep cA q0 q1 q2 i_many i_heights) H → va_D A (wd_Columns_lowestSteep cA q0 q1 q2 i_many i_heights) → va_S A s.heap H locs → lv_has ls 3 [(0, .ref q0), (1, .int (Int32.ofInt x1)), (2, .int (Int32.ofInt x2))] → W p l e rm_Columns_lowestSteep s m args below meth c H locs 0 0 Q (F0 m 2 ls [])), ∀ (x1 : Int) (x2 : Int) (H : Heap) (locs : List Loc) (ls : Array Slot), f_Columns_lowestSteep_2_b i_many i_heights k2 x1 x2 = some out → va_P (dC, dI) vwCl (wd_Columns_lowestSteep cA q0 q1 q2 i_many i_heights) H → va_D A (wd_Columns_lowestSteep cA q0 q1 q2 i_many i_heights) → va_S A s.heap H locs → lv_has ls 3 [(0, .ref q0), (1, .int (Int32.ofInt x1)), (2, .int (Int32.ofInt x2))] → W p l e rm_Columns_lowestSteep s m args below meth c H locs 0 0 Q (F0 m 2 ls []) := by
    intro k2 ih2 x1 x2 H locs ls hf hP hD hS hl
    unfold f_Columns_lowestSteep_2_b at hf
    refine lv_iload_n hx hb (zdt zkX1_lowestSteep 2 rfl) rfl (lv_at hl 2 rfl) ?_
    refine lv_aload_n hx hb (zdt zkX1_lowestSteep 3 rfl) rfl (lv_at hl 0 rfl) ?_
    refine va_get (D := (dC, dI)) (ci := 1) (v := .int (Int32.ofInt i_many)) (C := RX1) (T := TX1) (N := 3) hx hb hz zi_X1 hown hK hP 0 rfl rfl 0 (by decide) (hz _ zw_143) (fun _ h9 => h9) rfl (zdt zkX1_lowestSteep 4 rfl) ?_
    refine xi_icmp_ge (tgt := 42) hx hb (zdt zkX1_lowestSteep 7 rfl) (by decide) hf (fun hf => ?_) (fun hf => ?_)
    · refine lv_iconst (v := Int32.ofInt (-1)) hx hb (zdt zkX1_lowestSteep 42 rfl) rfl ?_
      obtain rfl := Option.some.inj hf
      exact hret _ _ _ _ rfl (zdt zkX1_lowestSteep 43 rfl) hP hD hS
    · refine lv_aload_n hx hb (zdt zkX1_lowestSteep 10 rfl) rfl (lv_at hl 0 rfl) ?_
      refine lv_iload_n hx hb (zdt zkX1_lowestSteep 11 rfl) rfl (lv_at hl 2 rfl) ?_
      refine lv_iload_n hx hb (zdt zkX1_lowestSteep 12 rfl) rfl (lv_at hl 2 rfl) ?_
      refine lv_iconst (v := Int32.ofInt 1) hx hb (zdt zkX1_lowestSteep 13 rfl) rfl ?_
      refine xi_isub hx hb (zdt zkX1_lowestSteep 14 rfl) hf (fun v1 hf => ?_)
      refine lv_iload_n hx hb (zdt zkX1_lowestSteep 15 rfl) rfl (lv_at hl 1 rfl) ?_
      refine xe_d1 hf (fun v2 hg hf => ?_)
      have hC : ([0, 1] : List Nat).map (fun i => (wd_Columns_lowestSteep cA q0 q1 q2 i_many i_heights)[i]?) = (wd_Columns_isSteep cA q0 q1 q2 i_many i_heights).map some := rfl
      refine xv_afterI (ws' := (wd_Columns_lowestSteep cA q0 q1 q2 i_many i_heights)) (isC := [0, 1]) (ps := [some 0, some 1]) (va_runV (As := [.int (Int32.ofInt x2), .int (Int32.ofInt v1), .int (Int32.ofInt x1)]) (rest := []) ⟨hx, hb, hml, hown, hts⟩ (c_Columns_isSteep l ev dC dI cA q0 q1 q2 hg H.size) (cwV 3 hts (zgV zw_868 zw_869 zw_870 zw_106 zw_871) rfl rfl rfl hd_Columns_isSteep ⟨Nat.le_of_ble_eq_true rfl, Nat.le_of_ble_eq_true rfl⟩) (xv_preV (T := TX1) (N := 3) hE hA hS hK hP hD (isC := [0, 1]) (by decide +kernel) hC (q0 := 0) (ci := 1) rfl rfl) rfl rfl hl.1 rfl (lv_room (Nat.le_of_ble_eq_true rfl)) (zdt zkX1_lowestSteep 16 rfl) ⟨Nat.le_refl _, Nat.le_refl _⟩) hP hD hS hA (by decide +kernel) rfl hC rfl rfl (fun H locs hP hD hS => ?_)
      refine xi_if_ne (tgt := 34) hx hb (zdt zkX1_lowestSteep 19 rfl) (by decide) hf (fun hf => ?_) (fun hf => ?_)
      · refine lv_iload_n hx hb (zdt zkX1_lowestSteep 34 rfl) rfl (lv_at hl 2 rfl) ?_
        obtain rfl := Option.some.inj hf
        exact hret _ _ _ _ rfl (zdt zkX1_lowestSteep 35 rfl) hP hD hS
      · refine lv_aload_n hx hb (zdt zkX1_lowestSteep 22 rfl) rfl (lv_at hl 0 rfl) ?_
        refine lv_iload_n hx hb (zdt zkX1_lowestSteep 23 rfl) rfl (lv_at hl 2 rfl) ?_
        refine lv_iload_n hx hb (zdt zkX1_lowestSteep 24 rfl) rfl (lv_at hl 2 rfl) ?_
        refine lv_iconst (v := Int32.ofInt 1) hx hb (zdt zkX1_lowestSteep 25 rfl) rfl ?_
        refine xi_iadd hx hb (zdt zkX1_lowestSteep 26 rfl) hf (fun v3 hf => ?_)
        refine lv_iload_n hx hb (zdt zkX1_lowestSteep 27 rfl) rfl (lv_at hl 1 rfl) ?_
        refine xe_d1 hf (fun v4 hg hf => ?_)
        have hC : ([0, 1] : List Nat).map (fun i => (wd_Columns_lowestSteep cA q0 q1 q2 i_many i_heights)[i]?) = (wd_Columns_isSteep cA q0 q1 q2 i_many i_heights).map some := rfl
        refine xv_afterI (ws' := (wd_Columns_lowestSteep cA q0 q1 q2 i_many i_heights)) (isC := [0, 1]) (ps := [some 0, some 1]) (va_runV (As := [.int (Int32.ofInt x2), .int (Int32.ofInt v3), .int (Int32.ofInt x1)]) (rest := []) ⟨hx, hb, hml, hown, hts⟩ (c_Columns_isSteep l ev dC dI cA q0 q1 q2 hg H.size) (cwV 3 hts (zgV zw_868 zw_869 zw_870 zw_106 zw_871) rfl rfl rfl hd_Columns_isSteep ⟨Nat.le_of_ble_eq_true rfl, Nat.le_of_ble_eq_true rfl⟩) (xv_preV (T := TX1) (N := 3) hE hA hS hK hP hD (isC := [0, 1]) (by decide +kernel) hC (q0 := 0) (ci := 1) rfl rfl) rfl rfl hl.1 rfl (lv_room (Nat.le_of_ble_eq_true rfl)) (zdt zkX1_lowestSteep 28 rfl) ⟨Nat.le_refl _, Nat.le_refl _⟩) hP hD hS hA (by decide +kernel) rfl hC rfl rfl (fun H locs hP hD hS => ?_)
        refine xi_if_eq (tgt := 36) hx hb (zdt zkX1_lowestSteep 31 rfl) (by decide) hf (fun hf => ?_) (fun hf => ?_)
        · refine xi_iinc hx hb (zdt zkX1_lowestSteep 36 rfl) hl (k := 2) rfl (by decide) hf (fun v5 ls hl hf => ?_)
          have hl : lv_has ls 3 [(2, .int (Int32.ofInt v5)), (0, .ref q0), (1, .int (Int32.ofInt x1))] := hl
          refine lv_goto (tgt := 2) hx hb (zdt zkX1_lowestSteep 39 rfl) (by decide) ?_
          exact ih2 _ _ _ _ _ hf hP hD hS (lv_sub hl [1, 2, 0] rfl)
        · refine lv_iload_n hx hb (zdt zkX1_lowestSteep 34 rfl) rfl (lv_at hl 2 rfl) ?_
          obtain rfl := Option.some.inj hf
          exact hret _ _ _ _ rfl (zdt zkX1_lowestSteep 35 rfl) hP hD hS
  have l_2 : ∀ (n : Nat), ∀ (x1 : Int) (x2 : Int) (H : Heap) (locs : List Loc) (ls : Array Slot), f_Columns_lowestSteep_2 i_many i_heights n x1 x2 = some out → va_P (dC, dI) vwCl (wd_Columns_lowestSteep cA q0 q1 q2 i_many i_heights) H → va_D A (wd_Columns_lowestSteep cA q0 q1 q2 i_many i_heights) → va_S A s.heap H locs → lv_has ls 3 [(0, .ref q0), (1, .int (Int32.ofInt x1)), (2, .int (Int32.ofInt x2))] → W p l e rm_Columns_lowestSteep s m args below meth c H locs 0 0 Q (F0 m 2 ls []) := by
    intro n
    induction n with
    | zero => intro x1 x2 H locs ls hf hP hD hS hl; exact nomatch hf
    | succ n ih => intro x1 x2 H locs ls hf hP hD hS hl; exact b_2 (f_Columns_lowestSteep_2 i_many i_heights n) ih x1 x2 H locs ls hf hP hD hS hl
  unfold f_Columns_lowestSteep at hf
  refine lv_iconst (v := Int32.ofInt 0) hx hb (zdt zkX1_lowestSteep 0 rfl) rfl ?_
  refine lv_istore_n (lv' := [(2, .int (Int32.ofInt 0)), (0, .ref q0), (1, .int (Int32.ofInt x1))]) hx hb (zdt zkX1_lowestSteep 1 rfl) rfl hl (by decide) rfl (fun ls hl => ?_)
  exact l_2  _ _ _ _ _ _ hf hP hD hS (lv_sub hl [1, 2, 0] rfl)
set_option maxRecDepth 100000 in
noncomputable def ztX10_steep (p : Nat) : Option (Jvm.ClassFile.Instr × Nat) := bif Nat.ble 11 p then (bif Nat.ble 15 p then (bif Nat.ble 16 p then (bif Nat.ble 19 p then (bif Nat.beq p 19 then some (.ireturn, 1) else none) else (bif Nat.beq p 16 then some (.invokevirtual 217, 3) else none)) else (bif Nat.beq p 15 then some (.iaload, 1) else none)) else (bif Nat.ble 14 p then (bif Nat.beq p 14 then some (.iconst 2, 1) else none) else (bif Nat.beq p 11 then some (.getfield 176, 3) else none))) else (bif Nat.ble 4 p then (bif Nat.ble 7 p then (bif Nat.ble 8 p then (bif Nat.beq p 8 then some (.getfield 10, 3) else none) else (bif Nat.beq p 7 then some (.aload_n 0, 1) else none)) else (bif Nat.beq p 4 then some (.getfield 99, 3) else none)) else (bif Nat.ble 1 p then (bif Nat.beq p 1 then some (.getfield 10, 3) else none) else (bif Nat.beq p 0 then some (.aload_n 0, 1) else none)))
set_option maxRecDepth 100000 in
theorem zkX10_steep : (zbig cX10_steep.data.toList = 986785736282346342050822789515814770506186404906 ∧ cX10_steep.data.toList.length = 20) ∧ zdk cX10_steep 986785736282346342050822789515814770506186404906 20 ztX10_steep 19 = true := by decide +kernel
theorem zw_863 : (Jvm.Cond.code ({ cls := "HillSchool", name := "steep", desc := "()I" } : Jvm.MethodName) prog_1_method_23_code (1 : Nat) (Option.some Jvm.ClassFile.FieldType.int)) ∈ zall := zmemG (zmj_4 40 rfl) rfl
theorem zw_864 : (Jvm.Cond.methodLink "HillSchool" (217 : Nat) ({ cls := "HillSchool$Columns", name := "lowestSteep", desc := "(I)I" } : Jvm.MethodName)) ∈ zall := zmemG (zmj_4 41 rfl) rfl
theorem zw_865 : (Jvm.Cond.instanceMethod ({ cls := "HillSchool$Columns", name := "lowestSteep", desc := "(I)I" } : Jvm.MethodName)) ∈ zall := zmemG (zmj_4 42 rfl) rfl
theorem zw_866 : (Jvm.Cond.selects "HillSchool$Columns" ({ cls := "HillSchool$Columns", name := "lowestSteep", desc := "(I)I" } : Jvm.MethodName) ({ cls := "HillSchool$Columns", name := "lowestSteep", desc := "(I)I" } : Jvm.MethodName)) ∈ zall := zmemG (zmj_4 43 rfl) rfl
noncomputable abbrev w_HS_steep : List Cond := .code yX10_steep cX10_steep 1 (some .int) :: zall
noncomputable abbrev rm_HS_steep : Room := { frames := 3, cells := 0, slots := 0, locals := 66 }
theorem hd_HS_steep : yX10_steep.cls = "HillSchool" ∧ yX10_steep.cls ≠ "java/lang/invoke/MethodHandle" ∧ yX10_steep.cls ≠ "java/lang/invoke/VarHandle" ∧ (parseMethodDescriptor yX10_steep.desc).map (fun d => d.parameters.length) = some 0 := by decide +kernel
noncomputable def wd_HS_steep (cA : Nat → ClassId) (q0 q1 q2 q3 q4 q5 q6 q7 q8 q9 q10 q11 q12 q13 q14 q15 q16 q17 q18 q19 q20 q21 q22 q23 : Nat) (u0 u1 u2 u3 u4 u5 u6 u7 u8 : Int) (i_hill_columns_many : Int) (i_hill_terms : Nat → Int) (i_hill_columns_heights : Nat → Int)  : va_W := [(q0, .inr (10, [.ref q1, .ref q2, .ref q3, .ref q4, .int (Int32.ofInt u0), .int (Int32.ofInt u1), .int (Int32.ofInt u2), .ref q5, .int (Int32.ofInt u3), .ref q6, .ref q7, .ref q8, .ref q9, .ref q10, .ref q11, .ref q12])), (q1, .inr (2, [.ref q13, .int (Int32.ofInt u4), .ref q14, .ref q15, .ref q16, .int (Int32.ofInt u5), .ref q17, .ref q18, .ref q19, .int (Int32.ofInt u6), .ref q20, .ref q21, .int (Int32.ofInt u7), .int (Int32.ofInt u8)])), (q13, .inr (1, [.int (Int32.ofInt i_hill_columns_many), .ref q22, .ref q23])), (q18, .inl (cA 0, 4, .inl (za i_hill_terms))), (q22, .inl (cA 0, 12, .inl (za i_hill_columns_heights)))]
noncomputable def wf_HS_steep (cA : Nat → ClassId) (q0 q1 q2 q3 q4 q5 q6 q7 q8 q9 q10 q11 q12 q13 q14 q15 q16 q17 q18 q19 q20 q21 q22 q23 : Nat) (u0 u1 u2 u3 u4 u5 u6 u7 u8 : Int) (i_hill_columns_many : Int) (i_hill_terms : Nat → Int) (i_hill_columns_heights : Nat → Int) (o : Int) : va_W := wd_HS_steep cA q0 q1 q2 q3 q4 q5 q6 q7 q8 q9 q10 q11 q12 q13 q14 q15 q16 q17 q18 q19 q20 q21 q22 q23 u0 u1 u2 u3 u4 u5 u6 u7 u8 i_hill_columns_many i_hill_terms i_hill_columns_heights
noncomputable def f_HS_steep (i_hill_columns_many : Int) (i_hill_terms : Nat → Int) (i_hill_columns_heights : Nat → Int) : Option (Int) :=
  zg 4 i_hill_terms 2 fun v1 =>
  zd1 (f_Columns_lowestSteep v1 i_hill_columns_many i_hill_columns_heights) fun v2 =>
  some v2
set_option maxHeartbeats 4000000 in
set_option maxRecDepth 100000 in
theorem c_HS_steep (l : Launch) (ev : zEv) (dC : Nat → ClassId) (dI : Nat → Nat → Nat) (cA : Nat → ClassId) (q0 q1 q2 q3 q4 q5 q6 q7 q8 q9 q10 q11 q12 q13 q14 q15 q16 q17 q18 q19 q20 q21 q22 q23 : Nat) (u0 u1 u2 u3 u4 u5 u6 u7 u8 : Int) {i_hill_columns_many : Int} {i_hill_terms : Nat → Int} {i_hill_columns_heights : Nat → Int} {out : Int} (hf : f_HS_steep i_hill_columns_many i_hill_terms i_hill_columns_heights = some out) : xc_I l ev (dC, dI) vwCl (tyl cA) yX10_steep w_HS_steep rm_HS_steep [.ref q0] (wd_HS_steep cA q0 q1 q2 q3 q4 q5 q6 q7 q8 q9 q10 q11 q12 q13 q14 q15 q16 q17 q18 q19 q20 q21 q22 q23 u0 u1 u2 u3 u4 u5 u6 u7 u8 i_hill_columns_many i_hill_terms i_hill_columns_heights) (wf_HS_steep cA q0 q1 q2 q3 q4 q5 q6 q7 q8 q9 q10 q11 q12 q13 q14 q15 q16 q17 q18 q19 q20 q21 q22 q23 u0 u1 u2 u3 u4 u5 u6 u7 u8 i_hill_columns_many i_hill_terms i_hill_columns_heights out) out := by
  refine xv_startI (cc := cX10_steep) (maxL := 1) (rt := .int) (by decide +kernel) rfl (Nat.le_of_ble_eq_true rfl) ?_
  intro p e s m args below meth c A Q H ls hx hb hml hts hown hK hA hP hD hS hl hE hret
  have hown : s.vm.findClass "HillSchool" = some m.cls := hown
  have hz : ∀ w ∈ zall, w.before args s = true := fun w h => hts w (List.mem_cons_of_mem _ h)
  have hl : lv_has ls 1 [(0, .ref q0)] := hl
  unfold f_HS_steep at hf
  refine lv_aload_n hx hb (zdt zkX10_steep 0 rfl) rfl (lv_at hl 0 rfl) ?_
  refine va_get (D := (dC, dI)) (ci := 10) (v := .ref q1) (C := RX10) (T := TX10) (N := 16) hx hb hz zi_X10 hown hK hP 0 rfl rfl 0 (by decide) (hz _ zw_477) (fun _ h9 => h9) rfl (zdt zkX10_steep 1 rfl) ?_
  refine va_getN (D := (dC, dI)) (ci := 2) (v := .ref q13) (C := RX2) (T := TX2) (N := 14) hx hb hz zi_X2 hown hK hP 1 rfl rfl 0 (by decide) (va_Nw.use rfl (hE.1.1 _ zw_169)) (fun _ h9 => h9) rfl (zdt zkX10_steep 4 rfl) ?_
  refine lv_aload_n hx hb (zdt zkX10_steep 7 rfl) rfl (lv_at hl 0 rfl) ?_
  refine va_get (D := (dC, dI)) (ci := 10) (v := .ref q1) (C := RX10) (T := TX10) (N := 16) hx hb hz zi_X10 hown hK hP 0 rfl rfl 0 (by decide) (hz _ zw_477) (fun _ h9 => h9) rfl (zdt zkX10_steep 8 rfl) ?_
  refine va_getN (D := (dC, dI)) (ci := 2) (v := .ref q18) (C := RX2) (T := TX2) (N := 14) hx hb hz zi_X2 hown hK hP 1 rfl rfl 7 (by decide) (va_Nw.use rfl (hE.1.1 _ zw_191)) (fun _ h9 => h9) rfl (zdt zkX10_steep 11 rfl) ?_
  refine lv_iconst (v := Int32.ofInt 2) hx hb (zdt zkX10_steep 14 rfl) rfl ?_
  refine xi_iald hx hb hK hP 3 0 rfl rfl (zdt zkX10_steep 15 rfl) hf (fun v1 hf => ?_)
  refine xe_d1 hf (fun v2 hg hf => ?_)
  have hC : ([2, 4] : List Nat).map (fun i => (wd_HS_steep cA q0 q1 q2 q3 q4 q5 q6 q7 q8 q9 q10 q11 q12 q13 q14 q15 q16 q17 q18 q19 q20 q21 q22 q23 u0 u1 u2 u3 u4 u5 u6 u7 u8 i_hill_columns_many i_hill_terms i_hill_columns_heights)[i]?) = (wd_Columns_lowestSteep cA q13 q22 q23 i_hill_columns_many i_hill_columns_heights).map some := rfl
  refine xv_afterI (ws' := (wd_HS_steep cA q0 q1 q2 q3 q4 q5 q6 q7 q8 q9 q10 q11 q12 q13 q14 q15 q16 q17 q18 q19 q20 q21 q22 q23 u0 u1 u2 u3 u4 u5 u6 u7 u8 i_hill_columns_many i_hill_terms i_hill_columns_heights)) (isC := [2, 4]) (ps := [none, none, some 0, none, some 1]) (va_runV (As := [.int (Int32.ofInt v1)]) (rest := []) ⟨hx, hb, hml, hown, hts⟩ (c_Columns_lowestSteep l ev dC dI cA q13 q22 q23 hg H.size) (cwV 1 hts (zgV zw_864 zw_865 zw_866 zw_106 zw_867) rfl rfl rfl hd_Columns_lowestSteep ⟨Nat.le_of_ble_eq_true rfl, Nat.le_of_ble_eq_true rfl⟩) (xv_preV (T := TX1) (N := 3) hE hA hS hK hP hD (isC := [2, 4]) (by decide +kernel) hC (q0 := 2) (ci := 1) rfl rfl) rfl rfl hl.1 rfl (lv_room (Nat.le_of_ble_eq_true rfl)) (zdt zkX10_steep 16 rfl) ⟨Nat.le_refl _, Nat.le_refl _⟩) hP hD hS hA (by decide +kernel) rfl hC rfl rfl (fun H locs hP hD hS => ?_)
  obtain rfl := Option.some.inj hf
  exact hret _ _ _ _ rfl (zdt zkX10_steep 19 rfl) hP hD hS
set_option maxRecDepth 100000 in
noncomputable def ztX1_settle (p : Nat) : Option (Jvm.ClassFile.Instr × Nat) := bif Nat.ble 26 p then (bif Nat.ble 39 p then (bif Nat.ble 45 p then (bif Nat.ble 51 p then (bif Nat.ble 54 p then (bif Nat.ble 57 p then (bif Nat.beq p 57 then some (.ireturn, 1) else none) else (bif Nat.beq p 54 then some (.sipush 600, 3) else none)) else (bif Nat.beq p 51 then some (.goto (-49), 3) else none)) else (bif Nat.ble 48 p then (bif Nat.beq p 48 then some (.iinc 2 1, 3) else none) else (bif Nat.beq p 45 then some (.invokevirtual 48, 3) else none))) else (bif Nat.ble 43 p then (bif Nat.ble 44 p then (bif Nat.beq p 44 then some (.iadd, 1) else none) else (bif Nat.beq p 43 then some (.iconst 1, 1) else none)) else (bif Nat.ble 42 p then (bif Nat.beq p 42 then some (.iload_n 3, 1) else none) else (bif Nat.beq p 39 then some (.goto 6, 3) else none)))) else (bif Nat.ble 30 p then (bif Nat.ble 36 p then (bif Nat.ble 37 p then (bif Nat.ble 38 p then (bif Nat.beq p 38 then some (.isub, 1) else none) else (bif Nat.beq p 37 then some (.iconst 1, 1) else none)) else (bif Nat.beq p 36 then some (.iload_n 3, 1) else none)) else (bif Nat.ble 33 p then (bif Nat.beq p 33 then some (.ifCond .eq 9, 3) else none) else (bif Nat.beq p 30 then some (.invokevirtual 41, 3) else none))) else (bif Nat.ble 28 p then (bif Nat.ble 29 p then (bif Nat.beq p 29 then some (.iload_n 1, 1) else none) else (bif Nat.beq p 28 then some (.isub, 1) else none)) else (bif Nat.ble 27 p then (bif Nat.beq p 27 then some (.iconst 1, 1) else none) else (bif Nat.beq p 26 then some (.iload_n 3, 1) else none))))) else (bif Nat.ble 15 p then (bif Nat.ble 21 p then (bif Nat.ble 23 p then (bif Nat.ble 24 p then (bif Nat.ble 25 p then (bif Nat.beq p 25 then some (.iload_n 3, 1) else none) else (bif Nat.beq p 24 then some (.aload_n 0, 1) else none)) else (bif Nat.beq p 23 then some (.iload_n 3, 1) else none)) else (bif Nat.ble 22 p then (bif Nat.beq p 22 then some (.aload_n 0, 1) else none) else (bif Nat.beq p 21 then some (.ireturn, 1) else none))) else (bif Nat.ble 17 p then (bif Nat.ble 20 p then (bif Nat.beq p 20 then some (.iload_n 2, 1) else none) else (bif Nat.beq p 17 then some (.if_icmp .ne 5, 3) else none)) else (bif Nat.ble 16 p then (bif Nat.beq p 16 then some (.iconst (-1), 1) else none) else (bif Nat.beq p 15 then some (.iload_n 3, 1) else none)))) else (bif Nat.ble 6 p then (bif Nat.ble 10 p then (bif Nat.ble 11 p then (bif Nat.ble 14 p then (bif Nat.beq p 14 then some (.istore_n 3, 1) else none) else (bif Nat.beq p 11 then some (.invokevirtual 45, 3) else none)) else (bif Nat.beq p 10 then some (.iload_n 1, 1) else none)) else (bif Nat.ble 9 p then (bif Nat.beq p 9 then some (.aload_n 0, 1) else none) else (bif Nat.beq p 6 then some (.if_icmp .ge 48, 3) else none))) else (bif Nat.ble 2 p then (bif Nat.ble 3 p then (bif Nat.beq p 3 then some (.sipush 600, 3) else none) else (bif Nat.beq p 2 then some (.iload_n 2, 1) else none)) else (bif Nat.ble 1 p then (bif Nat.beq p 1 then some (.istore_n 2, 1) else none) else (bif Nat.beq p 0 then some (.iconst 0, 1) else none)))))
set_option maxRecDepth 100000 in
theorem zkX1_settle : (zbig cX1_settle.data.toList = 32068130391902366445199467391829577139623720552976555594410154405971078970255098522317989074949904030032753319110291601760252602385608490243 ∧ cX1_settle.data.toList.length = 58) ∧ zdk cX1_settle 32068130391902366445199467391829577139623720552976555594410154405971078970255098522317989074949904030032753319110291601760252602385608490243 58 ztX1_settle 57 = true := by decide +kernel
theorem zw_879 : (Jvm.Cond.code ({ cls := "HillSchool$Columns", name := "settle", desc := "(I)I" } : Jvm.MethodName) prog_3_method_14_code (4 : Nat) (Option.some Jvm.ClassFile.FieldType.int)) ∈ zall := zmemG (zmj_4 56 rfl) rfl
theorem zw_880 : (Jvm.Cond.methodLink "HillSchool$Columns" (45 : Nat) ({ cls := "HillSchool$Columns", name := "lowestSteep", desc := "(I)I" } : Jvm.MethodName)) ∈ zall := zmemG (zmj_4 57 rfl) rfl
theorem zw_881 : (Jvm.Cond.methodLink "HillSchool$Columns" (48 : Nat) ({ cls := "HillSchool$Columns", name := "move", desc := "(II)V" } : Jvm.MethodName)) ∈ zall := zmemG (zmj_4 58 rfl) rfl
noncomputable abbrev w_Columns_settle : List Cond := .code yX1_settle cX1_settle 4 (some .int) :: zall
noncomputable abbrev rm_Columns_settle : Room := { frames := 4, cells := 0, slots := 0, locals := 86 }
theorem hd_Columns_settle : yX1_settle.cls = "HillSchool$Columns" ∧ yX1_settle.cls ≠ "java/lang/invoke/MethodHandle" ∧ yX1_settle.cls ≠ "java/lang/invoke/VarHandle" ∧ (parseMethodDescriptor yX1_settle.desc).map (fun d => d.parameters.length) = some 1 := by decide +kernel
noncomputable def wd_Columns_settle (cA : Nat → ClassId) (q0 q1 q2 : Nat) (i_many : Int) (i_heights : Nat → Int) (i_weights : Nat → Int) : va_W := [(q0, .inr (1, [.int (Int32.ofInt i_many), .ref q1, .ref q2])), (q1, .inl (cA 0, 12, .inl (za i_heights))), (q2, .inl (cA 0, 120, .inl (za i_weights)))]
noncomputable def wf_Columns_settle (cA : Nat → ClassId) (q0 q1 q2 : Nat) (i_many : Int) (o : Int × (Nat → Int) × (Nat → Int)) : va_W := wd_Columns_settle cA q0 q1 q2 i_many o.2.1 o.2.2
noncomputable def f_Columns_settle_45 (i_many : Int) (k2 : Int → Int → (Nat → Int) → (Nat → Int) → Option (Int × (Nat → Int) × (Nat → Int))) (x1 : Int) (x2 : Int) (s1 : Int) (s2 : Int) (i_heights : Nat → Int) (i_weights : Nat → Int) : Option (Int × (Nat → Int) × (Nat → Int)) :=
  zd2 (f_Columns_move s1 s2 i_many i_heights i_weights) fun a1 a2 =>
  zn (x2 + 1) fun v3 =>
  k2 x1 v3 a1 a2
noncomputable def f_Columns_settle_2_b (i_many : Int) (k2 : Int → Int → (Nat → Int) → (Nat → Int) → Option (Int × (Nat → Int) × (Nat → Int))) (x1 : Int) (x2 : Int) (i_heights : Nat → Int) (i_weights : Nat → Int) : Option (Int × (Nat → Int) × (Nat → Int)) :=
  if zi_w 600 ≤ zi_w x2 then
    some (600, i_heights, i_weights)
  else
    zd1 (f_Columns_lowestSteep x1 i_many i_heights) fun v1 =>
    if zi_w v1 ≠ zi_w (-1) then
      zn (v1 - 1) fun v2 =>
      zd1 (f_Columns_isSteep v1 v2 x1 i_many i_heights) fun v3 =>
      if zi_w v3 = 0 then
        zn (v1 + 1) fun v4 =>
        f_Columns_settle_45 i_many k2 x1 x2 v1 v4 i_heights i_weights
      else
        zn (v1 - 1) fun v5 =>
        f_Columns_settle_45 i_many k2 x1 x2 v1 v5 i_heights i_weights
    else
      some (x2, i_heights, i_weights)
noncomputable def f_Columns_settle_2 (i_many : Int) : Nat → Int → Int → (Nat → Int) → (Nat → Int) → Option (Int × (Nat → Int) × (Nat → Int))
  | 0 => fun _ _ _ _ => none
  | n + 1 => fun y0 y1 y2 y3 => f_Columns_settle_2_b i_many (f_Columns_settle_2 i_many n) y0 y1 y2 y3
noncomputable def f_Columns_settle (x1 : Int) (i_many : Int) (i_heights : Nat → Int) (i_weights : Nat → Int) : Option (Int × (Nat → Int) × (Nat → Int)) :=
  f_Columns_settle_2 i_many zfu x1 0 i_heights i_weights
set_option maxHeartbeats 4000000 in
set_option maxRecDepth 100000 in
theorem c_Columns_settle (l : Launch) (ev : zEv) (dC : Nat → ClassId) (dI : Nat → Nat → Nat) (cA : Nat → ClassId) (q0 q1 q2 : Nat) {x1 : Int} {i_many : Int} {i_heights : Nat → Int} {i_weights : Nat → Int} {out : Int × (Nat → Int) × (Nat → Int)} (hf : f_Columns_settle x1 i_many i_heights i_weights = some out) : xc_I l ev (dC, dI) vwCl (tyl cA) yX1_settle w_Columns_settle rm_Columns_settle [.ref q0, .int (Int32.ofInt x1)] (wd_Columns_settle cA q0 q1 q2 i_many i_heights i_weights) (wf_Columns_settle cA q0 q1 q2 i_many out) out.1 := by
  refine xv_startI (cc := cX1_settle) (maxL := 4) (rt := .int) (by decide +kernel) rfl (Nat.le_of_ble_eq_true rfl) ?_
  intro p e s m args below meth c A Q H ls hx hb hml hts hown hK hA hP hD hS hl hE hret
  have hown : s.vm.findClass "HillSchool$Columns" = some m.cls := hown
  have hz : ∀ w ∈ zall, w.before args s = true := fun w h => hts w (List.mem_cons_of_mem _ h)
  have hl : lv_has ls 4 [(0, .ref q0), (1, .int (Int32.ofInt x1))] := hl
  have b_45 : ∀ (k2 : Int → Int → (Nat → Int) → (Nat → Int) → Option (Int × (Nat → Int) × (Nat → Int))) (_ : ∀ (x1 : Int) (x2 : Int) (i_heights : Nat → Int) (i_weights : Nat → Int) (H : Heap) (locs : List Loc) (ls : Array Slot), k2 x1 x2 i_heights i_weights = some out → va_P (dC, dI) vwCl (wd_Columns_settle cA q0 q1 q2 i_many i_heights i_weights) H → va_D A (wd_Columns_settle cA q0 q1 q2 i_many i_heights i_weights) → va_S A s.heap H locs → lv_has ls 4 [(0, .ref q0), (1, .int (Int32.ofInt x1)), (2, .int (Int32.ofInt x2))] → W p l e rm_Columns_settle s m args below meth c H locs 0 0 Q (F0 m 2 ls [])), ∀ (x1 : Int) (x2 : Int) (s1 : Int) (s2 : Int) (i_heights : Nat → Int) (i_weights : Nat → Int) (H : Heap) (locs : List Loc) (ls : Array Slot), f_Columns_settle_45 i_many k2 x1 x2 s1 s2 i_heights i_weights = some out → va_P (dC, dI) vwCl (wd_Columns_settle cA q0 q1 q2 i_many i_heights i_weights) H → va_D A (wd_Columns_settle cA q0 q1 q2 i_many i_heights i_weights) → va_S A s.heap H locs → lv_has ls 4 [(0, .ref q0), (1, .int (Int32.ofInt x1)), (2, .int (Int32.ofInt x2))] → W p l e rm_Columns_settle s m args below meth c H locs 0 0 Q (F0 m 45 ls [.int (Int32.ofInt s2), .int (Int32.ofInt s1), .ref q0]) := by
    intro k2 ih2 x1 x2 s1 s2 i_heights i_weights H locs ls hf hP hD hS hl
    unfold f_Columns_settle_45 at hf
    refine xe_d2 hf (fun a1 a2 hg hf => ?_)
    have hC : ([0, 1, 2] : List Nat).map (fun i => (wd_Columns_settle cA q0 q1 q2 i_many i_heights i_weights)[i]?) = (wd_Columns_move cA q0 q1 q2 i_many i_heights i_weights).map some := rfl
    refine xv_afterV (ws' := (wd_Columns_settle cA q0 q1 q2 i_many a1 a2)) (isC := [0, 1, 2]) (ps := [some 0, some 1, some 2]) (va_runV (As := [.int (Int32.ofInt s1), .int (Int32.ofInt s2)]) (rest := []) ⟨hx, hb, hml, hown, hts⟩ (c_Columns_move l ev dC dI cA q0 q1 q2 hg H.size) (cwV 2 hts (zgV zw_881 zw_851 zw_852 zw_106 zw_853) rfl rfl rfl hd_Columns_move ⟨Nat.le_of_ble_eq_true rfl, Nat.le_of_ble_eq_true rfl⟩) (xv_preV (T := TX1) (N := 3) hE hA hS hK hP hD (isC := [0, 1, 2]) (by decide +kernel) hC (q0 := 0) (ci := 1) rfl rfl) rfl rfl hl.1 rfl (lv_room (Nat.le_of_ble_eq_true rfl)) (zdt zkX1_settle 45 rfl) ⟨Nat.le_refl _, Nat.le_refl _⟩) hP hD hS hA (by decide +kernel) rfl hC rfl rfl (fun H locs hP hD hS => ?_)
    refine xi_iinc hx hb (zdt zkX1_settle 48 rfl) hl (k := 2) rfl (by decide) hf (fun v3 ls hl hf => ?_)
    have hl : lv_has ls 4 [(2, .int (Int32.ofInt v3)), (0, .ref q0), (1, .int (Int32.ofInt x1))] := hl
    refine lv_goto (tgt := 2) hx hb (zdt zkX1_settle 51 rfl) (by decide) ?_
    exact ih2 _ _ _ _ _ _ _ hf hP hD hS (lv_sub hl [1, 2, 0] rfl)
  have b_2 : ∀ (k2 : Int → Int → (Nat → Int) → (Nat → Int) → Option (Int × (Nat → Int) × (Nat → Int))) (_ : ∀ (x1 : Int) (x2 : Int) (i_heights : Nat → Int) (i_weights : Nat → Int) (H : Heap) (locs : List Loc) (ls : Array Slot), k2 x1 x2 i_heights i_weights = some out → va_P (dC, dI) vwCl (wd_Columns_settle cA q0 q1 q2 i_many i_heights i_weights) H → va_D A (wd_Columns_settle cA q0 q1 q2 i_many i_heights i_weights) → va_S A s.heap H locs → lv_has ls 4 [(0, .ref q0), (1, .int (Int32.ofInt x1)), (2, .int (Int32.ofInt x2))] → W p l e rm_Columns_settle s m args below meth c H locs 0 0 Q (F0 m 2 ls [])), ∀ (x1 : Int) (x2 : Int) (i_heights : Nat → Int) (i_weights : Nat → Int) (H : Heap) (locs : List Loc) (ls : Array Slot), f_Columns_settle_2_b i_many k2 x1 x2 i_heights i_weights = some out → va_P (dC, dI) vwCl (wd_Columns_settle cA q0 q1 q2 i_many i_heights i_weights) H → va_D A (wd_Columns_settle cA q0 q1 q2 i_many i_heights i_weights) → va_S A s.heap H locs → lv_has ls 4 [(0, .ref q0), (1, .int (Int32.ofInt x1)), (2, .int (Int32.ofInt x2))] → W p l e rm_Columns_settle s m args below meth c H locs 0 0 Q (F0 m 2 ls []) := by
    intro k2 ih2 x1 x2 i_heights i_weights H locs ls hf hP hD hS hl
    unfold f_Columns_settle_2_b at hf
    refine lv_iload_n hx hb (zdt zkX1_settle 2 rfl) rfl (lv_at hl 2 rfl) ?_
    refine lv_sipush (v := Int32.ofInt 600) hx hb (zdt zkX1_settle 3 rfl) (by decide) ?_
    refine xi_icmp_ge (tgt := 54) hx hb (zdt zkX1_settle 6 rfl) (by decide) hf (fun hf => ?_) (fun hf => ?_)
    · refine lv_sipush (v := Int32.ofInt 600) hx hb (zdt zkX1_settle 54 rfl) (by decide) ?_
      obtain rfl := Option.some.inj hf
      exact hret _ _ _ _ rfl (zdt zkX1_settle 57 rfl) hP hD hS
    · refine lv_aload_n hx hb (zdt zkX1_settle 9 rfl) rfl (lv_at hl 0 rfl) ?_
      refine lv_iload_n hx hb (zdt zkX1_settle 10 rfl) rfl (lv_at hl 1 rfl) ?_
      refine xe_d1 hf (fun v1 hg hf => ?_)
      have hC : ([0, 1] : List Nat).map (fun i => (wd_Columns_settle cA q0 q1 q2 i_many i_heights i_weights)[i]?) = (wd_Columns_lowestSteep cA q0 q1 q2 i_many i_heights).map some := rfl
      refine xv_afterI (ws' := (wd_Columns_settle cA q0 q1 q2 i_many i_heights i_weights)) (isC := [0, 1]) (ps := [some 0, some 1, none]) (va_runV (As := [.int (Int32.ofInt x1)]) (rest := []) ⟨hx, hb, hml, hown, hts⟩ (c_Columns_lowestSteep l ev dC dI cA q0 q1 q2 hg H.size) (cwV 1 hts (zgV zw_880 zw_865 zw_866 zw_106 zw_867) rfl rfl rfl hd_Columns_lowestSteep ⟨Nat.le_of_ble_eq_true rfl, Nat.le_of_ble_eq_true rfl⟩) (xv_preV (T := TX1) (N := 3) hE hA hS hK hP hD (isC := [0, 1]) (by decide +kernel) hC (q0 := 0) (ci := 1) rfl rfl) rfl rfl hl.1 rfl (lv_room (Nat.le_of_ble_eq_true rfl)) (zdt zkX1_settle 11 rfl) ⟨Nat.le_refl _, Nat.le_refl _⟩) hP hD hS hA (by decide +kernel) rfl hC rfl rfl (fun H locs hP hD hS => ?_)
      refine lv_istore_n (lv' := [(3, .int (Int32.ofInt v1)), (0, .ref q0), (1, .int (Int32.ofInt x1)), (2, .int (Int32.ofInt x2))]) hx hb (zdt zkX1_settle 14 rfl) rfl hl (by decide) rfl (fun ls hl => ?_)
      refine lv_iload_n hx hb (zdt zkX1_settle 15 rfl) rfl (lv_at hl 0 rfl) ?_
      refine lv_iconst (v := Int32.ofInt (-1)) hx hb (zdt zkX1_settle 16 rfl) rfl ?_
      refine xi_icmp_ne (tgt := 22) hx hb (zdt zkX1_settle 17 rfl) (by decide) hf (fun hf => ?_) (fun hf => ?_)
      · refine lv_aload_n hx hb (zdt zkX1_settle 22 rfl) rfl (lv_at hl 1 rfl) ?_
        refine lv_iload_n hx hb (zdt zkX1_settle 23 rfl) rfl (lv_at hl 0 rfl) ?_
        refine lv_aload_n hx hb (zdt zkX1_settle 24 rfl) rfl (lv_at hl 1 rfl) ?_
        refine lv_iload_n hx hb (zdt zkX1_settle 25 rfl) rfl (lv_at hl 0 rfl) ?_
        refine lv_iload_n hx hb (zdt zkX1_settle 26 rfl) rfl (lv_at hl 0 rfl) ?_
        refine lv_iconst (v := Int32.ofInt 1) hx hb (zdt zkX1_settle 27 rfl) rfl ?_
        refine xi_isub hx hb (zdt zkX1_settle 28 rfl) hf (fun v2 hf => ?_)
        refine lv_iload_n hx hb (zdt zkX1_settle 29 rfl) rfl (lv_at hl 2 rfl) ?_
        refine xe_d1 hf (fun v3 hg hf => ?_)
        have hC : ([0, 1] : List Nat).map (fun i => (wd_Columns_settle cA q0 q1 q2 i_many i_heights i_weights)[i]?) = (wd_Columns_isSteep cA q0 q1 q2 i_many i_heights).map some := rfl
        refine xv_afterI (ws' := (wd_Columns_settle cA q0 q1 q2 i_many i_heights i_weights)) (isC := [0, 1]) (ps := [some 0, some 1, none]) (va_runV (As := [.int (Int32.ofInt v1), .int (Int32.ofInt v2), .int (Int32.ofInt x1)]) (rest := [.int (Int32.ofInt v1), .ref q0]) ⟨hx, hb, hml, hown, hts⟩ (c_Columns_isSteep l ev dC dI cA q0 q1 q2 hg H.size) (cwV 3 hts (zgV zw_868 zw_869 zw_870 zw_106 zw_871) rfl rfl rfl hd_Columns_isSteep ⟨Nat.le_of_ble_eq_true rfl, Nat.le_of_ble_eq_true rfl⟩) (xv_preV (T := TX1) (N := 3) hE hA hS hK hP hD (isC := [0, 1]) (by decide +kernel) hC (q0 := 0) (ci := 1) rfl rfl) rfl rfl hl.1 rfl (lv_room (Nat.le_of_ble_eq_true rfl)) (zdt zkX1_settle 30 rfl) ⟨Nat.le_refl _, Nat.le_refl _⟩) hP hD hS hA (by decide +kernel) rfl hC rfl rfl (fun H locs hP hD hS => ?_)
        refine xi_if_eq (tgt := 42) hx hb (zdt zkX1_settle 33 rfl) (by decide) hf (fun hf => ?_) (fun hf => ?_)
        · refine lv_iload_n hx hb (zdt zkX1_settle 42 rfl) rfl (lv_at hl 0 rfl) ?_
          refine lv_iconst (v := Int32.ofInt 1) hx hb (zdt zkX1_settle 43 rfl) rfl ?_
          refine xi_iadd hx hb (zdt zkX1_settle 44 rfl) hf (fun v4 hf => ?_)
          exact b_45 _ ih2 _ _ _ _ _ _ _ _ _ hf hP hD hS (lv_sub hl [1, 2, 3] rfl)
        · refine lv_iload_n hx hb (zdt zkX1_settle 36 rfl) rfl (lv_at hl 0 rfl) ?_
          refine lv_iconst (v := Int32.ofInt 1) hx hb (zdt zkX1_settle 37 rfl) rfl ?_
          refine xi_isub hx hb (zdt zkX1_settle 38 rfl) hf (fun v5 hf => ?_)
          refine lv_goto (tgt := 45) hx hb (zdt zkX1_settle 39 rfl) (by decide) ?_
          exact b_45 _ ih2 _ _ _ _ _ _ _ _ _ hf hP hD hS (lv_sub hl [1, 2, 3] rfl)
      · refine lv_iload_n hx hb (zdt zkX1_settle 20 rfl) rfl (lv_at hl 3 rfl) ?_
        obtain rfl := Option.some.inj hf
        exact hret _ _ _ _ rfl (zdt zkX1_settle 21 rfl) hP hD hS
  have l_2 : ∀ (n : Nat), ∀ (x1 : Int) (x2 : Int) (i_heights : Nat → Int) (i_weights : Nat → Int) (H : Heap) (locs : List Loc) (ls : Array Slot), f_Columns_settle_2 i_many n x1 x2 i_heights i_weights = some out → va_P (dC, dI) vwCl (wd_Columns_settle cA q0 q1 q2 i_many i_heights i_weights) H → va_D A (wd_Columns_settle cA q0 q1 q2 i_many i_heights i_weights) → va_S A s.heap H locs → lv_has ls 4 [(0, .ref q0), (1, .int (Int32.ofInt x1)), (2, .int (Int32.ofInt x2))] → W p l e rm_Columns_settle s m args below meth c H locs 0 0 Q (F0 m 2 ls []) := by
    intro n
    induction n with
    | zero => intro x1 x2 i_heights i_weights H locs ls hf hP hD hS hl; exact nomatch hf
    | succ n ih => intro x1 x2 i_heights i_weights H locs ls hf hP hD hS hl; exact b_2 (f_Columns_settle_2 i_many n) ih x1 x2 i_heights i_weights H locs ls hf hP hD hS hl
  unfold f_Columns_settle at hf
  refine lv_iconst (v := Int32.ofInt 0) hx hb (zdt zkX1_settle 0 rfl) rfl ?_
  refine lv_istore_n (lv' := [(2, .int (Int32.ofInt 0)), (0, .ref q0), (1, .int (Int32.ofInt x1))]) hx hb (zdt zkX1_settle 1 rfl) rfl hl (by decide) rfl (fun ls hl => ?_)
  exact l_2  _ _ _ _ _ _ _ _ hf hP hD hS (lv_sub hl [1, 2, 0] rfl)
end
section
set_option maxRecDepth 100000 in
noncomputable def ztX10_slide (p : Nat) : Option (Jvm.ClassFile.Instr × Nat) := bif Nat.ble 14 p then (bif Nat.ble 24 p then (bif Nat.ble 28 p then (bif Nat.ble 29 p then (bif Nat.ble 32 p then (bif Nat.beq p 32 then some (.ireturn, 1) else none) else (bif Nat.beq p 29 then some (.invokevirtual 223, 3) else none)) else (bif Nat.beq p 28 then some (.iaload, 1) else none)) else (bif Nat.ble 27 p then (bif Nat.beq p 27 then some (.iconst 2, 1) else none) else (bif Nat.beq p 24 then some (.getfield 176, 3) else none))) else (bif Nat.ble 20 p then (bif Nat.ble 21 p then (bif Nat.beq p 21 then some (.getfield 10, 3) else none) else (bif Nat.beq p 20 then some (.aload_n 0, 1) else none)) else (bif Nat.ble 17 p then (bif Nat.beq p 17 then some (.getfield 99, 3) else none) else (bif Nat.beq p 14 then some (.getfield 10, 3) else none)))) else (bif Nat.ble 8 p then (bif Nat.ble 10 p then (bif Nat.ble 13 p then (bif Nat.beq p 13 then some (.aload_n 0, 1) else none) else (bif Nat.beq p 10 then some (.putfield 220, 3) else none)) else (bif Nat.ble 9 p then (bif Nat.beq p 9 then some (.iadd, 1) else none) else (bif Nat.beq p 8 then some (.iconst 1, 1) else none))) else (bif Nat.ble 4 p then (bif Nat.ble 5 p then (bif Nat.beq p 5 then some (.getfield 220, 3) else none) else (bif Nat.beq p 4 then some (.dup, 1) else none)) else (bif Nat.ble 1 p then (bif Nat.beq p 1 then some (.getfield 10, 3) else none) else (bif Nat.beq p 0 then some (.aload_n 0, 1) else none))))
set_option maxRecDepth 100000 in
theorem zkX10_slide : (zbig cX10_slide.data.toList = 20017106371411045644821987950960410722651593607941722519993798388413433582236714 ∧ cX10_slide.data.toList.length = 33) ∧ zdk cX10_slide 20017106371411045644821987950960410722651593607941722519993798388413433582236714 33 ztX10_slide 32 = true := by decide +kernel
theorem zw_875 : (Jvm.Cond.code ({ cls := "HillSchool", name := "slide", desc := "()I" } : Jvm.MethodName) prog_1_method_24_code (1 : Nat) (Option.some Jvm.ClassFile.FieldType.int)) ∈ zall := zmemG (zmj_4 52 rfl) rfl
theorem zw_876 : (Jvm.Cond.methodLink "HillSchool" (223 : Nat) ({ cls := "HillSchool$Columns", name := "settle", desc := "(I)I" } : Jvm.MethodName)) ∈ zall := zmemG (zmj_4 53 rfl) rfl
theorem zw_877 : (Jvm.Cond.instanceMethod ({ cls := "HillSchool$Columns", name := "settle", desc := "(I)I" } : Jvm.MethodName)) ∈ zall := zmemG (zmj_4 54 rfl) rfl
theorem zw_878 : (Jvm.Cond.selects "HillSchool$Columns" ({ cls := "HillSchool$Columns", name := "settle", desc := "(I)I" } : Jvm.MethodName) ({ cls := "HillSchool$Columns", name := "settle", desc := "(I)I" } : Jvm.MethodName)) ∈ zall := zmemG (zmj_4 55 rfl) rfl
noncomputable abbrev w_HS_slide : List Cond := .code yX10_slide cX10_slide 1 (some .int) :: zall
noncomputable abbrev rm_HS_slide : Room := { frames := 5, cells := 0, slots := 0, locals := 109 }
theorem hd_HS_slide : yX10_slide.cls = "HillSchool" ∧ yX10_slide.cls ≠ "java/lang/invoke/MethodHandle" ∧ yX10_slide.cls ≠ "java/lang/invoke/VarHandle" ∧ (parseMethodDescriptor yX10_slide.desc).map (fun d => d.parameters.length) = some 0 := by decide +kernel
noncomputable def wd_HS_slide (cA : Nat → ClassId) (q0 q1 q2 q3 q4 q5 q6 q7 q8 q9 q10 q11 q12 q13 q14 q15 q16 q17 q18 q19 q20 q21 q22 q23 : Nat) (u0 u1 u2 u3 u4 u5 u6 u7 : Int) (i_hill_columns_many : Int) (i_hill_terms : Nat → Int) (i_hill_changes : Int) (i_hill_columns_heights : Nat → Int) (i_hill_columns_weights : Nat → Int) : va_W := [(q0, .inr (10, [.ref q1, .ref q2, .ref q3, .ref q4, .int (Int32.ofInt u0), .int (Int32.ofInt u1), .int (Int32.ofInt u2), .ref q5, .int (Int32.ofInt u3), .ref q6, .ref q7, .ref q8, .ref q9, .ref q10, .ref q11, .ref q12])), (q1, .inr (2, [.ref q13, .int (Int32.ofInt u4), .ref q14, .ref q15, .ref q16, .int (Int32.ofInt u5), .ref q17, .ref q18, .ref q19, .int (Int32.ofInt u6), .ref q20, .ref q21, .int (Int32.ofInt u7), .int (Int32.ofInt i_hill_changes)])), (q13, .inr (1, [.int (Int32.ofInt i_hill_columns_many), .ref q22, .ref q23])), (q18, .inl (cA 0, 4, .inl (za i_hill_terms))), (q22, .inl (cA 0, 12, .inl (za i_hill_columns_heights))), (q23, .inl (cA 0, 120, .inl (za i_hill_columns_weights)))]
noncomputable def wf_HS_slide (cA : Nat → ClassId) (q0 q1 q2 q3 q4 q5 q6 q7 q8 q9 q10 q11 q12 q13 q14 q15 q16 q17 q18 q19 q20 q21 q22 q23 : Nat) (u0 u1 u2 u3 u4 u5 u6 u7 : Int) (i_hill_columns_many : Int) (i_hill_terms : Nat → Int) (o : Int × Int × (Nat → Int) × (Nat → Int)) : va_W := wd_HS_slide cA q0 q1 q2 q3 q4 q5 q6 q7 q8 q9 q10 q11 q12 q13 q14 q15 q16 q17 q18 q19 q20 q21 q22 q23 u0 u1 u2 u3 u4 u5 u6 u7 i_hill_columns_many i_hill_terms o.2.1 o.2.2.1 o.2.2.2
noncomputable def f_HS_slide (i_hill_columns_many : Int) (i_hill_terms : Nat → Int) (i_hill_changes : Int) (i_hill_columns_heights : Nat → Int) (i_hill_columns_weights : Nat → Int) : Option (Int × Int × (Nat → Int) × (Nat → Int)) :=
  zn (i_hill_changes + 1) fun v1 =>
  zg 4 i_hill_terms 2 fun v2 =>
  zd3 (f_Columns_settle v2 i_hill_columns_many i_hill_columns_heights i_hill_columns_weights) fun v3 a4 a5 =>
  some (v3, v1, a4, a5)
set_option maxHeartbeats 4000000 in
set_option maxRecDepth 100000 in
theorem c_HS_slide (l : Launch) (ev : zEv) (dC : Nat → ClassId) (dI : Nat → Nat → Nat) (cA : Nat → ClassId) (q0 q1 q2 q3 q4 q5 q6 q7 q8 q9 q10 q11 q12 q13 q14 q15 q16 q17 q18 q19 q20 q21 q22 q23 : Nat) (u0 u1 u2 u3 u4 u5 u6 u7 : Int) {i_hill_columns_many : Int} {i_hill_terms : Nat → Int} {i_hill_changes : Int} {i_hill_columns_heights : Nat → Int} {i_hill_columns_weights : Nat → Int} {out : Int × Int × (Nat → Int) × (Nat → Int)} (hf : f_HS_slide i_hill_columns_many i_hill_terms i_hill_changes i_hill_columns_heights i_hill_columns_weights = some out) : xc_I l ev (dC, dI) vwCl (tyl cA) yX10_slide w_HS_slide rm_HS_slide [.ref q0] (wd_HS_slide cA q0 q1 q2 q3 q4 q5 q6 q7 q8 q9 q10 q11 q12 q13 q14 q15 q16 q17 q18 q19 q20 q21 q22 q23 u0 u1 u2 u3 u4 u5 u6 u7 i_hill_columns_many i_hill_terms i_hill_changes i_hill_columns_heights i_hill_columns_weights) (wf_HS_slide cA q0 q1 q2 q3 q4 q5 q6 q7 q8 q9 q10 q11 q12 q13 q14 q15 q16 q17 q18 q19 q20 q21 q22 q23 u0 u1 u2 u3 u4 u5 u6 u7 i_hill_columns_many i_hill_terms out) out.1 := by
  refine xv_startI (cc := cX10_slide) (maxL := 1) (rt := .int) (by decide +kernel) rfl (Nat.le_of_ble_eq_true rfl) ?_
  intro p e s m args below meth c A Q H ls hx hb hml hts hown hK hA hP hD hS hl hE hret
  have hown : s.vm.findClass "HillSchool" = some m.cls := hown
  have hz : ∀ w ∈ zall, w.before args s = true := fun w h => hts w (List.mem_cons_of_mem _ h)
  have hl : lv_has ls 1 [(0, .ref q0)] := hl
  unfold f_HS_slide at hf
  refine lv_aload_n hx hb (zdt zkX10_slide 0 rfl) rfl (lv_at hl 0 rfl) ?_
  refine va_get (D := (dC, dI)) (ci := 10) (v := .ref q1) (C := RX10) (T := TX10) (N := 16) hx hb hz zi_X10 hown hK hP 0 rfl rfl 0 (by decide) (hz _ zw_477) (fun _ h9 => h9) rfl (zdt zkX10_slide 1 rfl) ?_
  refine lv_dup hx hb (zdt zkX10_slide 4 rfl) rfl ?_
  refine va_getN (D := (dC, dI)) (ci := 2) (v := .int (Int32.ofInt i_hill_changes)) (C := RX2) (T := TX2) (N := 14) hx hb hz zi_X2 hown hK hP 1 rfl rfl 13 (by decide) (va_Nw.use rfl (hE.1.1 _ zw_211)) (fun _ h9 => h9) rfl (zdt zkX10_slide 5 rfl) ?_
  refine lv_iconst (v := Int32.ofInt 1) hx hb (zdt zkX10_slide 8 rfl) rfl ?_
  refine xi_iadd hx hb (zdt zkX10_slide 9 rfl) hf (fun v1 hf => ?_)
  refine va_putN (D := (dC, dI)) (ci := 2) (v := .int (Int32.ofInt v1)) (ty := .int) (C := RX2) (T := TX2) (N := 14) hx hb hz zi_X2 tyX2 tyX2_ok nmX2 hown hK hP hD hS 1 rfl rfl 13 (by decide) (va_Nw.use rfl (hE.1.1 _ zw_211)) (fun _ h9 => h9) rfl (by decide +kernel) rfl rfl (Nat.le_of_ble_eq_true rfl) (zdt zkX10_slide 10 rfl) (fun H locs hP hD hS => ?_)
  refine xw_PD (wd_HS_slide cA q0 q1 q2 q3 q4 q5 q6 q7 q8 q9 q10 q11 q12 q13 q14 q15 q16 q17 q18 q19 q20 q21 q22 q23 u0 u1 u2 u3 u4 u5 u6 u7 i_hill_columns_many i_hill_terms v1 i_hill_columns_heights i_hill_columns_weights) hP hD (fun hP hD => ?_)
  refine lv_aload_n hx hb (zdt zkX10_slide 13 rfl) rfl (lv_at hl 0 rfl) ?_
  refine va_get (D := (dC, dI)) (ci := 10) (v := .ref q1) (C := RX10) (T := TX10) (N := 16) hx hb hz zi_X10 hown hK hP 0 rfl rfl 0 (by decide) (hz _ zw_477) (fun _ h9 => h9) rfl (zdt zkX10_slide 14 rfl) ?_
  refine va_getN (D := (dC, dI)) (ci := 2) (v := .ref q13) (C := RX2) (T := TX2) (N := 14) hx hb hz zi_X2 hown hK hP 1 rfl rfl 0 (by decide) (va_Nw.use rfl (hE.1.1 _ zw_169)) (fun _ h9 => h9) rfl (zdt zkX10_slide 17 rfl) ?_
  refine lv_aload_n hx hb (zdt zkX10_slide 20 rfl) rfl (lv_at hl 0 rfl) ?_
  refine va_get (D := (dC, dI)) (ci := 10) (v := .ref q1) (C := RX10) (T := TX10) (N := 16) hx hb hz zi_X10 hown hK hP 0 rfl rfl 0 (by decide) (hz _ zw_477) (fun _ h9 => h9) rfl (zdt zkX10_slide 21 rfl) ?_
  refine va_getN (D := (dC, dI)) (ci := 2) (v := .ref q18) (C := RX2) (T := TX2) (N := 14) hx hb hz zi_X2 hown hK hP 1 rfl rfl 7 (by decide) (va_Nw.use rfl (hE.1.1 _ zw_191)) (fun _ h9 => h9) rfl (zdt zkX10_slide 24 rfl) ?_
  refine lv_iconst (v := Int32.ofInt 2) hx hb (zdt zkX10_slide 27 rfl) rfl ?_
  refine xi_iald hx hb hK hP 3 0 rfl rfl (zdt zkX10_slide 28 rfl) hf (fun v2 hf => ?_)
  refine xe_d3 hf (fun v3 a4 a5 hg hf => ?_)
  have hC : ([2, 4, 5] : List Nat).map (fun i => (wd_HS_slide cA q0 q1 q2 q3 q4 q5 q6 q7 q8 q9 q10 q11 q12 q13 q14 q15 q16 q17 q18 q19 q20 q21 q22 q23 u0 u1 u2 u3 u4 u5 u6 u7 i_hill_columns_many i_hill_terms v1 i_hill_columns_heights i_hill_columns_weights)[i]?) = (wd_Columns_settle cA q13 q22 q23 i_hill_columns_many i_hill_columns_heights i_hill_columns_weights).map some := rfl
  refine xv_afterI (ws' := (wd_HS_slide cA q0 q1 q2 q3 q4 q5 q6 q7 q8 q9 q10 q11 q12 q13 q14 q15 q16 q17 q18 q19 q20 q21 q22 q23 u0 u1 u2 u3 u4 u5 u6 u7 i_hill_columns_many i_hill_terms v1 a4 a5)) (isC := [2, 4, 5]) (ps := [none, none, some 0, none, some 1, some 2]) (va_runV (As := [.int (Int32.ofInt v2)]) (rest := []) ⟨hx, hb, hml, hown, hts⟩ (c_Columns_settle l ev dC dI cA q13 q22 q23 hg H.size) (cwV 1 hts (zgV zw_876 zw_877 zw_878 zw_106 zw_879) rfl rfl rfl hd_Columns_settle ⟨Nat.le_of_ble_eq_true rfl, Nat.le_of_ble_eq_true rfl⟩) (xv_preV (T := TX1) (N := 3) hE hA hS hK hP hD (isC := [2, 4, 5]) (by decide +kernel) hC (q0 := 2) (ci := 1) rfl rfl) rfl rfl hl.1 rfl (lv_room (Nat.le_of_ble_eq_true rfl)) (zdt zkX10_slide 29 rfl) ⟨Nat.le_refl _, Nat.le_refl _⟩) hP hD hS hA (by decide +kernel) rfl hC rfl rfl (fun H locs hP hD hS => ?_)
  obtain rfl := Option.some.inj hf
  exact hret _ _ _ _ rfl (zdt zkX10_slide 32 rfl) hP hD hS
set_option maxRecDepth 100000 in
noncomputable def ztX2_hasParish (p : Nat) : Option (Jvm.ClassFile.Instr × Nat) := bif Nat.ble 9 p then (bif Nat.ble 13 p then (bif Nat.ble 16 p then (bif Nat.ble 17 p then (bif Nat.beq p 17 then some (.ireturn, 1) else none) else (bif Nat.beq p 16 then some (.iconst 0, 1) else none)) else (bif Nat.beq p 13 then some (.goto 4, 3) else none)) else (bif Nat.ble 12 p then (bif Nat.beq p 12 then some (.iconst 1, 1) else none) else (bif Nat.beq p 9 then some (.if_icmp .ge 7, 3) else none))) else (bif Nat.ble 4 p then (bif Nat.ble 5 p then (bif Nat.ble 6 p then (bif Nat.beq p 6 then some (.getfield 32, 3) else none) else (bif Nat.beq p 5 then some (.aload_n 0, 1) else none)) else (bif Nat.beq p 4 then some (.iload_n 1, 1) else none)) else (bif Nat.ble 1 p then (bif Nat.beq p 1 then some (.ifCond .lt 15, 3) else none) else (bif Nat.beq p 0 then some (.iload_n 1, 1) else none)))
set_option maxRecDepth 100000 in
theorem zkX2_hasParish : (zbig cX2_hasParish.data.toList = 14984339347662989861893760937798233269246747 ∧ cX2_hasParish.data.toList.length = 18) ∧ zdk cX2_hasParish 14984339347662989861893760937798233269246747 18 ztX2_hasParish 17 = true := by decide +kernel
theorem zw_185 : (Jvm.Cond.fieldLink "HillSchool$Hill" (32 : Nat) "HillSchool$Hill" "parishes" "I") ∈ zall := zmemG (zmj_1 82 rfl) rfl
theorem zw_897 : (Jvm.Cond.code ({ cls := "HillSchool$Hill", name := "hasParish", desc := "(I)Z" } : Jvm.MethodName) prog_4_method_3_code (2 : Nat) (Option.some Jvm.ClassFile.FieldType.boolean)) ∈ zall := zmemG (zmj_4 74 rfl) rfl
noncomputable abbrev w_Hill_hasParish : List Cond := .code yX2_hasParish cX2_hasParish 2 (some .boolean) :: zall
noncomputable abbrev rm_Hill_hasParish : Room := { frames := 0, cells := 0, slots := 0, locals := 0 }
theorem hd_Hill_hasParish : yX2_hasParish.cls = "HillSchool$Hill" ∧ yX2_hasParish.cls ≠ "java/lang/invoke/MethodHandle" ∧ yX2_hasParish.cls ≠ "java/lang/invoke/VarHandle" ∧ (parseMethodDescriptor yX2_hasParish.desc).map (fun d => d.parameters.length) = some 1 := by decide +kernel
noncomputable def wd_Hill_hasParish (cA : Nat → ClassId) (q0 q1 q2 q3 q4 q5 q6 q7 q8 q9 : Nat) (u0 u1 u2 u3 : Int) (i_parishes : Int)  : va_W := [(q0, .inr (2, [.ref q1, .int (Int32.ofInt u0), .ref q2, .ref q3, .ref q4, .int (Int32.ofInt i_parishes), .ref q5, .ref q6, .ref q7, .int (Int32.ofInt u1), .ref q8, .ref q9, .int (Int32.ofInt u2), .int (Int32.ofInt u3)]))]
noncomputable def wf_Hill_hasParish (cA : Nat → ClassId) (q0 q1 q2 q3 q4 q5 q6 q7 q8 q9 : Nat) (u0 u1 u2 u3 : Int) (i_parishes : Int) (o : Int) : va_W := wd_Hill_hasParish cA q0 q1 q2 q3 q4 q5 q6 q7 q8 q9 u0 u1 u2 u3 i_parishes
noncomputable def f_Hill_hasParish (x1 : Int) (i_parishes : Int) : Option (Int) :=
  if zi_w x1 < 0 then
    some 0
  else
    if zi_w i_parishes ≤ zi_w x1 then
      some 0
    else
      some 1
set_option maxHeartbeats 4000000 in
set_option maxRecDepth 100000 in
theorem c_Hill_hasParish (l : Launch) (ev : zEv) (dC : Nat → ClassId) (dI : Nat → Nat → Nat) (cA : Nat → ClassId) (q0 q1 q2 q3 q4 q5 q6 q7 q8 q9 : Nat) (u0 u1 u2 u3 : Int) {x1 : Int} {i_parishes : Int} {out : Int} (hf : f_Hill_hasParish x1 i_parishes = some out) : xc_I l ev (dC, dI) vwCl (tyl cA) yX2_hasParish w_Hill_hasParish rm_Hill_hasParish [.ref q0, .int (Int32.ofInt x1)] (wd_Hill_hasParish cA q0 q1 q2 q3 q4 q5 q6 q7 q8 q9 u0 u1 u2 u3 i_parishes) (wf_Hill_hasParish cA q0 q1 q2 q3 q4 q5 q6 q7 q8 q9 u0 u1 u2 u3 i_parishes out) out := by
  refine xv_startI (cc := cX2_hasParish) (maxL := 2) (rt := .boolean) (by decide +kernel) rfl (Nat.le_of_ble_eq_true rfl) ?_
  intro p e s m args below meth c A Q H ls hx hb hml hts hown hK hA hP hD hS hl hE hret
  have hown : s.vm.findClass "HillSchool$Hill" = some m.cls := hown
  have hz : ∀ w ∈ zall, w.before args s = true := fun w h => hts w (List.mem_cons_of_mem _ h)
  have hl : lv_has ls 2 [(0, .ref q0), (1, .int (Int32.ofInt x1))] := hl
  unfold f_Hill_hasParish at hf
  refine lv_iload_n hx hb (zdt zkX2_hasParish 0 rfl) rfl (lv_at hl 1 rfl) ?_
  refine xi_if_lt (tgt := 16) hx hb (zdt zkX2_hasParish 1 rfl) (by decide) hf (fun hf => ?_) (fun hf => ?_)
  · refine lv_iconst (v := Int32.ofInt 0) hx hb (zdt zkX2_hasParish 16 rfl) rfl ?_
    obtain rfl := Option.some.inj hf
    exact hret _ _ _ _ zz_b0 (zdt zkX2_hasParish 17 rfl) hP hD hS
  · refine lv_iload_n hx hb (zdt zkX2_hasParish 4 rfl) rfl (lv_at hl 1 rfl) ?_
    refine lv_aload_n hx hb (zdt zkX2_hasParish 5 rfl) rfl (lv_at hl 0 rfl) ?_
    refine va_get (D := (dC, dI)) (ci := 2) (v := .int (Int32.ofInt i_parishes)) (C := RX2) (T := TX2) (N := 14) hx hb hz zi_X2 hown hK hP 0 rfl rfl 5 (by decide) (hz _ zw_185) (fun _ h9 => h9) rfl (zdt zkX2_hasParish 6 rfl) ?_
    refine xi_icmp_ge (tgt := 16) hx hb (zdt zkX2_hasParish 9 rfl) (by decide) hf (fun hf => ?_) (fun hf => ?_)
    · refine lv_iconst (v := Int32.ofInt 0) hx hb (zdt zkX2_hasParish 16 rfl) rfl ?_
      obtain rfl := Option.some.inj hf
      exact hret _ _ _ _ zz_b0 (zdt zkX2_hasParish 17 rfl) hP hD hS
    · refine lv_iconst (v := Int32.ofInt 1) hx hb (zdt zkX2_hasParish 12 rfl) rfl ?_
      refine lv_goto (tgt := 17) hx hb (zdt zkX2_hasParish 13 rfl) (by decide) ?_
      obtain rfl := Option.some.inj hf
      exact hret _ _ _ _ zz_b1 (zdt zkX2_hasParish 17 rfl) hP hD hS
set_option maxRecDepth 100000 in
noncomputable def ztX1_shadeAt (p : Nat) : Option (Jvm.ClassFile.Instr × Nat) := bif Nat.ble 22 p then (bif Nat.ble 31 p then (bif Nat.ble 36 p then (bif Nat.ble 42 p then (bif Nat.ble 43 p then (bif Nat.beq p 43 then some (.ireturn, 1) else none) else (bif Nat.beq p 42 then some (.iload_n 3, 1) else none)) else (bif Nat.ble 39 p then (bif Nat.beq p 39 then some (.goto (-34), 3) else none) else (bif Nat.beq p 36 then some (.iinc 4 1, 3) else none))) else (bif Nat.ble 32 p then (bif Nat.ble 35 p then (bif Nat.beq p 35 then some (.istore_n 3, 1) else none) else (bif Nat.beq p 32 then some (.invokestatic 57, 3) else none)) else (bif Nat.beq p 31 then some (.isub, 1) else none))) else (bif Nat.ble 26 p then (bif Nat.ble 27 p then (bif Nat.ble 30 p then (bif Nat.beq p 30 then some (.imul, 1) else none) else (bif Nat.beq p 27 then some (.invokestatic 52, 3) else none)) else (bif Nat.beq p 26 then some (.isub, 1) else none)) else (bif Nat.ble 23 p then (bif Nat.ble 25 p then (bif Nat.beq p 25 then some (.iload_n 1, 1) else none) else (bif Nat.beq p 23 then some (.iload 4, 2) else none)) else (bif Nat.beq p 22 then some (.iload_n 2, 1) else none)))) else (bif Nat.ble 8 p then (bif Nat.ble 15 p then (bif Nat.ble 19 p then (bif Nat.ble 21 p then (bif Nat.beq p 21 then some (.iaload, 1) else none) else (bif Nat.beq p 19 then some (.iload 4, 2) else none)) else (bif Nat.ble 16 p then (bif Nat.beq p 16 then some (.getfield 15, 3) else none) else (bif Nat.beq p 15 then some (.aload_n 0, 1) else none))) else (bif Nat.ble 11 p then (bif Nat.ble 14 p then (bif Nat.beq p 14 then some (.iload_n 3, 1) else none) else (bif Nat.beq p 11 then some (.if_icmp .ge 31, 3) else none)) else (bif Nat.beq p 8 then some (.getfield 9, 3) else none))) else (bif Nat.ble 3 p then (bif Nat.ble 5 p then (bif Nat.ble 7 p then (bif Nat.beq p 7 then some (.aload_n 0, 1) else none) else (bif Nat.beq p 5 then some (.iload 4, 2) else none)) else (bif Nat.beq p 3 then some (.istore 4, 2) else none)) else (bif Nat.ble 1 p then (bif Nat.ble 2 p then (bif Nat.beq p 2 then some (.iconst 0, 1) else none) else (bif Nat.beq p 1 then some (.istore_n 3, 1) else none)) else (bif Nat.beq p 0 then some (.iconst 0, 1) else none))))
set_option maxRecDepth 100000 in
theorem zkX1_shadeAt : (zbig cX1_shadeAt.data.toList = 6167959006303865035145782072954834780668293159693524489972814987438348453644549247406708895329824543030787 ∧ cX1_shadeAt.data.toList.length = 44) ∧ zdk cX1_shadeAt 6167959006303865035145782072954834780668293159693524489972814987438348453644549247406708895329824543030787 44 ztX1_shadeAt 43 = true := by decide +kernel
theorem zw_901 : (Jvm.Cond.code ({ cls := "HillSchool$Columns", name := "shadeAt", desc := "(II)I" } : Jvm.MethodName) prog_3_method_15_code (5 : Nat) (Option.some Jvm.ClassFile.FieldType.int)) ∈ zall := zmemG (zmj_4 78 rfl) rfl
theorem zw_902 : (Jvm.Cond.methodLink "HillSchool$Columns" (52 : Nat) ({ cls := "java/lang/Math", name := "abs", desc := "(I)I" } : Jvm.MethodName)) ∈ zall := zmemG (zmj_4 79 rfl) rfl
theorem zw_903 : (Jvm.Cond.methodLink "HillSchool$Columns" (57 : Nat) ({ cls := "java/lang/Math", name := "max", desc := "(II)I" } : Jvm.MethodName)) ∈ zall := zmemG (zmj_4 80 rfl) rfl
noncomputable abbrev w_Columns_shadeAt : List Cond := .code yX1_shadeAt cX1_shadeAt 5 (some .int) :: zall
noncomputable abbrev rm_Columns_shadeAt : Room := { frames := 2, cells := 0, slots := 0, locals := 60 }
theorem hd_Columns_shadeAt : yX1_shadeAt.cls = "HillSchool$Columns" ∧ yX1_shadeAt.cls ≠ "java/lang/invoke/MethodHandle" ∧ yX1_shadeAt.cls ≠ "java/lang/invoke/VarHandle" ∧ (parseMethodDescriptor yX1_shadeAt.desc).map (fun d => d.parameters.length) = some 2 := by decide +kernel
noncomputable def wd_Columns_shadeAt (cA : Nat → ClassId) (q0 q1 q2 : Nat) (i_many : Int) (i_heights : Nat → Int)  : va_W := [(q0, .inr (1, [.int (Int32.ofInt i_many), .ref q1, .ref q2])), (q1, .inl (cA 0, 12, .inl (za i_heights)))]
noncomputable def wf_Columns_shadeAt (cA : Nat → ClassId) (q0 q1 q2 : Nat) (i_many : Int) (i_heights : Nat → Int) (o : Int) : va_W := wd_Columns_shadeAt cA q0 q1 q2 i_many i_heights
noncomputable def f_Columns_shadeAt_5_b (i_many : Int) (i_heights : Nat → Int) (k5 : Int → Int → Int → Int → Option (Int)) (x1 : Int) (x2 : Int) (x3 : Int) (x4 : Int) : Option (Int) :=
  if zi_w i_many ≤ zi_w x4 then
    some x3
  else
    zg 12 i_heights x4 fun v1 =>
    zn (x4 - x1) fun v2 =>
    zn (zi_abs v2) fun v3 =>
    zn (x2 * v3) fun v4 =>
    zn (v1 - v4) fun v5 =>
    zn (zi_max x3 v5) fun v6 =>
    zn (x4 + 1) fun v7 =>
    k5 x1 x2 v6 v7
noncomputable def f_Columns_shadeAt_5 (i_many : Int) (i_heights : Nat → Int) : Nat → Int → Int → Int → Int → Option (Int)
  | 0 => fun _ _ _ _ => none
  | n + 1 => fun y0 y1 y2 y3 => f_Columns_shadeAt_5_b i_many i_heights (f_Columns_shadeAt_5 i_many i_heights n) y0 y1 y2 y3
noncomputable def f_Columns_shadeAt (x1 : Int) (x2 : Int) (i_many : Int) (i_heights : Nat → Int) : Option (Int) :=
  f_Columns_shadeAt_5 i_many i_heights zfu x1 x2 0 0
set_option maxHeartbeats 4000000 in
set_option maxRecDepth 100000 in
theorem c_Columns_shadeAt (l : Launch) (ev : zEv) (dC : Nat → ClassId) (dI : Nat → Nat → Nat) (cA : Nat → ClassId) (q0 q1 q2 : Nat) {x1 x2 : Int} {i_many : Int} {i_heights : Nat → Int} {out : Int} (hf : f_Columns_shadeAt x1 x2 i_many i_heights = some out) : xc_I l ev (dC, dI) vwCl (tyl cA) yX1_shadeAt w_Columns_shadeAt rm_Columns_shadeAt [.ref q0, .int (Int32.ofInt x1), .int (Int32.ofInt x2)] (wd_Columns_shadeAt cA q0 q1 q2 i_many i_heights) (wf_Columns_shadeAt cA q0 q1 q2 i_many i_heights out) out := by
  refine xv_startI (cc := cX1_shadeAt) (maxL := 5) (rt := .int) (by decide +kernel) rfl (Nat.le_of_ble_eq_true rfl) ?_
  intro p e s m args below meth c A Q H ls hx hb hml hts hown hK hA hP hD hS hl hE hret
  have hown : s.vm.findClass "HillSchool$Columns" = some m.cls := hown
  have hz : ∀ w ∈ zall, w.before args s = true := fun w h => hts w (List.mem_cons_of_mem _ h)
  have hl : lv_has ls 5 [(0, .ref q0), (1, .int (Int32.ofInt x1)), (2, .int (Int32.ofInt x2))] := hl
  have b_5 : ∀ (k5 : Int → Int → Int → Int → Option (Int)) (_ : ∀ (x1 : Int) (x2 : Int) (x3 : Int) (x4 : Int) (H : Heap) (locs : List Loc) (ls : Array Slot), k5 x1 x2 x3 x4 = some out → va_P (dC, dI) vwCl (wd_Columns_shadeAt cA q0 q1 q2 i_many i_heights) H → va_D A (wd_Columns_shadeAt cA q0 q1 q2 i_many i_heights) → va_S A s.heap H locs → lv_has ls 5 [(0, .ref q0), (1, .int (Int32.ofInt x1)), (2, .int (Int32.ofInt x2)), (3, .int (Int32.ofInt x3)), (4, .int (Int32.ofInt x4))] → W p l e rm_Columns_shadeAt s m args below meth c H locs 0 0 Q (F0 m 5 ls [])), ∀ (x1 : Int) (x2 : Int) (x3 : Int) (x4 : Int) (H : Heap) (locs : List Loc) (ls : Array Slot), f_Columns_shadeAt_5_b i_many i_heights k5 x1 x2 x3 x4 = some out → va_P (dC, dI) vwCl (wd_Columns_shadeAt cA q0 q1 q2 i_many i_heights) H → va_D A (wd_Columns_shadeAt cA q0 q1 q2 i_many i_heights) → va_S A s.heap H locs → lv_has ls 5 [(0, .ref q0), (1, .int (Int32.ofInt x1)), (2, .int (Int32.ofInt x2)), (3, .int (Int32.ofInt x3)), (4, .int (Int32.ofInt x4))] → W p l e rm_Columns_shadeAt s m args below meth c H locs 0 0 Q (F0 m 5 ls []) := by
    intro k5 ih5 x1 x2 x3 x4 H locs ls hf hP hD hS hl
    unfold f_Columns_shadeAt_5_b at hf
    refine lv_iload hx hb (zdt zkX1_shadeAt 5 rfl) (lv_at hl 4 rfl) ?_
    refine lv_aload_n hx hb (zdt zkX1_shadeAt 7 rfl) rfl (lv_at hl 0 rfl) ?_
    refine va_get (D := (dC, dI)) (ci := 1) (v := .int (Int32.ofInt i_many)) (C := RX1) (T := TX1) (N := 3) hx hb hz zi_X1 hown hK hP 0 rfl rfl 0 (by decide) (hz _ zw_143) (fun _ h9 => h9) rfl (zdt zkX1_shadeAt 8 rfl) ?_
    refine xi_icmp_ge (tgt := 42) hx hb (zdt zkX1_shadeAt 11 rfl) (by decide) hf (fun hf => ?_) (fun hf => ?_)
    · refine lv_iload_n hx hb (zdt zkX1_shadeAt 42 rfl) rfl (lv_at hl 3 rfl) ?_
      obtain rfl := Option.some.inj hf
      exact hret _ _ _ _ rfl (zdt zkX1_shadeAt 43 rfl) hP hD hS
    · refine lv_iload_n hx hb (zdt zkX1_shadeAt 14 rfl) rfl (lv_at hl 3 rfl) ?_
      refine lv_aload_n hx hb (zdt zkX1_shadeAt 15 rfl) rfl (lv_at hl 0 rfl) ?_
      refine va_get (D := (dC, dI)) (ci := 1) (v := .ref q1) (C := RX1) (T := TX1) (N := 3) hx hb hz zi_X1 hown hK hP 0 rfl rfl 1 (by decide) (hz _ zw_149) (fun _ h9 => h9) rfl (zdt zkX1_shadeAt 16 rfl) ?_
      refine lv_iload hx hb (zdt zkX1_shadeAt 19 rfl) (lv_at hl 4 rfl) ?_
      refine xi_iald hx hb hK hP 1 0 rfl rfl (zdt zkX1_shadeAt 21 rfl) hf (fun v1 hf => ?_)
      refine lv_iload_n hx hb (zdt zkX1_shadeAt 22 rfl) rfl (lv_at hl 2 rfl) ?_
      refine lv_iload hx hb (zdt zkX1_shadeAt 23 rfl) (lv_at hl 4 rfl) ?_
      refine lv_iload_n hx hb (zdt zkX1_shadeAt 25 rfl) rfl (lv_at hl 1 rfl) ?_
      refine xi_isub hx hb (zdt zkX1_shadeAt 26 rfl) hf (fun v2 hf => ?_)
      refine xi_mabs hx hb (hml.trans hl.1.symm) hown (hz _ zw_902) (hz _ zw_819) (hz _ zw_116) (hz _ zw_820) (Nat.le_of_ble_eq_true rfl) (Nat.le_of_ble_eq_true rfl) (Nat.zero_le _) (Nat.zero_le _) (zdt zkX1_shadeAt 27 rfl) hf (fun v3 hf => ?_)
      refine xi_imul hx hb (zdt zkX1_shadeAt 30 rfl) hf (fun v4 hf => ?_)
      refine xi_isub hx hb (zdt zkX1_shadeAt 31 rfl) hf (fun v5 hf => ?_)
      refine xi_mmax hx hb (hml.trans hl.1.symm) hown (hz _ zw_903) (hz _ zw_654) (hz _ zw_116) (hz _ zw_655) (Nat.le_of_ble_eq_true rfl) (Nat.le_of_ble_eq_true rfl) (Nat.zero_le _) (Nat.zero_le _) (zdt zkX1_shadeAt 32 rfl) hf (fun v6 hf => ?_)
      refine lv_istore_n (lv' := [(3, .int (Int32.ofInt v6)), (0, .ref q0), (1, .int (Int32.ofInt x1)), (2, .int (Int32.ofInt x2)), (4, .int (Int32.ofInt x4))]) hx hb (zdt zkX1_shadeAt 35 rfl) rfl hl (by decide) rfl (fun ls hl => ?_)
      refine xi_iinc hx hb (zdt zkX1_shadeAt 36 rfl) hl (k := 4) rfl (by decide) hf (fun v7 ls hl hf => ?_)
      have hl : lv_has ls 5 [(4, .int (Int32.ofInt v7)), (3, .int (Int32.ofInt v6)), (0, .ref q0), (1, .int (Int32.ofInt x1)), (2, .int (Int32.ofInt x2))] := hl
      refine lv_goto (tgt := 5) hx hb (zdt zkX1_shadeAt 39 rfl) (by decide) ?_
      exact ih5 _ _ _ _ _ _ _ hf hP hD hS (lv_sub hl [2, 3, 4, 1, 0] rfl)
  have l_5 : ∀ (n : Nat), ∀ (x1 : Int) (x2 : Int) (x3 : Int) (x4 : Int) (H : Heap) (locs : List Loc) (ls : Array Slot), f_Columns_shadeAt_5 i_many i_heights n x1 x2 x3 x4 = some out → va_P (dC, dI) vwCl (wd_Columns_shadeAt cA q0 q1 q2 i_many i_heights) H → va_D A (wd_Columns_shadeAt cA q0 q1 q2 i_many i_heights) → va_S A s.heap H locs → lv_has ls 5 [(0, .ref q0), (1, .int (Int32.ofInt x1)), (2, .int (Int32.ofInt x2)), (3, .int (Int32.ofInt x3)), (4, .int (Int32.ofInt x4))] → W p l e rm_Columns_shadeAt s m args below meth c H locs 0 0 Q (F0 m 5 ls []) := by
    intro n
    induction n with
    | zero => intro x1 x2 x3 x4 H locs ls hf hP hD hS hl; exact nomatch hf
    | succ n ih => intro x1 x2 x3 x4 H locs ls hf hP hD hS hl; exact b_5 (f_Columns_shadeAt_5 i_many i_heights n) ih x1 x2 x3 x4 H locs ls hf hP hD hS hl
  unfold f_Columns_shadeAt at hf
  refine lv_iconst (v := Int32.ofInt 0) hx hb (zdt zkX1_shadeAt 0 rfl) rfl ?_
  refine lv_istore_n (lv' := [(3, .int (Int32.ofInt 0)), (0, .ref q0), (1, .int (Int32.ofInt x1)), (2, .int (Int32.ofInt x2))]) hx hb (zdt zkX1_shadeAt 1 rfl) rfl hl (by decide) rfl (fun ls hl => ?_)
  refine lv_iconst (v := Int32.ofInt 0) hx hb (zdt zkX1_shadeAt 2 rfl) rfl ?_
  refine lv_istore (lv' := [(4, .int (Int32.ofInt 0)), (3, .int (Int32.ofInt 0)), (0, .ref q0), (1, .int (Int32.ofInt x1)), (2, .int (Int32.ofInt x2))]) hx hb (zdt zkX1_shadeAt 3 rfl) hl (by decide) rfl (fun ls hl => ?_)
  exact l_5  _ _ _ _ _ _ _ _ hf hP hD hS (lv_sub hl [2, 3, 4, 1, 0] rfl)
set_option maxRecDepth 100000 in
noncomputable def ztX2_shadeOf (p : Nat) : Option (Jvm.ClassFile.Instr × Nat) := bif Nat.ble 14 p then (bif Nat.ble 20 p then (bif Nat.ble 24 p then (bif Nat.ble 27 p then (bif Nat.ble 28 p then (bif Nat.beq p 28 then some (.ireturn, 1) else none) else (bif Nat.beq p 27 then some (.iconst 0, 1) else none)) else (bif Nat.beq p 24 then some (.goto 4, 3) else none)) else (bif Nat.ble 21 p then (bif Nat.beq p 21 then some (.invokevirtual 85, 3) else none) else (bif Nat.beq p 20 then some (.iaload, 1) else none))) else (bif Nat.ble 16 p then (bif Nat.ble 19 p then (bif Nat.beq p 19 then some (.iconst 1, 1) else none) else (bif Nat.beq p 16 then some (.getfield 46, 3) else none)) else (bif Nat.ble 15 p then (bif Nat.beq p 15 then some (.aload_n 0, 1) else none) else (bif Nat.beq p 14 then some (.iaload, 1) else none)))) else (bif Nat.ble 8 p then (bif Nat.ble 10 p then (bif Nat.ble 13 p then (bif Nat.beq p 13 then some (.iload_n 2, 1) else none) else (bif Nat.beq p 10 then some (.getfield 35, 3) else none)) else (bif Nat.ble 9 p then (bif Nat.beq p 9 then some (.aload_n 0, 1) else none) else (bif Nat.beq p 8 then some (.aload_n 1, 1) else none))) else (bif Nat.ble 2 p then (bif Nat.ble 5 p then (bif Nat.beq p 5 then some (.ifCond .eq 22, 3) else none) else (bif Nat.beq p 2 then some (.invokevirtual 82, 3) else none)) else (bif Nat.ble 1 p then (bif Nat.beq p 1 then some (.iload_n 2, 1) else none) else (bif Nat.beq p 0 then some (.aload_n 0, 1) else none))))
set_option maxRecDepth 100000 in
theorem zkX2_shadeOf : (zbig cX2_shadeOf.data.toList = 4637428410179833289355553024124873850133797947006587840223274685832234 ∧ cX2_shadeOf.data.toList.length = 29) ∧ zdk cX2_shadeOf 4637428410179833289355553024124873850133797947006587840223274685832234 29 ztX2_shadeOf 28 = true := by decide +kernel
theorem zw_187 : (Jvm.Cond.fieldLink "HillSchool$Hill" (35 : Nat) "HillSchool$Hill" "places" "[I") ∈ zall := zmemG (zmj_1 84 rfl) rfl
theorem zw_189 : (Jvm.Cond.fieldLink "HillSchool$Hill" (46 : Nat) "HillSchool$Hill" "terms" "[I") ∈ zall := zmemG (zmj_1 86 rfl) rfl
theorem zw_893 : (Jvm.Cond.code ({ cls := "HillSchool$Hill", name := "shadeOf", desc := "(LHillSchool$Columns;I)I" } : Jvm.MethodName) prog_4_method_7_code (3 : Nat) (Option.some Jvm.ClassFile.FieldType.int)) ∈ zall := zmemG (zmj_4 70 rfl) rfl
theorem zw_894 : (Jvm.Cond.methodLink "HillSchool$Hill" (82 : Nat) ({ cls := "HillSchool$Hill", name := "hasParish", desc := "(I)Z" } : Jvm.MethodName)) ∈ zall := zmemG (zmj_4 71 rfl) rfl
theorem zw_895 : (Jvm.Cond.instanceMethod ({ cls := "HillSchool$Hill", name := "hasParish", desc := "(I)Z" } : Jvm.MethodName)) ∈ zall := zmemG (zmj_4 72 rfl) rfl
theorem zw_896 : (Jvm.Cond.selects "HillSchool$Hill" ({ cls := "HillSchool$Hill", name := "hasParish", desc := "(I)Z" } : Jvm.MethodName) ({ cls := "HillSchool$Hill", name := "hasParish", desc := "(I)Z" } : Jvm.MethodName)) ∈ zall := zmemG (zmj_4 73 rfl) rfl
theorem zw_898 : (Jvm.Cond.methodLink "HillSchool$Hill" (85 : Nat) ({ cls := "HillSchool$Columns", name := "shadeAt", desc := "(II)I" } : Jvm.MethodName)) ∈ zall := zmemG (zmj_4 75 rfl) rfl
theorem zw_899 : (Jvm.Cond.instanceMethod ({ cls := "HillSchool$Columns", name := "shadeAt", desc := "(II)I" } : Jvm.MethodName)) ∈ zall := zmemG (zmj_4 76 rfl) rfl
theorem zw_900 : (Jvm.Cond.selects "HillSchool$Columns" ({ cls := "HillSchool$Columns", name := "shadeAt", desc := "(II)I" } : Jvm.MethodName) ({ cls := "HillSchool$Columns", name := "shadeAt", desc := "(II)I" } : Jvm.MethodName)) ∈ zall := zmemG (zmj_4 77 rfl) rfl
noncomputable abbrev w_Hill_shadeOf : List Cond := .code yX2_shadeOf cX2_shadeOf 3 (some .int) :: zall
noncomputable abbrev rm_Hill_shadeOf : Room := { frames := 3, cells := 0, slots := 0, locals := 84 }
theorem hd_Hill_shadeOf : yX2_shadeOf.cls = "HillSchool$Hill" ∧ yX2_shadeOf.cls ≠ "java/lang/invoke/MethodHandle" ∧ yX2_shadeOf.cls ≠ "java/lang/invoke/VarHandle" ∧ (parseMethodDescriptor yX2_shadeOf.desc).map (fun d => d.parameters.length) = some 2 := by decide +kernel
noncomputable def wd_Hill_shadeOf (cA : Nat → ClassId) (q0 q1 q2 q3 q4 q5 q6 q7 q8 q9 q10 q11 q12 : Nat) (u0 u1 u2 u3 : Int) (i_parishes : Int) (i_a1_many : Int) (i_places : Nat → Int) (i_terms : Nat → Int) (i_a1_heights : Nat → Int)  : va_W := [(q0, .inr (2, [.ref q1, .int (Int32.ofInt u0), .ref q2, .ref q3, .ref q4, .int (Int32.ofInt i_parishes), .ref q5, .ref q6, .ref q7, .int (Int32.ofInt u1), .ref q8, .ref q9, .int (Int32.ofInt u2), .int (Int32.ofInt u3)])), (q10, .inr (1, [.int (Int32.ofInt i_a1_many), .ref q11, .ref q12])), (q5, .inl (cA 0, 6, .inl (za i_places))), (q6, .inl (cA 0, 4, .inl (za i_terms))), (q11, .inl (cA 0, 12, .inl (za i_a1_heights)))]
noncomputable def wf_Hill_shadeOf (cA : Nat → ClassId) (q0 q1 q2 q3 q4 q5 q6 q7 q8 q9 q10 q11 q12 : Nat) (u0 u1 u2 u3 : Int) (i_parishes : Int) (i_a1_many : Int) (i_places : Nat → Int) (i_terms : Nat → Int) (i_a1_heights : Nat → Int) (o : Int) : va_W := wd_Hill_shadeOf cA q0 q1 q2 q3 q4 q5 q6 q7 q8 q9 q10 q11 q12 u0 u1 u2 u3 i_parishes i_a1_many i_places i_terms i_a1_heights
noncomputable def f_Hill_shadeOf (x2 : Int) (i_parishes : Int) (i_a1_many : Int) (i_places : Nat → Int) (i_terms : Nat → Int) (i_a1_heights : Nat → Int) : Option (Int) :=
  zd1 (f_Hill_hasParish x2 i_parishes) fun v1 =>
  if zi_w v1 = 0 then
    some 0
  else
    zg 6 i_places x2 fun v2 =>
    zg 4 i_terms 1 fun v3 =>
    zd1 (f_Columns_shadeAt v2 v3 i_a1_many i_a1_heights) fun v4 =>
    some v4
set_option maxHeartbeats 4000000 in
set_option maxRecDepth 100000 in
theorem c_Hill_shadeOf (l : Launch) (ev : zEv) (dC : Nat → ClassId) (dI : Nat → Nat → Nat) (cA : Nat → ClassId) (q0 q1 q2 q3 q4 q5 q6 q7 q8 q9 q10 q11 q12 : Nat) (u0 u1 u2 u3 : Int) {x2 : Int} {i_parishes : Int} {i_a1_many : Int} {i_places : Nat → Int} {i_terms : Nat → Int} {i_a1_heights : Nat → Int} {out : Int} (hf : f_Hill_shadeOf x2 i_parishes i_a1_many i_places i_terms i_a1_heights = some out) : xc_I l ev (dC, dI) vwCl (tyl cA) yX2_shadeOf w_Hill_shadeOf rm_Hill_shadeOf [.ref q0, .ref q10, .int (Int32.ofInt x2)] (wd_Hill_shadeOf cA q0 q1 q2 q3 q4 q5 q6 q7 q8 q9 q10 q11 q12 u0 u1 u2 u3 i_parishes i_a1_many i_places i_terms i_a1_heights) (wf_Hill_shadeOf cA q0 q1 q2 q3 q4 q5 q6 q7 q8 q9 q10 q11 q12 u0 u1 u2 u3 i_parishes i_a1_many i_places i_terms i_a1_heights out) out := by
  refine xv_startI (cc := cX2_shadeOf) (maxL := 3) (rt := .int) (by decide +kernel) rfl (Nat.le_of_ble_eq_true rfl) ?_
  intro p e s m args below meth c A Q H ls hx hb hml hts hown hK hA hP hD hS hl hE hret
  have hown : s.vm.findClass "HillSchool$Hill" = some m.cls := hown
  have hz : ∀ w ∈ zall, w.before args s = true := fun w h => hts w (List.mem_cons_of_mem _ h)
  have hl : lv_has ls 3 [(0, .ref q0), (1, .ref q10), (2, .int (Int32.ofInt x2))] := hl
  unfold f_Hill_shadeOf at hf
  refine lv_aload_n hx hb (zdt zkX2_shadeOf 0 rfl) rfl (lv_at hl 0 rfl) ?_
  refine lv_iload_n hx hb (zdt zkX2_shadeOf 1 rfl) rfl (lv_at hl 2 rfl) ?_
  refine xe_d1 hf (fun v1 hg hf => ?_)
  have hC : ([0] : List Nat).map (fun i => (wd_Hill_shadeOf cA q0 q1 q2 q3 q4 q5 q6 q7 q8 q9 q10 q11 q12 u0 u1 u2 u3 i_parishes i_a1_many i_places i_terms i_a1_heights)[i]?) = (wd_Hill_hasParish cA q0 q1 q2 q3 q4 q5 q6 q7 q8 q9 u0 u1 u2 u3 i_parishes).map some := rfl
  refine xv_afterI (ws' := (wd_Hill_shadeOf cA q0 q1 q2 q3 q4 q5 q6 q7 q8 q9 q10 q11 q12 u0 u1 u2 u3 i_parishes i_a1_many i_places i_terms i_a1_heights)) (isC := [0]) (ps := [some 0, none, none, none, none]) (va_runV (As := [.int (Int32.ofInt x2)]) (rest := []) ⟨hx, hb, hml, hown, hts⟩ (c_Hill_hasParish l ev dC dI cA q0 q1 q2 q3 q4 q5 q6 q7 q8 q9 u0 u1 u2 u3 hg H.size) (cwV 1 hts (zgV zw_894 zw_895 zw_896 zw_105 zw_897) rfl rfl rfl hd_Hill_hasParish ⟨Nat.le_of_ble_eq_true rfl, Nat.le_of_ble_eq_true rfl⟩) (xv_preV (T := TX2) (N := 14) hE hA hS hK hP hD (isC := [0]) (by decide +kernel) hC (q0 := 0) (ci := 2) rfl rfl) rfl rfl hl.1 rfl (lv_room (Nat.le_of_ble_eq_true rfl)) (zdt zkX2_shadeOf 2 rfl) ⟨Nat.le_refl _, Nat.le_refl _⟩) hP hD hS hA (by decide +kernel) rfl hC rfl rfl (fun H locs hP hD hS => ?_)
  refine xi_if_eq (tgt := 27) hx hb (zdt zkX2_shadeOf 5 rfl) (by decide) hf (fun hf => ?_) (fun hf => ?_)
  · refine lv_iconst (v := Int32.ofInt 0) hx hb (zdt zkX2_shadeOf 27 rfl) rfl ?_
    obtain rfl := Option.some.inj hf
    exact hret _ _ _ _ rfl (zdt zkX2_shadeOf 28 rfl) hP hD hS
  · refine lv_aload_n hx hb (zdt zkX2_shadeOf 8 rfl) rfl (lv_at hl 1 rfl) ?_
    refine lv_aload_n hx hb (zdt zkX2_shadeOf 9 rfl) rfl (lv_at hl 0 rfl) ?_
    refine va_get (D := (dC, dI)) (ci := 2) (v := .ref q5) (C := RX2) (T := TX2) (N := 14) hx hb hz zi_X2 hown hK hP 0 rfl rfl 6 (by decide) (hz _ zw_187) (fun _ h9 => h9) rfl (zdt zkX2_shadeOf 10 rfl) ?_
    refine lv_iload_n hx hb (zdt zkX2_shadeOf 13 rfl) rfl (lv_at hl 2 rfl) ?_
    refine xi_iald hx hb hK hP 2 0 rfl rfl (zdt zkX2_shadeOf 14 rfl) hf (fun v2 hf => ?_)
    refine lv_aload_n hx hb (zdt zkX2_shadeOf 15 rfl) rfl (lv_at hl 0 rfl) ?_
    refine va_get (D := (dC, dI)) (ci := 2) (v := .ref q6) (C := RX2) (T := TX2) (N := 14) hx hb hz zi_X2 hown hK hP 0 rfl rfl 7 (by decide) (hz _ zw_189) (fun _ h9 => h9) rfl (zdt zkX2_shadeOf 16 rfl) ?_
    refine lv_iconst (v := Int32.ofInt 1) hx hb (zdt zkX2_shadeOf 19 rfl) rfl ?_
    refine xi_iald hx hb hK hP 3 0 rfl rfl (zdt zkX2_shadeOf 20 rfl) hf (fun v3 hf => ?_)
    refine xe_d1 hf (fun v4 hg hf => ?_)
    have hC : ([1, 4] : List Nat).map (fun i => (wd_Hill_shadeOf cA q0 q1 q2 q3 q4 q5 q6 q7 q8 q9 q10 q11 q12 u0 u1 u2 u3 i_parishes i_a1_many i_places i_terms i_a1_heights)[i]?) = (wd_Columns_shadeAt cA q10 q11 q12 i_a1_many i_a1_heights).map some := rfl
    refine xv_afterI (ws' := (wd_Hill_shadeOf cA q0 q1 q2 q3 q4 q5 q6 q7 q8 q9 q10 q11 q12 u0 u1 u2 u3 i_parishes i_a1_many i_places i_terms i_a1_heights)) (isC := [1, 4]) (ps := [none, some 0, none, none, some 1]) (va_runV (As := [.int (Int32.ofInt v2), .int (Int32.ofInt v3)]) (rest := []) ⟨hx, hb, hml, hown, hts⟩ (c_Columns_shadeAt l ev dC dI cA q10 q11 q12 hg H.size) (cwV 2 hts (zgV zw_898 zw_899 zw_900 zw_106 zw_901) rfl rfl rfl hd_Columns_shadeAt ⟨Nat.le_of_ble_eq_true rfl, Nat.le_of_ble_eq_true rfl⟩) (xv_preV (T := TX1) (N := 3) hE hA hS hK hP hD (isC := [1, 4]) (by decide +kernel) hC (q0 := 1) (ci := 1) rfl rfl) rfl rfl hl.1 rfl (lv_room (Nat.le_of_ble_eq_true rfl)) (zdt zkX2_shadeOf 21 rfl) ⟨Nat.le_refl _, Nat.le_refl _⟩) hP hD hS hA (by decide +kernel) rfl hC rfl rfl (fun H locs hP hD hS => ?_)
    refine lv_goto (tgt := 28) hx hb (zdt zkX2_shadeOf 24 rfl) (by decide) ?_
    obtain rfl := Option.some.inj hf
    exact hret _ _ _ _ rfl (zdt zkX2_shadeOf 28 rfl) hP hD hS
set_option maxRecDepth 100000 in
noncomputable def ztX2_shades (p : Nat) : Option (Jvm.ClassFile.Instr × Nat) := bif Nat.ble 13 p then (bif Nat.ble 20 p then (bif Nat.ble 24 p then (bif Nat.ble 27 p then (bif Nat.ble 28 p then (bif Nat.beq p 28 then some (.ireturn, 1) else none) else (bif Nat.beq p 27 then some (.iload_n 2, 1) else none)) else (bif Nat.beq p 24 then some (.goto (-20), 3) else none)) else (bif Nat.ble 21 p then (bif Nat.beq p 21 then some (.iinc 3 1, 3) else none) else (bif Nat.beq p 20 then some (.istore_n 2, 1) else none))) else (bif Nat.ble 15 p then (bif Nat.ble 16 p then (bif Nat.ble 19 p then (bif Nat.beq p 19 then some (.iadd, 1) else none) else (bif Nat.beq p 16 then some (.invokevirtual 89, 3) else none)) else (bif Nat.beq p 15 then some (.iload_n 3, 1) else none)) else (bif Nat.ble 14 p then (bif Nat.beq p 14 then some (.aload_n 1, 1) else none) else (bif Nat.beq p 13 then some (.aload_n 0, 1) else none)))) else (bif Nat.ble 4 p then (bif Nat.ble 6 p then (bif Nat.ble 9 p then (bif Nat.ble 12 p then (bif Nat.beq p 12 then some (.iload_n 2, 1) else none) else (bif Nat.beq p 9 then some (.if_icmp .ge 18, 3) else none)) else (bif Nat.beq p 6 then some (.getfield 32, 3) else none)) else (bif Nat.ble 5 p then (bif Nat.beq p 5 then some (.aload_n 0, 1) else none) else (bif Nat.beq p 4 then some (.iload_n 3, 1) else none))) else (bif Nat.ble 2 p then (bif Nat.ble 3 p then (bif Nat.beq p 3 then some (.istore_n 3, 1) else none) else (bif Nat.beq p 2 then some (.iconst 0, 1) else none)) else (bif Nat.ble 1 p then (bif Nat.beq p 1 then some (.istore_n 2, 1) else none) else (bif Nat.beq p 0 then some (.iconst 0, 1) else none))))
set_option maxRecDepth 100000 in
theorem zkX2_shades : (zbig cX2_shades.data.toList = 4640157066503013729667184136766443598348425078788353237488270787689731 ∧ cX2_shades.data.toList.length = 29) ∧ zdk cX2_shades 4640157066503013729667184136766443598348425078788353237488270787689731 29 ztX2_shades 28 = true := by decide +kernel
theorem zw_889 : (Jvm.Cond.code ({ cls := "HillSchool$Hill", name := "shades", desc := "(LHillSchool$Columns;)I" } : Jvm.MethodName) prog_4_method_8_code (4 : Nat) (Option.some Jvm.ClassFile.FieldType.int)) ∈ zall := zmemG (zmj_4 66 rfl) rfl
theorem zw_890 : (Jvm.Cond.methodLink "HillSchool$Hill" (89 : Nat) ({ cls := "HillSchool$Hill", name := "shadeOf", desc := "(LHillSchool$Columns;I)I" } : Jvm.MethodName)) ∈ zall := zmemG (zmj_4 67 rfl) rfl
theorem zw_891 : (Jvm.Cond.instanceMethod ({ cls := "HillSchool$Hill", name := "shadeOf", desc := "(LHillSchool$Columns;I)I" } : Jvm.MethodName)) ∈ zall := zmemG (zmj_4 68 rfl) rfl
theorem zw_892 : (Jvm.Cond.selects "HillSchool$Hill" ({ cls := "HillSchool$Hill", name := "shadeOf", desc := "(LHillSchool$Columns;I)I" } : Jvm.MethodName) ({ cls := "HillSchool$Hill", name := "shadeOf", desc := "(LHillSchool$Columns;I)I" } : Jvm.MethodName)) ∈ zall := zmemG (zmj_4 69 rfl) rfl
noncomputable abbrev w_Hill_shades : List Cond := .code yX2_shades cX2_shades 4 (some .int) :: zall
noncomputable abbrev rm_Hill_shades : Room := { frames := 4, cells := 0, slots := 0, locals := 106 }
theorem hd_Hill_shades : yX2_shades.cls = "HillSchool$Hill" ∧ yX2_shades.cls ≠ "java/lang/invoke/MethodHandle" ∧ yX2_shades.cls ≠ "java/lang/invoke/VarHandle" ∧ (parseMethodDescriptor yX2_shades.desc).map (fun d => d.parameters.length) = some 1 := by decide +kernel
noncomputable def wd_Hill_shades (cA : Nat → ClassId) (q0 q1 q2 q3 q4 q5 q6 q7 q8 q9 q10 q11 q12 : Nat) (u0 u1 u2 u3 : Int) (i_parishes : Int) (i_a1_many : Int) (i_places : Nat → Int) (i_terms : Nat → Int) (i_a1_heights : Nat → Int)  : va_W := [(q0, .inr (2, [.ref q1, .int (Int32.ofInt u0), .ref q2, .ref q3, .ref q4, .int (Int32.ofInt i_parishes), .ref q5, .ref q6, .ref q7, .int (Int32.ofInt u1), .ref q8, .ref q9, .int (Int32.ofInt u2), .int (Int32.ofInt u3)])), (q10, .inr (1, [.int (Int32.ofInt i_a1_many), .ref q11, .ref q12])), (q5, .inl (cA 0, 6, .inl (za i_places))), (q6, .inl (cA 0, 4, .inl (za i_terms))), (q11, .inl (cA 0, 12, .inl (za i_a1_heights)))]
noncomputable def wf_Hill_shades (cA : Nat → ClassId) (q0 q1 q2 q3 q4 q5 q6 q7 q8 q9 q10 q11 q12 : Nat) (u0 u1 u2 u3 : Int) (i_parishes : Int) (i_a1_many : Int) (i_places : Nat → Int) (i_terms : Nat → Int) (i_a1_heights : Nat → Int) (o : Int) : va_W := wd_Hill_shades cA q0 q1 q2 q3 q4 q5 q6 q7 q8 q9 q10 q11 q12 u0 u1 u2 u3 i_parishes i_a1_many i_places i_terms i_a1_heights
noncomputable def f_Hill_shades_4_b (i_parishes : Int) (i_a1_many : Int) (i_places : Nat → Int) (i_terms : Nat → Int) (i_a1_heights : Nat → Int) (k4 : Int → Int → Option (Int)) (x2 : Int) (x3 : Int) : Option (Int) :=
  if zi_w i_parishes ≤ zi_w x3 then
    some x2
  else
    zd1 (f_Hill_shadeOf x3 i_parishes i_a1_many i_places i_terms i_a1_heights) fun v1 =>
    zn (x2 + v1) fun v2 =>
    zn (x3 + 1) fun v3 =>
    k4 v2 v3
noncomputable def f_Hill_shades_4 (i_parishes : Int) (i_a1_many : Int) (i_places : Nat → Int) (i_terms : Nat → Int) (i_a1_heights : Nat → Int) : Nat → Int → Int → Option (Int)
  | 0 => fun _ _ => none
  | n + 1 => fun y0 y1 => f_Hill_shades_4_b i_parishes i_a1_many i_places i_terms i_a1_heights (f_Hill_shades_4 i_parishes i_a1_many i_places i_terms i_a1_heights n) y0 y1
noncomputable def f_Hill_shades (i_parishes : Int) (i_a1_many : Int) (i_places : Nat → Int) (i_terms : Nat → Int) (i_a1_heights : Nat → Int) : Option (Int) :=
  f_Hill_shades_4 i_parishes i_a1_many i_places i_terms i_a1_heights zfu 0 0
set_option maxHeartbeats 4000000 in
set_option maxRecDepth 100000 in
theorem c_Hill_shades (l : Launch) (ev : zEv) (dC : Nat → ClassId) (dI : Nat → Nat → Nat) (cA : Nat → ClassId) (q0 q1 q2 q3 q4 q5 q6 q7 q8 q9 q10 q11 q12 : Nat) (u0 u1 u2 u3 : Int) {i_parishes : Int} {i_a1_many : Int} {i_places : Nat → Int} {i_terms : Nat → Int} {i_a1_heights : Nat → Int} {out : Int} (hf : f_Hill_shades i_parishes i_a1_many i_places i_terms i_a1_heights = some out) : xc_I l ev (dC, dI) vwCl (tyl cA) yX2_shades w_Hill_shades rm_Hill_shades [.ref q0, .ref q10] (wd_Hill_shades cA q0 q1 q2 q3 q4 q5 q6 q7 q8 q9 q10 q11 q12 u0 u1 u2 u3 i_parishes i_a1_many i_places i_terms i_a1_heights) (wf_Hill_shades cA q0 q1 q2 q3 q4 q5 q6 q7 q8 q9 q10 q11 q12 u0 u1 u2 u3 i_parishes i_a1_many i_places i_terms i_a1_heights out) out := by
  refine xv_startI (cc := cX2_shades) (maxL := 4) (rt := .int) (by decide +kernel) rfl (Nat.le_of_ble_eq_true rfl) ?_
  intro p e s m args below meth c A Q H ls hx hb hml hts hown hK hA hP hD hS hl hE hret
  have hown : s.vm.findClass "HillSchool$Hill" = some m.cls := hown
  have hz : ∀ w ∈ zall, w.before args s = true := fun w h => hts w (List.mem_cons_of_mem _ h)
  have hl : lv_has ls 4 [(0, .ref q0), (1, .ref q10)] := hl
  have b_4 : ∀ (k4 : Int → Int → Option (Int)) (_ : ∀ (x2 : Int) (x3 : Int) (H : Heap) (locs : List Loc) (ls : Array Slot), k4 x2 x3 = some out → va_P (dC, dI) vwCl (wd_Hill_shades cA q0 q1 q2 q3 q4 q5 q6 q7 q8 q9 q10 q11 q12 u0 u1 u2 u3 i_parishes i_a1_many i_places i_terms i_a1_heights) H → va_D A (wd_Hill_shades cA q0 q1 q2 q3 q4 q5 q6 q7 q8 q9 q10 q11 q12 u0 u1 u2 u3 i_parishes i_a1_many i_places i_terms i_a1_heights) → va_S A s.heap H locs → lv_has ls 4 [(0, .ref q0), (1, .ref q10), (2, .int (Int32.ofInt x2)), (3, .int (Int32.ofInt x3))] → W p l e rm_Hill_shades s m args below meth c H locs 0 0 Q (F0 m 4 ls [])), ∀ (x2 : Int) (x3 : Int) (H : Heap) (locs : List Loc) (ls : Array Slot), f_Hill_shades_4_b i_parishes i_a1_many i_places i_terms i_a1_heights k4 x2 x3 = some out → va_P (dC, dI) vwCl (wd_Hill_shades cA q0 q1 q2 q3 q4 q5 q6 q7 q8 q9 q10 q11 q12 u0 u1 u2 u3 i_parishes i_a1_many i_places i_terms i_a1_heights) H → va_D A (wd_Hill_shades cA q0 q1 q2 q3 q4 q5 q6 q7 q8 q9 q10 q11 q12 u0 u1 u2 u3 i_parishes i_a1_many i_places i_terms i_a1_heights) → va_S A s.heap H locs → lv_has ls 4 [(0, .ref q0), (1, .ref q10), (2, .int (Int32.ofInt x2)), (3, .int (Int32.ofInt x3))] → W p l e rm_Hill_shades s m args below meth c H locs 0 0 Q (F0 m 4 ls []) := by
    intro k4 ih4 x2 x3 H locs ls hf hP hD hS hl
    unfold f_Hill_shades_4_b at hf
    refine lv_iload_n hx hb (zdt zkX2_shades 4 rfl) rfl (lv_at hl 3 rfl) ?_
    refine lv_aload_n hx hb (zdt zkX2_shades 5 rfl) rfl (lv_at hl 0 rfl) ?_
    refine va_get (D := (dC, dI)) (ci := 2) (v := .int (Int32.ofInt i_parishes)) (C := RX2) (T := TX2) (N := 14) hx hb hz zi_X2 hown hK hP 0 rfl rfl 5 (by decide) (hz _ zw_185) (fun _ h9 => h9) rfl (zdt zkX2_shades 6 rfl) ?_
    refine xi_icmp_ge (tgt := 27) hx hb (zdt zkX2_shades 9 rfl) (by decide) hf (fun hf => ?_) (fun hf => ?_)
    · refine lv_iload_n hx hb (zdt zkX2_shades 27 rfl) rfl (lv_at hl 2 rfl) ?_
      obtain rfl := Option.some.inj hf
      exact hret _ _ _ _ rfl (zdt zkX2_shades 28 rfl) hP hD hS
    · refine lv_iload_n hx hb (zdt zkX2_shades 12 rfl) rfl (lv_at hl 2 rfl) ?_
      refine lv_aload_n hx hb (zdt zkX2_shades 13 rfl) rfl (lv_at hl 0 rfl) ?_
      refine lv_aload_n hx hb (zdt zkX2_shades 14 rfl) rfl (lv_at hl 1 rfl) ?_
      refine lv_iload_n hx hb (zdt zkX2_shades 15 rfl) rfl (lv_at hl 3 rfl) ?_
      refine xe_d1 hf (fun v1 hg hf => ?_)
      have hC : ([0, 1, 2, 3, 4] : List Nat).map (fun i => (wd_Hill_shades cA q0 q1 q2 q3 q4 q5 q6 q7 q8 q9 q10 q11 q12 u0 u1 u2 u3 i_parishes i_a1_many i_places i_terms i_a1_heights)[i]?) = (wd_Hill_shadeOf cA q0 q1 q2 q3 q4 q5 q6 q7 q8 q9 q10 q11 q12 u0 u1 u2 u3 i_parishes i_a1_many i_places i_terms i_a1_heights).map some := rfl
      refine xv_afterI (ws' := (wd_Hill_shades cA q0 q1 q2 q3 q4 q5 q6 q7 q8 q9 q10 q11 q12 u0 u1 u2 u3 i_parishes i_a1_many i_places i_terms i_a1_heights)) (isC := [0, 1, 2, 3, 4]) (ps := [some 0, some 1, some 2, some 3, some 4]) (va_runV (As := [.ref q10, .int (Int32.ofInt x3)]) (rest := [.int (Int32.ofInt x2)]) ⟨hx, hb, hml, hown, hts⟩ (c_Hill_shadeOf l ev dC dI cA q0 q1 q2 q3 q4 q5 q6 q7 q8 q9 q10 q11 q12 u0 u1 u2 u3 hg H.size) (cwV 2 hts (zgV zw_890 zw_891 zw_892 zw_105 zw_893) rfl rfl rfl hd_Hill_shadeOf ⟨Nat.le_of_ble_eq_true rfl, Nat.le_of_ble_eq_true rfl⟩) (xv_preV (T := TX2) (N := 14) hE hA hS hK hP hD (isC := [0, 1, 2, 3, 4]) (by decide +kernel) hC (q0 := 0) (ci := 2) rfl rfl) rfl rfl hl.1 rfl (lv_room (Nat.le_of_ble_eq_true rfl)) (zdt zkX2_shades 16 rfl) ⟨Nat.le_refl _, Nat.le_refl _⟩) hP hD hS hA (by decide +kernel) rfl hC rfl rfl (fun H locs hP hD hS => ?_)
      refine xi_iadd hx hb (zdt zkX2_shades 19 rfl) hf (fun v2 hf => ?_)
      refine lv_istore_n (lv' := [(2, .int (Int32.ofInt v2)), (0, .ref q0), (1, .ref q10), (3, .int (Int32.ofInt x3))]) hx hb (zdt zkX2_shades 20 rfl) rfl hl (by decide) rfl (fun ls hl => ?_)
      refine xi_iinc hx hb (zdt zkX2_shades 21 rfl) hl (k := 3) rfl (by decide) hf (fun v3 ls hl hf => ?_)
      have hl : lv_has ls 4 [(3, .int (Int32.ofInt v3)), (2, .int (Int32.ofInt v2)), (0, .ref q0), (1, .ref q10)] := hl
      refine lv_goto (tgt := 4) hx hb (zdt zkX2_shades 24 rfl) (by decide) ?_
      exact ih4 _ _ _ _ _ hf hP hD hS (lv_sub hl [2, 3, 1, 0] rfl)
  have l_4 : ∀ (n : Nat), ∀ (x2 : Int) (x3 : Int) (H : Heap) (locs : List Loc) (ls : Array Slot), f_Hill_shades_4 i_parishes i_a1_many i_places i_terms i_a1_heights n x2 x3 = some out → va_P (dC, dI) vwCl (wd_Hill_shades cA q0 q1 q2 q3 q4 q5 q6 q7 q8 q9 q10 q11 q12 u0 u1 u2 u3 i_parishes i_a1_many i_places i_terms i_a1_heights) H → va_D A (wd_Hill_shades cA q0 q1 q2 q3 q4 q5 q6 q7 q8 q9 q10 q11 q12 u0 u1 u2 u3 i_parishes i_a1_many i_places i_terms i_a1_heights) → va_S A s.heap H locs → lv_has ls 4 [(0, .ref q0), (1, .ref q10), (2, .int (Int32.ofInt x2)), (3, .int (Int32.ofInt x3))] → W p l e rm_Hill_shades s m args below meth c H locs 0 0 Q (F0 m 4 ls []) := by
    intro n
    induction n with
    | zero => intro x2 x3 H locs ls hf hP hD hS hl; exact nomatch hf
    | succ n ih => intro x2 x3 H locs ls hf hP hD hS hl; exact b_4 (f_Hill_shades_4 i_parishes i_a1_many i_places i_terms i_a1_heights n) ih x2 x3 H locs ls hf hP hD hS hl
  unfold f_Hill_shades at hf
  refine lv_iconst (v := Int32.ofInt 0) hx hb (zdt zkX2_shades 0 rfl) rfl ?_
  refine lv_istore_n (lv' := [(2, .int (Int32.ofInt 0)), (0, .ref q0), (1, .ref q10)]) hx hb (zdt zkX2_shades 1 rfl) rfl hl (by decide) rfl (fun ls hl => ?_)
  refine lv_iconst (v := Int32.ofInt 0) hx hb (zdt zkX2_shades 2 rfl) rfl ?_
  refine lv_istore_n (lv' := [(3, .int (Int32.ofInt 0)), (2, .int (Int32.ofInt 0)), (0, .ref q0), (1, .ref q10)]) hx hb (zdt zkX2_shades 3 rfl) rfl hl (by decide) rfl (fun ls hl => ?_)
  exact l_4  _ _ _ _ _ _ hf hP hD hS (lv_sub hl [2, 3, 1, 0] rfl)
set_option maxRecDepth 100000 in
noncomputable def ztX10_shade (p : Nat) : Option (Jvm.ClassFile.Instr × Nat) := bif Nat.ble 24 p then (bif Nat.ble 36 p then (bif Nat.ble 43 p then (bif Nat.ble 49 p then (bif Nat.ble 50 p then (bif Nat.beq p 50 then some (.ireturn, 1) else none) else (bif Nat.beq p 49 then some (.iconst (-1), 1) else none)) else (bif Nat.ble 46 p then (bif Nat.beq p 46 then some (.goto 4, 3) else none) else (bif Nat.beq p 43 then some (.invokevirtual 233, 3) else none))) else (bif Nat.ble 39 p then (bif Nat.ble 42 p then (bif Nat.beq p 42 then some (.iload_n 1, 1) else none) else (bif Nat.beq p 39 then some (.getfield 99, 3) else none)) else (bif Nat.beq p 36 then some (.getfield 10, 3) else none))) else (bif Nat.ble 31 p then (bif Nat.ble 32 p then (bif Nat.ble 35 p then (bif Nat.beq p 35 then some (.aload_n 0, 1) else none) else (bif Nat.beq p 32 then some (.getfield 10, 3) else none)) else (bif Nat.beq p 31 then some (.aload_n 0, 1) else none)) else (bif Nat.ble 25 p then (bif Nat.ble 28 p then (bif Nat.beq p 28 then some (.ifCond .eq 21, 3) else none) else (bif Nat.beq p 25 then some (.invokevirtual 230, 3) else none)) else (bif Nat.beq p 24 then some (.iload_n 1, 1) else none)))) else (bif Nat.ble 10 p then (bif Nat.ble 19 p then (bif Nat.ble 20 p then (bif Nat.ble 21 p then (bif Nat.beq p 21 then some (.getfield 10, 3) else none) else (bif Nat.beq p 20 then some (.aload_n 0, 1) else none)) else (bif Nat.beq p 19 then some (.ireturn, 1) else none)) else (bif Nat.ble 13 p then (bif Nat.ble 16 p then (bif Nat.beq p 16 then some (.invokevirtual 226, 3) else none) else (bif Nat.beq p 13 then some (.getfield 99, 3) else none)) else (bif Nat.beq p 10 then some (.getfield 10, 3) else none))) else (bif Nat.ble 5 p then (bif Nat.ble 6 p then (bif Nat.ble 9 p then (bif Nat.beq p 9 then some (.aload_n 0, 1) else none) else (bif Nat.beq p 6 then some (.getfield 10, 3) else none)) else (bif Nat.beq p 5 then some (.aload_n 0, 1) else none)) else (bif Nat.ble 1 p then (bif Nat.ble 2 p then (bif Nat.beq p 2 then some (.if_icmp .ne 18, 3) else none) else (bif Nat.beq p 1 then some (.iconst (-1), 1) else none)) else (bif Nat.beq p 0 then some (.iload_n 1, 1) else none))))
set_option maxRecDepth 100000 in
theorem zkX10_shade : (zbig cX10_shade.data.toList = 444167310567097726418595249301860225224092266985815542725266015450552841761219197205340616902755432708247700333597992944155 ∧ cX10_shade.data.toList.length = 51) ∧ zdk cX10_shade 444167310567097726418595249301860225224092266985815542725266015450552841761219197205340616902755432708247700333597992944155 51 ztX10_shade 50 = true := by decide +kernel
theorem zw_885 : (Jvm.Cond.code ({ cls := "HillSchool", name := "shade", desc := "(I)I" } : Jvm.MethodName) prog_1_method_25_code (2 : Nat) (Option.some Jvm.ClassFile.FieldType.int)) ∈ zall := zmemG (zmj_4 62 rfl) rfl
theorem zw_886 : (Jvm.Cond.methodLink "HillSchool" (226 : Nat) ({ cls := "HillSchool$Hill", name := "shades", desc := "(LHillSchool$Columns;)I" } : Jvm.MethodName)) ∈ zall := zmemG (zmj_4 63 rfl) rfl
theorem zw_887 : (Jvm.Cond.instanceMethod ({ cls := "HillSchool$Hill", name := "shades", desc := "(LHillSchool$Columns;)I" } : Jvm.MethodName)) ∈ zall := zmemG (zmj_4 64 rfl) rfl
theorem zw_888 : (Jvm.Cond.selects "HillSchool$Hill" ({ cls := "HillSchool$Hill", name := "shades", desc := "(LHillSchool$Columns;)I" } : Jvm.MethodName) ({ cls := "HillSchool$Hill", name := "shades", desc := "(LHillSchool$Columns;)I" } : Jvm.MethodName)) ∈ zall := zmemG (zmj_4 65 rfl) rfl
theorem zw_904 : (Jvm.Cond.methodLink "HillSchool" (230 : Nat) ({ cls := "HillSchool$Hill", name := "hasParish", desc := "(I)Z" } : Jvm.MethodName)) ∈ zall := zmemG (zmj_4 81 rfl) rfl
theorem zw_905 : (Jvm.Cond.methodLink "HillSchool" (233 : Nat) ({ cls := "HillSchool$Hill", name := "shadeOf", desc := "(LHillSchool$Columns;I)I" } : Jvm.MethodName)) ∈ zall := zmemG (zmj_4 82 rfl) rfl
noncomputable abbrev w_HS_shade : List Cond := .code yX10_shade cX10_shade 2 (some .int) :: zall
noncomputable abbrev rm_HS_shade : Room := { frames := 5, cells := 0, slots := 0, locals := 129 }
theorem hd_HS_shade : yX10_shade.cls = "HillSchool" ∧ yX10_shade.cls ≠ "java/lang/invoke/MethodHandle" ∧ yX10_shade.cls ≠ "java/lang/invoke/VarHandle" ∧ (parseMethodDescriptor yX10_shade.desc).map (fun d => d.parameters.length) = some 1 := by decide +kernel
noncomputable def wd_HS_shade (cA : Nat → ClassId) (q0 q1 q2 q3 q4 q5 q6 q7 q8 q9 q10 q11 q12 q13 q14 q15 q16 q17 q18 q19 q20 q21 q22 q23 : Nat) (u0 u1 u2 u3 u4 u5 u6 u7 : Int) (i_hill_parishes : Int) (i_hill_columns_many : Int) (i_hill_places : Nat → Int) (i_hill_terms : Nat → Int) (i_hill_columns_heights : Nat → Int)  : va_W := [(q0, .inr (10, [.ref q1, .ref q2, .ref q3, .ref q4, .int (Int32.ofInt u0), .int (Int32.ofInt u1), .int (Int32.ofInt u2), .ref q5, .int (Int32.ofInt u3), .ref q6, .ref q7, .ref q8, .ref q9, .ref q10, .ref q11, .ref q12])), (q1, .inr (2, [.ref q13, .int (Int32.ofInt u4), .ref q14, .ref q15, .ref q16, .int (Int32.ofInt i_hill_parishes), .ref q17, .ref q18, .ref q19, .int (Int32.ofInt u5), .ref q20, .ref q21, .int (Int32.ofInt u6), .int (Int32.ofInt u7)])), (q13, .inr (1, [.int (Int32.ofInt i_hill_columns_many), .ref q22, .ref q23])), (q17, .inl (cA 0, 6, .inl (za i_hill_places))), (q18, .inl (cA 0, 4, .inl (za i_hill_terms))), (q22, .inl (cA 0, 12, .inl (za i_hill_columns_heights)))]
noncomputable def wf_HS_shade (cA : Nat → ClassId) (q0 q1 q2 q3 q4 q5 q6 q7 q8 q9 q10 q11 q12 q13 q14 q15 q16 q17 q18 q19 q20 q21 q22 q23 : Nat) (u0 u1 u2 u3 u4 u5 u6 u7 : Int) (i_hill_parishes : Int) (i_hill_columns_many : Int) (i_hill_places : Nat → Int) (i_hill_terms : Nat → Int) (i_hill_columns_heights : Nat → Int) (o : Int) : va_W := wd_HS_shade cA q0 q1 q2 q3 q4 q5 q6 q7 q8 q9 q10 q11 q12 q13 q14 q15 q16 q17 q18 q19 q20 q21 q22 q23 u0 u1 u2 u3 u4 u5 u6 u7 i_hill_parishes i_hill_columns_many i_hill_places i_hill_terms i_hill_columns_heights
noncomputable def f_HS_shade (x1 : Int) (i_hill_parishes : Int) (i_hill_columns_many : Int) (i_hill_places : Nat → Int) (i_hill_terms : Nat → Int) (i_hill_columns_heights : Nat → Int) : Option (Int) :=
  if zi_w x1 ≠ zi_w (-1) then
    zd1 (f_Hill_hasParish x1 i_hill_parishes) fun v1 =>
    if zi_w v1 = 0 then
      some (-1)
    else
      zd1 (f_Hill_shadeOf x1 i_hill_parishes i_hill_columns_many i_hill_places i_hill_terms i_hill_columns_heights) fun v2 =>
      some v2
  else
    zd1 (f_Hill_shades i_hill_parishes i_hill_columns_many i_hill_places i_hill_terms i_hill_columns_heights) fun v3 =>
    some v3
set_option maxHeartbeats 4000000 in
set_option maxRecDepth 100000 in
theorem c_HS_shade (l : Launch) (ev : zEv) (dC : Nat → ClassId) (dI : Nat → Nat → Nat) (cA : Nat → ClassId) (q0 q1 q2 q3 q4 q5 q6 q7 q8 q9 q10 q11 q12 q13 q14 q15 q16 q17 q18 q19 q20 q21 q22 q23 : Nat) (u0 u1 u2 u3 u4 u5 u6 u7 : Int) {x1 : Int} {i_hill_parishes : Int} {i_hill_columns_many : Int} {i_hill_places : Nat → Int} {i_hill_terms : Nat → Int} {i_hill_columns_heights : Nat → Int} {out : Int} (hf : f_HS_shade x1 i_hill_parishes i_hill_columns_many i_hill_places i_hill_terms i_hill_columns_heights = some out) : xc_I l ev (dC, dI) vwCl (tyl cA) yX10_shade w_HS_shade rm_HS_shade [.ref q0, .int (Int32.ofInt x1)] (wd_HS_shade cA q0 q1 q2 q3 q4 q5 q6 q7 q8 q9 q10 q11 q12 q13 q14 q15 q16 q17 q18 q19 q20 q21 q22 q23 u0 u1 u2 u3 u4 u5 u6 u7 i_hill_parishes i_hill_columns_many i_hill_places i_hill_terms i_hill_columns_heights) (wf_HS_shade cA q0 q1 q2 q3 q4 q5 q6 q7 q8 q9 q10 q11 q12 q13 q14 q15 q16 q17 q18 q19 q20 q21 q22 q23 u0 u1 u2 u3 u4 u5 u6 u7 i_hill_parishes i_hill_columns_many i_hill_places i_hill_terms i_hill_columns_heights out) out := by
  refine xv_startI (cc := cX10_shade) (maxL := 2) (rt := .int) (by decide +kernel) rfl (Nat.le_of_ble_eq_true rfl) ?_
  intro p e s m args below meth c A Q H ls hx hb hml hts hown hK hA hP hD hS hl hE hret
  have hown : s.vm.findClass "HillSchool" = some m.cls := hown
  have hz : ∀ w ∈ zall, w.before args s = true := fun w h => hts w (List.mem_cons_of_mem _ h)
  have hl : lv_has ls 2 [(0, .ref q0), (1, .int (Int32.ofInt x1))] := hl
  unfold f_HS_shade at hf
  refine lv_iload_n hx hb (zdt zkX10_shade 0 rfl) rfl (lv_at hl 1 rfl) ?_
  refine lv_iconst (v := Int32.ofInt (-1)) hx hb (zdt zkX10_shade 1 rfl) rfl ?_
  refine xi_icmp_ne (tgt := 20) hx hb (zdt zkX10_shade 2 rfl) (by decide) hf (fun hf => ?_) (fun hf => ?_)
  · refine lv_aload_n hx hb (zdt zkX10_shade 20 rfl) rfl (lv_at hl 0 rfl) ?_
    refine va_get (D := (dC, dI)) (ci := 10) (v := .ref q1) (C := RX10) (T := TX10) (N := 16) hx hb hz zi_X10 hown hK hP 0 rfl rfl 0 (by decide) (hz _ zw_477) (fun _ h9 => h9) rfl (zdt zkX10_shade 21 rfl) ?_
    refine lv_iload_n hx hb (zdt zkX10_shade 24 rfl) rfl (lv_at hl 1 rfl) ?_
    refine xe_d1 hf (fun v1 hg hf => ?_)
    have hC : ([1] : List Nat).map (fun i => (wd_HS_shade cA q0 q1 q2 q3 q4 q5 q6 q7 q8 q9 q10 q11 q12 q13 q14 q15 q16 q17 q18 q19 q20 q21 q22 q23 u0 u1 u2 u3 u4 u5 u6 u7 i_hill_parishes i_hill_columns_many i_hill_places i_hill_terms i_hill_columns_heights)[i]?) = (wd_Hill_hasParish cA q1 q13 q14 q15 q16 q17 q18 q19 q20 q21 u4 u5 u6 u7 i_hill_parishes).map some := rfl
    refine xv_afterI (ws' := (wd_HS_shade cA q0 q1 q2 q3 q4 q5 q6 q7 q8 q9 q10 q11 q12 q13 q14 q15 q16 q17 q18 q19 q20 q21 q22 q23 u0 u1 u2 u3 u4 u5 u6 u7 i_hill_parishes i_hill_columns_many i_hill_places i_hill_terms i_hill_columns_heights)) (isC := [1]) (ps := [none, some 0, none, none, none, none]) (va_runV (As := [.int (Int32.ofInt x1)]) (rest := []) ⟨hx, hb, hml, hown, hts⟩ (c_Hill_hasParish l ev dC dI cA q1 q13 q14 q15 q16 q17 q18 q19 q20 q21 u4 u5 u6 u7 hg H.size) (cwV 1 hts (zgV zw_904 zw_895 zw_896 zw_105 zw_897) rfl rfl rfl hd_Hill_hasParish ⟨Nat.le_of_ble_eq_true rfl, Nat.le_of_ble_eq_true rfl⟩) (xv_preV (T := TX2) (N := 14) hE hA hS hK hP hD (isC := [1]) (by decide +kernel) hC (q0 := 1) (ci := 2) rfl rfl) rfl rfl hl.1 rfl (lv_room (Nat.le_of_ble_eq_true rfl)) (zdt zkX10_shade 25 rfl) ⟨Nat.le_refl _, Nat.le_refl _⟩) hP hD hS hA (by decide +kernel) rfl hC rfl rfl (fun H locs hP hD hS => ?_)
    refine xi_if_eq (tgt := 49) hx hb (zdt zkX10_shade 28 rfl) (by decide) hf (fun hf => ?_) (fun hf => ?_)
    · refine lv_iconst (v := Int32.ofInt (-1)) hx hb (zdt zkX10_shade 49 rfl) rfl ?_
      obtain rfl := Option.some.inj hf
      exact hret _ _ _ _ rfl (zdt zkX10_shade 50 rfl) hP hD hS
    · refine lv_aload_n hx hb (zdt zkX10_shade 31 rfl) rfl (lv_at hl 0 rfl) ?_
      refine va_get (D := (dC, dI)) (ci := 10) (v := .ref q1) (C := RX10) (T := TX10) (N := 16) hx hb hz zi_X10 hown hK hP 0 rfl rfl 0 (by decide) (hz _ zw_477) (fun _ h9 => h9) rfl (zdt zkX10_shade 32 rfl) ?_
      refine lv_aload_n hx hb (zdt zkX10_shade 35 rfl) rfl (lv_at hl 0 rfl) ?_
      refine va_get (D := (dC, dI)) (ci := 10) (v := .ref q1) (C := RX10) (T := TX10) (N := 16) hx hb hz zi_X10 hown hK hP 0 rfl rfl 0 (by decide) (hz _ zw_477) (fun _ h9 => h9) rfl (zdt zkX10_shade 36 rfl) ?_
      refine va_getN (D := (dC, dI)) (ci := 2) (v := .ref q13) (C := RX2) (T := TX2) (N := 14) hx hb hz zi_X2 hown hK hP 1 rfl rfl 0 (by decide) (va_Nw.use rfl (hE.1.1 _ zw_169)) (fun _ h9 => h9) rfl (zdt zkX10_shade 39 rfl) ?_
      refine lv_iload_n hx hb (zdt zkX10_shade 42 rfl) rfl (lv_at hl 1 rfl) ?_
      refine xe_d1 hf (fun v2 hg hf => ?_)
      have hC : ([1, 2, 3, 4, 5] : List Nat).map (fun i => (wd_HS_shade cA q0 q1 q2 q3 q4 q5 q6 q7 q8 q9 q10 q11 q12 q13 q14 q15 q16 q17 q18 q19 q20 q21 q22 q23 u0 u1 u2 u3 u4 u5 u6 u7 i_hill_parishes i_hill_columns_many i_hill_places i_hill_terms i_hill_columns_heights)[i]?) = (wd_Hill_shadeOf cA q1 q13 q14 q15 q16 q17 q18 q19 q20 q21 q13 q22 q23 u4 u5 u6 u7 i_hill_parishes i_hill_columns_many i_hill_places i_hill_terms i_hill_columns_heights).map some := rfl
      refine xv_afterI (ws' := (wd_HS_shade cA q0 q1 q2 q3 q4 q5 q6 q7 q8 q9 q10 q11 q12 q13 q14 q15 q16 q17 q18 q19 q20 q21 q22 q23 u0 u1 u2 u3 u4 u5 u6 u7 i_hill_parishes i_hill_columns_many i_hill_places i_hill_terms i_hill_columns_heights)) (isC := [1, 2, 3, 4, 5]) (ps := [none, some 0, some 1, some 2, some 3, some 4]) (va_runV (As := [.ref q13, .int (Int32.ofInt x1)]) (rest := []) ⟨hx, hb, hml, hown, hts⟩ (c_Hill_shadeOf l ev dC dI cA q1 q13 q14 q15 q16 q17 q18 q19 q20 q21 q13 q22 q23 u4 u5 u6 u7 hg H.size) (cwV 2 hts (zgV zw_905 zw_891 zw_892 zw_105 zw_893) rfl rfl rfl hd_Hill_shadeOf ⟨Nat.le_of_ble_eq_true rfl, Nat.le_of_ble_eq_true rfl⟩) (xv_preV (T := TX2) (N := 14) hE hA hS hK hP hD (isC := [1, 2, 3, 4, 5]) (by decide +kernel) hC (q0 := 1) (ci := 2) rfl rfl) rfl rfl hl.1 rfl (lv_room (Nat.le_of_ble_eq_true rfl)) (zdt zkX10_shade 43 rfl) ⟨Nat.le_refl _, Nat.le_refl _⟩) hP hD hS hA (by decide +kernel) rfl hC rfl rfl (fun H locs hP hD hS => ?_)
      refine lv_goto (tgt := 50) hx hb (zdt zkX10_shade 46 rfl) (by decide) ?_
      obtain rfl := Option.some.inj hf
      exact hret _ _ _ _ rfl (zdt zkX10_shade 50 rfl) hP hD hS
  · refine lv_aload_n hx hb (zdt zkX10_shade 5 rfl) rfl (lv_at hl 0 rfl) ?_
    refine va_get (D := (dC, dI)) (ci := 10) (v := .ref q1) (C := RX10) (T := TX10) (N := 16) hx hb hz zi_X10 hown hK hP 0 rfl rfl 0 (by decide) (hz _ zw_477) (fun _ h9 => h9) rfl (zdt zkX10_shade 6 rfl) ?_
    refine lv_aload_n hx hb (zdt zkX10_shade 9 rfl) rfl (lv_at hl 0 rfl) ?_
    refine va_get (D := (dC, dI)) (ci := 10) (v := .ref q1) (C := RX10) (T := TX10) (N := 16) hx hb hz zi_X10 hown hK hP 0 rfl rfl 0 (by decide) (hz _ zw_477) (fun _ h9 => h9) rfl (zdt zkX10_shade 10 rfl) ?_
    refine va_getN (D := (dC, dI)) (ci := 2) (v := .ref q13) (C := RX2) (T := TX2) (N := 14) hx hb hz zi_X2 hown hK hP 1 rfl rfl 0 (by decide) (va_Nw.use rfl (hE.1.1 _ zw_169)) (fun _ h9 => h9) rfl (zdt zkX10_shade 13 rfl) ?_
    refine xe_d1 hf (fun v3 hg hf => ?_)
    have hC : ([1, 2, 3, 4, 5] : List Nat).map (fun i => (wd_HS_shade cA q0 q1 q2 q3 q4 q5 q6 q7 q8 q9 q10 q11 q12 q13 q14 q15 q16 q17 q18 q19 q20 q21 q22 q23 u0 u1 u2 u3 u4 u5 u6 u7 i_hill_parishes i_hill_columns_many i_hill_places i_hill_terms i_hill_columns_heights)[i]?) = (wd_Hill_shades cA q1 q13 q14 q15 q16 q17 q18 q19 q20 q21 q13 q22 q23 u4 u5 u6 u7 i_hill_parishes i_hill_columns_many i_hill_places i_hill_terms i_hill_columns_heights).map some := rfl
    refine xv_afterI (ws' := (wd_HS_shade cA q0 q1 q2 q3 q4 q5 q6 q7 q8 q9 q10 q11 q12 q13 q14 q15 q16 q17 q18 q19 q20 q21 q22 q23 u0 u1 u2 u3 u4 u5 u6 u7 i_hill_parishes i_hill_columns_many i_hill_places i_hill_terms i_hill_columns_heights)) (isC := [1, 2, 3, 4, 5]) (ps := [none, some 0, some 1, some 2, some 3, some 4]) (va_runV (As := [.ref q13]) (rest := []) ⟨hx, hb, hml, hown, hts⟩ (c_Hill_shades l ev dC dI cA q1 q13 q14 q15 q16 q17 q18 q19 q20 q21 q13 q22 q23 u4 u5 u6 u7 hg H.size) (cwV 1 hts (zgV zw_886 zw_887 zw_888 zw_105 zw_889) rfl rfl rfl hd_Hill_shades ⟨Nat.le_of_ble_eq_true rfl, Nat.le_of_ble_eq_true rfl⟩) (xv_preV (T := TX2) (N := 14) hE hA hS hK hP hD (isC := [1, 2, 3, 4, 5]) (by decide +kernel) hC (q0 := 1) (ci := 2) rfl rfl) rfl rfl hl.1 rfl (lv_room (Nat.le_of_ble_eq_true rfl)) (zdt zkX10_shade 16 rfl) ⟨Nat.le_refl _, Nat.le_refl _⟩) hP hD hS hA (by decide +kernel) rfl hC rfl rfl (fun H locs hP hD hS => ?_)
    obtain rfl := Option.some.inj hf
    exact hret _ _ _ _ rfl (zdt zkX10_shade 19 rfl) hP hD hS
set_option maxRecDepth 100000 in
noncomputable def ztX10_gains (p : Nat) : Option (Jvm.ClassFile.Instr × Nat) := bif Nat.ble 56 p then (bif Nat.ble 86 p then (bif Nat.ble 102 p then (bif Nat.ble 108 p then (bif Nat.ble 112 p then (bif Nat.ble 113 p then (bif Nat.beq p 113 then some (.ireturn, 1) else none) else (bif Nat.beq p 112 then some (.isub, 1) else none)) else (bif Nat.ble 110 p then (bif Nat.beq p 110 then some (.iload 6, 2) else none) else (bif Nat.beq p 108 then some (.iload 5, 2) else none))) else (bif Nat.ble 104 p then (bif Nat.ble 105 p then (bif Nat.beq p 105 then some (.invokevirtual 208, 3) else none) else (bif Nat.beq p 104 then some (.iload_n 3, 1) else none)) else (bif Nat.beq p 102 then some (.iload 4, 2) else none))) else (bif Nat.ble 93 p then (bif Nat.ble 96 p then (bif Nat.ble 99 p then (bif Nat.beq p 99 then some (.getfield 99, 3) else none) else (bif Nat.beq p 96 then some (.getfield 10, 3) else none)) else (bif Nat.ble 95 p then (bif Nat.beq p 95 then some (.aload_n 0, 1) else none) else (bif Nat.beq p 93 then some (.istore 6, 2) else none))) else (bif Nat.ble 89 p then (bif Nat.ble 90 p then (bif Nat.beq p 90 then some (.invokevirtual 233, 3) else none) else (bif Nat.beq p 89 then some (.iload_n 1, 1) else none)) else (bif Nat.beq p 86 then some (.getfield 99, 3) else none)))) else (bif Nat.ble 72 p then (bif Nat.ble 78 p then (bif Nat.ble 82 p then (bif Nat.ble 83 p then (bif Nat.beq p 83 then some (.getfield 10, 3) else none) else (bif Nat.beq p 82 then some (.aload_n 0, 1) else none)) else (bif Nat.ble 79 p then (bif Nat.beq p 79 then some (.getfield 10, 3) else none) else (bif Nat.beq p 78 then some (.aload_n 0, 1) else none))) else (bif Nat.ble 73 p then (bif Nat.ble 75 p then (bif Nat.beq p 75 then some (.invokevirtual 208, 3) else none) else (bif Nat.beq p 73 then some (.iload 4, 2) else none)) else (bif Nat.beq p 72 then some (.iload_n 3, 1) else none))) else (bif Nat.ble 63 p then (bif Nat.ble 66 p then (bif Nat.ble 69 p then (bif Nat.beq p 69 then some (.getfield 99, 3) else none) else (bif Nat.beq p 66 then some (.getfield 10, 3) else none)) else (bif Nat.ble 65 p then (bif Nat.beq p 65 then some (.aload_n 0, 1) else none) else (bif Nat.beq p 63 then some (.istore 5, 2) else none))) else (bif Nat.ble 59 p then (bif Nat.ble 60 p then (bif Nat.beq p 60 then some (.invokevirtual 233, 3) else none) else (bif Nat.beq p 59 then some (.iload_n 1, 1) else none)) else (bif Nat.beq p 56 then some (.getfield 99, 3) else none))))) else (bif Nat.ble 27 p then (bif Nat.ble 41 p then (bif Nat.ble 48 p then (bif Nat.ble 52 p then (bif Nat.ble 53 p then (bif Nat.beq p 53 then some (.getfield 10, 3) else none) else (bif Nat.beq p 52 then some (.aload_n 0, 1) else none)) else (bif Nat.ble 49 p then (bif Nat.beq p 49 then some (.getfield 10, 3) else none) else (bif Nat.beq p 48 then some (.aload_n 0, 1) else none))) else (bif Nat.ble 44 p then (bif Nat.ble 47 p then (bif Nat.beq p 47 then some (.ireturn, 1) else none) else (bif Nat.beq p 44 then some (.sipush (-1000), 3) else none)) else (bif Nat.beq p 41 then some (.if_icmp .ne 7, 3) else none))) else (bif Nat.ble 34 p then (bif Nat.ble 37 p then (bif Nat.ble 40 p then (bif Nat.beq p 40 then some (.iconst (-1), 1) else none) else (bif Nat.beq p 37 then some (.invokevirtual 201, 3) else none)) else (bif Nat.ble 35 p then (bif Nat.beq p 35 then some (.iload 4, 2) else none) else (bif Nat.beq p 34 then some (.iload_n 3, 1) else none))) else (bif Nat.ble 30 p then (bif Nat.ble 33 p then (bif Nat.beq p 33 then some (.iload_n 2, 1) else none) else (bif Nat.beq p 30 then some (.getfield 99, 3) else none)) else (bif Nat.beq p 27 then some (.getfield 10, 3) else none)))) else (bif Nat.ble 13 p then (bif Nat.ble 19 p then (bif Nat.ble 23 p then (bif Nat.ble 26 p then (bif Nat.beq p 26 then some (.aload_n 0, 1) else none) else (bif Nat.beq p 23 then some (.getfield 56, 3) else none)) else (bif Nat.ble 22 p then (bif Nat.beq p 22 then some (.aload_n 0, 1) else none) else (bif Nat.beq p 19 then some (.ifCond .eq 25, 3) else none))) else (bif Nat.ble 14 p then (bif Nat.ble 16 p then (bif Nat.beq p 16 then some (.invokevirtual 197, 3) else none) else (bif Nat.beq p 14 then some (.iload 4, 2) else none)) else (bif Nat.beq p 13 then some (.iload_n 3, 1) else none))) else (bif Nat.ble 5 p then (bif Nat.ble 11 p then (bif Nat.ble 12 p then (bif Nat.beq p 12 then some (.iload_n 2, 1) else none) else (bif Nat.beq p 11 then some (.aload_n 0, 1) else none)) else (bif Nat.ble 8 p then (bif Nat.beq p 8 then some (.ifCond .eq 36, 3) else none) else (bif Nat.beq p 5 then some (.invokevirtual 230, 3) else none))) else (bif Nat.ble 1 p then (bif Nat.ble 4 p then (bif Nat.beq p 4 then some (.iload_n 1, 1) else none) else (bif Nat.beq p 1 then some (.getfield 10, 3) else none)) else (bif Nat.beq p 0 then some (.aload_n 0, 1) else none)))))
set_option maxRecDepth 100000 in
theorem zkX10_gains : (zbig cX10_gains.data.toList = 23314706799426210274071216681579096335029786357977238390461042071111793147372080550622596059473357281588892109018475574533771759430086554995551860832163683248747915117783202443359076161476274377559781111756556495357652922591653855436067381907431669528408225797204702539068458 ∧ cX10_gains.data.toList.length = 114) ∧ zdk cX10_gains 23314706799426210274071216681579096335029786357977238390461042071111793147372080550622596059473357281588892109018475574533771759430086554995551860832163683248747915117783202443359076161476274377559781111756556495357652922591653855436067381907431669528408225797204702539068458 114 ztX10_gains 113 = true := by decide +kernel
theorem zw_909 : (Jvm.Cond.code ({ cls := "HillSchool", name := "gains", desc := "(IIII)I" } : Jvm.MethodName) prog_1_method_26_code (7 : Nat) (Option.some Jvm.ClassFile.FieldType.int)) ∈ zall := zmemG (zmj_4 86 rfl) rfl
noncomputable abbrev w_HS_gains : List Cond := .code yX10_gains cX10_gains 7 (some .int) :: zall
noncomputable abbrev rm_HS_gains : Room := { frames := 5, cells := 0, slots := 0, locals := 138 }
theorem hd_HS_gains : yX10_gains.cls = "HillSchool" ∧ yX10_gains.cls ≠ "java/lang/invoke/MethodHandle" ∧ yX10_gains.cls ≠ "java/lang/invoke/VarHandle" ∧ (parseMethodDescriptor yX10_gains.desc).map (fun d => d.parameters.length) = some 4 := by decide +kernel
noncomputable def wd_HS_gains (cA : Nat → ClassId) (q0 q1 q2 q3 q4 q5 q6 q7 q8 q9 q10 q11 q12 q13 q14 q15 q16 q17 q18 q19 q20 q21 q22 q23 q24 q25 : Nat) (u0 u1 u2 u3 u4 : Int) (i_hill_children : Int) (i_hill_parishes : Int) (i_hill_laws : Int) (i_hill_inForce : Int) (i_hill_columns_many : Int) (i_hill_strengths : Nat → Int) (i_hill_expelled : Nat → Int) (i_hill_places : Nat → Int) (i_hill_terms : Nat → Int) (i_hill_orders : Nat → Int) (i_hill_ordered : Nat → Int) (i_judge_piled : Int) (i_judge_tiring : Int) (i_judge_barred : Int) (i_judge_words : Nat → Int) (i_judge_pile : Nat → Int) (i_hill_columns_heights : Nat → Int) (i_hill_columns_weights : Nat → Int) : va_W := [(q0, .inr (10, [.ref q1, .ref q2, .ref q3, .ref q4, .int (Int32.ofInt u0), .int (Int32.ofInt u1), .int (Int32.ofInt u2), .ref q5, .int (Int32.ofInt u3), .ref q6, .ref q7, .ref q8, .ref q9, .ref q10, .ref q11, .ref q12])), (q1, .inr (2, [.ref q13, .int (Int32.ofInt i_hill_children), .ref q14, .ref q15, .ref q16, .int (Int32.ofInt i_hill_parishes), .ref q17, .ref q18, .ref q19, .int (Int32.ofInt i_hill_laws), .ref q20, .ref q21, .int (Int32.ofInt i_hill_inForce), .int (Int32.ofInt u4)])), (q7, .inr (3, [.ref q1, .ref q22, .ref q23, .int (Int32.ofInt i_judge_piled), .int (Int32.ofInt i_judge_tiring), .int (Int32.ofInt i_judge_barred)])), (q13, .inr (1, [.int (Int32.ofInt i_hill_columns_many), .ref q24, .ref q25])), (q14, .inl (cA 0, 6, .inl (za i_hill_strengths))), (q15, .inl (cA 0, 6, .inl (za i_hill_expelled))), (q17, .inl (cA 0, 6, .inl (za i_hill_places))), (q18, .inl (cA 0, 4, .inl (za i_hill_terms))), (q20, .inl (cA 0, 2544, .inl (za i_hill_orders))), (q21, .inl (cA 0, 6, .inl (za i_hill_ordered))), (q22, .inl (cA 0, 8, .inl (za i_judge_words))), (q23, .inl (cA 0, 32, .inl (za i_judge_pile))), (q24, .inl (cA 0, 12, .inl (za i_hill_columns_heights))), (q25, .inl (cA 0, 120, .inl (za i_hill_columns_weights)))]
noncomputable def wf_HS_gains (cA : Nat → ClassId) (q0 q1 q2 q3 q4 q5 q6 q7 q8 q9 q10 q11 q12 q13 q14 q15 q16 q17 q18 q19 q20 q21 q22 q23 q24 q25 : Nat) (u0 u1 u2 u3 u4 : Int) (i_hill_children : Int) (i_hill_parishes : Int) (i_hill_laws : Int) (i_hill_inForce : Int) (i_hill_columns_many : Int) (i_hill_strengths : Nat → Int) (i_hill_expelled : Nat → Int) (i_hill_places : Nat → Int) (i_hill_terms : Nat → Int) (i_hill_orders : Nat → Int) (i_hill_ordered : Nat → Int) (o : Int × Int × Int × Int × (Nat → Int) × (Nat → Int) × (Nat → Int) × (Nat → Int)) : va_W := wd_HS_gains cA q0 q1 q2 q3 q4 q5 q6 q7 q8 q9 q10 q11 q12 q13 q14 q15 q16 q17 q18 q19 q20 q21 q22 q23 q24 q25 u0 u1 u2 u3 u4 i_hill_children i_hill_parishes i_hill_laws i_hill_inForce i_hill_columns_many i_hill_strengths i_hill_expelled i_hill_places i_hill_terms i_hill_orders i_hill_ordered o.2.1 o.2.2.1 o.2.2.2.1 o.2.2.2.2.1 o.2.2.2.2.2.1 o.2.2.2.2.2.2.1 o.2.2.2.2.2.2.2
noncomputable def f_HS_gains (x1 : Int) (x2 : Int) (x3 : Int) (x4 : Int) (i_hill_children : Int) (i_hill_parishes : Int) (i_hill_laws : Int) (i_hill_inForce : Int) (i_hill_columns_many : Int) (i_hill_strengths : Nat → Int) (i_hill_expelled : Nat → Int) (i_hill_places : Nat → Int) (i_hill_terms : Nat → Int) (i_hill_orders : Nat → Int) (i_hill_ordered : Nat → Int) (i_judge_piled : Int) (i_judge_tiring : Int) (i_judge_barred : Int) (i_judge_words : Nat → Int) (i_judge_pile : Nat → Int) (i_hill_columns_heights : Nat → Int) (i_hill_columns_weights : Nat → Int) : Option (Int × Int × Int × Int × (Nat → Int) × (Nat → Int) × (Nat → Int) × (Nat → Int)) :=
  zd1 (f_Hill_hasParish x1 i_hill_parishes) fun v1 =>
  if zi_w v1 = 0 then
    some ((-1000), i_judge_piled, i_judge_tiring, i_judge_barred, i_judge_words, i_judge_pile, i_hill_columns_heights, i_hill_columns_weights)
  else
    zd1 (f_HS_knows x2 x3 x4 i_hill_children i_hill_columns_many) fun v2 =>
    if zi_w v2 = 0 then
      some ((-1000), i_judge_piled, i_judge_tiring, i_judge_barred, i_judge_words, i_judge_pile, i_hill_columns_heights, i_hill_columns_weights)
    else
      zd6 (f_Judge_effortOn x2 x3 x4 i_hill_columns_many i_hill_children i_hill_laws i_hill_inForce i_hill_columns_heights i_hill_columns_weights i_hill_strengths i_hill_expelled i_hill_terms i_hill_orders i_hill_ordered i_judge_piled i_judge_tiring i_judge_barred i_judge_words i_judge_pile) fun v3 v4 v5 v6 a7 a8 =>
      if zi_w v3 ≠ zi_w (-1) then
        zd1 (f_Hill_shadeOf x1 i_hill_parishes i_hill_columns_many i_hill_places i_hill_terms i_hill_columns_heights) fun v9 =>
        zd2 (f_Columns_move x3 x4 i_hill_columns_many i_hill_columns_heights i_hill_columns_weights) fun a10 a11 =>
        zd1 (f_Hill_shadeOf x1 i_hill_parishes i_hill_columns_many i_hill_places i_hill_terms a10) fun v12 =>
        zd2 (f_Columns_move x4 x3 i_hill_columns_many a10 a11) fun a13 a14 =>
        zn (v9 - v12) fun v15 =>
        some (v15, v4, v5, v6, a7, a8, a13, a14)
      else
        some ((-1000), v4, v5, v6, a7, a8, i_hill_columns_heights, i_hill_columns_weights)
set_option maxHeartbeats 4000000 in
set_option maxRecDepth 100000 in
theorem c_HS_gains (l : Launch) (ev : zEv) (dC : Nat → ClassId) (dI : Nat → Nat → Nat) (cA : Nat → ClassId) (q0 q1 q2 q3 q4 q5 q6 q7 q8 q9 q10 q11 q12 q13 q14 q15 q16 q17 q18 q19 q20 q21 q22 q23 q24 q25 : Nat) (u0 u1 u2 u3 u4 : Int) {x1 x2 x3 x4 : Int} {i_hill_children : Int} {i_hill_parishes : Int} {i_hill_laws : Int} {i_hill_inForce : Int} {i_hill_columns_many : Int} {i_hill_strengths : Nat → Int} {i_hill_expelled : Nat → Int} {i_hill_places : Nat → Int} {i_hill_terms : Nat → Int} {i_hill_orders : Nat → Int} {i_hill_ordered : Nat → Int} {i_judge_piled : Int} {i_judge_tiring : Int} {i_judge_barred : Int} {i_judge_words : Nat → Int} {i_judge_pile : Nat → Int} {i_hill_columns_heights : Nat → Int} {i_hill_columns_weights : Nat → Int} {out : Int × Int × Int × Int × (Nat → Int) × (Nat → Int) × (Nat → Int) × (Nat → Int)} (hf : f_HS_gains x1 x2 x3 x4 i_hill_children i_hill_parishes i_hill_laws i_hill_inForce i_hill_columns_many i_hill_strengths i_hill_expelled i_hill_places i_hill_terms i_hill_orders i_hill_ordered i_judge_piled i_judge_tiring i_judge_barred i_judge_words i_judge_pile i_hill_columns_heights i_hill_columns_weights = some out) : xc_I l ev (dC, dI) vwCl (tyl cA) yX10_gains w_HS_gains rm_HS_gains [.ref q0, .int (Int32.ofInt x1), .int (Int32.ofInt x2), .int (Int32.ofInt x3), .int (Int32.ofInt x4)] (wd_HS_gains cA q0 q1 q2 q3 q4 q5 q6 q7 q8 q9 q10 q11 q12 q13 q14 q15 q16 q17 q18 q19 q20 q21 q22 q23 q24 q25 u0 u1 u2 u3 u4 i_hill_children i_hill_parishes i_hill_laws i_hill_inForce i_hill_columns_many i_hill_strengths i_hill_expelled i_hill_places i_hill_terms i_hill_orders i_hill_ordered i_judge_piled i_judge_tiring i_judge_barred i_judge_words i_judge_pile i_hill_columns_heights i_hill_columns_weights) (wf_HS_gains cA q0 q1 q2 q3 q4 q5 q6 q7 q8 q9 q10 q11 q12 q13 q14 q15 q16 q17 q18 q19 q20 q21 q22 q23 q24 q25 u0 u1 u2 u3 u4 i_hill_children i_hill_parishes i_hill_laws i_hill_inForce i_hill_columns_many i_hill_strengths i_hill_expelled i_hill_places i_hill_terms i_hill_orders i_hill_ordered out) out.1 := by
  refine xv_startI (cc := cX10_gains) (maxL := 7) (rt := .int) (by decide +kernel) rfl (Nat.le_of_ble_eq_true rfl) ?_
  intro p e s m args below meth c A Q H ls hx hb hml hts hown hK hA hP hD hS hl hE hret
  have hown : s.vm.findClass "HillSchool" = some m.cls := hown
  have hz : ∀ w ∈ zall, w.before args s = true := fun w h => hts w (List.mem_cons_of_mem _ h)
  have hl : lv_has ls 7 [(0, .ref q0), (1, .int (Int32.ofInt x1)), (2, .int (Int32.ofInt x2)), (3, .int (Int32.ofInt x3)), (4, .int (Int32.ofInt x4))] := hl
  unfold f_HS_gains at hf
  refine lv_aload_n hx hb (zdt zkX10_gains 0 rfl) rfl (lv_at hl 0 rfl) ?_
  refine va_get (D := (dC, dI)) (ci := 10) (v := .ref q1) (C := RX10) (T := TX10) (N := 16) hx hb hz zi_X10 hown hK hP 0 rfl rfl 0 (by decide) (hz _ zw_477) (fun _ h9 => h9) rfl (zdt zkX10_gains 1 rfl) ?_
  refine lv_iload_n hx hb (zdt zkX10_gains 4 rfl) rfl (lv_at hl 1 rfl) ?_
  refine xe_d1 hf (fun v1 hg hf => ?_)
  have hC : ([1] : List Nat).map (fun i => (wd_HS_gains cA q0 q1 q2 q3 q4 q5 q6 q7 q8 q9 q10 q11 q12 q13 q14 q15 q16 q17 q18 q19 q20 q21 q22 q23 q24 q25 u0 u1 u2 u3 u4 i_hill_children i_hill_parishes i_hill_laws i_hill_inForce i_hill_columns_many i_hill_strengths i_hill_expelled i_hill_places i_hill_terms i_hill_orders i_hill_ordered i_judge_piled i_judge_tiring i_judge_barred i_judge_words i_judge_pile i_hill_columns_heights i_hill_columns_weights)[i]?) = (wd_Hill_hasParish cA q1 q13 q14 q15 q16 q17 q18 q19 q20 q21 i_hill_children i_hill_laws i_hill_inForce u4 i_hill_parishes).map some := rfl
  refine xv_afterI (ws' := (wd_HS_gains cA q0 q1 q2 q3 q4 q5 q6 q7 q8 q9 q10 q11 q12 q13 q14 q15 q16 q17 q18 q19 q20 q21 q22 q23 q24 q25 u0 u1 u2 u3 u4 i_hill_children i_hill_parishes i_hill_laws i_hill_inForce i_hill_columns_many i_hill_strengths i_hill_expelled i_hill_places i_hill_terms i_hill_orders i_hill_ordered i_judge_piled i_judge_tiring i_judge_barred i_judge_words i_judge_pile i_hill_columns_heights i_hill_columns_weights)) (isC := [1]) (ps := [none, some 0, none, none, none, none, none, none, none, none, none, none, none, none]) (va_runV (As := [.int (Int32.ofInt x1)]) (rest := []) ⟨hx, hb, hml, hown, hts⟩ (c_Hill_hasParish l ev dC dI cA q1 q13 q14 q15 q16 q17 q18 q19 q20 q21 i_hill_children i_hill_laws i_hill_inForce u4 hg H.size) (cwV 1 hts (zgV zw_904 zw_895 zw_896 zw_105 zw_897) rfl rfl rfl hd_Hill_hasParish ⟨Nat.le_of_ble_eq_true rfl, Nat.le_of_ble_eq_true rfl⟩) (xv_preV (T := TX2) (N := 14) hE hA hS hK hP hD (isC := [1]) (by decide +kernel) hC (q0 := 1) (ci := 2) rfl rfl) rfl rfl hl.1 rfl (lv_room (Nat.le_of_ble_eq_true rfl)) (zdt zkX10_gains 5 rfl) ⟨Nat.le_refl _, Nat.le_refl _⟩) hP hD hS hA (by decide +kernel) rfl hC rfl rfl (fun H locs hP hD hS => ?_)
  refine xi_if_eq (tgt := 44) hx hb (zdt zkX10_gains 8 rfl) (by decide) hf (fun hf => ?_) (fun hf => ?_)
  · refine lv_sipush (v := Int32.ofInt (-1000)) hx hb (zdt zkX10_gains 44 rfl) (by decide) ?_
    obtain rfl := Option.some.inj hf
    exact hret _ _ _ _ rfl (zdt zkX10_gains 47 rfl) hP hD hS
  · refine lv_aload_n hx hb (zdt zkX10_gains 11 rfl) rfl (lv_at hl 0 rfl) ?_
    refine lv_iload_n hx hb (zdt zkX10_gains 12 rfl) rfl (lv_at hl 2 rfl) ?_
    refine lv_iload_n hx hb (zdt zkX10_gains 13 rfl) rfl (lv_at hl 3 rfl) ?_
    refine lv_iload hx hb (zdt zkX10_gains 14 rfl) (lv_at hl 4 rfl) ?_
    refine xe_d1 hf (fun v2 hg hf => ?_)
    have hC : ([0, 1, 3] : List Nat).map (fun i => (wd_HS_gains cA q0 q1 q2 q3 q4 q5 q6 q7 q8 q9 q10 q11 q12 q13 q14 q15 q16 q17 q18 q19 q20 q21 q22 q23 q24 q25 u0 u1 u2 u3 u4 i_hill_children i_hill_parishes i_hill_laws i_hill_inForce i_hill_columns_many i_hill_strengths i_hill_expelled i_hill_places i_hill_terms i_hill_orders i_hill_ordered i_judge_piled i_judge_tiring i_judge_barred i_judge_words i_judge_pile i_hill_columns_heights i_hill_columns_weights)[i]?) = (wd_HS_knows cA q0 q1 q2 q3 q4 q5 q6 q7 q8 q9 q10 q11 q12 q13 q14 q15 q16 q17 q18 q19 q20 q21 q24 q25 u0 u1 u2 u3 i_hill_parishes i_hill_laws i_hill_inForce u4 i_hill_children i_hill_columns_many).map some := rfl
    refine xv_afterI (ws' := (wd_HS_gains cA q0 q1 q2 q3 q4 q5 q6 q7 q8 q9 q10 q11 q12 q13 q14 q15 q16 q17 q18 q19 q20 q21 q22 q23 q24 q25 u0 u1 u2 u3 u4 i_hill_children i_hill_parishes i_hill_laws i_hill_inForce i_hill_columns_many i_hill_strengths i_hill_expelled i_hill_places i_hill_terms i_hill_orders i_hill_ordered i_judge_piled i_judge_tiring i_judge_barred i_judge_words i_judge_pile i_hill_columns_heights i_hill_columns_weights)) (isC := [0, 1, 3]) (ps := [some 0, some 1, none, some 2, none, none, none, none, none, none, none, none, none, none]) (va_runV (As := [.int (Int32.ofInt x2), .int (Int32.ofInt x3), .int (Int32.ofInt x4)]) (rest := []) ⟨hx, hb, hml, hown, hts⟩ (c_HS_knows l ev dC dI cA q0 q1 q2 q3 q4 q5 q6 q7 q8 q9 q10 q11 q12 q13 q14 q15 q16 q17 q18 q19 q20 q21 q24 q25 u0 u1 u2 u3 i_hill_parishes i_hill_laws i_hill_inForce u4 hg H.size) (cwV 3 hts (zgV zw_799 zw_801 zw_13 zw_104 zw_802) rfl rfl rfl hd_HS_knows ⟨Nat.le_of_ble_eq_true rfl, Nat.le_of_ble_eq_true rfl⟩) (xv_preV (T := TX10) (N := 16) hE hA hS hK hP hD (isC := [0, 1, 3]) (by decide +kernel) hC (q0 := 0) (ci := 10) rfl rfl) rfl rfl hl.1 rfl (lv_room (Nat.le_of_ble_eq_true rfl)) (zdt zkX10_gains 16 rfl) ⟨Nat.le_refl _, Nat.le_refl _⟩) hP hD hS hA (by decide +kernel) rfl hC rfl rfl (fun H locs hP hD hS => ?_)
    refine xi_if_eq (tgt := 44) hx hb (zdt zkX10_gains 19 rfl) (by decide) hf (fun hf => ?_) (fun hf => ?_)
    · refine lv_sipush (v := Int32.ofInt (-1000)) hx hb (zdt zkX10_gains 44 rfl) (by decide) ?_
      obtain rfl := Option.some.inj hf
      exact hret _ _ _ _ rfl (zdt zkX10_gains 47 rfl) hP hD hS
    · refine lv_aload_n hx hb (zdt zkX10_gains 22 rfl) rfl (lv_at hl 0 rfl) ?_
      refine va_get (D := (dC, dI)) (ci := 10) (v := .ref q7) (C := RX10) (T := TX10) (N := 16) hx hb hz zi_X10 hown hK hP 0 rfl rfl 10 (by decide) (hz _ zw_487) (fun _ h9 => h9) rfl (zdt zkX10_gains 23 rfl) ?_
      refine lv_aload_n hx hb (zdt zkX10_gains 26 rfl) rfl (lv_at hl 0 rfl) ?_
      refine va_get (D := (dC, dI)) (ci := 10) (v := .ref q1) (C := RX10) (T := TX10) (N := 16) hx hb hz zi_X10 hown hK hP 0 rfl rfl 0 (by decide) (hz _ zw_477) (fun _ h9 => h9) rfl (zdt zkX10_gains 27 rfl) ?_
      refine va_getN (D := (dC, dI)) (ci := 2) (v := .ref q13) (C := RX2) (T := TX2) (N := 14) hx hb hz zi_X2 hown hK hP 1 rfl rfl 0 (by decide) (va_Nw.use rfl (hE.1.1 _ zw_169)) (fun _ h9 => h9) rfl (zdt zkX10_gains 30 rfl) ?_
      refine lv_iload_n hx hb (zdt zkX10_gains 33 rfl) rfl (lv_at hl 2 rfl) ?_
      refine lv_iload_n hx hb (zdt zkX10_gains 34 rfl) rfl (lv_at hl 3 rfl) ?_
      refine lv_iload hx hb (zdt zkX10_gains 35 rfl) (lv_at hl 4 rfl) ?_
      refine xe_d6 hf (fun v3 v4 v5 v6 a7 a8 hg hf => ?_)
      have hC : ([2, 3, 1, 10, 11, 12, 13, 4, 5, 7, 8, 9] : List Nat).map (fun i => (wd_HS_gains cA q0 q1 q2 q3 q4 q5 q6 q7 q8 q9 q10 q11 q12 q13 q14 q15 q16 q17 q18 q19 q20 q21 q22 q23 q24 q25 u0 u1 u2 u3 u4 i_hill_children i_hill_parishes i_hill_laws i_hill_inForce i_hill_columns_many i_hill_strengths i_hill_expelled i_hill_places i_hill_terms i_hill_orders i_hill_ordered i_judge_piled i_judge_tiring i_judge_barred i_judge_words i_judge_pile i_hill_columns_heights i_hill_columns_weights)[i]?) = (wd_Judge_effortOn cA q7 q1 q22 q23 q13 q24 q25 q13 q14 q15 q16 q17 q18 q19 q20 q21 i_hill_parishes u4 i_hill_columns_many i_hill_children i_hill_laws i_hill_inForce i_hill_columns_heights i_hill_columns_weights i_hill_strengths i_hill_expelled i_hill_terms i_hill_orders i_hill_ordered i_judge_piled i_judge_tiring i_judge_barred i_judge_words i_judge_pile).map some := rfl
      refine xv_afterI (ws' := (wd_HS_gains cA q0 q1 q2 q3 q4 q5 q6 q7 q8 q9 q10 q11 q12 q13 q14 q15 q16 q17 q18 q19 q20 q21 q22 q23 q24 q25 u0 u1 u2 u3 u4 i_hill_children i_hill_parishes i_hill_laws i_hill_inForce i_hill_columns_many i_hill_strengths i_hill_expelled i_hill_places i_hill_terms i_hill_orders i_hill_ordered v4 v5 v6 a7 a8 i_hill_columns_heights i_hill_columns_weights)) (isC := [2, 3, 1, 10, 11, 12, 13, 4, 5, 7, 8, 9]) (ps := [none, some 2, some 0, some 1, some 7, some 8, none, some 9, some 10, some 11, some 3, some 4, some 5, some 6]) (va_runV (As := [.ref q13, .int (Int32.ofInt x2), .int (Int32.ofInt x3), .int (Int32.ofInt x4)]) (rest := []) ⟨hx, hb, hml, hown, hts⟩ (c_Judge_effortOn l ev dC dI cA q7 q1 q22 q23 q13 q24 q25 q13 q14 q15 q16 q17 q18 q19 q20 q21 i_hill_parishes u4 hg H.size) (cwV 4 hts (zgV zw_803 zw_804 zw_805 zw_108 zw_806) rfl rfl rfl hd_Judge_effortOn ⟨Nat.le_of_ble_eq_true rfl, Nat.le_of_ble_eq_true rfl⟩) (xv_preV (T := TX3) (N := 6) hE hA hS hK hP hD (isC := [2, 3, 1, 10, 11, 12, 13, 4, 5, 7, 8, 9]) (by decide +kernel) hC (q0 := 2) (ci := 3) rfl rfl) rfl rfl hl.1 rfl (lv_room (Nat.le_of_ble_eq_true rfl)) (zdt zkX10_gains 37 rfl) ⟨Nat.le_refl _, Nat.le_refl _⟩) hP hD hS hA (by decide +kernel) rfl hC rfl rfl (fun H locs hP hD hS => ?_)
      refine lv_iconst (v := Int32.ofInt (-1)) hx hb (zdt zkX10_gains 40 rfl) rfl ?_
      refine xi_icmp_ne (tgt := 48) hx hb (zdt zkX10_gains 41 rfl) (by decide) hf (fun hf => ?_) (fun hf => ?_)
      · refine lv_aload_n hx hb (zdt zkX10_gains 48 rfl) rfl (lv_at hl 0 rfl) ?_
        refine va_get (D := (dC, dI)) (ci := 10) (v := .ref q1) (C := RX10) (T := TX10) (N := 16) hx hb hz zi_X10 hown hK hP 0 rfl rfl 0 (by decide) (hz _ zw_477) (fun _ h9 => h9) rfl (zdt zkX10_gains 49 rfl) ?_
        refine lv_aload_n hx hb (zdt zkX10_gains 52 rfl) rfl (lv_at hl 0 rfl) ?_
        refine va_get (D := (dC, dI)) (ci := 10) (v := .ref q1) (C := RX10) (T := TX10) (N := 16) hx hb hz zi_X10 hown hK hP 0 rfl rfl 0 (by decide) (hz _ zw_477) (fun _ h9 => h9) rfl (zdt zkX10_gains 53 rfl) ?_
        refine va_getN (D := (dC, dI)) (ci := 2) (v := .ref q13) (C := RX2) (T := TX2) (N := 14) hx hb hz zi_X2 hown hK hP 1 rfl rfl 0 (by decide) (va_Nw.use rfl (hE.1.1 _ zw_169)) (fun _ h9 => h9) rfl (zdt zkX10_gains 56 rfl) ?_
        refine lv_iload_n hx hb (zdt zkX10_gains 59 rfl) rfl (lv_at hl 1 rfl) ?_
        refine xe_d1 hf (fun v9 hg hf => ?_)
        have hC : ([1, 3, 6, 7, 12] : List Nat).map (fun i => (wd_HS_gains cA q0 q1 q2 q3 q4 q5 q6 q7 q8 q9 q10 q11 q12 q13 q14 q15 q16 q17 q18 q19 q20 q21 q22 q23 q24 q25 u0 u1 u2 u3 u4 i_hill_children i_hill_parishes i_hill_laws i_hill_inForce i_hill_columns_many i_hill_strengths i_hill_expelled i_hill_places i_hill_terms i_hill_orders i_hill_ordered v4 v5 v6 a7 a8 i_hill_columns_heights i_hill_columns_weights)[i]?) = (wd_Hill_shadeOf cA q1 q13 q14 q15 q16 q17 q18 q19 q20 q21 q13 q24 q25 i_hill_children i_hill_laws i_hill_inForce u4 i_hill_parishes i_hill_columns_many i_hill_places i_hill_terms i_hill_columns_heights).map some := rfl
        refine xv_afterI (ws' := (wd_HS_gains cA q0 q1 q2 q3 q4 q5 q6 q7 q8 q9 q10 q11 q12 q13 q14 q15 q16 q17 q18 q19 q20 q21 q22 q23 q24 q25 u0 u1 u2 u3 u4 i_hill_children i_hill_parishes i_hill_laws i_hill_inForce i_hill_columns_many i_hill_strengths i_hill_expelled i_hill_places i_hill_terms i_hill_orders i_hill_ordered v4 v5 v6 a7 a8 i_hill_columns_heights i_hill_columns_weights)) (isC := [1, 3, 6, 7, 12]) (ps := [none, some 0, none, some 1, none, none, some 2, some 3, none, none, none, none, some 4, none]) (va_runV (As := [.ref q13, .int (Int32.ofInt x1)]) (rest := []) ⟨hx, hb, hml, hown, hts⟩ (c_Hill_shadeOf l ev dC dI cA q1 q13 q14 q15 q16 q17 q18 q19 q20 q21 q13 q24 q25 i_hill_children i_hill_laws i_hill_inForce u4 hg H.size) (cwV 2 hts (zgV zw_905 zw_891 zw_892 zw_105 zw_893) rfl rfl rfl hd_Hill_shadeOf ⟨Nat.le_of_ble_eq_true rfl, Nat.le_of_ble_eq_true rfl⟩) (xv_preV (T := TX2) (N := 14) hE hA hS hK hP hD (isC := [1, 3, 6, 7, 12]) (by decide +kernel) hC (q0 := 1) (ci := 2) rfl rfl) rfl rfl hl.1 rfl (lv_room (Nat.le_of_ble_eq_true rfl)) (zdt zkX10_gains 60 rfl) ⟨Nat.le_refl _, Nat.le_refl _⟩) hP hD hS hA (by decide +kernel) rfl hC rfl rfl (fun H locs hP hD hS => ?_)
        refine lv_istore (lv' := [(5, .int (Int32.ofInt v9)), (0, .ref q0), (1, .int (Int32.ofInt x1)), (2, .int (Int32.ofInt x2)), (3, .int (Int32.ofInt x3)), (4, .int (Int32.ofInt x4))]) hx hb (zdt zkX10_gains 63 rfl) hl (by decide) rfl (fun ls hl => ?_)
        refine lv_aload_n hx hb (zdt zkX10_gains 65 rfl) rfl (lv_at hl 1 rfl) ?_
        refine va_get (D := (dC, dI)) (ci := 10) (v := .ref q1) (C := RX10) (T := TX10) (N := 16) hx hb hz zi_X10 hown hK hP 0 rfl rfl 0 (by decide) (hz _ zw_477) (fun _ h9 => h9) rfl (zdt zkX10_gains 66 rfl) ?_
        refine va_getN (D := (dC, dI)) (ci := 2) (v := .ref q13) (C := RX2) (T := TX2) (N := 14) hx hb hz zi_X2 hown hK hP 1 rfl rfl 0 (by decide) (va_Nw.use rfl (hE.1.1 _ zw_169)) (fun _ h9 => h9) rfl (zdt zkX10_gains 69 rfl) ?_
        refine lv_iload_n hx hb (zdt zkX10_gains 72 rfl) rfl (lv_at hl 4 rfl) ?_
        refine lv_iload hx hb (zdt zkX10_gains 73 rfl) (lv_at hl 5 rfl) ?_
        refine xe_d2 hf (fun a10 a11 hg hf => ?_)
        have hC : ([3, 12, 13] : List Nat).map (fun i => (wd_HS_gains cA q0 q1 q2 q3 q4 q5 q6 q7 q8 q9 q10 q11 q12 q13 q14 q15 q16 q17 q18 q19 q20 q21 q22 q23 q24 q25 u0 u1 u2 u3 u4 i_hill_children i_hill_parishes i_hill_laws i_hill_inForce i_hill_columns_many i_hill_strengths i_hill_expelled i_hill_places i_hill_terms i_hill_orders i_hill_ordered v4 v5 v6 a7 a8 i_hill_columns_heights i_hill_columns_weights)[i]?) = (wd_Columns_move cA q13 q24 q25 i_hill_columns_many i_hill_columns_heights i_hill_columns_weights).map some := rfl
        refine xv_afterV (ws' := (wd_HS_gains cA q0 q1 q2 q3 q4 q5 q6 q7 q8 q9 q10 q11 q12 q13 q14 q15 q16 q17 q18 q19 q20 q21 q22 q23 q24 q25 u0 u1 u2 u3 u4 i_hill_children i_hill_parishes i_hill_laws i_hill_inForce i_hill_columns_many i_hill_strengths i_hill_expelled i_hill_places i_hill_terms i_hill_orders i_hill_ordered v4 v5 v6 a7 a8 a10 a11)) (isC := [3, 12, 13]) (ps := [none, none, none, some 0, none, none, none, none, none, none, none, none, some 1, some 2]) (va_runV (As := [.int (Int32.ofInt x3), .int (Int32.ofInt x4)]) (rest := []) ⟨hx, hb, hml, hown, hts⟩ (c_Columns_move l ev dC dI cA q13 q24 q25 hg H.size) (cwV 2 hts (zgV zw_850 zw_851 zw_852 zw_106 zw_853) rfl rfl rfl hd_Columns_move ⟨Nat.le_of_ble_eq_true rfl, Nat.le_of_ble_eq_true rfl⟩) (xv_preV (T := TX1) (N := 3) hE hA hS hK hP hD (isC := [3, 12, 13]) (by decide +kernel) hC (q0 := 3) (ci := 1) rfl rfl) rfl rfl hl.1 rfl (lv_room (Nat.le_of_ble_eq_true rfl)) (zdt zkX10_gains 75 rfl) ⟨Nat.le_refl _, Nat.le_refl _⟩) hP hD hS hA (by decide +kernel) rfl hC rfl rfl (fun H locs hP hD hS => ?_)
        refine lv_aload_n hx hb (zdt zkX10_gains 78 rfl) rfl (lv_at hl 1 rfl) ?_
        refine va_get (D := (dC, dI)) (ci := 10) (v := .ref q1) (C := RX10) (T := TX10) (N := 16) hx hb hz zi_X10 hown hK hP 0 rfl rfl 0 (by decide) (hz _ zw_477) (fun _ h9 => h9) rfl (zdt zkX10_gains 79 rfl) ?_
        refine lv_aload_n hx hb (zdt zkX10_gains 82 rfl) rfl (lv_at hl 1 rfl) ?_
        refine va_get (D := (dC, dI)) (ci := 10) (v := .ref q1) (C := RX10) (T := TX10) (N := 16) hx hb hz zi_X10 hown hK hP 0 rfl rfl 0 (by decide) (hz _ zw_477) (fun _ h9 => h9) rfl (zdt zkX10_gains 83 rfl) ?_
        refine va_getN (D := (dC, dI)) (ci := 2) (v := .ref q13) (C := RX2) (T := TX2) (N := 14) hx hb hz zi_X2 hown hK hP 1 rfl rfl 0 (by decide) (va_Nw.use rfl (hE.1.1 _ zw_169)) (fun _ h9 => h9) rfl (zdt zkX10_gains 86 rfl) ?_
        refine lv_iload_n hx hb (zdt zkX10_gains 89 rfl) rfl (lv_at hl 2 rfl) ?_
        refine xe_d1 hf (fun v12 hg hf => ?_)
        have hC : ([1, 3, 6, 7, 12] : List Nat).map (fun i => (wd_HS_gains cA q0 q1 q2 q3 q4 q5 q6 q7 q8 q9 q10 q11 q12 q13 q14 q15 q16 q17 q18 q19 q20 q21 q22 q23 q24 q25 u0 u1 u2 u3 u4 i_hill_children i_hill_parishes i_hill_laws i_hill_inForce i_hill_columns_many i_hill_strengths i_hill_expelled i_hill_places i_hill_terms i_hill_orders i_hill_ordered v4 v5 v6 a7 a8 a10 a11)[i]?) = (wd_Hill_shadeOf cA q1 q13 q14 q15 q16 q17 q18 q19 q20 q21 q13 q24 q25 i_hill_children i_hill_laws i_hill_inForce u4 i_hill_parishes i_hill_columns_many i_hill_places i_hill_terms a10).map some := rfl
        refine xv_afterI (ws' := (wd_HS_gains cA q0 q1 q2 q3 q4 q5 q6 q7 q8 q9 q10 q11 q12 q13 q14 q15 q16 q17 q18 q19 q20 q21 q22 q23 q24 q25 u0 u1 u2 u3 u4 i_hill_children i_hill_parishes i_hill_laws i_hill_inForce i_hill_columns_many i_hill_strengths i_hill_expelled i_hill_places i_hill_terms i_hill_orders i_hill_ordered v4 v5 v6 a7 a8 a10 a11)) (isC := [1, 3, 6, 7, 12]) (ps := [none, some 0, none, some 1, none, none, some 2, some 3, none, none, none, none, some 4, none]) (va_runV (As := [.ref q13, .int (Int32.ofInt x1)]) (rest := []) ⟨hx, hb, hml, hown, hts⟩ (c_Hill_shadeOf l ev dC dI cA q1 q13 q14 q15 q16 q17 q18 q19 q20 q21 q13 q24 q25 i_hill_children i_hill_laws i_hill_inForce u4 hg H.size) (cwV 2 hts (zgV zw_905 zw_891 zw_892 zw_105 zw_893) rfl rfl rfl hd_Hill_shadeOf ⟨Nat.le_of_ble_eq_true rfl, Nat.le_of_ble_eq_true rfl⟩) (xv_preV (T := TX2) (N := 14) hE hA hS hK hP hD (isC := [1, 3, 6, 7, 12]) (by decide +kernel) hC (q0 := 1) (ci := 2) rfl rfl) rfl rfl hl.1 rfl (lv_room (Nat.le_of_ble_eq_true rfl)) (zdt zkX10_gains 90 rfl) ⟨Nat.le_refl _, Nat.le_refl _⟩) hP hD hS hA (by decide +kernel) rfl hC rfl rfl (fun H locs hP hD hS => ?_)
        refine lv_istore (lv' := [(6, .int (Int32.ofInt v12)), (5, .int (Int32.ofInt v9)), (0, .ref q0), (1, .int (Int32.ofInt x1)), (2, .int (Int32.ofInt x2)), (3, .int (Int32.ofInt x3)), (4, .int (Int32.ofInt x4))]) hx hb (zdt zkX10_gains 93 rfl) hl (by decide) rfl (fun ls hl => ?_)
        refine lv_aload_n hx hb (zdt zkX10_gains 95 rfl) rfl (lv_at hl 2 rfl) ?_
        refine va_get (D := (dC, dI)) (ci := 10) (v := .ref q1) (C := RX10) (T := TX10) (N := 16) hx hb hz zi_X10 hown hK hP 0 rfl rfl 0 (by decide) (hz _ zw_477) (fun _ h9 => h9) rfl (zdt zkX10_gains 96 rfl) ?_
        refine va_getN (D := (dC, dI)) (ci := 2) (v := .ref q13) (C := RX2) (T := TX2) (N := 14) hx hb hz zi_X2 hown hK hP 1 rfl rfl 0 (by decide) (va_Nw.use rfl (hE.1.1 _ zw_169)) (fun _ h9 => h9) rfl (zdt zkX10_gains 99 rfl) ?_
        refine lv_iload hx hb (zdt zkX10_gains 102 rfl) (lv_at hl 6 rfl) ?_
        refine lv_iload_n hx hb (zdt zkX10_gains 104 rfl) rfl (lv_at hl 5 rfl) ?_
        refine xe_d2 hf (fun a13 a14 hg hf => ?_)
        have hC : ([3, 12, 13] : List Nat).map (fun i => (wd_HS_gains cA q0 q1 q2 q3 q4 q5 q6 q7 q8 q9 q10 q11 q12 q13 q14 q15 q16 q17 q18 q19 q20 q21 q22 q23 q24 q25 u0 u1 u2 u3 u4 i_hill_children i_hill_parishes i_hill_laws i_hill_inForce i_hill_columns_many i_hill_strengths i_hill_expelled i_hill_places i_hill_terms i_hill_orders i_hill_ordered v4 v5 v6 a7 a8 a10 a11)[i]?) = (wd_Columns_move cA q13 q24 q25 i_hill_columns_many a10 a11).map some := rfl
        refine xv_afterV (ws' := (wd_HS_gains cA q0 q1 q2 q3 q4 q5 q6 q7 q8 q9 q10 q11 q12 q13 q14 q15 q16 q17 q18 q19 q20 q21 q22 q23 q24 q25 u0 u1 u2 u3 u4 i_hill_children i_hill_parishes i_hill_laws i_hill_inForce i_hill_columns_many i_hill_strengths i_hill_expelled i_hill_places i_hill_terms i_hill_orders i_hill_ordered v4 v5 v6 a7 a8 a13 a14)) (isC := [3, 12, 13]) (ps := [none, none, none, some 0, none, none, none, none, none, none, none, none, some 1, some 2]) (va_runV (As := [.int (Int32.ofInt x4), .int (Int32.ofInt x3)]) (rest := []) ⟨hx, hb, hml, hown, hts⟩ (c_Columns_move l ev dC dI cA q13 q24 q25 hg H.size) (cwV 2 hts (zgV zw_850 zw_851 zw_852 zw_106 zw_853) rfl rfl rfl hd_Columns_move ⟨Nat.le_of_ble_eq_true rfl, Nat.le_of_ble_eq_true rfl⟩) (xv_preV (T := TX1) (N := 3) hE hA hS hK hP hD (isC := [3, 12, 13]) (by decide +kernel) hC (q0 := 3) (ci := 1) rfl rfl) rfl rfl hl.1 rfl (lv_room (Nat.le_of_ble_eq_true rfl)) (zdt zkX10_gains 105 rfl) ⟨Nat.le_refl _, Nat.le_refl _⟩) hP hD hS hA (by decide +kernel) rfl hC rfl rfl (fun H locs hP hD hS => ?_)
        refine lv_iload hx hb (zdt zkX10_gains 108 rfl) (lv_at hl 1 rfl) ?_
        refine lv_iload hx hb (zdt zkX10_gains 110 rfl) (lv_at hl 0 rfl) ?_
        refine xi_isub hx hb (zdt zkX10_gains 112 rfl) hf (fun v15 hf => ?_)
        obtain rfl := Option.some.inj hf
        exact hret _ _ _ _ rfl (zdt zkX10_gains 113 rfl) hP hD hS
      · refine lv_sipush (v := Int32.ofInt (-1000)) hx hb (zdt zkX10_gains 44 rfl) (by decide) ?_
        obtain rfl := Option.some.inj hf
        exact hret _ _ _ _ rfl (zdt zkX10_gains 47 rfl) hP hD hS
set_option maxRecDepth 100000 in
noncomputable def ztX10_goal (p : Nat) : Option (Jvm.ClassFile.Instr × Nat) := bif Nat.ble 38 p then (bif Nat.ble 56 p then (bif Nat.ble 65 p then (bif Nat.ble 67 p then (bif Nat.ble 68 p then (bif Nat.ble 71 p then (bif Nat.beq p 71 then some (.ireturn, 1) else none) else (bif Nat.beq p 68 then some (.invokevirtual 119, 3) else none)) else (bif Nat.beq p 67 then some (.iload_n 3, 1) else none)) else (bif Nat.ble 66 p then (bif Nat.beq p 66 then some (.aload_n 0, 1) else none) else (bif Nat.beq p 65 then some (.iastore, 1) else none))) else (bif Nat.ble 60 p then (bif Nat.ble 63 p then (bif Nat.ble 64 p then (bif Nat.beq p 64 then some (.iload_n 2, 1) else none) else (bif Nat.beq p 63 then some (.iload_n 1, 1) else none)) else (bif Nat.beq p 60 then some (.getfield 116, 3) else none)) else (bif Nat.ble 57 p then (bif Nat.beq p 57 then some (.getfield 10, 3) else none) else (bif Nat.beq p 56 then some (.aload_n 0, 1) else none)))) else (bif Nat.ble 47 p then (bif Nat.ble 53 p then (bif Nat.ble 54 p then (bif Nat.ble 55 p then (bif Nat.beq p 55 then some (.istore_n 3, 1) else none) else (bif Nat.beq p 54 then some (.iaload, 1) else none)) else (bif Nat.beq p 53 then some (.iload_n 1, 1) else none)) else (bif Nat.ble 50 p then (bif Nat.beq p 50 then some (.getfield 116, 3) else none) else (bif Nat.beq p 47 then some (.getfield 10, 3) else none))) else (bif Nat.ble 42 p then (bif Nat.ble 45 p then (bif Nat.ble 46 p then (bif Nat.beq p 46 then some (.aload_n 0, 1) else none) else (bif Nat.beq p 45 then some (.ireturn, 1) else none)) else (bif Nat.beq p 42 then some (.sipush (-1000), 3) else none)) else (bif Nat.ble 41 p then (bif Nat.beq p 41 then some (.pop, 1) else none) else (bif Nat.beq p 38 then some (.invokevirtual 109, 3) else none))))) else (bif Nat.ble 17 p then (bif Nat.ble 28 p then (bif Nat.ble 32 p then (bif Nat.ble 35 p then (bif Nat.ble 36 p then (bif Nat.beq p 36 then some (.bipush (-2), 2) else none) else (bif Nat.beq p 35 then some (.aload_n 0, 1) else none)) else (bif Nat.beq p 32 then some (.ifCond .ne 14, 3) else none)) else (bif Nat.ble 29 p then (bif Nat.beq p 29 then some (.invokevirtual 122, 3) else none) else (bif Nat.beq p 28 then some (.iload_n 1, 1) else none))) else (bif Nat.ble 21 p then (bif Nat.ble 22 p then (bif Nat.ble 25 p then (bif Nat.beq p 25 then some (.getfield 99, 3) else none) else (bif Nat.beq p 22 then some (.getfield 10, 3) else none)) else (bif Nat.beq p 21 then some (.aload_n 0, 1) else none)) else (bif Nat.ble 20 p then (bif Nat.beq p 20 then some (.ireturn, 1) else none) else (bif Nat.beq p 17 then some (.sipush (-1000), 3) else none)))) else (bif Nat.ble 8 p then (bif Nat.ble 12 p then (bif Nat.ble 13 p then (bif Nat.ble 16 p then (bif Nat.beq p 16 then some (.pop, 1) else none) else (bif Nat.beq p 13 then some (.invokevirtual 109, 3) else none)) else (bif Nat.beq p 12 then some (.iconst (-1), 1) else none)) else (bif Nat.ble 11 p then (bif Nat.beq p 11 then some (.aload_n 0, 1) else none) else (bif Nat.beq p 8 then some (.if_icmp .le 13, 3) else none))) else (bif Nat.ble 2 p then (bif Nat.ble 5 p then (bif Nat.ble 6 p then (bif Nat.beq p 6 then some (.bipush 10, 2) else none) else (bif Nat.beq p 5 then some (.iload_n 2, 1) else none)) else (bif Nat.beq p 2 then some (.if_icmp .lt 9, 3) else none)) else (bif Nat.ble 1 p then (bif Nat.beq p 1 then some (.iconst (-1), 1) else none) else (bif Nat.beq p 0 then some (.iload_n 2, 1) else none)))))
set_option maxRecDepth 100000 in
theorem zkX10_goal : (zbig cX10_goal.data.toList = 166624225505526049701319701197578147615591924401199187701321368786211487417967984591659181513924309021483299234125347253461243166032408304363389101812992964258547842339111452 ∧ cX10_goal.data.toList.length = 72) ∧ zdk cX10_goal 166624225505526049701319701197578147615591924401199187701321368786211487417967984591659181513924309021483299234125347253461243166032408304363389101812992964258547842339111452 72 ztX10_goal 71 = true := by decide +kernel
theorem zw_913 : (Jvm.Cond.code ({ cls := "HillSchool", name := "goal", desc := "(II)I" } : Jvm.MethodName) prog_1_method_27_code (4 : Nat) (Option.some Jvm.ClassFile.FieldType.int)) ∈ zall := zmemG (zmj_4 90 rfl) rfl
noncomputable abbrev w_HS_goal : List Cond := .code yX10_goal cX10_goal 4 (some .int) :: zall
noncomputable abbrev rm_HS_goal : Room := { frames := 1, cells := 0, slots := 0, locals := 21 }
theorem hd_HS_goal : yX10_goal.cls = "HillSchool" ∧ yX10_goal.cls ≠ "java/lang/invoke/MethodHandle" ∧ yX10_goal.cls ≠ "java/lang/invoke/VarHandle" ∧ (parseMethodDescriptor yX10_goal.desc).map (fun d => d.parameters.length) = some 2 := by decide +kernel
noncomputable def wd_HS_goal (cA : Nat → ClassId) (q0 q1 q2 q3 q4 q5 q6 q7 q8 q9 q10 q11 q12 q13 q14 q15 q16 q17 q18 q19 q20 q21 q22 q23 : Nat) (u0 u1 u2 u3 u4 u5 u6 : Int) (i_hill_columns_many : Int) (i_latestStatus : Int) (i_hill_changes : Int) (i_refusals : Nat → Int) (i_hill_goals : Nat → Int) : va_W := [(q0, .inr (10, [.ref q1, .ref q2, .ref q3, .ref q4, .int (Int32.ofInt u0), .int (Int32.ofInt u1), .int (Int32.ofInt u2), .ref q5, .int (Int32.ofInt i_latestStatus), .ref q6, .ref q7, .ref q8, .ref q9, .ref q10, .ref q11, .ref q12])), (q1, .inr (2, [.ref q13, .int (Int32.ofInt u3), .ref q14, .ref q15, .ref q16, .int (Int32.ofInt u4), .ref q17, .ref q18, .ref q19, .int (Int32.ofInt u5), .ref q20, .ref q21, .int (Int32.ofInt u6), .int (Int32.ofInt i_hill_changes)])), (q5, .inl (cA 0, 7, .inl (za i_refusals))), (q13, .inr (1, [.int (Int32.ofInt i_hill_columns_many), .ref q22, .ref q23])), (q19, .inl (cA 0, 12, .inl (za i_hill_goals)))]
noncomputable def wf_HS_goal (cA : Nat → ClassId) (q0 q1 q2 q3 q4 q5 q6 q7 q8 q9 q10 q11 q12 q13 q14 q15 q16 q17 q18 q19 q20 q21 q22 q23 : Nat) (u0 u1 u2 u3 u4 u5 u6 : Int) (i_hill_columns_many : Int) (o : Int × Int × Int × (Nat → Int) × (Nat → Int)) : va_W := wd_HS_goal cA q0 q1 q2 q3 q4 q5 q6 q7 q8 q9 q10 q11 q12 q13 q14 q15 q16 q17 q18 q19 q20 q21 q22 q23 u0 u1 u2 u3 u4 u5 u6 i_hill_columns_many o.2.1 o.2.2.1 o.2.2.2.1 o.2.2.2.2
noncomputable def f_HS_goal_11 (i_hill_columns_many : Int) (i_latestStatus : Int) (i_hill_changes : Int) (i_refusals : Nat → Int) (i_hill_goals : Nat → Int) : Option (Int × Int × Int × (Nat → Int) × (Nat → Int)) :=
  zd3 (f_HS_refuse (-1) i_latestStatus i_refusals) fun v1 v2 a3 =>
  some ((-1000), v2, i_hill_changes, a3, i_hill_goals)
noncomputable def f_HS_goal (x1 : Int) (x2 : Int) (i_hill_columns_many : Int) (i_latestStatus : Int) (i_hill_changes : Int) (i_refusals : Nat → Int) (i_hill_goals : Nat → Int) : Option (Int × Int × Int × (Nat → Int) × (Nat → Int)) :=
  if zi_w x2 < zi_w (-1) then
    f_HS_goal_11 i_hill_columns_many i_latestStatus i_hill_changes i_refusals i_hill_goals
  else
    if zi_w x2 ≤ zi_w 10 then
      zd1 (f_Columns_has x1 i_hill_columns_many) fun v1 =>
      if zi_w v1 ≠ 0 then
        zg 12 i_hill_goals x1 fun v2 =>
        zs 12 i_hill_goals x1 x2 fun a3 =>
        zd3 (f_HS_accept v2 i_latestStatus i_hill_changes) fun v4 v5 v6 =>
        some (v4, v5, v6, i_refusals, a3)
      else
        zd3 (f_HS_refuse (-2) i_latestStatus i_refusals) fun v7 v8 a9 =>
        some ((-1000), v8, i_hill_changes, a9, i_hill_goals)
    else
      f_HS_goal_11 i_hill_columns_many i_latestStatus i_hill_changes i_refusals i_hill_goals
set_option maxHeartbeats 4000000 in
set_option maxRecDepth 100000 in
theorem c_HS_goal (l : Launch) (ev : zEv) (dC : Nat → ClassId) (dI : Nat → Nat → Nat) (cA : Nat → ClassId) (q0 q1 q2 q3 q4 q5 q6 q7 q8 q9 q10 q11 q12 q13 q14 q15 q16 q17 q18 q19 q20 q21 q22 q23 : Nat) (u0 u1 u2 u3 u4 u5 u6 : Int) {x1 x2 : Int} {i_hill_columns_many : Int} {i_latestStatus : Int} {i_hill_changes : Int} {i_refusals : Nat → Int} {i_hill_goals : Nat → Int} {out : Int × Int × Int × (Nat → Int) × (Nat → Int)} (hf : f_HS_goal x1 x2 i_hill_columns_many i_latestStatus i_hill_changes i_refusals i_hill_goals = some out) : xc_I l ev (dC, dI) vwCl (tyl cA) yX10_goal w_HS_goal rm_HS_goal [.ref q0, .int (Int32.ofInt x1), .int (Int32.ofInt x2)] (wd_HS_goal cA q0 q1 q2 q3 q4 q5 q6 q7 q8 q9 q10 q11 q12 q13 q14 q15 q16 q17 q18 q19 q20 q21 q22 q23 u0 u1 u2 u3 u4 u5 u6 i_hill_columns_many i_latestStatus i_hill_changes i_refusals i_hill_goals) (wf_HS_goal cA q0 q1 q2 q3 q4 q5 q6 q7 q8 q9 q10 q11 q12 q13 q14 q15 q16 q17 q18 q19 q20 q21 q22 q23 u0 u1 u2 u3 u4 u5 u6 i_hill_columns_many out) out.1 := by
  refine xv_startI (cc := cX10_goal) (maxL := 4) (rt := .int) (by decide +kernel) rfl (Nat.le_of_ble_eq_true rfl) ?_
  intro p e s m args below meth c A Q H ls hx hb hml hts hown hK hA hP hD hS hl hE hret
  have hown : s.vm.findClass "HillSchool" = some m.cls := hown
  have hz : ∀ w ∈ zall, w.before args s = true := fun w h => hts w (List.mem_cons_of_mem _ h)
  have hl : lv_has ls 4 [(0, .ref q0), (1, .int (Int32.ofInt x1)), (2, .int (Int32.ofInt x2))] := hl
  have b_11 : ∀ (i_latestStatus : Int) (i_hill_changes : Int) (i_refusals : Nat → Int) (i_hill_goals : Nat → Int) (H : Heap) (locs : List Loc) (ls : Array Slot), f_HS_goal_11 i_hill_columns_many i_latestStatus i_hill_changes i_refusals i_hill_goals = some out → va_P (dC, dI) vwCl (wd_HS_goal cA q0 q1 q2 q3 q4 q5 q6 q7 q8 q9 q10 q11 q12 q13 q14 q15 q16 q17 q18 q19 q20 q21 q22 q23 u0 u1 u2 u3 u4 u5 u6 i_hill_columns_many i_latestStatus i_hill_changes i_refusals i_hill_goals) H → va_D A (wd_HS_goal cA q0 q1 q2 q3 q4 q5 q6 q7 q8 q9 q10 q11 q12 q13 q14 q15 q16 q17 q18 q19 q20 q21 q22 q23 u0 u1 u2 u3 u4 u5 u6 i_hill_columns_many i_latestStatus i_hill_changes i_refusals i_hill_goals) → va_S A s.heap H locs → lv_has ls 4 [(0, .ref q0)] → W p l e rm_HS_goal s m args below meth c H locs 0 0 Q (F0 m 11 ls []) := by
    intro i_latestStatus i_hill_changes i_refusals i_hill_goals H locs ls hf hP hD hS hl
    unfold f_HS_goal_11 at hf
    refine lv_aload_n hx hb (zdt zkX10_goal 11 rfl) rfl (lv_at hl 0 rfl) ?_
    refine lv_iconst (v := Int32.ofInt (-1)) hx hb (zdt zkX10_goal 12 rfl) rfl ?_
    refine xe_d3 hf (fun v1 v2 a3 hg hf => ?_)
    have hC : ([0, 2] : List Nat).map (fun i => (wd_HS_goal cA q0 q1 q2 q3 q4 q5 q6 q7 q8 q9 q10 q11 q12 q13 q14 q15 q16 q17 q18 q19 q20 q21 q22 q23 u0 u1 u2 u3 u4 u5 u6 i_hill_columns_many i_latestStatus i_hill_changes i_refusals i_hill_goals)[i]?) = (wd_HS_refuse cA q0 q1 q2 q3 q4 q5 q6 q7 q8 q9 q10 q11 q12 u0 u1 u2 i_latestStatus i_refusals).map some := rfl
    refine xv_afterI (ws' := (wd_HS_goal cA q0 q1 q2 q3 q4 q5 q6 q7 q8 q9 q10 q11 q12 q13 q14 q15 q16 q17 q18 q19 q20 q21 q22 q23 u0 u1 u2 u3 u4 u5 u6 i_hill_columns_many v2 i_hill_changes a3 i_hill_goals)) (isC := [0, 2]) (ps := [some 0, none, some 1, none, none]) (va_runV (As := [.int (Int32.ofInt (-1))]) (rest := []) ⟨hx, hb, hml, hown, hts⟩ (c_HS_refuse l ev dC dI cA q0 q1 q2 q3 q4 q5 q6 q7 q8 q9 q10 q11 q12 u0 u1 u2 hg H.size) (cwV 1 hts (zgV zw_534 zw_536 zw_0 zw_104 zw_537) rfl rfl rfl hd_HS_refuse ⟨Nat.le_of_ble_eq_true rfl, Nat.le_of_ble_eq_true rfl⟩) (xv_preV (T := TX10) (N := 16) hE hA hS hK hP hD (isC := [0, 2]) (by decide +kernel) hC (q0 := 0) (ci := 10) rfl rfl) rfl rfl hl.1 rfl (lv_room (Nat.le_of_ble_eq_true rfl)) (zdt zkX10_goal 13 rfl) ⟨Nat.le_refl _, Nat.le_refl _⟩) hP hD hS hA (by decide +kernel) rfl hC rfl rfl (fun H locs hP hD hS => ?_)
    refine lv_pop hx hb (zdt zkX10_goal 16 rfl) rfl ?_
    refine lv_sipush (v := Int32.ofInt (-1000)) hx hb (zdt zkX10_goal 17 rfl) (by decide) ?_
    obtain rfl := Option.some.inj hf
    exact hret _ _ _ _ rfl (zdt zkX10_goal 20 rfl) hP hD hS
  unfold f_HS_goal at hf
  refine lv_iload_n hx hb (zdt zkX10_goal 0 rfl) rfl (lv_at hl 2 rfl) ?_
  refine lv_iconst (v := Int32.ofInt (-1)) hx hb (zdt zkX10_goal 1 rfl) rfl ?_
  refine xi_icmp_lt (tgt := 11) hx hb (zdt zkX10_goal 2 rfl) (by decide) hf (fun hf => ?_) (fun hf => ?_)
  · exact b_11  _ _ _ _ _ _ _ hf hP hD hS (lv_sub hl [0] rfl)
  · refine lv_iload_n hx hb (zdt zkX10_goal 5 rfl) rfl (lv_at hl 2 rfl) ?_
    refine lv_bipush (v := Int32.ofInt 10) hx hb (zdt zkX10_goal 6 rfl) (by decide) ?_
    refine xi_icmp_le (tgt := 21) hx hb (zdt zkX10_goal 8 rfl) (by decide) hf (fun hf => ?_) (fun hf => ?_)
    · refine lv_aload_n hx hb (zdt zkX10_goal 21 rfl) rfl (lv_at hl 0 rfl) ?_
      refine va_get (D := (dC, dI)) (ci := 10) (v := .ref q1) (C := RX10) (T := TX10) (N := 16) hx hb hz zi_X10 hown hK hP 0 rfl rfl 0 (by decide) (hz _ zw_477) (fun _ h9 => h9) rfl (zdt zkX10_goal 22 rfl) ?_
      refine va_getN (D := (dC, dI)) (ci := 2) (v := .ref q13) (C := RX2) (T := TX2) (N := 14) hx hb hz zi_X2 hown hK hP 1 rfl rfl 0 (by decide) (va_Nw.use rfl (hE.1.1 _ zw_169)) (fun _ h9 => h9) rfl (zdt zkX10_goal 25 rfl) ?_
      refine lv_iload_n hx hb (zdt zkX10_goal 28 rfl) rfl (lv_at hl 1 rfl) ?_
      refine xe_d1 hf (fun v1 hg hf => ?_)
      have hC : ([3] : List Nat).map (fun i => (wd_HS_goal cA q0 q1 q2 q3 q4 q5 q6 q7 q8 q9 q10 q11 q12 q13 q14 q15 q16 q17 q18 q19 q20 q21 q22 q23 u0 u1 u2 u3 u4 u5 u6 i_hill_columns_many i_latestStatus i_hill_changes i_refusals i_hill_goals)[i]?) = (wd_Columns_has cA q13 q22 q23 i_hill_columns_many).map some := rfl
      refine xv_afterI (ws' := (wd_HS_goal cA q0 q1 q2 q3 q4 q5 q6 q7 q8 q9 q10 q11 q12 q13 q14 q15 q16 q17 q18 q19 q20 q21 q22 q23 u0 u1 u2 u3 u4 u5 u6 i_hill_columns_many i_latestStatus i_hill_changes i_refusals i_hill_goals)) (isC := [3]) (ps := [none, none, none, some 0, none]) (va_runV (As := [.int (Int32.ofInt x1)]) (rest := []) ⟨hx, hb, hml, hown, hts⟩ (c_Columns_has l ev dC dI cA q13 q22 q23 hg H.size) (cwV 1 hts (zgV zw_546 zw_547 zw_548 zw_106 zw_549) rfl rfl rfl hd_Columns_has ⟨Nat.le_of_ble_eq_true rfl, Nat.le_of_ble_eq_true rfl⟩) (xv_preV (T := TX1) (N := 3) hE hA hS hK hP hD (isC := [3]) (by decide +kernel) hC (q0 := 3) (ci := 1) rfl rfl) rfl rfl hl.1 rfl (lv_room (Nat.le_of_ble_eq_true rfl)) (zdt zkX10_goal 29 rfl) ⟨Nat.le_refl _, Nat.le_refl _⟩) hP hD hS hA (by decide +kernel) rfl hC rfl rfl (fun H locs hP hD hS => ?_)
      refine xi_if_ne (tgt := 46) hx hb (zdt zkX10_goal 32 rfl) (by decide) hf (fun hf => ?_) (fun hf => ?_)
      · refine lv_aload_n hx hb (zdt zkX10_goal 46 rfl) rfl (lv_at hl 0 rfl) ?_
        refine va_get (D := (dC, dI)) (ci := 10) (v := .ref q1) (C := RX10) (T := TX10) (N := 16) hx hb hz zi_X10 hown hK hP 0 rfl rfl 0 (by decide) (hz _ zw_477) (fun _ h9 => h9) rfl (zdt zkX10_goal 47 rfl) ?_
        refine va_getN (D := (dC, dI)) (ci := 2) (v := .ref q19) (C := RX2) (T := TX2) (N := 14) hx hb hz zi_X2 hown hK hP 1 rfl rfl 8 (by decide) (va_Nw.use rfl (hE.1.1 _ zw_194)) (fun _ h9 => h9) rfl (zdt zkX10_goal 50 rfl) ?_
        refine lv_iload_n hx hb (zdt zkX10_goal 53 rfl) rfl (lv_at hl 1 rfl) ?_
        refine xi_iald hx hb hK hP 4 0 rfl rfl (zdt zkX10_goal 54 rfl) hf (fun v2 hf => ?_)
        refine lv_istore_n (lv' := [(3, .int (Int32.ofInt v2)), (0, .ref q0), (1, .int (Int32.ofInt x1)), (2, .int (Int32.ofInt x2))]) hx hb (zdt zkX10_goal 55 rfl) rfl hl (by decide) rfl (fun ls hl => ?_)
        refine lv_aload_n hx hb (zdt zkX10_goal 56 rfl) rfl (lv_at hl 1 rfl) ?_
        refine va_get (D := (dC, dI)) (ci := 10) (v := .ref q1) (C := RX10) (T := TX10) (N := 16) hx hb hz zi_X10 hown hK hP 0 rfl rfl 0 (by decide) (hz _ zw_477) (fun _ h9 => h9) rfl (zdt zkX10_goal 57 rfl) ?_
        refine va_getN (D := (dC, dI)) (ci := 2) (v := .ref q19) (C := RX2) (T := TX2) (N := 14) hx hb hz zi_X2 hown hK hP 1 rfl rfl 8 (by decide) (va_Nw.use rfl (hE.1.1 _ zw_194)) (fun _ h9 => h9) rfl (zdt zkX10_goal 60 rfl) ?_
        refine lv_iload_n hx hb (zdt zkX10_goal 63 rfl) rfl (lv_at hl 2 rfl) ?_
        refine lv_iload_n hx hb (zdt zkX10_goal 64 rfl) rfl (lv_at hl 3 rfl) ?_
        refine xi_iast hx hb hK hP hD hS 4 0 rfl rfl (zdt zkX10_goal 65 rfl) hf (fun a3 H locs hP hD hS hf => ?_)
        refine xw_PD (wd_HS_goal cA q0 q1 q2 q3 q4 q5 q6 q7 q8 q9 q10 q11 q12 q13 q14 q15 q16 q17 q18 q19 q20 q21 q22 q23 u0 u1 u2 u3 u4 u5 u6 i_hill_columns_many i_latestStatus i_hill_changes i_refusals a3) hP hD (fun hP hD => ?_)
        refine lv_aload_n hx hb (zdt zkX10_goal 66 rfl) rfl (lv_at hl 1 rfl) ?_
        refine lv_iload_n hx hb (zdt zkX10_goal 67 rfl) rfl (lv_at hl 0 rfl) ?_
        refine xe_d3 hf (fun v4 v5 v6 hg hf => ?_)
        have hC : ([0, 1] : List Nat).map (fun i => (wd_HS_goal cA q0 q1 q2 q3 q4 q5 q6 q7 q8 q9 q10 q11 q12 q13 q14 q15 q16 q17 q18 q19 q20 q21 q22 q23 u0 u1 u2 u3 u4 u5 u6 i_hill_columns_many i_latestStatus i_hill_changes i_refusals a3)[i]?) = (wd_HS_accept cA q0 q1 q2 q3 q4 q5 q6 q7 q8 q9 q10 q11 q12 q13 q14 q15 q16 q17 q18 q19 q20 q21 u0 u1 u2 u3 u4 u5 u6 i_latestStatus i_hill_changes).map some := rfl
        refine xv_afterI (ws' := (wd_HS_goal cA q0 q1 q2 q3 q4 q5 q6 q7 q8 q9 q10 q11 q12 q13 q14 q15 q16 q17 q18 q19 q20 q21 q22 q23 u0 u1 u2 u3 u4 u5 u6 i_hill_columns_many v5 v6 i_refusals a3)) (isC := [0, 1]) (ps := [some 0, some 1, none, none, none]) (va_runV (As := [.int (Int32.ofInt v2)]) (rest := []) ⟨hx, hb, hml, hown, hts⟩ (c_HS_accept l ev dC dI cA q0 q1 q2 q3 q4 q5 q6 q7 q8 q9 q10 q11 q12 q13 q14 q15 q16 q17 q18 q19 q20 q21 u0 u1 u2 u3 u4 u5 u6 hg H.size) (cwV 1 hts (zgV zw_538 zw_540 zw_1 zw_104 zw_541) rfl rfl rfl hd_HS_accept ⟨Nat.le_of_ble_eq_true rfl, Nat.le_of_ble_eq_true rfl⟩) (xv_preV (T := TX10) (N := 16) hE hA hS hK hP hD (isC := [0, 1]) (by decide +kernel) hC (q0 := 0) (ci := 10) rfl rfl) rfl rfl hl.1 rfl (lv_room (Nat.le_of_ble_eq_true rfl)) (zdt zkX10_goal 68 rfl) ⟨Nat.le_refl _, Nat.le_refl _⟩) hP hD hS hA (by decide +kernel) rfl hC rfl rfl (fun H locs hP hD hS => ?_)
        obtain rfl := Option.some.inj hf
        exact hret _ _ _ _ rfl (zdt zkX10_goal 71 rfl) hP hD hS
      · refine lv_aload_n hx hb (zdt zkX10_goal 35 rfl) rfl (lv_at hl 0 rfl) ?_
        refine lv_bipush (v := Int32.ofInt (-2)) hx hb (zdt zkX10_goal 36 rfl) (by decide) ?_
        refine xe_d3 hf (fun v7 v8 a9 hg hf => ?_)
        have hC : ([0, 2] : List Nat).map (fun i => (wd_HS_goal cA q0 q1 q2 q3 q4 q5 q6 q7 q8 q9 q10 q11 q12 q13 q14 q15 q16 q17 q18 q19 q20 q21 q22 q23 u0 u1 u2 u3 u4 u5 u6 i_hill_columns_many i_latestStatus i_hill_changes i_refusals i_hill_goals)[i]?) = (wd_HS_refuse cA q0 q1 q2 q3 q4 q5 q6 q7 q8 q9 q10 q11 q12 u0 u1 u2 i_latestStatus i_refusals).map some := rfl
        refine xv_afterI (ws' := (wd_HS_goal cA q0 q1 q2 q3 q4 q5 q6 q7 q8 q9 q10 q11 q12 q13 q14 q15 q16 q17 q18 q19 q20 q21 q22 q23 u0 u1 u2 u3 u4 u5 u6 i_hill_columns_many v8 i_hill_changes a9 i_hill_goals)) (isC := [0, 2]) (ps := [some 0, none, some 1, none, none]) (va_runV (As := [.int (Int32.ofInt (-2))]) (rest := []) ⟨hx, hb, hml, hown, hts⟩ (c_HS_refuse l ev dC dI cA q0 q1 q2 q3 q4 q5 q6 q7 q8 q9 q10 q11 q12 u0 u1 u2 hg H.size) (cwV 1 hts (zgV zw_534 zw_536 zw_0 zw_104 zw_537) rfl rfl rfl hd_HS_refuse ⟨Nat.le_of_ble_eq_true rfl, Nat.le_of_ble_eq_true rfl⟩) (xv_preV (T := TX10) (N := 16) hE hA hS hK hP hD (isC := [0, 2]) (by decide +kernel) hC (q0 := 0) (ci := 10) rfl rfl) rfl rfl hl.1 rfl (lv_room (Nat.le_of_ble_eq_true rfl)) (zdt zkX10_goal 38 rfl) ⟨Nat.le_refl _, Nat.le_refl _⟩) hP hD hS hA (by decide +kernel) rfl hC rfl rfl (fun H locs hP hD hS => ?_)
        refine lv_pop hx hb (zdt zkX10_goal 41 rfl) rfl ?_
        refine lv_sipush (v := Int32.ofInt (-1000)) hx hb (zdt zkX10_goal 42 rfl) (by decide) ?_
        obtain rfl := Option.some.inj hf
        exact hret _ _ _ _ rfl (zdt zkX10_goal 45 rfl) hP hD hS
    · exact b_11  _ _ _ _ _ _ _ hf hP hD hS (lv_sub hl [0] rfl)
set_option maxRecDepth 100000 in
noncomputable def ztX7_write (p : Nat) : Option (Jvm.ClassFile.Instr × Nat) := bif Nat.ble 47 p then (bif Nat.ble 74 p then (bif Nat.ble 86 p then (bif Nat.ble 92 p then (bif Nat.ble 96 p then (bif Nat.ble 99 p then (bif Nat.beq p 99 then some (.return_, 1) else none) else (bif Nat.beq p 96 then some (.goto (-40), 3) else none)) else (bif Nat.ble 93 p then (bif Nat.beq p 93 then some (.iinc 4 (-1), 3) else none) else (bif Nat.beq p 92 then some (.istore_n 3, 1) else none))) else (bif Nat.ble 90 p then (bif Nat.ble 91 p then (bif Nat.beq p 91 then some (.iaload, 1) else none) else (bif Nat.beq p 90 then some (.iload_n 3, 1) else none)) else (bif Nat.ble 87 p then (bif Nat.beq p 87 then some (.getfield 29, 3) else none) else (bif Nat.beq p 86 then some (.aload_n 0, 1) else none)))) else (bif Nat.ble 80 p then (bif Nat.ble 84 p then (bif Nat.ble 85 p then (bif Nat.beq p 85 then some (.iastore, 1) else none) else (bif Nat.beq p 84 then some (.iaload, 1) else none)) else (bif Nat.ble 83 p then (bif Nat.beq p 83 then some (.iload_n 3, 1) else none) else (bif Nat.beq p 80 then some (.getfield 32, 3) else none))) else (bif Nat.ble 77 p then (bif Nat.ble 79 p then (bif Nat.beq p 79 then some (.aload_n 0, 1) else none) else (bif Nat.beq p 77 then some (.iload 4, 2) else none)) else (bif Nat.beq p 74 then some (.getfield 112, 3) else none)))) else (bif Nat.ble 58 p then (bif Nat.ble 66 p then (bif Nat.ble 70 p then (bif Nat.ble 73 p then (bif Nat.beq p 73 then some (.aload_n 1, 1) else none) else (bif Nat.beq p 70 then some (.ifCond .lt 29, 3) else none)) else (bif Nat.ble 69 p then (bif Nat.beq p 69 then some (.iload_n 3, 1) else none) else (bif Nat.beq p 66 then some (.if_icmp .ge 33, 3) else none))) else (bif Nat.ble 61 p then (bif Nat.ble 63 p then (bif Nat.beq p 63 then some (.sipush 6720, 3) else none) else (bif Nat.beq p 61 then some (.iload 4, 2) else none)) else (bif Nat.beq p 58 then some (.ifCond .lt 41, 3) else none))) else (bif Nat.ble 52 p then (bif Nat.ble 54 p then (bif Nat.ble 56 p then (bif Nat.beq p 56 then some (.iload 4, 2) else none) else (bif Nat.beq p 54 then some (.istore 4, 2) else none)) else (bif Nat.ble 53 p then (bif Nat.beq p 53 then some (.isub, 1) else none) else (bif Nat.beq p 52 then some (.iconst 1, 1) else none))) else (bif Nat.ble 48 p then (bif Nat.ble 49 p then (bif Nat.beq p 49 then some (.getfield 104, 3) else none) else (bif Nat.beq p 48 then some (.aload_n 1, 1) else none)) else (bif Nat.beq p 47 then some (.istore_n 3, 1) else none))))) else (bif Nat.ble 22 p then (bif Nat.ble 33 p then (bif Nat.ble 41 p then (bif Nat.ble 43 p then (bif Nat.ble 46 p then (bif Nat.beq p 46 then some (.iload_n 2, 1) else none) else (bif Nat.beq p 43 then some (.putfield 107, 3) else none)) else (bif Nat.ble 42 p then (bif Nat.beq p 42 then some (.l2i, 1) else none) else (bif Nat.beq p 41 then some (.ldiv, 1) else none))) else (bif Nat.ble 37 p then (bif Nat.ble 38 p then (bif Nat.beq p 38 then some (.ldc2_w 110, 3) else none) else (bif Nat.beq p 37 then some (.laload, 1) else none)) else (bif Nat.ble 36 p then (bif Nat.beq p 36 then some (.iload_n 2, 1) else none) else (bif Nat.beq p 33 then some (.getfield 26, 3) else none)))) else (bif Nat.ble 27 p then (bif Nat.ble 31 p then (bif Nat.ble 32 p then (bif Nat.beq p 32 then some (.aload_n 0, 1) else none) else (bif Nat.beq p 31 then some (.aload_n 1, 1) else none)) else (bif Nat.ble 28 p then (bif Nat.beq p 28 then some (.putfield 104, 3) else none) else (bif Nat.beq p 27 then some (.l2i, 1) else none))) else (bif Nat.ble 23 p then (bif Nat.ble 26 p then (bif Nat.beq p 26 then some (.lrem, 1) else none) else (bif Nat.beq p 23 then some (.ldc2_w 110, 3) else none)) else (bif Nat.beq p 22 then some (.laload, 1) else none)))) else (bif Nat.ble 11 p then (bif Nat.ble 16 p then (bif Nat.ble 18 p then (bif Nat.ble 21 p then (bif Nat.beq p 21 then some (.iload_n 2, 1) else none) else (bif Nat.beq p 18 then some (.getfield 26, 3) else none)) else (bif Nat.ble 17 p then (bif Nat.beq p 17 then some (.aload_n 0, 1) else none) else (bif Nat.beq p 16 then some (.aload_n 1, 1) else none))) else (bif Nat.ble 12 p then (bif Nat.ble 15 p then (bif Nat.beq p 15 then some (.return_, 1) else none) else (bif Nat.beq p 12 then some (.if_icmp .ne 4, 3) else none)) else (bif Nat.beq p 11 then some (.iconst (-1), 1) else none))) else (bif Nat.ble 5 p then (bif Nat.ble 7 p then (bif Nat.ble 10 p then (bif Nat.beq p 10 then some (.iload_n 2, 1) else none) else (bif Nat.beq p 7 then some (.putfield 107, 3) else none)) else (bif Nat.ble 6 p then (bif Nat.beq p 6 then some (.iconst (-1), 1) else none) else (bif Nat.beq p 5 then some (.aload_n 1, 1) else none))) else (bif Nat.ble 1 p then (bif Nat.ble 2 p then (bif Nat.beq p 2 then some (.putfield 104, 3) else none) else (bif Nat.beq p 1 then some (.iconst (-1), 1) else none)) else (bif Nat.beq p 0 then some (.aload_n 1, 1) else none)))))
set_option maxRecDepth 100000 in
theorem zkX7_write : (zbig cX7_write.data.toList = 4632385561532040273098560856937628093356029009471876664155175891953275605040353698765667087337295869298773780528667273488410592327686466838598167391809571972967548385433809100771291148554785089064382918616332645570860424610111859956829717035 ∧ cX7_write.data.toList.length = 100) ∧ zdk cX7_write 4632385561532040273098560856937628093356029009471876664155175891953275605040353698765667087337295869298773780528667273488410592327686466838598167391809571972967548385433809100771291148554785089064382918616332645570860424610111859956829717035 100 ztX7_write 99 = true := by decide +kernel
theorem zw_331 : (Jvm.Cond.fieldLinkNest "HillSchool$Planner" (104 : Nat) "HillSchool$Plan" "length" "I" "HillSchool") ∈ znest := zmemH (zmj_1 228 rfl) rfl
theorem zw_334 : (Jvm.Cond.fieldLinkNest "HillSchool$Planner" (107 : Nat) "HillSchool$Plan" "tiring" "I" "HillSchool") ∈ znest := zmemH (zmj_1 231 rfl) rfl
theorem zw_337 : (Jvm.Cond.fieldLinkNest "HillSchool$Planner" (112 : Nat) "HillSchool$Plan" "row" "[I" "HillSchool") ∈ znest := zmemH (zmj_1 234 rfl) rfl
theorem zw_352 : (Jvm.Cond.fieldLink "HillSchool$Planner" (26 : Nat) "HillSchool$Planner" "costs" "[J") ∈ zall := zmemG (zmj_2 9 rfl) rfl
theorem zw_353 : (Jvm.Cond.fieldLink "HillSchool$Planner" (29 : Nat) "HillSchool$Planner" "before" "[I") ∈ zall := zmemG (zmj_2 10 rfl) rfl
theorem zw_354 : (Jvm.Cond.fieldLink "HillSchool$Planner" (32 : Nat) "HillSchool$Planner" "by" "[I") ∈ zall := zmemG (zmj_2 11 rfl) rfl
theorem zw_1009 : (Jvm.Cond.constantLong "HillSchool$Planner" (110 : Nat) (8192 : Int64)) ∈ zall := zmemG (zmj_4 186 rfl) rfl
theorem zw_1020 : (Jvm.Cond.code ({ cls := "HillSchool$Planner", name := "write", desc := "(LHillSchool$Plan;I)V" } : Jvm.MethodName) prog_9_method_5_code (5 : Nat) (Option.none : Option Jvm.ClassFile.FieldType)) ∈ zall := zmemG (zmj_4 197 rfl) rfl
noncomputable abbrev w_Planner_write : List Cond := .code yX7_write cX7_write 5 none :: zall
noncomputable abbrev rm_Planner_write : Room := { frames := 0, cells := 0, slots := 0, locals := 0 }
theorem hd_Planner_write : yX7_write.cls = "HillSchool$Planner" ∧ yX7_write.cls ≠ "java/lang/invoke/MethodHandle" ∧ yX7_write.cls ≠ "java/lang/invoke/VarHandle" ∧ (parseMethodDescriptor yX7_write.desc).map (fun d => d.parameters.length) = some 2 := by decide +kernel
noncomputable def wd_Planner_write (cA : Nat → ClassId) (q0 q1 q2 q3 q4 q5 q6 q7 q8 q9 q10 q11 q12 q13 q14 q15 : Nat) (u0 u1 u2 u3 : Int) (i_costs : Nat → Int) (i_before : Nat → Int) (i_by : Nat → Int) (i_a1_length : Int) (i_a1_tiring : Int) (i_a1_row : Nat → Int) : va_W := [(q0, .inr (7, [.ref q1, .ref q2, .ref q3, .ref q4, .ref q5, .ref q6, .ref q7, .ref q8, .ref q9, .ref q10, .ref q11, .ref q12, .ref q13, .int (Int32.ofInt u0), .int (Int32.ofInt u1), .int (Int32.ofInt u2)])), (q14, .inr (6, [.int (Int32.ofInt u3), .int (Int32.ofInt i_a1_length), .int (Int32.ofInt i_a1_tiring), .ref q15])), (q6, .inl (cA 2, 6720, .inr (.inl (zl i_costs)))), (q7, .inl (cA 0, 6720, .inl (za i_before))), (q8, .inl (cA 0, 6720, .inl (za i_by))), (q15, .inl (cA 0, 6720, .inl (za i_a1_row)))]
noncomputable def wf_Planner_write (cA : Nat → ClassId) (q0 q1 q2 q3 q4 q5 q6 q7 q8 q9 q10 q11 q12 q13 q14 q15 : Nat) (u0 u1 u2 u3 : Int) (i_costs : Nat → Int) (i_before : Nat → Int) (i_by : Nat → Int) (o : Int × Int × (Nat → Int)) : va_W := wd_Planner_write cA q0 q1 q2 q3 q4 q5 q6 q7 q8 q9 q10 q11 q12 q13 q14 q15 u0 u1 u2 u3 i_costs i_before i_by o.1 o.2.1 o.2.2
noncomputable def f_Planner_write_56_b (i_costs : Nat → Int) (i_before : Nat → Int) (i_by : Nat → Int) (k56 : Int → Int → Int → Int → (Nat → Int) → Option (Int × Int × (Nat → Int))) (x3 : Int) (x4 : Int) (i_a1_length : Int) (i_a1_tiring : Int) (i_a1_row : Nat → Int) : Option (Int × Int × (Nat → Int)) :=
  if zi_w x4 < 0 then
    some (i_a1_length, i_a1_tiring, i_a1_row)
  else
    if zi_w 6720 ≤ zi_w x4 then
      some (i_a1_length, i_a1_tiring, i_a1_row)
    else
      if zi_w x3 < 0 then
        some (i_a1_length, i_a1_tiring, i_a1_row)
      else
        zg 6720 i_by x3 fun v1 =>
        zs 6720 i_a1_row x4 v1 fun a2 =>
        zg 6720 i_before x3 fun v3 =>
        zn (x4 + (-1)) fun v4 =>
        k56 v3 v4 i_a1_length i_a1_tiring a2
noncomputable def f_Planner_write_56 (i_costs : Nat → Int) (i_before : Nat → Int) (i_by : Nat → Int) : Nat → Int → Int → Int → Int → (Nat → Int) → Option (Int × Int × (Nat → Int))
  | 0 => fun _ _ _ _ _ => none
  | n + 1 => fun y0 y1 y2 y3 y4 => f_Planner_write_56_b i_costs i_before i_by (f_Planner_write_56 i_costs i_before i_by n) y0 y1 y2 y3 y4
noncomputable def f_Planner_write (x2 : Int) (i_costs : Nat → Int) (i_before : Nat → Int) (i_by : Nat → Int) (i_a1_length : Int) (i_a1_tiring : Int) (i_a1_row : Nat → Int) : Option (Int × Int × (Nat → Int)) :=
  if zi_w x2 ≠ zi_w (-1) then
    zg 6720 i_costs x2 fun v1 =>
    if zl_w 8192 = 0 then none else zn (zl_rem v1 8192) fun v2 =>
    zg 6720 i_costs x2 fun v3 =>
    if zl_w 8192 = 0 then none else zn (zl_div v3 8192) fun v4 =>
    zn (v2 - 1) fun v5 =>
    f_Planner_write_56 i_costs i_before i_by zfu x2 v5 v2 v4 i_a1_row
  else
    some ((-1), (-1), i_a1_row)
set_option maxHeartbeats 4000000 in
set_option maxRecDepth 100000 in
theorem c_Planner_write (l : Launch) (ev : zEv) (dC : Nat → ClassId) (dI : Nat → Nat → Nat) (cA : Nat → ClassId) (q0 q1 q2 q3 q4 q5 q6 q7 q8 q9 q10 q11 q12 q13 q14 q15 : Nat) (u0 u1 u2 u3 : Int) {x2 : Int} {i_costs : Nat → Int} {i_before : Nat → Int} {i_by : Nat → Int} {i_a1_length : Int} {i_a1_tiring : Int} {i_a1_row : Nat → Int} {out : Int × Int × (Nat → Int)} (hf : f_Planner_write x2 i_costs i_before i_by i_a1_length i_a1_tiring i_a1_row = some out) : xc_V l ev (dC, dI) vwCl (tyl cA) yX7_write w_Planner_write rm_Planner_write [.ref q0, .ref q14, .int (Int32.ofInt x2)] (wd_Planner_write cA q0 q1 q2 q3 q4 q5 q6 q7 q8 q9 q10 q11 q12 q13 q14 q15 u0 u1 u2 u3 i_costs i_before i_by i_a1_length i_a1_tiring i_a1_row) (wf_Planner_write cA q0 q1 q2 q3 q4 q5 q6 q7 q8 q9 q10 q11 q12 q13 q14 q15 u0 u1 u2 u3 i_costs i_before i_by out) := by
  refine xv_startV (cc := cX7_write) (maxL := 5) (by decide +kernel) rfl (Nat.le_of_ble_eq_true rfl) ?_
  intro p e s m args below meth c A Q H ls hx hb hml hts hown hK hA hP hD hS hl hE hret
  have hown : s.vm.findClass "HillSchool$Planner" = some m.cls := hown
  have hz : ∀ w ∈ zall, w.before args s = true := fun w h => hts w (List.mem_cons_of_mem _ h)
  have hl : lv_has ls 5 [(0, .ref q0), (1, .ref q14), (2, .int (Int32.ofInt x2))] := hl
  have b_56 : ∀ (k56 : Int → Int → Int → Int → (Nat → Int) → Option (Int × Int × (Nat → Int))) (_ : ∀ (x3 : Int) (x4 : Int) (i_a1_length : Int) (i_a1_tiring : Int) (i_a1_row : Nat → Int) (H : Heap) (locs : List Loc) (ls : Array Slot), k56 x3 x4 i_a1_length i_a1_tiring i_a1_row = some out → va_P (dC, dI) vwCl (wd_Planner_write cA q0 q1 q2 q3 q4 q5 q6 q7 q8 q9 q10 q11 q12 q13 q14 q15 u0 u1 u2 u3 i_costs i_before i_by i_a1_length i_a1_tiring i_a1_row) H → va_D A (wd_Planner_write cA q0 q1 q2 q3 q4 q5 q6 q7 q8 q9 q10 q11 q12 q13 q14 q15 u0 u1 u2 u3 i_costs i_before i_by i_a1_length i_a1_tiring i_a1_row) → va_S A s.heap H locs → lv_has ls 5 [(0, .ref q0), (1, .ref q14), (3, .int (Int32.ofInt x3)), (4, .int (Int32.ofInt x4))] → W p l e rm_Planner_write s m args below meth c H locs 0 0 Q (F0 m 56 ls [])), ∀ (x3 : Int) (x4 : Int) (i_a1_length : Int) (i_a1_tiring : Int) (i_a1_row : Nat → Int) (H : Heap) (locs : List Loc) (ls : Array Slot), f_Planner_write_56_b i_costs i_before i_by k56 x3 x4 i_a1_length i_a1_tiring i_a1_row = some out → va_P (dC, dI) vwCl (wd_Planner_write cA q0 q1 q2 q3 q4 q5 q6 q7 q8 q9 q10 q11 q12 q13 q14 q15 u0 u1 u2 u3 i_costs i_before i_by i_a1_length i_a1_tiring i_a1_row) H → va_D A (wd_Planner_write cA q0 q1 q2 q3 q4 q5 q6 q7 q8 q9 q10 q11 q12 q13 q14 q15 u0 u1 u2 u3 i_costs i_before i_by i_a1_length i_a1_tiring i_a1_row) → va_S A s.heap H locs → lv_has ls 5 [(0, .ref q0), (1, .ref q14), (3, .int (Int32.ofInt x3)), (4, .int (Int32.ofInt x4))] → W p l e rm_Planner_write s m args below meth c H locs 0 0 Q (F0 m 56 ls []) := by
    intro k56 ih56 x3 x4 i_a1_length i_a1_tiring i_a1_row H locs ls hf hP hD hS hl
    unfold f_Planner_write_56_b at hf
    refine lv_iload hx hb (zdt zkX7_write 56 rfl) (lv_at hl 3 rfl) ?_
    refine xi_if_lt (tgt := 99) hx hb (zdt zkX7_write 58 rfl) (by decide) hf (fun hf => ?_) (fun hf => ?_)
    · obtain rfl := Option.some.inj hf
      exact hret _ _ _ _ (zdt zkX7_write 99 rfl) hP hD hS
    · refine lv_iload hx hb (zdt zkX7_write 61 rfl) (lv_at hl 3 rfl) ?_
      refine lv_sipush (v := Int32.ofInt 6720) hx hb (zdt zkX7_write 63 rfl) (by decide) ?_
      refine xi_icmp_ge (tgt := 99) hx hb (zdt zkX7_write 66 rfl) (by decide) hf (fun hf => ?_) (fun hf => ?_)
      · obtain rfl := Option.some.inj hf
        exact hret _ _ _ _ (zdt zkX7_write 99 rfl) hP hD hS
      · refine lv_iload_n hx hb (zdt zkX7_write 69 rfl) rfl (lv_at hl 2 rfl) ?_
        refine xi_if_lt (tgt := 99) hx hb (zdt zkX7_write 70 rfl) (by decide) hf (fun hf => ?_) (fun hf => ?_)
        · obtain rfl := Option.some.inj hf
          exact hret _ _ _ _ (zdt zkX7_write 99 rfl) hP hD hS
        · refine lv_aload_n hx hb (zdt zkX7_write 73 rfl) rfl (lv_at hl 1 rfl) ?_
          refine va_getN (D := (dC, dI)) (ci := 6) (v := .ref q15) (C := RX6) (T := TX6) (N := 4) hx hb hz zi_X6 hown hK hP 1 rfl rfl 3 (by decide) (va_Nw.use rfl (hE.1.1 _ zw_337)) (fun _ h9 => h9) rfl (zdt zkX7_write 74 rfl) ?_
          refine lv_iload hx hb (zdt zkX7_write 77 rfl) (lv_at hl 3 rfl) ?_
          refine lv_aload_n hx hb (zdt zkX7_write 79 rfl) rfl (lv_at hl 0 rfl) ?_
          refine va_get (D := (dC, dI)) (ci := 7) (v := .ref q8) (C := RX7) (T := TX7) (N := 16) hx hb hz zi_X7 hown hK hP 0 rfl rfl 7 (by decide) (hz _ zw_354) (fun _ h9 => h9) rfl (zdt zkX7_write 80 rfl) ?_
          refine lv_iload_n hx hb (zdt zkX7_write 83 rfl) rfl (lv_at hl 2 rfl) ?_
          refine xi_iald hx hb hK hP 4 0 rfl rfl (zdt zkX7_write 84 rfl) hf (fun v1 hf => ?_)
          refine xi_iast hx hb hK hP hD hS 5 0 rfl rfl (zdt zkX7_write 85 rfl) hf (fun a2 H locs hP hD hS hf => ?_)
          refine xw_PD (wd_Planner_write cA q0 q1 q2 q3 q4 q5 q6 q7 q8 q9 q10 q11 q12 q13 q14 q15 u0 u1 u2 u3 i_costs i_before i_by i_a1_length i_a1_tiring a2) hP hD (fun hP hD => ?_)
          refine lv_aload_n hx hb (zdt zkX7_write 86 rfl) rfl (lv_at hl 0 rfl) ?_
          refine va_get (D := (dC, dI)) (ci := 7) (v := .ref q7) (C := RX7) (T := TX7) (N := 16) hx hb hz zi_X7 hown hK hP 0 rfl rfl 6 (by decide) (hz _ zw_353) (fun _ h9 => h9) rfl (zdt zkX7_write 87 rfl) ?_
          refine lv_iload_n hx hb (zdt zkX7_write 90 rfl) rfl (lv_at hl 2 rfl) ?_
          refine xi_iald hx hb hK hP 3 0 rfl rfl (zdt zkX7_write 91 rfl) hf (fun v3 hf => ?_)
          refine lv_istore_n (lv' := [(3, .int (Int32.ofInt v3)), (0, .ref q0), (1, .ref q14), (4, .int (Int32.ofInt x4))]) hx hb (zdt zkX7_write 92 rfl) rfl hl (by decide) rfl (fun ls hl => ?_)
          refine xi_iinc hx hb (zdt zkX7_write 93 rfl) hl (k := 3) rfl (by decide) hf (fun v4 ls hl hf => ?_)
          have hl : lv_has ls 5 [(4, .int (Int32.ofInt v4)), (3, .int (Int32.ofInt v3)), (0, .ref q0), (1, .ref q14)] := hl
          refine lv_goto (tgt := 56) hx hb (zdt zkX7_write 96 rfl) (by decide) ?_
          exact ih56 _ _ _ _ _ _ _ _ hf hP hD hS (lv_sub hl [2, 3, 1, 0] rfl)
  have l_56 : ∀ (n : Nat), ∀ (x3 : Int) (x4 : Int) (i_a1_length : Int) (i_a1_tiring : Int) (i_a1_row : Nat → Int) (H : Heap) (locs : List Loc) (ls : Array Slot), f_Planner_write_56 i_costs i_before i_by n x3 x4 i_a1_length i_a1_tiring i_a1_row = some out → va_P (dC, dI) vwCl (wd_Planner_write cA q0 q1 q2 q3 q4 q5 q6 q7 q8 q9 q10 q11 q12 q13 q14 q15 u0 u1 u2 u3 i_costs i_before i_by i_a1_length i_a1_tiring i_a1_row) H → va_D A (wd_Planner_write cA q0 q1 q2 q3 q4 q5 q6 q7 q8 q9 q10 q11 q12 q13 q14 q15 u0 u1 u2 u3 i_costs i_before i_by i_a1_length i_a1_tiring i_a1_row) → va_S A s.heap H locs → lv_has ls 5 [(0, .ref q0), (1, .ref q14), (3, .int (Int32.ofInt x3)), (4, .int (Int32.ofInt x4))] → W p l e rm_Planner_write s m args below meth c H locs 0 0 Q (F0 m 56 ls []) := by
    intro n
    induction n with
    | zero => intro x3 x4 i_a1_length i_a1_tiring i_a1_row H locs ls hf hP hD hS hl; exact nomatch hf
    | succ n ih => intro x3 x4 i_a1_length i_a1_tiring i_a1_row H locs ls hf hP hD hS hl; exact b_56 (f_Planner_write_56 i_costs i_before i_by n) ih x3 x4 i_a1_length i_a1_tiring i_a1_row H locs ls hf hP hD hS hl
  unfold f_Planner_write at hf
  refine lv_aload_n hx hb (zdt zkX7_write 0 rfl) rfl (lv_at hl 1 rfl) ?_
  refine lv_iconst (v := Int32.ofInt (-1)) hx hb (zdt zkX7_write 1 rfl) rfl ?_
  refine va_putN (D := (dC, dI)) (ci := 6) (v := .int (Int32.ofInt (-1))) (ty := .int) (C := RX6) (T := TX6) (N := 4) hx hb hz zi_X6 tyX6 tyX6_ok nmX6 hown hK hP hD hS 1 rfl rfl 1 (by decide) (va_Nw.use rfl (hE.1.1 _ zw_331)) (fun _ h9 => h9) rfl (by decide +kernel) rfl rfl (Nat.le_of_ble_eq_true rfl) (zdt zkX7_write 2 rfl) (fun H locs hP hD hS => ?_)
  refine xw_PD (wd_Planner_write cA q0 q1 q2 q3 q4 q5 q6 q7 q8 q9 q10 q11 q12 q13 q14 q15 u0 u1 u2 u3 i_costs i_before i_by (-1) i_a1_tiring i_a1_row) hP hD (fun hP hD => ?_)
  refine lv_aload_n hx hb (zdt zkX7_write 5 rfl) rfl (lv_at hl 1 rfl) ?_
  refine lv_iconst (v := Int32.ofInt (-1)) hx hb (zdt zkX7_write 6 rfl) rfl ?_
  refine va_putN (D := (dC, dI)) (ci := 6) (v := .int (Int32.ofInt (-1))) (ty := .int) (C := RX6) (T := TX6) (N := 4) hx hb hz zi_X6 tyX6 tyX6_ok nmX6 hown hK hP hD hS 1 rfl rfl 2 (by decide) (va_Nw.use rfl (hE.1.1 _ zw_334)) (fun _ h9 => h9) rfl (by decide +kernel) rfl rfl (Nat.le_of_ble_eq_true rfl) (zdt zkX7_write 7 rfl) (fun H locs hP hD hS => ?_)
  refine xw_PD (wd_Planner_write cA q0 q1 q2 q3 q4 q5 q6 q7 q8 q9 q10 q11 q12 q13 q14 q15 u0 u1 u2 u3 i_costs i_before i_by (-1) (-1) i_a1_row) hP hD (fun hP hD => ?_)
  refine lv_iload_n hx hb (zdt zkX7_write 10 rfl) rfl (lv_at hl 2 rfl) ?_
  refine lv_iconst (v := Int32.ofInt (-1)) hx hb (zdt zkX7_write 11 rfl) rfl ?_
  refine xi_icmp_ne (tgt := 16) hx hb (zdt zkX7_write 12 rfl) (by decide) hf (fun hf => ?_) (fun hf => ?_)
  · refine lv_aload_n hx hb (zdt zkX7_write 16 rfl) rfl (lv_at hl 1 rfl) ?_
    refine lv_aload_n hx hb (zdt zkX7_write 17 rfl) rfl (lv_at hl 0 rfl) ?_
    refine va_get (D := (dC, dI)) (ci := 7) (v := .ref q6) (C := RX7) (T := TX7) (N := 16) hx hb hz zi_X7 hown hK hP 0 rfl rfl 5 (by decide) (hz _ zw_352) (fun _ h9 => h9) rfl (zdt zkX7_write 18 rfl) ?_
    refine lv_iload_n hx hb (zdt zkX7_write 21 rfl) rfl (lv_at hl 2 rfl) ?_
    refine xl_lald hx hb hK hP 2 2 rfl rfl (zdt zkX7_write 22 rfl) hf (fun v1 hf => ?_)
    refine lv_ldc2 (v := Int64.ofInt 8192) hx hb hown (hz _ zw_1009) (zdt zkX7_write 23 rfl) ?_
    refine xl_lrem hx hb (zdt zkX7_write 26 rfl) hf (fun v2 hf => ?_)
    refine xl_l2i hx hb (zdt zkX7_write 27 rfl) ?_
    refine va_putN (D := (dC, dI)) (ci := 6) (v := .int (Int32.ofInt v2)) (ty := .int) (C := RX6) (T := TX6) (N := 4) hx hb hz zi_X6 tyX6 tyX6_ok nmX6 hown hK hP hD hS 1 rfl rfl 1 (by decide) (va_Nw.use rfl (hE.1.1 _ zw_331)) (fun _ h9 => h9) rfl (by decide +kernel) rfl rfl (Nat.le_of_ble_eq_true rfl) (zdt zkX7_write 28 rfl) (fun H locs hP hD hS => ?_)
    refine xw_PD (wd_Planner_write cA q0 q1 q2 q3 q4 q5 q6 q7 q8 q9 q10 q11 q12 q13 q14 q15 u0 u1 u2 u3 i_costs i_before i_by v2 (-1) i_a1_row) hP hD (fun hP hD => ?_)
    refine lv_aload_n hx hb (zdt zkX7_write 31 rfl) rfl (lv_at hl 1 rfl) ?_
    refine lv_aload_n hx hb (zdt zkX7_write 32 rfl) rfl (lv_at hl 0 rfl) ?_
    refine va_get (D := (dC, dI)) (ci := 7) (v := .ref q6) (C := RX7) (T := TX7) (N := 16) hx hb hz zi_X7 hown hK hP 0 rfl rfl 5 (by decide) (hz _ zw_352) (fun _ h9 => h9) rfl (zdt zkX7_write 33 rfl) ?_
    refine lv_iload_n hx hb (zdt zkX7_write 36 rfl) rfl (lv_at hl 2 rfl) ?_
    refine xl_lald hx hb hK hP 2 2 rfl rfl (zdt zkX7_write 37 rfl) hf (fun v3 hf => ?_)
    refine lv_ldc2 (v := Int64.ofInt 8192) hx hb hown (hz _ zw_1009) (zdt zkX7_write 38 rfl) ?_
    refine xl_ldiv hx hb (zdt zkX7_write 41 rfl) hf (fun v4 hf => ?_)
    refine xl_l2i hx hb (zdt zkX7_write 42 rfl) ?_
    refine va_putN (D := (dC, dI)) (ci := 6) (v := .int (Int32.ofInt v4)) (ty := .int) (C := RX6) (T := TX6) (N := 4) hx hb hz zi_X6 tyX6 tyX6_ok nmX6 hown hK hP hD hS 1 rfl rfl 2 (by decide) (va_Nw.use rfl (hE.1.1 _ zw_334)) (fun _ h9 => h9) rfl (by decide +kernel) rfl rfl (Nat.le_of_ble_eq_true rfl) (zdt zkX7_write 43 rfl) (fun H locs hP hD hS => ?_)
    refine xw_PD (wd_Planner_write cA q0 q1 q2 q3 q4 q5 q6 q7 q8 q9 q10 q11 q12 q13 q14 q15 u0 u1 u2 u3 i_costs i_before i_by v2 v4 i_a1_row) hP hD (fun hP hD => ?_)
    refine lv_iload_n hx hb (zdt zkX7_write 46 rfl) rfl (lv_at hl 2 rfl) ?_
    refine lv_istore_n (lv' := [(3, .int (Int32.ofInt x2)), (0, .ref q0), (1, .ref q14), (2, .int (Int32.ofInt x2))]) hx hb (zdt zkX7_write 47 rfl) rfl hl (by decide) rfl (fun ls hl => ?_)
    refine lv_aload_n hx hb (zdt zkX7_write 48 rfl) rfl (lv_at hl 2 rfl) ?_
    refine va_getN (D := (dC, dI)) (ci := 6) (v := .int (Int32.ofInt v2)) (C := RX6) (T := TX6) (N := 4) hx hb hz zi_X6 hown hK hP 1 rfl rfl 1 (by decide) (va_Nw.use rfl (hE.1.1 _ zw_331)) (fun _ h9 => h9) rfl (zdt zkX7_write 49 rfl) ?_
    refine lv_iconst (v := Int32.ofInt 1) hx hb (zdt zkX7_write 52 rfl) rfl ?_
    refine xi_isub hx hb (zdt zkX7_write 53 rfl) hf (fun v5 hf => ?_)
    refine lv_istore (lv' := [(4, .int (Int32.ofInt v5)), (3, .int (Int32.ofInt x2)), (0, .ref q0), (1, .ref q14), (2, .int (Int32.ofInt x2))]) hx hb (zdt zkX7_write 54 rfl) hl (by decide) rfl (fun ls hl => ?_)
    exact l_56  _ _ _ _ _ _ _ _ _ hf hP hD hS (lv_sub hl [2, 3, 1, 0] rfl)
  · obtain rfl := Option.some.inj hf
    exact hret _ _ _ _ (zdt zkX7_write 15 rfl) hP hD hS
set_option maxRecDepth 100000 in
noncomputable def ztX1_stones (p : Nat) : Option (Jvm.ClassFile.Instr × Nat) := bif Nat.ble 13 p then (bif Nat.ble 20 p then (bif Nat.ble 24 p then (bif Nat.ble 27 p then (bif Nat.ble 28 p then (bif Nat.beq p 28 then some (.ireturn, 1) else none) else (bif Nat.beq p 27 then some (.iload_n 1, 1) else none)) else (bif Nat.beq p 24 then some (.goto (-20), 3) else none)) else (bif Nat.ble 21 p then (bif Nat.beq p 21 then some (.iinc 2 1, 3) else none) else (bif Nat.beq p 20 then some (.istore_n 1, 1) else none))) else (bif Nat.ble 17 p then (bif Nat.ble 18 p then (bif Nat.ble 19 p then (bif Nat.beq p 19 then some (.iadd, 1) else none) else (bif Nat.beq p 18 then some (.iaload, 1) else none)) else (bif Nat.beq p 17 then some (.iload_n 2, 1) else none)) else (bif Nat.ble 14 p then (bif Nat.beq p 14 then some (.getfield 15, 3) else none) else (bif Nat.beq p 13 then some (.aload_n 0, 1) else none)))) else (bif Nat.ble 4 p then (bif Nat.ble 6 p then (bif Nat.ble 9 p then (bif Nat.ble 12 p then (bif Nat.beq p 12 then some (.iload_n 1, 1) else none) else (bif Nat.beq p 9 then some (.if_icmp .ge 18, 3) else none)) else (bif Nat.beq p 6 then some (.getfield 9, 3) else none)) else (bif Nat.ble 5 p then (bif Nat.beq p 5 then some (.aload_n 0, 1) else none) else (bif Nat.beq p 4 then some (.iload_n 2, 1) else none))) else (bif Nat.ble 2 p then (bif Nat.ble 3 p then (bif Nat.beq p 3 then some (.istore_n 2, 1) else none) else (bif Nat.beq p 2 then some (.iconst 0, 1) else none)) else (bif Nat.ble 1 p then (bif Nat.beq p 1 then some (.istore_n 1, 1) else none) else (bif Nat.beq p 0 then some (.iconst 0, 1) else none))))
set_option maxRecDepth 100000 in
theorem zkX1_stones : (zbig cX1_stones.data.toList = 4640051754211345076698052456433610855330621027185244690758385696717827 ∧ cX1_stones.data.toList.length = 29) ∧ zdk cX1_stones 4640051754211345076698052456433610855330621027185244690758385696717827 29 ztX1_stones 28 = true := by decide +kernel
theorem zw_925 : (Jvm.Cond.code ({ cls := "HillSchool$Columns", name := "stones", desc := "()I" } : Jvm.MethodName) prog_3_method_8_code (3 : Nat) (Option.some Jvm.ClassFile.FieldType.int)) ∈ zall := zmemG (zmj_4 102 rfl) rfl
noncomputable abbrev w_Columns_stones : List Cond := .code yX1_stones cX1_stones 3 (some .int) :: zall
noncomputable abbrev rm_Columns_stones : Room := { frames := 0, cells := 0, slots := 0, locals := 0 }
theorem hd_Columns_stones : yX1_stones.cls = "HillSchool$Columns" ∧ yX1_stones.cls ≠ "java/lang/invoke/MethodHandle" ∧ yX1_stones.cls ≠ "java/lang/invoke/VarHandle" ∧ (parseMethodDescriptor yX1_stones.desc).map (fun d => d.parameters.length) = some 0 := by decide +kernel
noncomputable def wd_Columns_stones (cA : Nat → ClassId) (q0 q1 q2 : Nat) (i_many : Int) (i_heights : Nat → Int)  : va_W := [(q0, .inr (1, [.int (Int32.ofInt i_many), .ref q1, .ref q2])), (q1, .inl (cA 0, 12, .inl (za i_heights)))]
noncomputable def wf_Columns_stones (cA : Nat → ClassId) (q0 q1 q2 : Nat) (i_many : Int) (i_heights : Nat → Int) (o : Int) : va_W := wd_Columns_stones cA q0 q1 q2 i_many i_heights
noncomputable def f_Columns_stones_4_b (i_many : Int) (i_heights : Nat → Int) (k4 : Int → Int → Option (Int)) (x1 : Int) (x2 : Int) : Option (Int) :=
  if zi_w i_many ≤ zi_w x2 then
    some x1
  else
    zg 12 i_heights x2 fun v1 =>
    zn (x1 + v1) fun v2 =>
    zn (x2 + 1) fun v3 =>
    k4 v2 v3
noncomputable def f_Columns_stones_4 (i_many : Int) (i_heights : Nat → Int) : Nat → Int → Int → Option (Int)
  | 0 => fun _ _ => none
  | n + 1 => fun y0 y1 => f_Columns_stones_4_b i_many i_heights (f_Columns_stones_4 i_many i_heights n) y0 y1
noncomputable def f_Columns_stones (i_many : Int) (i_heights : Nat → Int) : Option (Int) :=
  f_Columns_stones_4 i_many i_heights zfu 0 0
set_option maxHeartbeats 4000000 in
set_option maxRecDepth 100000 in
theorem c_Columns_stones (l : Launch) (ev : zEv) (dC : Nat → ClassId) (dI : Nat → Nat → Nat) (cA : Nat → ClassId) (q0 q1 q2 : Nat) {i_many : Int} {i_heights : Nat → Int} {out : Int} (hf : f_Columns_stones i_many i_heights = some out) : xc_I l ev (dC, dI) vwCl (tyl cA) yX1_stones w_Columns_stones rm_Columns_stones [.ref q0] (wd_Columns_stones cA q0 q1 q2 i_many i_heights) (wf_Columns_stones cA q0 q1 q2 i_many i_heights out) out := by
  refine xv_startI (cc := cX1_stones) (maxL := 3) (rt := .int) (by decide +kernel) rfl (Nat.le_of_ble_eq_true rfl) ?_
  intro p e s m args below meth c A Q H ls hx hb hml hts hown hK hA hP hD hS hl hE hret
  have hown : s.vm.findClass "HillSchool$Columns" = some m.cls := hown
  have hz : ∀ w ∈ zall, w.before args s = true := fun w h => hts w (List.mem_cons_of_mem _ h)
  have hl : lv_has ls 3 [(0, .ref q0)] := hl
  have b_4 : ∀ (k4 : Int → Int → Option (Int)) (_ : ∀ (x1 : Int) (x2 : Int) (H : Heap) (locs : List Loc) (ls : Array Slot), k4 x1 x2 = some out → va_P (dC, dI) vwCl (wd_Columns_stones cA q0 q1 q2 i_many i_heights) H → va_D A (wd_Columns_stones cA q0 q1 q2 i_many i_heights) → va_S A s.heap H locs → lv_has ls 3 [(0, .ref q0), (1, .int (Int32.ofInt x1)), (2, .int (Int32.ofInt x2))] → W p l e rm_Columns_stones s m args below meth c H locs 0 0 Q (F0 m 4 ls [])), ∀ (x1 : Int) (x2 : Int) (H : Heap) (locs : List Loc) (ls : Array Slot), f_Columns_stones_4_b i_many i_heights k4 x1 x2 = some out → va_P (dC, dI) vwCl (wd_Columns_stones cA q0 q1 q2 i_many i_heights) H → va_D A (wd_Columns_stones cA q0 q1 q2 i_many i_heights) → va_S A s.heap H locs → lv_has ls 3 [(0, .ref q0), (1, .int (Int32.ofInt x1)), (2, .int (Int32.ofInt x2))] → W p l e rm_Columns_stones s m args below meth c H locs 0 0 Q (F0 m 4 ls []) := by
    intro k4 ih4 x1 x2 H locs ls hf hP hD hS hl
    unfold f_Columns_stones_4_b at hf
    refine lv_iload_n hx hb (zdt zkX1_stones 4 rfl) rfl (lv_at hl 2 rfl) ?_
    refine lv_aload_n hx hb (zdt zkX1_stones 5 rfl) rfl (lv_at hl 0 rfl) ?_
    refine va_get (D := (dC, dI)) (ci := 1) (v := .int (Int32.ofInt i_many)) (C := RX1) (T := TX1) (N := 3) hx hb hz zi_X1 hown hK hP 0 rfl rfl 0 (by decide) (hz _ zw_143) (fun _ h9 => h9) rfl (zdt zkX1_stones 6 rfl) ?_
    refine xi_icmp_ge (tgt := 27) hx hb (zdt zkX1_stones 9 rfl) (by decide) hf (fun hf => ?_) (fun hf => ?_)
    · refine lv_iload_n hx hb (zdt zkX1_stones 27 rfl) rfl (lv_at hl 1 rfl) ?_
      obtain rfl := Option.some.inj hf
      exact hret _ _ _ _ rfl (zdt zkX1_stones 28 rfl) hP hD hS
    · refine lv_iload_n hx hb (zdt zkX1_stones 12 rfl) rfl (lv_at hl 1 rfl) ?_
      refine lv_aload_n hx hb (zdt zkX1_stones 13 rfl) rfl (lv_at hl 0 rfl) ?_
      refine va_get (D := (dC, dI)) (ci := 1) (v := .ref q1) (C := RX1) (T := TX1) (N := 3) hx hb hz zi_X1 hown hK hP 0 rfl rfl 1 (by decide) (hz _ zw_149) (fun _ h9 => h9) rfl (zdt zkX1_stones 14 rfl) ?_
      refine lv_iload_n hx hb (zdt zkX1_stones 17 rfl) rfl (lv_at hl 2 rfl) ?_
      refine xi_iald hx hb hK hP 1 0 rfl rfl (zdt zkX1_stones 18 rfl) hf (fun v1 hf => ?_)
      refine xi_iadd hx hb (zdt zkX1_stones 19 rfl) hf (fun v2 hf => ?_)
      refine lv_istore_n (lv' := [(1, .int (Int32.ofInt v2)), (0, .ref q0), (2, .int (Int32.ofInt x2))]) hx hb (zdt zkX1_stones 20 rfl) rfl hl (by decide) rfl (fun ls hl => ?_)
      refine xi_iinc hx hb (zdt zkX1_stones 21 rfl) hl (k := 2) rfl (by decide) hf (fun v3 ls hl hf => ?_)
      have hl : lv_has ls 3 [(2, .int (Int32.ofInt v3)), (1, .int (Int32.ofInt v2)), (0, .ref q0)] := hl
      refine lv_goto (tgt := 4) hx hb (zdt zkX1_stones 24 rfl) (by decide) ?_
      exact ih4 _ _ _ _ _ hf hP hD hS (lv_sub hl [2, 1, 0] rfl)
  have l_4 : ∀ (n : Nat), ∀ (x1 : Int) (x2 : Int) (H : Heap) (locs : List Loc) (ls : Array Slot), f_Columns_stones_4 i_many i_heights n x1 x2 = some out → va_P (dC, dI) vwCl (wd_Columns_stones cA q0 q1 q2 i_many i_heights) H → va_D A (wd_Columns_stones cA q0 q1 q2 i_many i_heights) → va_S A s.heap H locs → lv_has ls 3 [(0, .ref q0), (1, .int (Int32.ofInt x1)), (2, .int (Int32.ofInt x2))] → W p l e rm_Columns_stones s m args below meth c H locs 0 0 Q (F0 m 4 ls []) := by
    intro n
    induction n with
    | zero => intro x1 x2 H locs ls hf hP hD hS hl; exact nomatch hf
    | succ n ih => intro x1 x2 H locs ls hf hP hD hS hl; exact b_4 (f_Columns_stones_4 i_many i_heights n) ih x1 x2 H locs ls hf hP hD hS hl
  unfold f_Columns_stones at hf
  refine lv_iconst (v := Int32.ofInt 0) hx hb (zdt zkX1_stones 0 rfl) rfl ?_
  refine lv_istore_n (lv' := [(1, .int (Int32.ofInt 0)), (0, .ref q0)]) hx hb (zdt zkX1_stones 1 rfl) rfl hl (by decide) rfl (fun ls hl => ?_)
  refine lv_iconst (v := Int32.ofInt 0) hx hb (zdt zkX1_stones 2 rfl) rfl ?_
  refine lv_istore_n (lv' := [(2, .int (Int32.ofInt 0)), (1, .int (Int32.ofInt 0)), (0, .ref q0)]) hx hb (zdt zkX1_stones 3 rfl) rfl hl (by decide) rfl (fun ls hl => ?_)
  exact l_4  _ _ _ _ _ _ hf hP hD hS (lv_sub hl [2, 1, 0] rfl)
set_option maxRecDepth 100000 in
noncomputable def ztX7_goalsFit (p : Nat) : Option (Jvm.ClassFile.Instr × Nat) := bif Nat.ble 47 p then (bif Nat.ble 72 p then (bif Nat.ble 83 p then (bif Nat.ble 90 p then (bif Nat.ble 94 p then (bif Nat.ble 95 p then (bif Nat.beq p 95 then some (.ireturn, 1) else none) else (bif Nat.beq p 94 then some (.iconst 0, 1) else none)) else (bif Nat.ble 91 p then (bif Nat.beq p 91 then some (.goto 4, 3) else none) else (bif Nat.beq p 90 then some (.iconst 1, 1) else none))) else (bif Nat.ble 86 p then (bif Nat.ble 87 p then (bif Nat.beq p 87 then some (.ifCond .ne 7, 3) else none) else (bif Nat.beq p 86 then some (.iload_n 2, 1) else none)) else (bif Nat.beq p 83 then some (.if_icmp .ge 11, 3) else none))) else (bif Nat.ble 77 p then (bif Nat.ble 81 p then (bif Nat.ble 82 p then (bif Nat.beq p 82 then some (.iload_n 3, 1) else none) else (bif Nat.beq p 81 then some (.iload_n 1, 1) else none)) else (bif Nat.ble 78 p then (bif Nat.beq p 78 then some (.if_icmp .eq 12, 3) else none) else (bif Nat.beq p 77 then some (.iload_n 3, 1) else none))) else (bif Nat.ble 75 p then (bif Nat.ble 76 p then (bif Nat.beq p 76 then some (.iload_n 1, 1) else none) else (bif Nat.beq p 75 then some (.istore_n 3, 1) else none)) else (bif Nat.beq p 72 then some (.invokevirtual 70, 3) else none)))) else (bif Nat.ble 57 p then (bif Nat.ble 62 p then (bif Nat.ble 66 p then (bif Nat.ble 69 p then (bif Nat.beq p 69 then some (.getfield 58, 3) else none) else (bif Nat.beq p 66 then some (.getfield 50, 3) else none)) else (bif Nat.ble 65 p then (bif Nat.beq p 65 then some (.aload_n 0, 1) else none) else (bif Nat.beq p 62 then some (.goto (-56), 3) else none))) else (bif Nat.ble 58 p then (bif Nat.ble 59 p then (bif Nat.beq p 59 then some (.iinc 3 1, 3) else none) else (bif Nat.beq p 58 then some (.istore_n 2, 1) else none)) else (bif Nat.beq p 57 then some (.iconst 0, 1) else none))) else (bif Nat.ble 50 p then (bif Nat.ble 53 p then (bif Nat.ble 54 p then (bif Nat.beq p 54 then some (.goto 4, 3) else none) else (bif Nat.beq p 53 then some (.iconst 1, 1) else none)) else (bif Nat.beq p 50 then some (.if_icmp .eq 7, 3) else none)) else (bif Nat.ble 48 p then (bif Nat.ble 49 p then (bif Nat.beq p 49 then some (.iconst (-1), 1) else none) else (bif Nat.beq p 48 then some (.iaload, 1) else none)) else (bif Nat.beq p 47 then some (.iload_n 3, 1) else none))))) else (bif Nat.ble 21 p then (bif Nat.ble 34 p then (bif Nat.ble 37 p then (bif Nat.ble 41 p then (bif Nat.ble 44 p then (bif Nat.beq p 44 then some (.getfield 95, 3) else none) else (bif Nat.beq p 41 then some (.getfield 50, 3) else none)) else (bif Nat.ble 40 p then (bif Nat.beq p 40 then some (.aload_n 0, 1) else none) else (bif Nat.beq p 37 then some (.ifCond .eq 20, 3) else none))) else (bif Nat.ble 35 p then (bif Nat.ble 36 p then (bif Nat.beq p 36 then some (.iload_n 2, 1) else none) else (bif Nat.beq p 35 then some (.istore_n 1, 1) else none)) else (bif Nat.beq p 34 then some (.iadd, 1) else none))) else (bif Nat.ble 26 p then (bif Nat.ble 30 p then (bif Nat.ble 31 p then (bif Nat.beq p 31 then some (.invokestatic 98, 3) else none) else (bif Nat.beq p 30 then some (.iaload, 1) else none)) else (bif Nat.ble 29 p then (bif Nat.beq p 29 then some (.iload_n 3, 1) else none) else (bif Nat.beq p 26 then some (.getfield 95, 3) else none))) else (bif Nat.ble 22 p then (bif Nat.ble 23 p then (bif Nat.beq p 23 then some (.getfield 50, 3) else none) else (bif Nat.beq p 22 then some (.aload_n 0, 1) else none)) else (bif Nat.beq p 21 then some (.iconst 0, 1) else none)))) else (bif Nat.ble 6 p then (bif Nat.ble 11 p then (bif Nat.ble 17 p then (bif Nat.ble 20 p then (bif Nat.beq p 20 then some (.iload_n 1, 1) else none) else (bif Nat.beq p 17 then some (.if_icmp .ge 48, 3) else none)) else (bif Nat.ble 14 p then (bif Nat.beq p 14 then some (.getfield 64, 3) else none) else (bif Nat.beq p 11 then some (.getfield 58, 3) else none))) else (bif Nat.ble 7 p then (bif Nat.ble 8 p then (bif Nat.beq p 8 then some (.getfield 50, 3) else none) else (bif Nat.beq p 7 then some (.aload_n 0, 1) else none)) else (bif Nat.beq p 6 then some (.iload_n 3, 1) else none))) else (bif Nat.ble 3 p then (bif Nat.ble 4 p then (bif Nat.ble 5 p then (bif Nat.beq p 5 then some (.istore_n 3, 1) else none) else (bif Nat.beq p 4 then some (.iconst 0, 1) else none)) else (bif Nat.beq p 3 then some (.istore_n 2, 1) else none)) else (bif Nat.ble 1 p then (bif Nat.ble 2 p then (bif Nat.beq p 2 then some (.iconst 1, 1) else none) else (bif Nat.beq p 1 then some (.istore_n 1, 1) else none)) else (bif Nat.beq p 0 then some (.iconst 0, 1) else none)))))
set_option maxRecDepth 100000 in
theorem zkX7_goalsFit : (zbig cX7_goalsFit.data.toList = 1043169532287782184906056255079926736221190648639293534732138615327647241547194279606558271244958042311724306244127120318024500416013117650711563771532129834682365299183671005159602746115248056165544036638331135125895858330655800323 ∧ cX7_goalsFit.data.toList.length = 96) ∧ zdk cX7_goalsFit 1043169532287782184906056255079926736221190648639293534732138615327647241547194279606558271244958042311724306244127120318024500416013117650711563771532129834682365299183671005159602746115248056165544036638331135125895858330655800323 96 ztX7_goalsFit 95 = true := by decide +kernel
theorem zw_144 : (Jvm.Cond.fieldLinkNest "HillSchool$Planner" (64 : Nat) "HillSchool$Columns" "many" "I" "HillSchool") ∈ znest := zmemH (zmj_1 41 rfl) rfl
theorem zw_170 : (Jvm.Cond.fieldLinkNest "HillSchool$Planner" (58 : Nat) "HillSchool$Hill" "columns" "LHillSchool$Columns;" "HillSchool") ∈ znest := zmemH (zmj_1 67 rfl) rfl
theorem zw_195 : (Jvm.Cond.fieldLinkNest "HillSchool$Planner" (95 : Nat) "HillSchool$Hill" "goals" "[I" "HillSchool") ∈ znest := zmemH (zmj_1 92 rfl) rfl
theorem zw_347 : (Jvm.Cond.fieldLink "HillSchool$Planner" (50 : Nat) "HillSchool$Planner" "hill" "LHillSchool$Hill;") ∈ zall := zmemG (zmj_2 4 rfl) rfl
theorem zw_922 : (Jvm.Cond.methodLink "HillSchool$Planner" (70 : Nat) ({ cls := "HillSchool$Columns", name := "stones", desc := "()I" } : Jvm.MethodName)) ∈ zall := zmemG (zmj_4 99 rfl) rfl
theorem zw_923 : (Jvm.Cond.instanceMethod ({ cls := "HillSchool$Columns", name := "stones", desc := "()I" } : Jvm.MethodName)) ∈ zall := zmemG (zmj_4 100 rfl) rfl
theorem zw_924 : (Jvm.Cond.selects "HillSchool$Columns" ({ cls := "HillSchool$Columns", name := "stones", desc := "()I" } : Jvm.MethodName) ({ cls := "HillSchool$Columns", name := "stones", desc := "()I" } : Jvm.MethodName)) ∈ zall := zmemG (zmj_4 101 rfl) rfl
theorem zw_934 : (Jvm.Cond.code ({ cls := "HillSchool$Planner", name := "goalsFit", desc := "()Z" } : Jvm.MethodName) prog_9_method_4_code (4 : Nat) (Option.some Jvm.ClassFile.FieldType.boolean)) ∈ zall := zmemG (zmj_4 111 rfl) rfl
theorem zw_935 : (Jvm.Cond.methodLink "HillSchool$Planner" (98 : Nat) ({ cls := "java/lang/Math", name := "max", desc := "(II)I" } : Jvm.MethodName)) ∈ zall := zmemG (zmj_4 112 rfl) rfl
noncomputable abbrev w_Planner_goalsFit : List Cond := .code yX7_goalsFit cX7_goalsFit 4 (some .boolean) :: zall
noncomputable abbrev rm_Planner_goalsFit : Room := { frames := 2, cells := 0, slots := 0, locals := 60 }
theorem hd_Planner_goalsFit : yX7_goalsFit.cls = "HillSchool$Planner" ∧ yX7_goalsFit.cls ≠ "java/lang/invoke/MethodHandle" ∧ yX7_goalsFit.cls ≠ "java/lang/invoke/VarHandle" ∧ (parseMethodDescriptor yX7_goalsFit.desc).map (fun d => d.parameters.length) = some 0 := by decide +kernel
noncomputable def wd_Planner_goalsFit (cA : Nat → ClassId) (q0 q1 q2 q3 q4 q5 q6 q7 q8 q9 q10 q11 q12 q13 q14 q15 q16 q17 q18 q19 q20 q21 q22 q23 q24 : Nat) (u0 u1 u2 u3 u4 u5 u6 u7 : Int) (i_hill_columns_many : Int) (i_hill_goals : Nat → Int) (i_hill_columns_heights : Nat → Int)  : va_W := [(q0, .inr (7, [.ref q1, .ref q2, .ref q3, .ref q4, .ref q5, .ref q6, .ref q7, .ref q8, .ref q9, .ref q10, .ref q11, .ref q12, .ref q13, .int (Int32.ofInt u0), .int (Int32.ofInt u1), .int (Int32.ofInt u2)])), (q1, .inr (2, [.ref q14, .int (Int32.ofInt u3), .ref q15, .ref q16, .ref q17, .int (Int32.ofInt u4), .ref q18, .ref q19, .ref q20, .int (Int32.ofInt u5), .ref q21, .ref q22, .int (Int32.ofInt u6), .int (Int32.ofInt u7)])), (q14, .inr (1, [.int (Int32.ofInt i_hill_columns_many), .ref q23, .ref q24])), (q20, .inl (cA 0, 12, .inl (za i_hill_goals))), (q23, .inl (cA 0, 12, .inl (za i_hill_columns_heights)))]
noncomputable def wf_Planner_goalsFit (cA : Nat → ClassId) (q0 q1 q2 q3 q4 q5 q6 q7 q8 q9 q10 q11 q12 q13 q14 q15 q16 q17 q18 q19 q20 q21 q22 q23 q24 : Nat) (u0 u1 u2 u3 u4 u5 u6 u7 : Int) (i_hill_columns_many : Int) (i_hill_goals : Nat → Int) (i_hill_columns_heights : Nat → Int) (o : Int) : va_W := wd_Planner_goalsFit cA q0 q1 q2 q3 q4 q5 q6 q7 q8 q9 q10 q11 q12 q13 q14 q15 q16 q17 q18 q19 q20 q21 q22 q23 q24 u0 u1 u2 u3 u4 u5 u6 u7 i_hill_columns_many i_hill_goals i_hill_columns_heights
noncomputable def f_Planner_goalsFit_58 (i_hill_columns_many : Int) (i_hill_goals : Nat → Int) (i_hill_columns_heights : Nat → Int) (k6 : Int → Int → Int → Option (Int)) (x1 : Int) (x3 : Int) (s0 : Int) : Option (Int) :=
  zn (x3 + 1) fun v1 =>
  k6 x1 s0 v1
noncomputable def f_Planner_goalsFit_57 (i_hill_columns_many : Int) (i_hill_goals : Nat → Int) (i_hill_columns_heights : Nat → Int) (k6 : Int → Int → Int → Option (Int)) (x1 : Int) (x3 : Int) : Option (Int) :=
  f_Planner_goalsFit_58 i_hill_columns_many i_hill_goals i_hill_columns_heights k6 x1 x3 0
noncomputable def f_Planner_goalsFit_6_b (i_hill_columns_many : Int) (i_hill_goals : Nat → Int) (i_hill_columns_heights : Nat → Int) (k6 : Int → Int → Int → Option (Int)) (x1 : Int) (x2 : Int) (x3 : Int) : Option (Int) :=
  if zi_w i_hill_columns_many ≤ zi_w x3 then
    zd1 (f_Columns_stones i_hill_columns_many i_hill_columns_heights) fun v1 =>
    if zi_w x1 = zi_w v1 then
      some 1
    else
      if zi_w v1 ≤ zi_w x1 then
        some 0
      else
        if zi_w x2 ≠ 0 then
          some 0
        else
          some 1
  else
    zg 12 i_hill_goals x3 fun v2 =>
    zn (zi_max 0 v2) fun v3 =>
    zn (x1 + v3) fun v4 =>
    if zi_w x2 = 0 then
      f_Planner_goalsFit_57 i_hill_columns_many i_hill_goals i_hill_columns_heights k6 v4 x3
    else
      zg 12 i_hill_goals x3 fun v5 =>
      if zi_w v5 = zi_w (-1) then
        f_Planner_goalsFit_57 i_hill_columns_many i_hill_goals i_hill_columns_heights k6 v4 x3
      else
        f_Planner_goalsFit_58 i_hill_columns_many i_hill_goals i_hill_columns_heights k6 v4 x3 1
noncomputable def f_Planner_goalsFit_6 (i_hill_columns_many : Int) (i_hill_goals : Nat → Int) (i_hill_columns_heights : Nat → Int) : Nat → Int → Int → Int → Option (Int)
  | 0 => fun _ _ _ => none
  | n + 1 => fun y0 y1 y2 => f_Planner_goalsFit_6_b i_hill_columns_many i_hill_goals i_hill_columns_heights (f_Planner_goalsFit_6 i_hill_columns_many i_hill_goals i_hill_columns_heights n) y0 y1 y2
noncomputable def f_Planner_goalsFit (i_hill_columns_many : Int) (i_hill_goals : Nat → Int) (i_hill_columns_heights : Nat → Int) : Option (Int) :=
  f_Planner_goalsFit_6 i_hill_columns_many i_hill_goals i_hill_columns_heights zfu 0 1 0
set_option maxHeartbeats 4000000 in
set_option maxRecDepth 100000 in
theorem c_Planner_goalsFit (l : Launch) (ev : zEv) (dC : Nat → ClassId) (dI : Nat → Nat → Nat) (cA : Nat → ClassId) (q0 q1 q2 q3 q4 q5 q6 q7 q8 q9 q10 q11 q12 q13 q14 q15 q16 q17 q18 q19 q20 q21 q22 q23 q24 : Nat) (u0 u1 u2 u3 u4 u5 u6 u7 : Int) {i_hill_columns_many : Int} {i_hill_goals : Nat → Int} {i_hill_columns_heights : Nat → Int} {out : Int} (hf : f_Planner_goalsFit i_hill_columns_many i_hill_goals i_hill_columns_heights = some out) : xc_I l ev (dC, dI) vwCl (tyl cA) yX7_goalsFit w_Planner_goalsFit rm_Planner_goalsFit [.ref q0] (wd_Planner_goalsFit cA q0 q1 q2 q3 q4 q5 q6 q7 q8 q9 q10 q11 q12 q13 q14 q15 q16 q17 q18 q19 q20 q21 q22 q23 q24 u0 u1 u2 u3 u4 u5 u6 u7 i_hill_columns_many i_hill_goals i_hill_columns_heights) (wf_Planner_goalsFit cA q0 q1 q2 q3 q4 q5 q6 q7 q8 q9 q10 q11 q12 q13 q14 q15 q16 q17 q18 q19 q20 q21 q22 q23 q24 u0 u1 u2 u3 u4 u5 u6 u7 i_hill_columns_many i_hill_goals i_hill_columns_heights out) out := by
  refine xv_startI (cc := cX7_goalsFit) (maxL := 4) (rt := .boolean) (by decide +kernel) rfl (Nat.le_of_ble_eq_true rfl) ?_
  intro p e s m args below meth c A Q H ls hx hb hml hts hown hK hA hP hD hS hl hE hret
  have hown : s.vm.findClass "HillSchool$Planner" = some m.cls := hown
  have hz : ∀ w ∈ zall, w.before args s = true := fun w h => hts w (List.mem_cons_of_mem _ h)
  have hl : lv_has ls 4 [(0, .ref q0)] := hl
  have b_58 : ∀ (k6 : Int → Int → Int → Option (Int)) (_ : ∀ (x1 : Int) (x2 : Int) (x3 : Int) (H : Heap) (locs : List Loc) (ls : Array Slot), k6 x1 x2 x3 = some out → va_P (dC, dI) vwCl (wd_Planner_goalsFit cA q0 q1 q2 q3 q4 q5 q6 q7 q8 q9 q10 q11 q12 q13 q14 q15 q16 q17 q18 q19 q20 q21 q22 q23 q24 u0 u1 u2 u3 u4 u5 u6 u7 i_hill_columns_many i_hill_goals i_hill_columns_heights) H → va_D A (wd_Planner_goalsFit cA q0 q1 q2 q3 q4 q5 q6 q7 q8 q9 q10 q11 q12 q13 q14 q15 q16 q17 q18 q19 q20 q21 q22 q23 q24 u0 u1 u2 u3 u4 u5 u6 u7 i_hill_columns_many i_hill_goals i_hill_columns_heights) → va_S A s.heap H locs → lv_has ls 4 [(0, .ref q0), (1, .int (Int32.ofInt x1)), (2, .int (Int32.ofInt x2)), (3, .int (Int32.ofInt x3))] → W p l e rm_Planner_goalsFit s m args below meth c H locs 0 0 Q (F0 m 6 ls [])), ∀ (x1 : Int) (x3 : Int) (s0 : Int) (H : Heap) (locs : List Loc) (ls : Array Slot), f_Planner_goalsFit_58 i_hill_columns_many i_hill_goals i_hill_columns_heights k6 x1 x3 s0 = some out → va_P (dC, dI) vwCl (wd_Planner_goalsFit cA q0 q1 q2 q3 q4 q5 q6 q7 q8 q9 q10 q11 q12 q13 q14 q15 q16 q17 q18 q19 q20 q21 q22 q23 q24 u0 u1 u2 u3 u4 u5 u6 u7 i_hill_columns_many i_hill_goals i_hill_columns_heights) H → va_D A (wd_Planner_goalsFit cA q0 q1 q2 q3 q4 q5 q6 q7 q8 q9 q10 q11 q12 q13 q14 q15 q16 q17 q18 q19 q20 q21 q22 q23 q24 u0 u1 u2 u3 u4 u5 u6 u7 i_hill_columns_many i_hill_goals i_hill_columns_heights) → va_S A s.heap H locs → lv_has ls 4 [(0, .ref q0), (1, .int (Int32.ofInt x1)), (3, .int (Int32.ofInt x3))] → W p l e rm_Planner_goalsFit s m args below meth c H locs 0 0 Q (F0 m 58 ls [.int (Int32.ofInt s0)]) := by
    intro k6 ih6 x1 x3 s0 H locs ls hf hP hD hS hl
    unfold f_Planner_goalsFit_58 at hf
    refine lv_istore_n (lv' := [(2, .int (Int32.ofInt s0)), (0, .ref q0), (1, .int (Int32.ofInt x1)), (3, .int (Int32.ofInt x3))]) hx hb (zdt zkX7_goalsFit 58 rfl) rfl hl (by decide) rfl (fun ls hl => ?_)
    refine xi_iinc hx hb (zdt zkX7_goalsFit 59 rfl) hl (k := 3) rfl (by decide) hf (fun v1 ls hl hf => ?_)
    have hl : lv_has ls 4 [(3, .int (Int32.ofInt v1)), (2, .int (Int32.ofInt s0)), (0, .ref q0), (1, .int (Int32.ofInt x1))] := hl
    refine lv_goto (tgt := 6) hx hb (zdt zkX7_goalsFit 62 rfl) (by decide) ?_
    exact ih6 _ _ _ _ _ _ hf hP hD hS (lv_sub hl [2, 3, 1, 0] rfl)
  have b_57 : ∀ (k6 : Int → Int → Int → Option (Int)) (_ : ∀ (x1 : Int) (x2 : Int) (x3 : Int) (H : Heap) (locs : List Loc) (ls : Array Slot), k6 x1 x2 x3 = some out → va_P (dC, dI) vwCl (wd_Planner_goalsFit cA q0 q1 q2 q3 q4 q5 q6 q7 q8 q9 q10 q11 q12 q13 q14 q15 q16 q17 q18 q19 q20 q21 q22 q23 q24 u0 u1 u2 u3 u4 u5 u6 u7 i_hill_columns_many i_hill_goals i_hill_columns_heights) H → va_D A (wd_Planner_goalsFit cA q0 q1 q2 q3 q4 q5 q6 q7 q8 q9 q10 q11 q12 q13 q14 q15 q16 q17 q18 q19 q20 q21 q22 q23 q24 u0 u1 u2 u3 u4 u5 u6 u7 i_hill_columns_many i_hill_goals i_hill_columns_heights) → va_S A s.heap H locs → lv_has ls 4 [(0, .ref q0), (1, .int (Int32.ofInt x1)), (2, .int (Int32.ofInt x2)), (3, .int (Int32.ofInt x3))] → W p l e rm_Planner_goalsFit s m args below meth c H locs 0 0 Q (F0 m 6 ls [])), ∀ (x1 : Int) (x3 : Int) (H : Heap) (locs : List Loc) (ls : Array Slot), f_Planner_goalsFit_57 i_hill_columns_many i_hill_goals i_hill_columns_heights k6 x1 x3 = some out → va_P (dC, dI) vwCl (wd_Planner_goalsFit cA q0 q1 q2 q3 q4 q5 q6 q7 q8 q9 q10 q11 q12 q13 q14 q15 q16 q17 q18 q19 q20 q21 q22 q23 q24 u0 u1 u2 u3 u4 u5 u6 u7 i_hill_columns_many i_hill_goals i_hill_columns_heights) H → va_D A (wd_Planner_goalsFit cA q0 q1 q2 q3 q4 q5 q6 q7 q8 q9 q10 q11 q12 q13 q14 q15 q16 q17 q18 q19 q20 q21 q22 q23 q24 u0 u1 u2 u3 u4 u5 u6 u7 i_hill_columns_many i_hill_goals i_hill_columns_heights) → va_S A s.heap H locs → lv_has ls 4 [(0, .ref q0), (1, .int (Int32.ofInt x1)), (3, .int (Int32.ofInt x3))] → W p l e rm_Planner_goalsFit s m args below meth c H locs 0 0 Q (F0 m 57 ls []) := by
    intro k6 ih6 x1 x3 H locs ls hf hP hD hS hl
    unfold f_Planner_goalsFit_57 at hf
    refine lv_iconst (v := Int32.ofInt 0) hx hb (zdt zkX7_goalsFit 57 rfl) rfl ?_
    exact b_58 _ ih6 _ _ _ _ _ _ hf hP hD hS (lv_sub hl [0, 1, 2] rfl)
  have b_6 : ∀ (k6 : Int → Int → Int → Option (Int)) (_ : ∀ (x1 : Int) (x2 : Int) (x3 : Int) (H : Heap) (locs : List Loc) (ls : Array Slot), k6 x1 x2 x3 = some out → va_P (dC, dI) vwCl (wd_Planner_goalsFit cA q0 q1 q2 q3 q4 q5 q6 q7 q8 q9 q10 q11 q12 q13 q14 q15 q16 q17 q18 q19 q20 q21 q22 q23 q24 u0 u1 u2 u3 u4 u5 u6 u7 i_hill_columns_many i_hill_goals i_hill_columns_heights) H → va_D A (wd_Planner_goalsFit cA q0 q1 q2 q3 q4 q5 q6 q7 q8 q9 q10 q11 q12 q13 q14 q15 q16 q17 q18 q19 q20 q21 q22 q23 q24 u0 u1 u2 u3 u4 u5 u6 u7 i_hill_columns_many i_hill_goals i_hill_columns_heights) → va_S A s.heap H locs → lv_has ls 4 [(0, .ref q0), (1, .int (Int32.ofInt x1)), (2, .int (Int32.ofInt x2)), (3, .int (Int32.ofInt x3))] → W p l e rm_Planner_goalsFit s m args below meth c H locs 0 0 Q (F0 m 6 ls [])), ∀ (x1 : Int) (x2 : Int) (x3 : Int) (H : Heap) (locs : List Loc) (ls : Array Slot), f_Planner_goalsFit_6_b i_hill_columns_many i_hill_goals i_hill_columns_heights k6 x1 x2 x3 = some out → va_P (dC, dI) vwCl (wd_Planner_goalsFit cA q0 q1 q2 q3 q4 q5 q6 q7 q8 q9 q10 q11 q12 q13 q14 q15 q16 q17 q18 q19 q20 q21 q22 q23 q24 u0 u1 u2 u3 u4 u5 u6 u7 i_hill_columns_many i_hill_goals i_hill_columns_heights) H → va_D A (wd_Planner_goalsFit cA q0 q1 q2 q3 q4 q5 q6 q7 q8 q9 q10 q11 q12 q13 q14 q15 q16 q17 q18 q19 q20 q21 q22 q23 q24 u0 u1 u2 u3 u4 u5 u6 u7 i_hill_columns_many i_hill_goals i_hill_columns_heights) → va_S A s.heap H locs → lv_has ls 4 [(0, .ref q0), (1, .int (Int32.ofInt x1)), (2, .int (Int32.ofInt x2)), (3, .int (Int32.ofInt x3))] → W p l e rm_Planner_goalsFit s m args below meth c H locs 0 0 Q (F0 m 6 ls []) := by
    intro k6 ih6 x1 x2 x3 H locs ls hf hP hD hS hl
    unfold f_Planner_goalsFit_6_b at hf
    refine lv_iload_n hx hb (zdt zkX7_goalsFit 6 rfl) rfl (lv_at hl 3 rfl) ?_
    refine lv_aload_n hx hb (zdt zkX7_goalsFit 7 rfl) rfl (lv_at hl 0 rfl) ?_
    refine va_get (D := (dC, dI)) (ci := 7) (v := .ref q1) (C := RX7) (T := TX7) (N := 16) hx hb hz zi_X7 hown hK hP 0 rfl rfl 0 (by decide) (hz _ zw_347) (fun _ h9 => h9) rfl (zdt zkX7_goalsFit 8 rfl) ?_
    refine va_getN (D := (dC, dI)) (ci := 2) (v := .ref q14) (C := RX2) (T := TX2) (N := 14) hx hb hz zi_X2 hown hK hP 1 rfl rfl 0 (by decide) (va_Nw.use rfl (hE.1.1 _ zw_170)) (fun _ h9 => h9) rfl (zdt zkX7_goalsFit 11 rfl) ?_
    refine va_getN (D := (dC, dI)) (ci := 1) (v := .int (Int32.ofInt i_hill_columns_many)) (C := RX1) (T := TX1) (N := 3) hx hb hz zi_X1 hown hK hP 2 rfl rfl 0 (by decide) (va_Nw.use rfl (hE.1.1 _ zw_144)) (fun _ h9 => h9) rfl (zdt zkX7_goalsFit 14 rfl) ?_
    refine xi_icmp_ge (tgt := 65) hx hb (zdt zkX7_goalsFit 17 rfl) (by decide) hf (fun hf => ?_) (fun hf => ?_)
    · refine lv_aload_n hx hb (zdt zkX7_goalsFit 65 rfl) rfl (lv_at hl 0 rfl) ?_
      refine va_get (D := (dC, dI)) (ci := 7) (v := .ref q1) (C := RX7) (T := TX7) (N := 16) hx hb hz zi_X7 hown hK hP 0 rfl rfl 0 (by decide) (hz _ zw_347) (fun _ h9 => h9) rfl (zdt zkX7_goalsFit 66 rfl) ?_
      refine va_getN (D := (dC, dI)) (ci := 2) (v := .ref q14) (C := RX2) (T := TX2) (N := 14) hx hb hz zi_X2 hown hK hP 1 rfl rfl 0 (by decide) (va_Nw.use rfl (hE.1.1 _ zw_170)) (fun _ h9 => h9) rfl (zdt zkX7_goalsFit 69 rfl) ?_
      refine xe_d1 hf (fun v1 hg hf => ?_)
      have hC : ([2, 4] : List Nat).map (fun i => (wd_Planner_goalsFit cA q0 q1 q2 q3 q4 q5 q6 q7 q8 q9 q10 q11 q12 q13 q14 q15 q16 q17 q18 q19 q20 q21 q22 q23 q24 u0 u1 u2 u3 u4 u5 u6 u7 i_hill_columns_many i_hill_goals i_hill_columns_heights)[i]?) = (wd_Columns_stones cA q14 q23 q24 i_hill_columns_many i_hill_columns_heights).map some := rfl
      refine xv_afterI (ws' := (wd_Planner_goalsFit cA q0 q1 q2 q3 q4 q5 q6 q7 q8 q9 q10 q11 q12 q13 q14 q15 q16 q17 q18 q19 q20 q21 q22 q23 q24 u0 u1 u2 u3 u4 u5 u6 u7 i_hill_columns_many i_hill_goals i_hill_columns_heights)) (isC := [2, 4]) (ps := [none, none, some 0, none, some 1]) (va_runV (As := []) (rest := []) ⟨hx, hb, hml, hown, hts⟩ (c_Columns_stones l ev dC dI cA q14 q23 q24 hg H.size) (cwV 0 hts (zgV zw_922 zw_923 zw_924 zw_106 zw_925) rfl rfl rfl hd_Columns_stones ⟨Nat.le_of_ble_eq_true rfl, Nat.le_of_ble_eq_true rfl⟩) (xv_preV (T := TX1) (N := 3) hE hA hS hK hP hD (isC := [2, 4]) (by decide +kernel) hC (q0 := 2) (ci := 1) rfl rfl) rfl rfl hl.1 rfl (lv_room (Nat.le_of_ble_eq_true rfl)) (zdt zkX7_goalsFit 72 rfl) ⟨Nat.le_refl _, Nat.le_refl _⟩) hP hD hS hA (by decide +kernel) rfl hC rfl rfl (fun H locs hP hD hS => ?_)
      refine lv_istore_n (lv' := [(3, .int (Int32.ofInt v1)), (0, .ref q0), (1, .int (Int32.ofInt x1)), (2, .int (Int32.ofInt x2))]) hx hb (zdt zkX7_goalsFit 75 rfl) rfl hl (by decide) rfl (fun ls hl => ?_)
      refine lv_iload_n hx hb (zdt zkX7_goalsFit 76 rfl) rfl (lv_at hl 2 rfl) ?_
      refine lv_iload_n hx hb (zdt zkX7_goalsFit 77 rfl) rfl (lv_at hl 0 rfl) ?_
      refine xi_icmp_eq (tgt := 90) hx hb (zdt zkX7_goalsFit 78 rfl) (by decide) hf (fun hf => ?_) (fun hf => ?_)
      · refine lv_iconst (v := Int32.ofInt 1) hx hb (zdt zkX7_goalsFit 90 rfl) rfl ?_
        refine lv_goto (tgt := 95) hx hb (zdt zkX7_goalsFit 91 rfl) (by decide) ?_
        obtain rfl := Option.some.inj hf
        exact hret _ _ _ _ zz_b1 (zdt zkX7_goalsFit 95 rfl) hP hD hS
      · refine lv_iload_n hx hb (zdt zkX7_goalsFit 81 rfl) rfl (lv_at hl 2 rfl) ?_
        refine lv_iload_n hx hb (zdt zkX7_goalsFit 82 rfl) rfl (lv_at hl 0 rfl) ?_
        refine xi_icmp_ge (tgt := 94) hx hb (zdt zkX7_goalsFit 83 rfl) (by decide) hf (fun hf => ?_) (fun hf => ?_)
        · refine lv_iconst (v := Int32.ofInt 0) hx hb (zdt zkX7_goalsFit 94 rfl) rfl ?_
          obtain rfl := Option.some.inj hf
          exact hret _ _ _ _ zz_b0 (zdt zkX7_goalsFit 95 rfl) hP hD hS
        · refine lv_iload_n hx hb (zdt zkX7_goalsFit 86 rfl) rfl (lv_at hl 3 rfl) ?_
          refine xi_if_ne (tgt := 94) hx hb (zdt zkX7_goalsFit 87 rfl) (by decide) hf (fun hf => ?_) (fun hf => ?_)
          · refine lv_iconst (v := Int32.ofInt 0) hx hb (zdt zkX7_goalsFit 94 rfl) rfl ?_
            obtain rfl := Option.some.inj hf
            exact hret _ _ _ _ zz_b0 (zdt zkX7_goalsFit 95 rfl) hP hD hS
          · refine lv_iconst (v := Int32.ofInt 1) hx hb (zdt zkX7_goalsFit 90 rfl) rfl ?_
            refine lv_goto (tgt := 95) hx hb (zdt zkX7_goalsFit 91 rfl) (by decide) ?_
            obtain rfl := Option.some.inj hf
            exact hret _ _ _ _ zz_b1 (zdt zkX7_goalsFit 95 rfl) hP hD hS
    · refine lv_iload_n hx hb (zdt zkX7_goalsFit 20 rfl) rfl (lv_at hl 1 rfl) ?_
      refine lv_iconst (v := Int32.ofInt 0) hx hb (zdt zkX7_goalsFit 21 rfl) rfl ?_
      refine lv_aload_n hx hb (zdt zkX7_goalsFit 22 rfl) rfl (lv_at hl 0 rfl) ?_
      refine va_get (D := (dC, dI)) (ci := 7) (v := .ref q1) (C := RX7) (T := TX7) (N := 16) hx hb hz zi_X7 hown hK hP 0 rfl rfl 0 (by decide) (hz _ zw_347) (fun _ h9 => h9) rfl (zdt zkX7_goalsFit 23 rfl) ?_
      refine va_getN (D := (dC, dI)) (ci := 2) (v := .ref q20) (C := RX2) (T := TX2) (N := 14) hx hb hz zi_X2 hown hK hP 1 rfl rfl 8 (by decide) (va_Nw.use rfl (hE.1.1 _ zw_195)) (fun _ h9 => h9) rfl (zdt zkX7_goalsFit 26 rfl) ?_
      refine lv_iload_n hx hb (zdt zkX7_goalsFit 29 rfl) rfl (lv_at hl 3 rfl) ?_
      refine xi_iald hx hb hK hP 3 0 rfl rfl (zdt zkX7_goalsFit 30 rfl) hf (fun v2 hf => ?_)
      refine xi_mmax hx hb (hml.trans hl.1.symm) hown (hz _ zw_935) (hz _ zw_654) (hz _ zw_116) (hz _ zw_655) (Nat.le_of_ble_eq_true rfl) (Nat.le_of_ble_eq_true rfl) (Nat.zero_le _) (Nat.zero_le _) (zdt zkX7_goalsFit 31 rfl) hf (fun v3 hf => ?_)
      refine xi_iadd hx hb (zdt zkX7_goalsFit 34 rfl) hf (fun v4 hf => ?_)
      refine lv_istore_n (lv' := [(1, .int (Int32.ofInt v4)), (0, .ref q0), (2, .int (Int32.ofInt x2)), (3, .int (Int32.ofInt x3))]) hx hb (zdt zkX7_goalsFit 35 rfl) rfl hl (by decide) rfl (fun ls hl => ?_)
      refine lv_iload_n hx hb (zdt zkX7_goalsFit 36 rfl) rfl (lv_at hl 2 rfl) ?_
      refine xi_if_eq (tgt := 57) hx hb (zdt zkX7_goalsFit 37 rfl) (by decide) hf (fun hf => ?_) (fun hf => ?_)
      · exact b_57 _ ih6 _ _ _ _ _ hf hP hD hS (lv_sub hl [1, 0, 3] rfl)
      · refine lv_aload_n hx hb (zdt zkX7_goalsFit 40 rfl) rfl (lv_at hl 1 rfl) ?_
        refine va_get (D := (dC, dI)) (ci := 7) (v := .ref q1) (C := RX7) (T := TX7) (N := 16) hx hb hz zi_X7 hown hK hP 0 rfl rfl 0 (by decide) (hz _ zw_347) (fun _ h9 => h9) rfl (zdt zkX7_goalsFit 41 rfl) ?_
        refine va_getN (D := (dC, dI)) (ci := 2) (v := .ref q20) (C := RX2) (T := TX2) (N := 14) hx hb hz zi_X2 hown hK hP 1 rfl rfl 8 (by decide) (va_Nw.use rfl (hE.1.1 _ zw_195)) (fun _ h9 => h9) rfl (zdt zkX7_goalsFit 44 rfl) ?_
        refine lv_iload_n hx hb (zdt zkX7_goalsFit 47 rfl) rfl (lv_at hl 3 rfl) ?_
        refine xi_iald hx hb hK hP 3 0 rfl rfl (zdt zkX7_goalsFit 48 rfl) hf (fun v5 hf => ?_)
        refine lv_iconst (v := Int32.ofInt (-1)) hx hb (zdt zkX7_goalsFit 49 rfl) rfl ?_
        refine xi_icmp_eq (tgt := 57) hx hb (zdt zkX7_goalsFit 50 rfl) (by decide) hf (fun hf => ?_) (fun hf => ?_)
        · exact b_57 _ ih6 _ _ _ _ _ hf hP hD hS (lv_sub hl [1, 0, 3] rfl)
        · refine lv_iconst (v := Int32.ofInt 1) hx hb (zdt zkX7_goalsFit 53 rfl) rfl ?_
          refine lv_goto (tgt := 58) hx hb (zdt zkX7_goalsFit 54 rfl) (by decide) ?_
          exact b_58 _ ih6 _ _ _ _ _ _ hf hP hD hS (lv_sub hl [1, 0, 3] rfl)
  have l_6 : ∀ (n : Nat), ∀ (x1 : Int) (x2 : Int) (x3 : Int) (H : Heap) (locs : List Loc) (ls : Array Slot), f_Planner_goalsFit_6 i_hill_columns_many i_hill_goals i_hill_columns_heights n x1 x2 x3 = some out → va_P (dC, dI) vwCl (wd_Planner_goalsFit cA q0 q1 q2 q3 q4 q5 q6 q7 q8 q9 q10 q11 q12 q13 q14 q15 q16 q17 q18 q19 q20 q21 q22 q23 q24 u0 u1 u2 u3 u4 u5 u6 u7 i_hill_columns_many i_hill_goals i_hill_columns_heights) H → va_D A (wd_Planner_goalsFit cA q0 q1 q2 q3 q4 q5 q6 q7 q8 q9 q10 q11 q12 q13 q14 q15 q16 q17 q18 q19 q20 q21 q22 q23 q24 u0 u1 u2 u3 u4 u5 u6 u7 i_hill_columns_many i_hill_goals i_hill_columns_heights) → va_S A s.heap H locs → lv_has ls 4 [(0, .ref q0), (1, .int (Int32.ofInt x1)), (2, .int (Int32.ofInt x2)), (3, .int (Int32.ofInt x3))] → W p l e rm_Planner_goalsFit s m args below meth c H locs 0 0 Q (F0 m 6 ls []) := by
    intro n
    induction n with
    | zero => intro x1 x2 x3 H locs ls hf hP hD hS hl; exact nomatch hf
    | succ n ih => intro x1 x2 x3 H locs ls hf hP hD hS hl; exact b_6 (f_Planner_goalsFit_6 i_hill_columns_many i_hill_goals i_hill_columns_heights n) ih x1 x2 x3 H locs ls hf hP hD hS hl
  unfold f_Planner_goalsFit at hf
  refine lv_iconst (v := Int32.ofInt 0) hx hb (zdt zkX7_goalsFit 0 rfl) rfl ?_
  refine lv_istore_n (lv' := [(1, .int (Int32.ofInt 0)), (0, .ref q0)]) hx hb (zdt zkX7_goalsFit 1 rfl) rfl hl (by decide) rfl (fun ls hl => ?_)
  refine lv_iconst (v := Int32.ofInt 1) hx hb (zdt zkX7_goalsFit 2 rfl) rfl ?_
  refine lv_istore_n (lv' := [(2, .int (Int32.ofInt 1)), (1, .int (Int32.ofInt 0)), (0, .ref q0)]) hx hb (zdt zkX7_goalsFit 3 rfl) rfl hl (by decide) rfl (fun ls hl => ?_)
  refine lv_iconst (v := Int32.ofInt 0) hx hb (zdt zkX7_goalsFit 4 rfl) rfl ?_
  refine lv_istore_n (lv' := [(3, .int (Int32.ofInt 0)), (2, .int (Int32.ofInt 1)), (1, .int (Int32.ofInt 0)), (0, .ref q0)]) hx hb (zdt zkX7_goalsFit 5 rfl) rfl hl (by decide) rfl (fun ls hl => ?_)
  exact l_6  _ _ _ _ _ _ _ hf hP hD hS (lv_sub hl [3, 2, 1, 0] rfl)
set_option maxRecDepth 100000 in
noncomputable def ztX7_goalsAreSo (p : Nat) : Option (Jvm.ClassFile.Instr × Nat) := bif Nat.ble 31 p then (bif Nat.ble 47 p then (bif Nat.ble 53 p then (bif Nat.ble 57 p then (bif Nat.ble 60 p then (bif Nat.ble 61 p then (bif Nat.beq p 61 then some (.ireturn, 1) else none) else (bif Nat.beq p 60 then some (.iconst 1, 1) else none)) else (bif Nat.beq p 57 then some (.goto (-55), 3) else none)) else (bif Nat.ble 54 p then (bif Nat.beq p 54 then some (.iinc 1 1, 3) else none) else (bif Nat.beq p 53 then some (.ireturn, 1) else none))) else (bif Nat.ble 49 p then (bif Nat.ble 52 p then (bif Nat.beq p 52 then some (.iconst 0, 1) else none) else (bif Nat.beq p 49 then some (.if_icmp .eq 5, 3) else none)) else (bif Nat.ble 48 p then (bif Nat.beq p 48 then some (.iaload, 1) else none) else (bif Nat.beq p 47 then some (.iload_n 1, 1) else none)))) else (bif Nat.ble 41 p then (bif Nat.ble 43 p then (bif Nat.ble 44 p then (bif Nat.beq p 44 then some (.getfield 44, 3) else none) else (bif Nat.beq p 43 then some (.aload_n 0, 1) else none)) else (bif Nat.ble 42 p then (bif Nat.beq p 42 then some (.iaload, 1) else none) else (bif Nat.beq p 41 then some (.iload_n 1, 1) else none))) else (bif Nat.ble 35 p then (bif Nat.ble 38 p then (bif Nat.beq p 38 then some (.getfield 95, 3) else none) else (bif Nat.beq p 35 then some (.getfield 50, 3) else none)) else (bif Nat.ble 34 p then (bif Nat.beq p 34 then some (.aload_n 0, 1) else none) else (bif Nat.beq p 31 then some (.if_icmp .eq 23, 3) else none))))) else (bif Nat.ble 16 p then (bif Nat.ble 22 p then (bif Nat.ble 28 p then (bif Nat.ble 29 p then (bif Nat.ble 30 p then (bif Nat.beq p 30 then some (.iconst (-1), 1) else none) else (bif Nat.beq p 29 then some (.iaload, 1) else none)) else (bif Nat.beq p 28 then some (.iload_n 1, 1) else none)) else (bif Nat.ble 25 p then (bif Nat.beq p 25 then some (.getfield 95, 3) else none) else (bif Nat.beq p 22 then some (.getfield 50, 3) else none))) else (bif Nat.ble 18 p then (bif Nat.ble 21 p then (bif Nat.beq p 21 then some (.aload_n 0, 1) else none) else (bif Nat.beq p 18 then some (.if_icmp .ge 42, 3) else none)) else (bif Nat.ble 17 p then (bif Nat.beq p 17 then some (.iconst 4, 1) else none) else (bif Nat.beq p 16 then some (.iload_n 1, 1) else none)))) else (bif Nat.ble 4 p then (bif Nat.ble 10 p then (bif Nat.ble 13 p then (bif Nat.beq p 13 then some (.if_icmp .ge 47, 3) else none) else (bif Nat.beq p 10 then some (.getfield 64, 3) else none)) else (bif Nat.ble 7 p then (bif Nat.beq p 7 then some (.getfield 58, 3) else none) else (bif Nat.beq p 4 then some (.getfield 50, 3) else none))) else (bif Nat.ble 2 p then (bif Nat.ble 3 p then (bif Nat.beq p 3 then some (.aload_n 0, 1) else none) else (bif Nat.beq p 2 then some (.iload_n 1, 1) else none)) else (bif Nat.ble 1 p then (bif Nat.beq p 1 then some (.istore_n 1, 1) else none) else (bif Nat.beq p 0 then some (.iconst 0, 1) else none)))))
set_option maxRecDepth 100000 in
theorem zkX7_goalsAreSo : (zbig cX7_goalsAreSo.data.toList = 137471782399870955268748704441674623592742834534732429954693622464396741620793831649961397954521169126305275903548981486223865740985305650741942893571 ∧ cX7_goalsAreSo.data.toList.length = 62) ∧ zdk cX7_goalsAreSo 137471782399870955268748704441674623592742834534732429954693622464396741620793831649961397954521169126305275903548981486223865740985305650741942893571 62 ztX7_goalsAreSo 61 = true := by decide +kernel
theorem zw_358 : (Jvm.Cond.fieldLink "HillSchool$Planner" (44 : Nat) "HillSchool$Planner" "heights" "[I") ∈ zall := zmemG (zmj_2 15 rfl) rfl
theorem zw_986 : (Jvm.Cond.code ({ cls := "HillSchool$Planner", name := "goalsAreSo", desc := "()Z" } : Jvm.MethodName) prog_9_method_10_code (2 : Nat) (Option.some Jvm.ClassFile.FieldType.boolean)) ∈ zall := zmemG (zmj_4 163 rfl) rfl
noncomputable abbrev w_Planner_goalsAreSo : List Cond := .code yX7_goalsAreSo cX7_goalsAreSo 2 (some .boolean) :: zall
noncomputable abbrev rm_Planner_goalsAreSo : Room := { frames := 0, cells := 0, slots := 0, locals := 0 }
theorem hd_Planner_goalsAreSo : yX7_goalsAreSo.cls = "HillSchool$Planner" ∧ yX7_goalsAreSo.cls ≠ "java/lang/invoke/MethodHandle" ∧ yX7_goalsAreSo.cls ≠ "java/lang/invoke/VarHandle" ∧ (parseMethodDescriptor yX7_goalsAreSo.desc).map (fun d => d.parameters.length) = some 0 := by decide +kernel
noncomputable def wd_Planner_goalsAreSo (cA : Nat → ClassId) (q0 q1 q2 q3 q4 q5 q6 q7 q8 q9 q10 q11 q12 q13 q14 q15 q16 q17 q18 q19 q20 q21 q22 q23 q24 : Nat) (u0 u1 u2 u3 u4 u5 u6 u7 : Int) (i_heights : Nat → Int) (i_hill_columns_many : Int) (i_hill_goals : Nat → Int)  : va_W := [(q0, .inr (7, [.ref q1, .ref q2, .ref q3, .ref q4, .ref q5, .ref q6, .ref q7, .ref q8, .ref q9, .ref q10, .ref q11, .ref q12, .ref q13, .int (Int32.ofInt u0), .int (Int32.ofInt u1), .int (Int32.ofInt u2)])), (q1, .inr (2, [.ref q14, .int (Int32.ofInt u3), .ref q15, .ref q16, .ref q17, .int (Int32.ofInt u4), .ref q18, .ref q19, .ref q20, .int (Int32.ofInt u5), .ref q21, .ref q22, .int (Int32.ofInt u6), .int (Int32.ofInt u7)])), (q12, .inl (cA 0, 4, .inl (za i_heights))), (q14, .inr (1, [.int (Int32.ofInt i_hill_columns_many), .ref q23, .ref q24])), (q20, .inl (cA 0, 12, .inl (za i_hill_goals)))]
noncomputable def wf_Planner_goalsAreSo (cA : Nat → ClassId) (q0 q1 q2 q3 q4 q5 q6 q7 q8 q9 q10 q11 q12 q13 q14 q15 q16 q17 q18 q19 q20 q21 q22 q23 q24 : Nat) (u0 u1 u2 u3 u4 u5 u6 u7 : Int) (i_heights : Nat → Int) (i_hill_columns_many : Int) (i_hill_goals : Nat → Int) (o : Int) : va_W := wd_Planner_goalsAreSo cA q0 q1 q2 q3 q4 q5 q6 q7 q8 q9 q10 q11 q12 q13 q14 q15 q16 q17 q18 q19 q20 q21 q22 q23 q24 u0 u1 u2 u3 u4 u5 u6 u7 i_heights i_hill_columns_many i_hill_goals
noncomputable def f_Planner_goalsAreSo_54 (i_heights : Nat → Int) (i_hill_columns_many : Int) (i_hill_goals : Nat → Int) (k2 : Int → Option (Int)) (x1 : Int) : Option (Int) :=
  zn (x1 + 1) fun v1 =>
  k2 v1
noncomputable def f_Planner_goalsAreSo_2_b (i_heights : Nat → Int) (i_hill_columns_many : Int) (i_hill_goals : Nat → Int) (k2 : Int → Option (Int)) (x1 : Int) : Option (Int) :=
  if zi_w i_hill_columns_many ≤ zi_w x1 then
    some 1
  else
    if zi_w 4 ≤ zi_w x1 then
      some 1
    else
      zg 12 i_hill_goals x1 fun v1 =>
      if zi_w v1 = zi_w (-1) then
        f_Planner_goalsAreSo_54 i_heights i_hill_columns_many i_hill_goals k2 x1
      else
        zg 12 i_hill_goals x1 fun v2 =>
        zg 4 i_heights x1 fun v3 =>
        if zi_w v2 = zi_w v3 then
          f_Planner_goalsAreSo_54 i_heights i_hill_columns_many i_hill_goals k2 x1
        else
          some 0
noncomputable def f_Planner_goalsAreSo_2 (i_heights : Nat → Int) (i_hill_columns_many : Int) (i_hill_goals : Nat → Int) : Nat → Int → Option (Int)
  | 0 => fun _ => none
  | n + 1 => fun y0 => f_Planner_goalsAreSo_2_b i_heights i_hill_columns_many i_hill_goals (f_Planner_goalsAreSo_2 i_heights i_hill_columns_many i_hill_goals n) y0
noncomputable def f_Planner_goalsAreSo (i_heights : Nat → Int) (i_hill_columns_many : Int) (i_hill_goals : Nat → Int) : Option (Int) :=
  f_Planner_goalsAreSo_2 i_heights i_hill_columns_many i_hill_goals zfu 0
set_option maxHeartbeats 4000000 in
set_option maxRecDepth 100000 in
theorem c_Planner_goalsAreSo (l : Launch) (ev : zEv) (dC : Nat → ClassId) (dI : Nat → Nat → Nat) (cA : Nat → ClassId) (q0 q1 q2 q3 q4 q5 q6 q7 q8 q9 q10 q11 q12 q13 q14 q15 q16 q17 q18 q19 q20 q21 q22 q23 q24 : Nat) (u0 u1 u2 u3 u4 u5 u6 u7 : Int) {i_heights : Nat → Int} {i_hill_columns_many : Int} {i_hill_goals : Nat → Int} {out : Int} (hf : f_Planner_goalsAreSo i_heights i_hill_columns_many i_hill_goals = some out) : xc_I l ev (dC, dI) vwCl (tyl cA) yX7_goalsAreSo w_Planner_goalsAreSo rm_Planner_goalsAreSo [.ref q0] (wd_Planner_goalsAreSo cA q0 q1 q2 q3 q4 q5 q6 q7 q8 q9 q10 q11 q12 q13 q14 q15 q16 q17 q18 q19 q20 q21 q22 q23 q24 u0 u1 u2 u3 u4 u5 u6 u7 i_heights i_hill_columns_many i_hill_goals) (wf_Planner_goalsAreSo cA q0 q1 q2 q3 q4 q5 q6 q7 q8 q9 q10 q11 q12 q13 q14 q15 q16 q17 q18 q19 q20 q21 q22 q23 q24 u0 u1 u2 u3 u4 u5 u6 u7 i_heights i_hill_columns_many i_hill_goals out) out := by
  refine xv_startI (cc := cX7_goalsAreSo) (maxL := 2) (rt := .boolean) (by decide +kernel) rfl (Nat.le_of_ble_eq_true rfl) ?_
  intro p e s m args below meth c A Q H ls hx hb hml hts hown hK hA hP hD hS hl hE hret
  have hown : s.vm.findClass "HillSchool$Planner" = some m.cls := hown
  have hz : ∀ w ∈ zall, w.before args s = true := fun w h => hts w (List.mem_cons_of_mem _ h)
  have hl : lv_has ls 2 [(0, .ref q0)] := hl
  have b_54 : ∀ (k2 : Int → Option (Int)) (_ : ∀ (x1 : Int) (H : Heap) (locs : List Loc) (ls : Array Slot), k2 x1 = some out → va_P (dC, dI) vwCl (wd_Planner_goalsAreSo cA q0 q1 q2 q3 q4 q5 q6 q7 q8 q9 q10 q11 q12 q13 q14 q15 q16 q17 q18 q19 q20 q21 q22 q23 q24 u0 u1 u2 u3 u4 u5 u6 u7 i_heights i_hill_columns_many i_hill_goals) H → va_D A (wd_Planner_goalsAreSo cA q0 q1 q2 q3 q4 q5 q6 q7 q8 q9 q10 q11 q12 q13 q14 q15 q16 q17 q18 q19 q20 q21 q22 q23 q24 u0 u1 u2 u3 u4 u5 u6 u7 i_heights i_hill_columns_many i_hill_goals) → va_S A s.heap H locs → lv_has ls 2 [(0, .ref q0), (1, .int (Int32.ofInt x1))] → W p l e rm_Planner_goalsAreSo s m args below meth c H locs 0 0 Q (F0 m 2 ls [])), ∀ (x1 : Int) (H : Heap) (locs : List Loc) (ls : Array Slot), f_Planner_goalsAreSo_54 i_heights i_hill_columns_many i_hill_goals k2 x1 = some out → va_P (dC, dI) vwCl (wd_Planner_goalsAreSo cA q0 q1 q2 q3 q4 q5 q6 q7 q8 q9 q10 q11 q12 q13 q14 q15 q16 q17 q18 q19 q20 q21 q22 q23 q24 u0 u1 u2 u3 u4 u5 u6 u7 i_heights i_hill_columns_many i_hill_goals) H → va_D A (wd_Planner_goalsAreSo cA q0 q1 q2 q3 q4 q5 q6 q7 q8 q9 q10 q11 q12 q13 q14 q15 q16 q17 q18 q19 q20 q21 q22 q23 q24 u0 u1 u2 u3 u4 u5 u6 u7 i_heights i_hill_columns_many i_hill_goals) → va_S A s.heap H locs → lv_has ls 2 [(0, .ref q0), (1, .int (Int32.ofInt x1))] → W p l e rm_Planner_goalsAreSo s m args below meth c H locs 0 0 Q (F0 m 54 ls []) := by
    intro k2 ih2 x1 H locs ls hf hP hD hS hl
    unfold f_Planner_goalsAreSo_54 at hf
    refine xi_iinc hx hb (zdt zkX7_goalsAreSo 54 rfl) hl (k := 1) rfl (by decide) hf (fun v1 ls hl hf => ?_)
    have hl : lv_has ls 2 [(1, .int (Int32.ofInt v1)), (0, .ref q0)] := hl
    refine lv_goto (tgt := 2) hx hb (zdt zkX7_goalsAreSo 57 rfl) (by decide) ?_
    exact ih2 _ _ _ _ hf hP hD hS (lv_sub hl [1, 0] rfl)
  have b_2 : ∀ (k2 : Int → Option (Int)) (_ : ∀ (x1 : Int) (H : Heap) (locs : List Loc) (ls : Array Slot), k2 x1 = some out → va_P (dC, dI) vwCl (wd_Planner_goalsAreSo cA q0 q1 q2 q3 q4 q5 q6 q7 q8 q9 q10 q11 q12 q13 q14 q15 q16 q17 q18 q19 q20 q21 q22 q23 q24 u0 u1 u2 u3 u4 u5 u6 u7 i_heights i_hill_columns_many i_hill_goals) H → va_D A (wd_Planner_goalsAreSo cA q0 q1 q2 q3 q4 q5 q6 q7 q8 q9 q10 q11 q12 q13 q14 q15 q16 q17 q18 q19 q20 q21 q22 q23 q24 u0 u1 u2 u3 u4 u5 u6 u7 i_heights i_hill_columns_many i_hill_goals) → va_S A s.heap H locs → lv_has ls 2 [(0, .ref q0), (1, .int (Int32.ofInt x1))] → W p l e rm_Planner_goalsAreSo s m args below meth c H locs 0 0 Q (F0 m 2 ls [])), ∀ (x1 : Int) (H : Heap) (locs : List Loc) (ls : Array Slot), f_Planner_goalsAreSo_2_b i_heights i_hill_columns_many i_hill_goals k2 x1 = some out → va_P (dC, dI) vwCl (wd_Planner_goalsAreSo cA q0 q1 q2 q3 q4 q5 q6 q7 q8 q9 q10 q11 q12 q13 q14 q15 q16 q17 q18 q19 q20 q21 q22 q23 q24 u0 u1 u2 u3 u4 u5 u6 u7 i_heights i_hill_columns_many i_hill_goals) H → va_D A (wd_Planner_goalsAreSo cA q0 q1 q2 q3 q4 q5 q6 q7 q8 q9 q10 q11 q12 q13 q14 q15 q16 q17 q18 q19 q20 q21 q22 q23 q24 u0 u1 u2 u3 u4 u5 u6 u7 i_heights i_hill_columns_many i_hill_goals) → va_S A s.heap H locs → lv_has ls 2 [(0, .ref q0), (1, .int (Int32.ofInt x1))] → W p l e rm_Planner_goalsAreSo s m args below meth c H locs 0 0 Q (F0 m 2 ls []) := by
    intro k2 ih2 x1 H locs ls hf hP hD hS hl
    unfold f_Planner_goalsAreSo_2_b at hf
    refine lv_iload_n hx hb (zdt zkX7_goalsAreSo 2 rfl) rfl (lv_at hl 1 rfl) ?_
    refine lv_aload_n hx hb (zdt zkX7_goalsAreSo 3 rfl) rfl (lv_at hl 0 rfl) ?_
    refine va_get (D := (dC, dI)) (ci := 7) (v := .ref q1) (C := RX7) (T := TX7) (N := 16) hx hb hz zi_X7 hown hK hP 0 rfl rfl 0 (by decide) (hz _ zw_347) (fun _ h9 => h9) rfl (zdt zkX7_goalsAreSo 4 rfl) ?_
    refine va_getN (D := (dC, dI)) (ci := 2) (v := .ref q14) (C := RX2) (T := TX2) (N := 14) hx hb hz zi_X2 hown hK hP 1 rfl rfl 0 (by decide) (va_Nw.use rfl (hE.1.1 _ zw_170)) (fun _ h9 => h9) rfl (zdt zkX7_goalsAreSo 7 rfl) ?_
    refine va_getN (D := (dC, dI)) (ci := 1) (v := .int (Int32.ofInt i_hill_columns_many)) (C := RX1) (T := TX1) (N := 3) hx hb hz zi_X1 hown hK hP 3 rfl rfl 0 (by decide) (va_Nw.use rfl (hE.1.1 _ zw_144)) (fun _ h9 => h9) rfl (zdt zkX7_goalsAreSo 10 rfl) ?_
    refine xi_icmp_ge (tgt := 60) hx hb (zdt zkX7_goalsAreSo 13 rfl) (by decide) hf (fun hf => ?_) (fun hf => ?_)
    · refine lv_iconst (v := Int32.ofInt 1) hx hb (zdt zkX7_goalsAreSo 60 rfl) rfl ?_
      obtain rfl := Option.some.inj hf
      exact hret _ _ _ _ zz_b1 (zdt zkX7_goalsAreSo 61 rfl) hP hD hS
    · refine lv_iload_n hx hb (zdt zkX7_goalsAreSo 16 rfl) rfl (lv_at hl 1 rfl) ?_
      refine lv_iconst (v := Int32.ofInt 4) hx hb (zdt zkX7_goalsAreSo 17 rfl) rfl ?_
      refine xi_icmp_ge (tgt := 60) hx hb (zdt zkX7_goalsAreSo 18 rfl) (by decide) hf (fun hf => ?_) (fun hf => ?_)
      · refine lv_iconst (v := Int32.ofInt 1) hx hb (zdt zkX7_goalsAreSo 60 rfl) rfl ?_
        obtain rfl := Option.some.inj hf
        exact hret _ _ _ _ zz_b1 (zdt zkX7_goalsAreSo 61 rfl) hP hD hS
      · refine lv_aload_n hx hb (zdt zkX7_goalsAreSo 21 rfl) rfl (lv_at hl 0 rfl) ?_
        refine va_get (D := (dC, dI)) (ci := 7) (v := .ref q1) (C := RX7) (T := TX7) (N := 16) hx hb hz zi_X7 hown hK hP 0 rfl rfl 0 (by decide) (hz _ zw_347) (fun _ h9 => h9) rfl (zdt zkX7_goalsAreSo 22 rfl) ?_
        refine va_getN (D := (dC, dI)) (ci := 2) (v := .ref q20) (C := RX2) (T := TX2) (N := 14) hx hb hz zi_X2 hown hK hP 1 rfl rfl 8 (by decide) (va_Nw.use rfl (hE.1.1 _ zw_195)) (fun _ h9 => h9) rfl (zdt zkX7_goalsAreSo 25 rfl) ?_
        refine lv_iload_n hx hb (zdt zkX7_goalsAreSo 28 rfl) rfl (lv_at hl 1 rfl) ?_
        refine xi_iald hx hb hK hP 4 0 rfl rfl (zdt zkX7_goalsAreSo 29 rfl) hf (fun v1 hf => ?_)
        refine lv_iconst (v := Int32.ofInt (-1)) hx hb (zdt zkX7_goalsAreSo 30 rfl) rfl ?_
        refine xi_icmp_eq (tgt := 54) hx hb (zdt zkX7_goalsAreSo 31 rfl) (by decide) hf (fun hf => ?_) (fun hf => ?_)
        · exact b_54 _ ih2 _ _ _ _ hf hP hD hS (lv_sub hl [0, 1] rfl)
        · refine lv_aload_n hx hb (zdt zkX7_goalsAreSo 34 rfl) rfl (lv_at hl 0 rfl) ?_
          refine va_get (D := (dC, dI)) (ci := 7) (v := .ref q1) (C := RX7) (T := TX7) (N := 16) hx hb hz zi_X7 hown hK hP 0 rfl rfl 0 (by decide) (hz _ zw_347) (fun _ h9 => h9) rfl (zdt zkX7_goalsAreSo 35 rfl) ?_
          refine va_getN (D := (dC, dI)) (ci := 2) (v := .ref q20) (C := RX2) (T := TX2) (N := 14) hx hb hz zi_X2 hown hK hP 1 rfl rfl 8 (by decide) (va_Nw.use rfl (hE.1.1 _ zw_195)) (fun _ h9 => h9) rfl (zdt zkX7_goalsAreSo 38 rfl) ?_
          refine lv_iload_n hx hb (zdt zkX7_goalsAreSo 41 rfl) rfl (lv_at hl 1 rfl) ?_
          refine xi_iald hx hb hK hP 4 0 rfl rfl (zdt zkX7_goalsAreSo 42 rfl) hf (fun v2 hf => ?_)
          refine lv_aload_n hx hb (zdt zkX7_goalsAreSo 43 rfl) rfl (lv_at hl 0 rfl) ?_
          refine va_get (D := (dC, dI)) (ci := 7) (v := .ref q12) (C := RX7) (T := TX7) (N := 16) hx hb hz zi_X7 hown hK hP 0 rfl rfl 11 (by decide) (hz _ zw_358) (fun _ h9 => h9) rfl (zdt zkX7_goalsAreSo 44 rfl) ?_
          refine lv_iload_n hx hb (zdt zkX7_goalsAreSo 47 rfl) rfl (lv_at hl 1 rfl) ?_
          refine xi_iald hx hb hK hP 2 0 rfl rfl (zdt zkX7_goalsAreSo 48 rfl) hf (fun v3 hf => ?_)
          refine xi_icmp_eq (tgt := 54) hx hb (zdt zkX7_goalsAreSo 49 rfl) (by decide) hf (fun hf => ?_) (fun hf => ?_)
          · exact b_54 _ ih2 _ _ _ _ hf hP hD hS (lv_sub hl [0, 1] rfl)
          · refine lv_iconst (v := Int32.ofInt 0) hx hb (zdt zkX7_goalsAreSo 52 rfl) rfl ?_
            obtain rfl := Option.some.inj hf
            exact hret _ _ _ _ zz_b0 (zdt zkX7_goalsAreSo 53 rfl) hP hD hS
  have l_2 : ∀ (n : Nat), ∀ (x1 : Int) (H : Heap) (locs : List Loc) (ls : Array Slot), f_Planner_goalsAreSo_2 i_heights i_hill_columns_many i_hill_goals n x1 = some out → va_P (dC, dI) vwCl (wd_Planner_goalsAreSo cA q0 q1 q2 q3 q4 q5 q6 q7 q8 q9 q10 q11 q12 q13 q14 q15 q16 q17 q18 q19 q20 q21 q22 q23 q24 u0 u1 u2 u3 u4 u5 u6 u7 i_heights i_hill_columns_many i_hill_goals) H → va_D A (wd_Planner_goalsAreSo cA q0 q1 q2 q3 q4 q5 q6 q7 q8 q9 q10 q11 q12 q13 q14 q15 q16 q17 q18 q19 q20 q21 q22 q23 q24 u0 u1 u2 u3 u4 u5 u6 u7 i_heights i_hill_columns_many i_hill_goals) → va_S A s.heap H locs → lv_has ls 2 [(0, .ref q0), (1, .int (Int32.ofInt x1))] → W p l e rm_Planner_goalsAreSo s m args below meth c H locs 0 0 Q (F0 m 2 ls []) := by
    intro n
    induction n with
    | zero => intro x1 H locs ls hf hP hD hS hl; exact nomatch hf
    | succ n ih => intro x1 H locs ls hf hP hD hS hl; exact b_2 (f_Planner_goalsAreSo_2 i_heights i_hill_columns_many i_hill_goals n) ih x1 H locs ls hf hP hD hS hl
  unfold f_Planner_goalsAreSo at hf
  refine lv_iconst (v := Int32.ofInt 0) hx hb (zdt zkX7_goalsAreSo 0 rfl) rfl ?_
  refine lv_istore_n (lv' := [(1, .int (Int32.ofInt 0)), (0, .ref q0)]) hx hb (zdt zkX7_goalsAreSo 1 rfl) rfl hl (by decide) rfl (fun ls hl => ?_)
  exact l_2  _ _ _ _ _ hf hP hD hS (lv_sub hl [1, 0] rfl)
set_option maxRecDepth 100000 in
noncomputable def ztX7_swap (p : Nat) : Option (Jvm.ClassFile.Instr × Nat) := bif Nat.ble 25 p then (bif Nat.ble 38 p then (bif Nat.ble 46 p then (bif Nat.ble 48 p then (bif Nat.ble 49 p then (bif Nat.ble 50 p then (bif Nat.beq p 50 then some (.return_, 1) else none) else (bif Nat.beq p 49 then some (.iastore, 1) else none)) else (bif Nat.beq p 48 then some (.iload_n 2, 1) else none)) else (bif Nat.ble 47 p then (bif Nat.beq p 47 then some (.iaload, 1) else none) else (bif Nat.beq p 46 then some (.iload_n 2, 1) else none))) else (bif Nat.ble 42 p then (bif Nat.ble 43 p then (bif Nat.beq p 43 then some (.getfield 35, 3) else none) else (bif Nat.beq p 42 then some (.aload_n 0, 1) else none)) else (bif Nat.ble 39 p then (bif Nat.beq p 39 then some (.getfield 38, 3) else none) else (bif Nat.beq p 38 then some (.aload_n 0, 1) else none)))) else (bif Nat.ble 31 p then (bif Nat.ble 35 p then (bif Nat.ble 36 p then (bif Nat.ble 37 p then (bif Nat.beq p 37 then some (.iastore, 1) else none) else (bif Nat.beq p 36 then some (.iload_n 1, 1) else none)) else (bif Nat.beq p 35 then some (.iaload, 1) else none)) else (bif Nat.ble 34 p then (bif Nat.beq p 34 then some (.iload_n 1, 1) else none) else (bif Nat.beq p 31 then some (.getfield 35, 3) else none))) else (bif Nat.ble 27 p then (bif Nat.ble 30 p then (bif Nat.beq p 30 then some (.aload_n 0, 1) else none) else (bif Nat.beq p 27 then some (.getfield 38, 3) else none)) else (bif Nat.ble 26 p then (bif Nat.beq p 26 then some (.aload_n 0, 1) else none) else (bif Nat.beq p 25 then some (.iastore, 1) else none))))) else (bif Nat.ble 12 p then (bif Nat.ble 18 p then (bif Nat.ble 20 p then (bif Nat.ble 23 p then (bif Nat.ble 24 p then (bif Nat.beq p 24 then some (.iload_n 3, 1) else none) else (bif Nat.beq p 23 then some (.iload_n 2, 1) else none)) else (bif Nat.beq p 20 then some (.getfield 35, 3) else none)) else (bif Nat.ble 19 p then (bif Nat.beq p 19 then some (.aload_n 0, 1) else none) else (bif Nat.beq p 18 then some (.iastore, 1) else none))) else (bif Nat.ble 16 p then (bif Nat.ble 17 p then (bif Nat.beq p 17 then some (.iaload, 1) else none) else (bif Nat.beq p 16 then some (.iload_n 2, 1) else none)) else (bif Nat.ble 13 p then (bif Nat.beq p 13 then some (.getfield 35, 3) else none) else (bif Nat.beq p 12 then some (.aload_n 0, 1) else none)))) else (bif Nat.ble 6 p then (bif Nat.ble 8 p then (bif Nat.ble 11 p then (bif Nat.beq p 11 then some (.iload_n 1, 1) else none) else (bif Nat.beq p 8 then some (.getfield 35, 3) else none)) else (bif Nat.ble 7 p then (bif Nat.beq p 7 then some (.aload_n 0, 1) else none) else (bif Nat.beq p 6 then some (.istore_n 3, 1) else none))) else (bif Nat.ble 4 p then (bif Nat.ble 5 p then (bif Nat.beq p 5 then some (.iaload, 1) else none) else (bif Nat.beq p 4 then some (.iload_n 1, 1) else none)) else (bif Nat.ble 1 p then (bif Nat.beq p 1 then some (.getfield 35, 3) else none) else (bif Nat.beq p 0 then some (.aload_n 0, 1) else none)))))
set_option maxRecDepth 100000 in
theorem zkX7_swap : (zbig cX7_swap.data.toList = 457856204947836748456822640566942302218212101617683164066254649097473314900955255616553607230265679080620245099964455236650 ∧ cX7_swap.data.toList.length = 51) ∧ zdk cX7_swap 457856204947836748456822640566942302218212101617683164066254649097473314900955255616553607230265679080620245099964455236650 51 ztX7_swap 50 = true := by decide +kernel
theorem zw_355 : (Jvm.Cond.fieldLink "HillSchool$Planner" (35 : Nat) "HillSchool$Planner" "queue" "[I") ∈ zall := zmemG (zmj_2 12 rfl) rfl
theorem zw_356 : (Jvm.Cond.fieldLink "HillSchool$Planner" (38 : Nat) "HillSchool$Planner" "queuedAt" "[I") ∈ zall := zmemG (zmj_2 13 rfl) rfl
theorem zw_974 : (Jvm.Cond.code ({ cls := "HillSchool$Planner", name := "swap", desc := "(II)V" } : Jvm.MethodName) prog_9_method_19_code (4 : Nat) (Option.none : Option Jvm.ClassFile.FieldType)) ∈ zall := zmemG (zmj_4 151 rfl) rfl
noncomputable abbrev w_Planner_swap : List Cond := .code yX7_swap cX7_swap 4 none :: zall
noncomputable abbrev rm_Planner_swap : Room := { frames := 0, cells := 0, slots := 0, locals := 0 }
theorem hd_Planner_swap : yX7_swap.cls = "HillSchool$Planner" ∧ yX7_swap.cls ≠ "java/lang/invoke/MethodHandle" ∧ yX7_swap.cls ≠ "java/lang/invoke/VarHandle" ∧ (parseMethodDescriptor yX7_swap.desc).map (fun d => d.parameters.length) = some 2 := by decide +kernel
noncomputable def wd_Planner_swap (cA : Nat → ClassId) (q0 q1 q2 q3 q4 q5 q6 q7 q8 q9 q10 q11 q12 q13 : Nat) (u0 u1 u2 : Int)  (i_queue : Nat → Int) (i_queuedAt : Nat → Int) : va_W := [(q0, .inr (7, [.ref q1, .ref q2, .ref q3, .ref q4, .ref q5, .ref q6, .ref q7, .ref q8, .ref q9, .ref q10, .ref q11, .ref q12, .ref q13, .int (Int32.ofInt u0), .int (Int32.ofInt u1), .int (Int32.ofInt u2)])), (q9, .inl (cA 0, 6720, .inl (za i_queue))), (q10, .inl (cA 0, 6720, .inl (za i_queuedAt)))]
noncomputable def wf_Planner_swap (cA : Nat → ClassId) (q0 q1 q2 q3 q4 q5 q6 q7 q8 q9 q10 q11 q12 q13 : Nat) (u0 u1 u2 : Int)  (o : (Nat → Int) × (Nat → Int)) : va_W := wd_Planner_swap cA q0 q1 q2 q3 q4 q5 q6 q7 q8 q9 q10 q11 q12 q13 u0 u1 u2 o.1 o.2
noncomputable def f_Planner_swap (x1 : Int) (x2 : Int) (i_queue : Nat → Int) (i_queuedAt : Nat → Int) : Option ((Nat → Int) × (Nat → Int)) :=
  zg 6720 i_queue x1 fun v1 =>
  zg 6720 i_queue x2 fun v2 =>
  zs 6720 i_queue x1 v2 fun a3 =>
  zs 6720 a3 x2 v1 fun a4 =>
  zg 6720 a4 x1 fun v5 =>
  zs 6720 i_queuedAt v5 x1 fun a6 =>
  zg 6720 a4 x2 fun v7 =>
  zs 6720 a6 v7 x2 fun a8 =>
  some (a4, a8)
set_option maxHeartbeats 4000000 in
set_option maxRecDepth 100000 in
theorem c_Planner_swap (l : Launch) (ev : zEv) (dC : Nat → ClassId) (dI : Nat → Nat → Nat) (cA : Nat → ClassId) (q0 q1 q2 q3 q4 q5 q6 q7 q8 q9 q10 q11 q12 q13 : Nat) (u0 u1 u2 : Int) {x1 x2 : Int} {i_queue : Nat → Int} {i_queuedAt : Nat → Int} {out : (Nat → Int) × (Nat → Int)} (hf : f_Planner_swap x1 x2 i_queue i_queuedAt = some out) : xc_V l ev (dC, dI) vwCl (tyl cA) yX7_swap w_Planner_swap rm_Planner_swap [.ref q0, .int (Int32.ofInt x1), .int (Int32.ofInt x2)] (wd_Planner_swap cA q0 q1 q2 q3 q4 q5 q6 q7 q8 q9 q10 q11 q12 q13 u0 u1 u2 i_queue i_queuedAt) (wf_Planner_swap cA q0 q1 q2 q3 q4 q5 q6 q7 q8 q9 q10 q11 q12 q13 u0 u1 u2 out) := by
  refine xv_startV (cc := cX7_swap) (maxL := 4) (by decide +kernel) rfl (Nat.le_of_ble_eq_true rfl) ?_
  intro p e s m args below meth c A Q H ls hx hb hml hts hown hK hA hP hD hS hl hE hret
  have hown : s.vm.findClass "HillSchool$Planner" = some m.cls := hown
  have hz : ∀ w ∈ zall, w.before args s = true := fun w h => hts w (List.mem_cons_of_mem _ h)
  have hl : lv_has ls 4 [(0, .ref q0), (1, .int (Int32.ofInt x1)), (2, .int (Int32.ofInt x2))] := hl
  unfold f_Planner_swap at hf
  refine lv_aload_n hx hb (zdt zkX7_swap 0 rfl) rfl (lv_at hl 0 rfl) ?_
  refine va_get (D := (dC, dI)) (ci := 7) (v := .ref q9) (C := RX7) (T := TX7) (N := 16) hx hb hz zi_X7 hown hK hP 0 rfl rfl 8 (by decide) (hz _ zw_355) (fun _ h9 => h9) rfl (zdt zkX7_swap 1 rfl) ?_
  refine lv_iload_n hx hb (zdt zkX7_swap 4 rfl) rfl (lv_at hl 1 rfl) ?_
  refine xi_iald hx hb hK hP 1 0 rfl rfl (zdt zkX7_swap 5 rfl) hf (fun v1 hf => ?_)
  refine lv_istore_n (lv' := [(3, .int (Int32.ofInt v1)), (0, .ref q0), (1, .int (Int32.ofInt x1)), (2, .int (Int32.ofInt x2))]) hx hb (zdt zkX7_swap 6 rfl) rfl hl (by decide) rfl (fun ls hl => ?_)
  refine lv_aload_n hx hb (zdt zkX7_swap 7 rfl) rfl (lv_at hl 1 rfl) ?_
  refine va_get (D := (dC, dI)) (ci := 7) (v := .ref q9) (C := RX7) (T := TX7) (N := 16) hx hb hz zi_X7 hown hK hP 0 rfl rfl 8 (by decide) (hz _ zw_355) (fun _ h9 => h9) rfl (zdt zkX7_swap 8 rfl) ?_
  refine lv_iload_n hx hb (zdt zkX7_swap 11 rfl) rfl (lv_at hl 2 rfl) ?_
  refine lv_aload_n hx hb (zdt zkX7_swap 12 rfl) rfl (lv_at hl 1 rfl) ?_
  refine va_get (D := (dC, dI)) (ci := 7) (v := .ref q9) (C := RX7) (T := TX7) (N := 16) hx hb hz zi_X7 hown hK hP 0 rfl rfl 8 (by decide) (hz _ zw_355) (fun _ h9 => h9) rfl (zdt zkX7_swap 13 rfl) ?_
  refine lv_iload_n hx hb (zdt zkX7_swap 16 rfl) rfl (lv_at hl 3 rfl) ?_
  refine xi_iald hx hb hK hP 1 0 rfl rfl (zdt zkX7_swap 17 rfl) hf (fun v2 hf => ?_)
  refine xi_iast hx hb hK hP hD hS 1 0 rfl rfl (zdt zkX7_swap 18 rfl) hf (fun a3 H locs hP hD hS hf => ?_)
  refine xw_PD (wd_Planner_swap cA q0 q1 q2 q3 q4 q5 q6 q7 q8 q9 q10 q11 q12 q13 u0 u1 u2 a3 i_queuedAt) hP hD (fun hP hD => ?_)
  refine lv_aload_n hx hb (zdt zkX7_swap 19 rfl) rfl (lv_at hl 1 rfl) ?_
  refine va_get (D := (dC, dI)) (ci := 7) (v := .ref q9) (C := RX7) (T := TX7) (N := 16) hx hb hz zi_X7 hown hK hP 0 rfl rfl 8 (by decide) (hz _ zw_355) (fun _ h9 => h9) rfl (zdt zkX7_swap 20 rfl) ?_
  refine lv_iload_n hx hb (zdt zkX7_swap 23 rfl) rfl (lv_at hl 3 rfl) ?_
  refine lv_iload_n hx hb (zdt zkX7_swap 24 rfl) rfl (lv_at hl 0 rfl) ?_
  refine xi_iast hx hb hK hP hD hS 1 0 rfl rfl (zdt zkX7_swap 25 rfl) hf (fun a4 H locs hP hD hS hf => ?_)
  refine xw_PD (wd_Planner_swap cA q0 q1 q2 q3 q4 q5 q6 q7 q8 q9 q10 q11 q12 q13 u0 u1 u2 a4 i_queuedAt) hP hD (fun hP hD => ?_)
  refine lv_aload_n hx hb (zdt zkX7_swap 26 rfl) rfl (lv_at hl 1 rfl) ?_
  refine va_get (D := (dC, dI)) (ci := 7) (v := .ref q10) (C := RX7) (T := TX7) (N := 16) hx hb hz zi_X7 hown hK hP 0 rfl rfl 9 (by decide) (hz _ zw_356) (fun _ h9 => h9) rfl (zdt zkX7_swap 27 rfl) ?_
  refine lv_aload_n hx hb (zdt zkX7_swap 30 rfl) rfl (lv_at hl 1 rfl) ?_
  refine va_get (D := (dC, dI)) (ci := 7) (v := .ref q9) (C := RX7) (T := TX7) (N := 16) hx hb hz zi_X7 hown hK hP 0 rfl rfl 8 (by decide) (hz _ zw_355) (fun _ h9 => h9) rfl (zdt zkX7_swap 31 rfl) ?_
  refine lv_iload_n hx hb (zdt zkX7_swap 34 rfl) rfl (lv_at hl 2 rfl) ?_
  refine xi_iald hx hb hK hP 1 0 rfl rfl (zdt zkX7_swap 35 rfl) hf (fun v5 hf => ?_)
  refine lv_iload_n hx hb (zdt zkX7_swap 36 rfl) rfl (lv_at hl 2 rfl) ?_
  refine xi_iast hx hb hK hP hD hS 2 0 rfl rfl (zdt zkX7_swap 37 rfl) hf (fun a6 H locs hP hD hS hf => ?_)
  refine xw_PD (wd_Planner_swap cA q0 q1 q2 q3 q4 q5 q6 q7 q8 q9 q10 q11 q12 q13 u0 u1 u2 a4 a6) hP hD (fun hP hD => ?_)
  refine lv_aload_n hx hb (zdt zkX7_swap 38 rfl) rfl (lv_at hl 1 rfl) ?_
  refine va_get (D := (dC, dI)) (ci := 7) (v := .ref q10) (C := RX7) (T := TX7) (N := 16) hx hb hz zi_X7 hown hK hP 0 rfl rfl 9 (by decide) (hz _ zw_356) (fun _ h9 => h9) rfl (zdt zkX7_swap 39 rfl) ?_
  refine lv_aload_n hx hb (zdt zkX7_swap 42 rfl) rfl (lv_at hl 1 rfl) ?_
  refine va_get (D := (dC, dI)) (ci := 7) (v := .ref q9) (C := RX7) (T := TX7) (N := 16) hx hb hz zi_X7 hown hK hP 0 rfl rfl 8 (by decide) (hz _ zw_355) (fun _ h9 => h9) rfl (zdt zkX7_swap 43 rfl) ?_
  refine lv_iload_n hx hb (zdt zkX7_swap 46 rfl) rfl (lv_at hl 3 rfl) ?_
  refine xi_iald hx hb hK hP 1 0 rfl rfl (zdt zkX7_swap 47 rfl) hf (fun v7 hf => ?_)
  refine lv_iload_n hx hb (zdt zkX7_swap 48 rfl) rfl (lv_at hl 3 rfl) ?_
  refine xi_iast hx hb hK hP hD hS 2 0 rfl rfl (zdt zkX7_swap 49 rfl) hf (fun a8 H locs hP hD hS hf => ?_)
  refine xw_PD (wd_Planner_swap cA q0 q1 q2 q3 q4 q5 q6 q7 q8 q9 q10 q11 q12 q13 u0 u1 u2 a4 a8) hP hD (fun hP hD => ?_)
  obtain rfl := Option.some.inj hf
  exact hret _ _ _ _ (zdt zkX7_swap 50 rfl) hP hD hS
end
