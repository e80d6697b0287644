set_option maxRecDepth 100000 in
noncomputable def ztX11_layers (p : Nat) : Option (Jvm.ClassFile.Instr × Nat) := bif Nat.ble 49 p then (bif Nat.ble 73 p then (bif Nat.ble 83 p then (bif Nat.ble 89 p then (bif Nat.ble 95 p then (bif Nat.ble 96 p then (bif Nat.beq p 96 then some (.ireturn, 1) else none) else (bif Nat.beq p 95 then some (.iload_n 2, 1) else none)) else (bif Nat.ble 92 p then (bif Nat.beq p 92 then some (.goto (-57), 3) else none) else (bif Nat.beq p 89 then some (.iinc 3 1, 3) else none))) else (bif Nat.ble 87 p then (bif Nat.ble 88 p then (bif Nat.beq p 88 then some (.istore_n 2, 1) else none) else (bif Nat.beq p 87 then some (.iadd, 1) else none)) else (bif Nat.ble 86 p then (bif Nat.beq p 86 then some (.iconst 0, 1) else none) else (bif Nat.beq p 83 then some (.goto 4, 3) else none)))) else (bif Nat.ble 77 p then (bif Nat.ble 79 p then (bif Nat.ble 82 p then (bif Nat.beq p 82 then some (.iconst 1, 1) else none) else (bif Nat.beq p 79 then some (.if_icmp .le 7, 3) else none)) else (bif Nat.ble 78 p then (bif Nat.beq p 78 then some (.iaload, 1) else none) else (bif Nat.beq p 77 then some (.isub, 1) else none))) else (bif Nat.ble 75 p then (bif Nat.ble 76 p then (bif Nat.beq p 76 then some (.iconst 1, 1) else none) else (bif Nat.beq p 75 then some (.iadd, 1) else none)) else (bif Nat.ble 74 p then (bif Nat.beq p 74 then some (.iload_n 3, 1) else none) else (bif Nat.beq p 73 then some (.iadd, 1) else none))))) else (bif Nat.ble 61 p then (bif Nat.ble 67 p then (bif Nat.ble 71 p then (bif Nat.ble 72 p then (bif Nat.beq p 72 then some (.imul, 1) else none) else (bif Nat.beq p 71 then some (.iload_n 1, 1) else none)) else (bif Nat.ble 69 p then (bif Nat.beq p 69 then some (.bipush 10, 2) else none) else (bif Nat.beq p 67 then some (.bipush 21, 2) else none))) else (bif Nat.ble 63 p then (bif Nat.ble 64 p then (bif Nat.beq p 64 then some (.getfield 13, 3) else none) else (bif Nat.beq p 63 then some (.aload_n 0, 1) else none)) else (bif Nat.ble 62 p then (bif Nat.beq p 62 then some (.iaload, 1) else none) else (bif Nat.beq p 61 then some (.iadd, 1) else none)))) else (bif Nat.ble 57 p then (bif Nat.ble 59 p then (bif Nat.ble 60 p then (bif Nat.beq p 60 then some (.iload_n 3, 1) else none) else (bif Nat.beq p 59 then some (.iadd, 1) else none)) else (bif Nat.ble 58 p then (bif Nat.beq p 58 then some (.imul, 1) else none) else (bif Nat.beq p 57 then some (.iload_n 1, 1) else none))) else (bif Nat.ble 53 p then (bif Nat.ble 55 p then (bif Nat.beq p 55 then some (.bipush 10, 2) else none) else (bif Nat.beq p 53 then some (.bipush 21, 2) else none)) else (bif Nat.ble 50 p then (bif Nat.beq p 50 then some (.getfield 13, 3) else none) else (bif Nat.beq p 49 then some (.aload_n 0, 1) else none)))))) else (bif Nat.ble 24 p then (bif Nat.ble 36 p then (bif Nat.ble 43 p then (bif Nat.ble 45 p then (bif Nat.ble 48 p then (bif Nat.beq p 48 then some (.iload_n 2, 1) else none) else (bif Nat.beq p 45 then some (.if_icmp .ge 50, 3) else none)) else (bif Nat.ble 44 p then (bif Nat.beq p 44 then some (.iaload, 1) else none) else (bif Nat.beq p 43 then some (.iadd, 1) else none))) else (bif Nat.ble 40 p then (bif Nat.ble 42 p then (bif Nat.beq p 42 then some (.iload_n 1, 1) else none) else (bif Nat.beq p 40 then some (.bipush 9, 2) else none)) else (bif Nat.ble 37 p then (bif Nat.beq p 37 then some (.getfield 13, 3) else none) else (bif Nat.beq p 36 then some (.aload_n 0, 1) else none)))) else (bif Nat.ble 32 p then (bif Nat.ble 34 p then (bif Nat.ble 35 p then (bif Nat.beq p 35 then some (.iload_n 3, 1) else none) else (bif Nat.beq p 34 then some (.istore_n 3, 1) else none)) else (bif Nat.ble 33 p then (bif Nat.beq p 33 then some (.iconst 1, 1) else none) else (bif Nat.beq p 32 then some (.istore_n 2, 1) else none))) else (bif Nat.ble 28 p then (bif Nat.ble 31 p then (bif Nat.beq p 31 then some (.iconst 0, 1) else none) else (bif Nat.beq p 28 then some (.goto 4, 3) else none)) else (bif Nat.ble 27 p then (bif Nat.beq p 27 then some (.iconst 1, 1) else none) else (bif Nat.beq p 24 then some (.ifCond .le 7, 3) else none))))) else (bif Nat.ble 13 p then (bif Nat.ble 19 p then (bif Nat.ble 22 p then (bif Nat.ble 23 p then (bif Nat.beq p 23 then some (.iaload, 1) else none) else (bif Nat.beq p 22 then some (.iadd, 1) else none)) else (bif Nat.ble 21 p then (bif Nat.beq p 21 then some (.iload_n 1, 1) else none) else (bif Nat.beq p 19 then some (.bipush 9, 2) else none))) else (bif Nat.ble 15 p then (bif Nat.ble 16 p then (bif Nat.beq p 16 then some (.getfield 13, 3) else none) else (bif Nat.beq p 15 then some (.aload_n 0, 1) else none)) else (bif Nat.ble 14 p then (bif Nat.beq p 14 then some (.ireturn, 1) else none) else (bif Nat.beq p 13 then some (.iconst (-1), 1) else none)))) else (bif Nat.ble 5 p then (bif Nat.ble 7 p then (bif Nat.ble 10 p then (bif Nat.beq p 10 then some (.ifCond .ne 5, 3) else none) else (bif Nat.beq p 7 then some (.invokevirtual 150, 3) else none)) else (bif Nat.ble 6 p then (bif Nat.beq p 6 then some (.iload_n 1, 1) else none) else (bif Nat.beq p 5 then some (.aload_n 0, 1) else none))) else (bif Nat.ble 1 p then (bif Nat.ble 2 p then (bif Nat.beq p 2 then some (.putfield 126, 3) else none) else (bif Nat.beq p 1 then some (.iconst 0, 1) else none)) else (bif Nat.beq p 0 then some (.aload_n 0, 1) else none)))))
set_option maxRecDepth 100000 in
theorem zkX11_layers : (zbig cX11_layers.data.toList = 267207656419114817555504306280572379953435262670248425917187821753376234813866731383826331682822474022953801817952802052803450641301078328687390037032162993433364409543308288236344987845279285877100137908583960447049027023617022821162 ∧ cX11_layers.data.toList.length = 97) ∧ zdk cX11_layers 267207656419114817555504306280572379953435262670248425917187821753376234813866731383826331682822474022953801817952802052803450641301078328687390037032162993433364409543308288236344987845279285877100137908583960447049027023617022821162 97 ztX11_layers 96 = true := by decide +kernel
theorem zw_1765 : (Jvm.Cond.code ({ cls := "HillSchoolModel", name := "layers", desc := "(I)I" } : Jvm.MethodName) prog_13_method_108_code (4 : Nat) (Option.some Jvm.ClassFile.FieldType.int)) ∈ zall := zmemG (zmj_7 222 rfl) rfl
noncomputable abbrev w_HM_layers : List Cond := .code yX11_layers cX11_layers 4 (some .int) :: zall
noncomputable abbrev rm_HM_layers : Room := { frames := 2, cells := 0, slots := 0, locals := 46 }
theorem hd_HM_layers : yX11_layers.cls = "HillSchoolModel" ∧ yX11_layers.cls ≠ "java/lang/invoke/MethodHandle" ∧ yX11_layers.cls ≠ "java/lang/invoke/VarHandle" ∧ (parseMethodDescriptor yX11_layers.desc).map (fun d => d.parameters.length) = some 1 := by decide +kernel
noncomputable def wd_HM_layers (cA : Nat → ClassId) (q0 q1 q2 q3 q4 q5 q6 q7 q8 q9 q10 q11 q12 q13 q14 q15 q16 q17 q18 q19 q20 q21 q22 q23 q24 q25 q26 q27 q28 q29 q30 q31 : Nat) (u0 u1 u2 u3 u4 u5 u6 u7 u8 u9 u10 u11 u12 u13 u14 u15 u16 u17 u18 u19 u20 : Int) (i_row : Nat → Int) (i_thrown : Int) : va_W := [(q0, .inr (11, [.int (Int32.ofInt i_thrown), .int (Int32.ofInt u0), .ref q1, .ref q2, .ref q3, .ref q4, .int (Int32.ofInt u1), .ref q5, .int (Int32.ofInt u2), .int (Int32.ofInt u3), .int (Int32.ofInt u4), .int (Int32.ofInt u5), .long (Int64.ofInt u6), .int (Int32.ofInt u7), .int (Int32.ofInt u8), .int (Int32.ofInt u9), .ref q6, .int (Int32.ofInt u10), .ref q7, .ref q8, .int (Int32.ofInt u11), .ref q9, .ref q10, .int (Int32.ofInt u12), .int (Int32.ofInt u13), .ref q11, .int (Int32.ofInt u14), .ref q12, .ref q13, .int (Int32.ofInt u15), .long (Int64.ofInt u16), .long (Int64.ofInt u17), .ref q14, .ref q15, .ref q16, .ref q17, .ref q18, .int (Int32.ofInt u18), .ref q19, .ref q20, .ref q21, .ref q22, .ref q23, .ref q24, .ref q25, .ref q26, .ref q27, .ref q28, .ref q29, .ref q30, .long (Int64.ofInt u19), .ref q31, .int (Int32.ofInt u20)])), (q2, .inl (cA 0, 5580, .inl (za i_row)))]
noncomputable def wf_HM_layers (cA : Nat → ClassId) (q0 q1 q2 q3 q4 q5 q6 q7 q8 q9 q10 q11 q12 q13 q14 q15 q16 q17 q18 q19 q20 q21 q22 q23 q24 q25 q26 q27 q28 q29 q30 q31 : Nat) (u0 u1 u2 u3 u4 u5 u6 u7 u8 u9 u10 u11 u12 u13 u14 u15 u16 u17 u18 u19 u20 : Int) (i_row : Nat → Int) (o : Int × Int) : va_W := wd_HM_layers cA q0 q1 q2 q3 q4 q5 q6 q7 q8 q9 q10 q11 q12 q13 q14 q15 q16 q17 q18 q19 q20 q21 q22 q23 q24 q25 q26 q27 q28 q29 q30 q31 u0 u1 u2 u3 u4 u5 u6 u7 u8 u9 u10 u11 u12 u13 u14 u15 u16 u17 u18 u19 u20 i_row o.2
noncomputable def f_HM_layers_87 (i_row : Nat → Int) (k35 : Int → Int → Int → Int → Option (Int × Int)) (x1 : Int) (x3 : Int) (s0 : Int) (s1 : Int) (i_thrown : Int) : Option (Int × Int) :=
  zn (s0 + s1) fun v1 =>
  zn (x3 + 1) fun v2 =>
  k35 x1 v1 v2 i_thrown
noncomputable def f_HM_layers_35_b (i_row : Nat → Int) (k35 : Int → Int → Int → Int → Option (Int × Int)) (x1 : Int) (x2 : Int) (x3 : Int) (i_thrown : Int) : Option (Int × Int) :=
  zn (9 + x1) fun v1 =>
  zg 5580 i_row v1 fun v2 =>
  if zi_w v2 ≤ zi_w x3 then
    some (x2, i_thrown)
  else
    zn (10 * x1) fun v3 =>
    zn (21 + v3) fun v4 =>
    zn (v4 + x3) fun v5 =>
    zg 5580 i_row v5 fun v6 =>
    zn (10 * x1) fun v7 =>
    zn (21 + v7) fun v8 =>
    zn (v8 + x3) fun v9 =>
    zn (v9 - 1) fun v10 =>
    zg 5580 i_row v10 fun v11 =>
    if zi_w v6 ≤ zi_w v11 then
      f_HM_layers_87 i_row k35 x1 x3 x2 0 i_thrown
    else
      f_HM_layers_87 i_row k35 x1 x3 x2 1 i_thrown
noncomputable def f_HM_layers_35 (i_row : Nat → Int) : Nat → Int → Int → Int → Int → Option (Int × Int)
  | 0 => fun _ _ _ _ => none
  | n + 1 => fun y0 y1 y2 y3 => f_HM_layers_35_b i_row (f_HM_layers_35 i_row n) y0 y1 y2 y3
noncomputable def f_HM_layers_32 (i_row : Nat → Int) (x1 : Int) (s0 : Int) (i_thrown : Int) : Option (Int × Int) :=
  f_HM_layers_35 i_row zfu x1 s0 1 i_thrown
noncomputable def f_HM_layers (x1 : Int) (i_row : Nat → Int) (i_thrown : Int) : Option (Int × Int) :=
  zd1 (f_HM_isColumn x1 i_row) fun v1 =>
  if zi_w v1 ≠ 0 then
    zn (9 + x1) fun v2 =>
    zg 5580 i_row v2 fun v3 =>
    if zi_w v3 ≤ 0 then
      f_HM_layers_32 i_row x1 0 0
    else
      f_HM_layers_32 i_row x1 1 0
  else
    some ((-1), 0)
set_option maxHeartbeats 4000000 in
set_option maxRecDepth 100000 in
theorem c_HM_layers (l : Launch) (ev : zEv) (dC : Nat → ClassId) (dI : Nat → Nat → Nat) (cA : Nat → ClassId) (q0 q1 q2 q3 q4 q5 q6 q7 q8 q9 q10 q11 q12 q13 q14 q15 q16 q17 q18 q19 q20 q21 q22 q23 q24 q25 q26 q27 q28 q29 q30 q31 : Nat) (u0 u1 u2 u3 u4 u5 u6 u7 u8 u9 u10 u11 u12 u13 u14 u15 u16 u17 u18 u19 u20 : Int) {x1 : Int} {i_row : Nat → Int} {i_thrown : Int} {out : Int × Int} (hf : f_HM_layers x1 i_row i_thrown = some out) : xc_I l ev (dC, dI) vwCl (tyl cA) yX11_layers w_HM_layers rm_HM_layers [.ref q0, .int (Int32.ofInt x1)] (wd_HM_layers cA q0 q1 q2 q3 q4 q5 q6 q7 q8 q9 q10 q11 q12 q13 q14 q15 q16 q17 q18 q19 q20 q21 q22 q23 q24 q25 q26 q27 q28 q29 q30 q31 u0 u1 u2 u3 u4 u5 u6 u7 u8 u9 u10 u11 u12 u13 u14 u15 u16 u17 u18 u19 u20 i_row i_thrown) (wf_HM_layers cA q0 q1 q2 q3 q4 q5 q6 q7 q8 q9 q10 q11 q12 q13 q14 q15 q16 q17 q18 q19 q20 q21 q22 q23 q24 q25 q26 q27 q28 q29 q30 q31 u0 u1 u2 u3 u4 u5 u6 u7 u8 u9 u10 u11 u12 u13 u14 u15 u16 u17 u18 u19 u20 i_row out) out.1 := by
  refine xv_startI (cc := cX11_layers) (maxL := 4) (rt := .int) (by decide +kernel) rfl (Nat.le_of_ble_eq_true rfl) ?_
  intro p e s m args below meth c A Q H ls hx hb hml hts hown hK hA hP hD hS hl hE hret
  have hown : s.vm.findClass "HillSchoolModel" = some m.cls := hown
  have hz : ∀ w ∈ zall, w.before args s = true := fun w h => hts w (List.mem_cons_of_mem _ h)
  have hl : lv_has ls 4 [(0, .ref q0), (1, .int (Int32.ofInt x1))] := hl
  have b_87 : ∀ (k35 : Int → Int → Int → Int → Option (Int × Int)) (_ : ∀ (x1 : Int) (x2 : Int) (x3 : Int) (i_thrown : Int) (H : Heap) (locs : List Loc) (ls : Array Slot), k35 x1 x2 x3 i_thrown = some out → va_P (dC, dI) vwCl (wd_HM_layers cA q0 q1 q2 q3 q4 q5 q6 q7 q8 q9 q10 q11 q12 q13 q14 q15 q16 q17 q18 q19 q20 q21 q22 q23 q24 q25 q26 q27 q28 q29 q30 q31 u0 u1 u2 u3 u4 u5 u6 u7 u8 u9 u10 u11 u12 u13 u14 u15 u16 u17 u18 u19 u20 i_row i_thrown) H → va_D A (wd_HM_layers cA q0 q1 q2 q3 q4 q5 q6 q7 q8 q9 q10 q11 q12 q13 q14 q15 q16 q17 q18 q19 q20 q21 q22 q23 q24 q25 q26 q27 q28 q29 q30 q31 u0 u1 u2 u3 u4 u5 u6 u7 u8 u9 u10 u11 u12 u13 u14 u15 u16 u17 u18 u19 u20 i_row i_thrown) → va_S A s.heap H locs → lv_has ls 4 [(0, .ref q0), (1, .int (Int32.ofInt x1)), (2, .int (Int32.ofInt x2)), (3, .int (Int32.ofInt x3))] → W p l e rm_HM_layers s m args below meth c H locs 0 0 Q (F0 m 35 ls [])), ∀ (x1 : Int) (x3 : Int) (s0 : Int) (s1 : Int) (i_thrown : Int) (H : Heap) (locs : List Loc) (ls : Array Slot), f_HM_layers_87 i_row k35 x1 x3 s0 s1 i_thrown = some out → va_P (dC, dI) vwCl (wd_HM_layers cA q0 q1 q2 q3 q4 q5 q6 q7 q8 q9 q10 q11 q12 q13 q14 q15 q16 q17 q18 q19 q20 q21 q22 q23 q24 q25 q26 q27 q28 q29 q30 q31 u0 u1 u2 u3 u4 u5 u6 u7 u8 u9 u10 u11 u12 u13 u14 u15 u16 u17 u18 u19 u20 i_row i_thrown) H → va_D A (wd_HM_layers cA q0 q1 q2 q3 q4 q5 q6 q7 q8 q9 q10 q11 q12 q13 q14 q15 q16 q17 q18 q19 q20 q21 q22 q23 q24 q25 q26 q27 q28 q29 q30 q31 u0 u1 u2 u3 u4 u5 u6 u7 u8 u9 u10 u11 u12 u13 u14 u15 u16 u17 u18 u19 u20 i_row i_thrown) → va_S A s.heap H locs → lv_has ls 4 [(0, .ref q0), (1, .int (Int32.ofInt x1)), (3, .int (Int32.ofInt x3))] → W p l e rm_HM_layers s m args below meth c H locs 0 0 Q (F0 m 87 ls [.int (Int32.ofInt s1), .int (Int32.ofInt s0)]) := by
    intro k35 ih35 x1 x3 s0 s1 i_thrown H locs ls hf hP hD hS hl
    unfold f_HM_layers_87 at hf
    refine xi_iadd hx hb (zdt zkX11_layers 87 rfl) hf (fun v1 hf => ?_)
    refine lv_istore_n (lv' := [(2, .int (Int32.ofInt v1)), (0, .ref q0), (1, .int (Int32.ofInt x1)), (3, .int (Int32.ofInt x3))]) hx hb (zdt zkX11_layers 88 rfl) rfl hl (by decide) rfl (fun ls hl => ?_)
    refine xi_iinc hx hb (zdt zkX11_layers 89 rfl) hl (k := 3) rfl (by decide) hf (fun v2 ls hl hf => ?_)
    have hl : lv_has ls 4 [(3, .int (Int32.ofInt v2)), (2, .int (Int32.ofInt v1)), (0, .ref q0), (1, .int (Int32.ofInt x1))] := hl
    refine lv_goto (tgt := 35) hx hb (zdt zkX11_layers 92 rfl) (by decide) ?_
    exact ih35 _ _ _ _ _ _ _ hf hP hD hS (lv_sub hl [2, 3, 1, 0] rfl)
  have b_35 : ∀ (k35 : Int → Int → Int → Int → Option (Int × Int)) (_ : ∀ (x1 : Int) (x2 : Int) (x3 : Int) (i_thrown : Int) (H : Heap) (locs : List Loc) (ls : Array Slot), k35 x1 x2 x3 i_thrown = some out → va_P (dC, dI) vwCl (wd_HM_layers cA q0 q1 q2 q3 q4 q5 q6 q7 q8 q9 q10 q11 q12 q13 q14 q15 q16 q17 q18 q19 q20 q21 q22 q23 q24 q25 q26 q27 q28 q29 q30 q31 u0 u1 u2 u3 u4 u5 u6 u7 u8 u9 u10 u11 u12 u13 u14 u15 u16 u17 u18 u19 u20 i_row i_thrown) H → va_D A (wd_HM_layers cA q0 q1 q2 q3 q4 q5 q6 q7 q8 q9 q10 q11 q12 q13 q14 q15 q16 q17 q18 q19 q20 q21 q22 q23 q24 q25 q26 q27 q28 q29 q30 q31 u0 u1 u2 u3 u4 u5 u6 u7 u8 u9 u10 u11 u12 u13 u14 u15 u16 u17 u18 u19 u20 i_row i_thrown) → va_S A s.heap H locs → lv_has ls 4 [(0, .ref q0), (1, .int (Int32.ofInt x1)), (2, .int (Int32.ofInt x2)), (3, .int (Int32.ofInt x3))] → W p l e rm_HM_layers s m args below meth c H locs 0 0 Q (F0 m 35 ls [])), ∀ (x1 : Int) (x2 : Int) (x3 : Int) (i_thrown : Int) (H : Heap) (locs : List Loc) (ls : Array Slot), f_HM_layers_35_b i_row k35 x1 x2 x3 i_thrown = some out → va_P (dC, dI) vwCl (wd_HM_layers cA q0 q1 q2 q3 q4 q5 q6 q7 q8 q9 q10 q11 q12 q13 q14 q15 q16 q17 q18 q19 q20 q21 q22 q23 q24 q25 q26 q27 q28 q29 q30 q31 u0 u1 u2 u3 u4 u5 u6 u7 u8 u9 u10 u11 u12 u13 u14 u15 u16 u17 u18 u19 u20 i_row i_thrown) H → va_D A (wd_HM_layers cA q0 q1 q2 q3 q4 q5 q6 q7 q8 q9 q10 q11 q12 q13 q14 q15 q16 q17 q18 q19 q20 q21 q22 q23 q24 q25 q26 q27 q28 q29 q30 q31 u0 u1 u2 u3 u4 u5 u6 u7 u8 u9 u10 u11 u12 u13 u14 u15 u16 u17 u18 u19 u20 i_row i_thrown) → va_S A s.heap H locs → lv_has ls 4 [(0, .ref q0), (1, .int (Int32.ofInt x1)), (2, .int (Int32.ofInt x2)), (3, .int (Int32.ofInt x3))] → W p l e rm_HM_layers s m args below meth c H locs 0 0 Q (F0 m 35 ls []) := by
    intro k35 ih35 x1 x2 x3 i_thrown H locs ls hf hP hD hS hl
    unfold f_HM_layers_35_b at hf
    refine lv_iload_n hx hb (zdt zkX11_layers 35 rfl) rfl (lv_at hl 3 rfl) ?_
    refine lv_aload_n hx hb (zdt zkX11_layers 36 rfl) rfl (lv_at hl 0 rfl) ?_
    refine va_get (D := (dC, dI)) (ci := 11) (v := .ref q2) (C := RX11) (T := TX11) (N := 53) hx hb hz zi_X11 hown hK hP 0 rfl rfl 3 (by decide) (hz _ zw_1168) (fun _ h9 => h9) rfl (zdt zkX11_layers 37 rfl) ?_
    refine lv_bipush (v := Int32.ofInt 9) hx hb (zdt zkX11_layers 40 rfl) (by decide) ?_
    refine lv_iload_n hx hb (zdt zkX11_layers 42 rfl) rfl (lv_at hl 1 rfl) ?_
    refine xi_iadd hx hb (zdt zkX11_layers 43 rfl) hf (fun v1 hf => ?_)
    refine xi_iald hx hb hK hP 1 0 rfl rfl (zdt zkX11_layers 44 rfl) hf (fun v2 hf => ?_)
    refine xi_icmp_ge (tgt := 95) hx hb (zdt zkX11_layers 45 rfl) (by decide) hf (fun hf => ?_) (fun hf => ?_)
    · refine lv_iload_n hx hb (zdt zkX11_layers 95 rfl) rfl (lv_at hl 2 rfl) ?_
      obtain rfl := Option.some.inj hf
      exact hret _ _ _ _ rfl (zdt zkX11_layers 96 rfl) hP hD hS
    · refine lv_iload_n hx hb (zdt zkX11_layers 48 rfl) rfl (lv_at hl 2 rfl) ?_
      refine lv_aload_n hx hb (zdt zkX11_layers 49 rfl) rfl (lv_at hl 0 rfl) ?_
      refine va_get (D := (dC, dI)) (ci := 11) (v := .ref q2) (C := RX11) (T := TX11) (N := 53) hx hb hz zi_X11 hown hK hP 0 rfl rfl 3 (by decide) (hz _ zw_1168) (fun _ h9 => h9) rfl (zdt zkX11_layers 50 rfl) ?_
      refine lv_bipush (v := Int32.ofInt 21) hx hb (zdt zkX11_layers 53 rfl) (by decide) ?_
      refine lv_bipush (v := Int32.ofInt 10) hx hb (zdt zkX11_layers 55 rfl) (by decide) ?_
      refine lv_iload_n hx hb (zdt zkX11_layers 57 rfl) rfl (lv_at hl 1 rfl) ?_
      refine xi_imul hx hb (zdt zkX11_layers 58 rfl) hf (fun v3 hf => ?_)
      refine xi_iadd hx hb (zdt zkX11_layers 59 rfl) hf (fun v4 hf => ?_)
      refine lv_iload_n hx hb (zdt zkX11_layers 60 rfl) rfl (lv_at hl 3 rfl) ?_
      refine xi_iadd hx hb (zdt zkX11_layers 61 rfl) hf (fun v5 hf => ?_)
      refine xi_iald hx hb hK hP 1 0 rfl rfl (zdt zkX11_layers 62 rfl) hf (fun v6 hf => ?_)
      refine lv_aload_n hx hb (zdt zkX11_layers 63 rfl) rfl (lv_at hl 0 rfl) ?_
      refine va_get (D := (dC, dI)) (ci := 11) (v := .ref q2) (C := RX11) (T := TX11) (N := 53) hx hb hz zi_X11 hown hK hP 0 rfl rfl 3 (by decide) (hz _ zw_1168) (fun _ h9 => h9) rfl (zdt zkX11_layers 64 rfl) ?_
      refine lv_bipush (v := Int32.ofInt 21) hx hb (zdt zkX11_layers 67 rfl) (by decide) ?_
      refine lv_bipush (v := Int32.ofInt 10) hx hb (zdt zkX11_layers 69 rfl) (by decide) ?_
      refine lv_iload_n hx hb (zdt zkX11_layers 71 rfl) rfl (lv_at hl 1 rfl) ?_
      refine xi_imul hx hb (zdt zkX11_layers 72 rfl) hf (fun v7 hf => ?_)
      refine xi_iadd hx hb (zdt zkX11_layers 73 rfl) hf (fun v8 hf => ?_)
      refine lv_iload_n hx hb (zdt zkX11_layers 74 rfl) rfl (lv_at hl 3 rfl) ?_
      refine xi_iadd hx hb (zdt zkX11_layers 75 rfl) hf (fun v9 hf => ?_)
      refine lv_iconst (v := Int32.ofInt 1) hx hb (zdt zkX11_layers 76 rfl) rfl ?_
      refine xi_isub hx hb (zdt zkX11_layers 77 rfl) hf (fun v10 hf => ?_)
      refine xi_iald hx hb hK hP 1 0 rfl rfl (zdt zkX11_layers 78 rfl) hf (fun v11 hf => ?_)
      refine xi_icmp_le (tgt := 86) hx hb (zdt zkX11_layers 79 rfl) (by decide) hf (fun hf => ?_) (fun hf => ?_)
      · refine lv_iconst (v := Int32.ofInt 0) hx hb (zdt zkX11_layers 86 rfl) rfl ?_
        exact b_87 _ ih35 _ _ _ _ _ _ _ _ hf hP hD hS (lv_sub hl [0, 1, 3] rfl)
      · refine lv_iconst (v := Int32.ofInt 1) hx hb (zdt zkX11_layers 82 rfl) rfl ?_
        refine lv_goto (tgt := 87) hx hb (zdt zkX11_layers 83 rfl) (by decide) ?_
        exact b_87 _ ih35 _ _ _ _ _ _ _ _ hf hP hD hS (lv_sub hl [0, 1, 3] rfl)
  have l_35 : ∀ (n : Nat), ∀ (x1 : Int) (x2 : Int) (x3 : Int) (i_thrown : Int) (H : Heap) (locs : List Loc) (ls : Array Slot), f_HM_layers_35 i_row n x1 x2 x3 i_thrown = some out → va_P (dC, dI) vwCl (wd_HM_layers cA q0 q1 q2 q3 q4 q5 q6 q7 q8 q9 q10 q11 q12 q13 q14 q15 q16 q17 q18 q19 q20 q21 q22 q23 q24 q25 q26 q27 q28 q29 q30 q31 u0 u1 u2 u3 u4 u5 u6 u7 u8 u9 u10 u11 u12 u13 u14 u15 u16 u17 u18 u19 u20 i_row i_thrown) H → va_D A (wd_HM_layers cA q0 q1 q2 q3 q4 q5 q6 q7 q8 q9 q10 q11 q12 q13 q14 q15 q16 q17 q18 q19 q20 q21 q22 q23 q24 q25 q26 q27 q28 q29 q30 q31 u0 u1 u2 u3 u4 u5 u6 u7 u8 u9 u10 u11 u12 u13 u14 u15 u16 u17 u18 u19 u20 i_row i_thrown) → va_S A s.heap H locs → lv_has ls 4 [(0, .ref q0), (1, .int (Int32.ofInt x1)), (2, .int (Int32.ofInt x2)), (3, .int (Int32.ofInt x3))] → W p l e rm_HM_layers s m args below meth c H locs 0 0 Q (F0 m 35 ls []) := by
    intro n
    induction n with
    | zero => intro x1 x2 x3 i_thrown H locs ls hf hP hD hS hl; exact nomatch hf
    | succ n ih => intro x1 x2 x3 i_thrown H locs ls hf hP hD hS hl; exact b_35 (f_HM_layers_35 i_row n) ih x1 x2 x3 i_thrown H locs ls hf hP hD hS hl
  have b_32 : ∀ (x1 : Int) (s0 : Int) (i_thrown : Int) (H : Heap) (locs : List Loc) (ls : Array Slot), f_HM_layers_32 i_row x1 s0 i_thrown = some out → va_P (dC, dI) vwCl (wd_HM_layers cA q0 q1 q2 q3 q4 q5 q6 q7 q8 q9 q10 q11 q12 q13 q14 q15 q16 q17 q18 q19 q20 q21 q22 q23 q24 q25 q26 q27 q28 q29 q30 q31 u0 u1 u2 u3 u4 u5 u6 u7 u8 u9 u10 u11 u12 u13 u14 u15 u16 u17 u18 u19 u20 i_row i_thrown) H → va_D A (wd_HM_layers cA q0 q1 q2 q3 q4 q5 q6 q7 q8 q9 q10 q11 q12 q13 q14 q15 q16 q17 q18 q19 q20 q21 q22 q23 q24 q25 q26 q27 q28 q29 q30 q31 u0 u1 u2 u3 u4 u5 u6 u7 u8 u9 u10 u11 u12 u13 u14 u15 u16 u17 u18 u19 u20 i_row i_thrown) → va_S A s.heap H locs → lv_has ls 4 [(0, .ref q0), (1, .int (Int32.ofInt x1))] → W p l e rm_HM_layers s m args below meth c H locs 0 0 Q (F0 m 32 ls [.int (Int32.ofInt s0)]) := by
    intro x1 s0 i_thrown H locs ls hf hP hD hS hl
    unfold f_HM_layers_32 at hf
    refine lv_istore_n (lv' := [(2, .int (Int32.ofInt s0)), (0, .ref q0), (1, .int (Int32.ofInt x1))]) hx hb (zdt zkX11_layers 32 rfl) rfl hl (by decide) rfl (fun ls hl => ?_)
    refine lv_iconst (v := Int32.ofInt 1) hx hb (zdt zkX11_layers 33 rfl) rfl ?_
    refine lv_istore_n (lv' := [(3, .int (Int32.ofInt 1)), (2, .int (Int32.ofInt s0)), (0, .ref q0), (1, .int (Int32.ofInt x1))]) hx hb (zdt zkX11_layers 34 rfl) rfl hl (by decide) rfl (fun ls hl => ?_)
    exact l_35  _ _ _ _ _ _ _ _ hf hP hD hS (lv_sub hl [2, 3, 1, 0] rfl)
  unfold f_HM_layers at hf
  refine lv_aload_n hx hb (zdt zkX11_layers 0 rfl) rfl (lv_at hl 0 rfl) ?_
  refine lv_iconst (v := Int32.ofInt 0) hx hb (zdt zkX11_layers 1 rfl) rfl ?_
  refine va_put (D := (dC, dI)) (ci := 11) (v := .int (Int32.ofInt 0)) (ty := .int) (C := RX11) (T := TX11) (N := 53) hx hb hz zi_X11 tyX11 tyX11_ok nmX11 hown hK hP hD hS 0 rfl rfl 0 (by decide) (hz _ zw_1165) (fun _ h9 => h9) rfl (by decide +kernel) rfl rfl (Nat.le_of_ble_eq_true rfl) (zdt zkX11_layers 2 rfl) (fun H locs hP hD hS => ?_)
  refine xw_PD (wd_HM_layers cA q0 q1 q2 q3 q4 q5 q6 q7 q8 q9 q10 q11 q12 q13 q14 q15 q16 q17 q18 q19 q20 q21 q22 q23 q24 q25 q26 q27 q28 q29 q30 q31 u0 u1 u2 u3 u4 u5 u6 u7 u8 u9 u10 u11 u12 u13 u14 u15 u16 u17 u18 u19 u20 i_row 0) hP hD (fun hP hD => ?_)
  refine lv_aload_n hx hb (zdt zkX11_layers 5 rfl) rfl (lv_at hl 0 rfl) ?_
  refine lv_iload_n hx hb (zdt zkX11_layers 6 rfl) rfl (lv_at hl 1 rfl) ?_
  refine xe_d1 hf (fun v1 hg hf => ?_)
  have hC : ([0, 1] : List Nat).map (fun i => (wd_HM_layers cA q0 q1 q2 q3 q4 q5 q6 q7 q8 q9 q10 q11 q12 q13 q14 q15 q16 q17 q18 q19 q20 q21 q22 q23 q24 q25 q26 q27 q28 q29 q30 q31 u0 u1 u2 u3 u4 u5 u6 u7 u8 u9 u10 u11 u12 u13 u14 u15 u16 u17 u18 u19 u20 i_row 0)[i]?) = (wd_HM_isColumn cA q0 q1 q2 q3 q4 q5 q6 q7 q8 q9 q10 q11 q12 q13 q14 q15 q16 q17 q18 q19 q20 q21 q22 q23 q24 q25 q26 q27 q28 q29 q30 q31 0 u0 u1 u2 u3 u4 u5 u6 u7 u8 u9 u10 u11 u12 u13 u14 u15 u16 u17 u18 u19 u20 i_row).map some := rfl
  refine xv_afterI (ws' := (wd_HM_layers cA q0 q1 q2 q3 q4 q5 q6 q7 q8 q9 q10 q11 q12 q13 q14 q15 q16 q17 q18 q19 q20 q21 q22 q23 q24 q25 q26 q27 q28 q29 q30 q31 u0 u1 u2 u3 u4 u5 u6 u7 u8 u9 u10 u11 u12 u13 u14 u15 u16 u17 u18 u19 u20 i_row 0)) (isC := [0, 1]) (ps := [some 0, some 1]) (va_runV (As := [.int (Int32.ofInt x1)]) (rest := []) ⟨hx, hb, hml, hown, hts⟩ (c_HM_isColumn l ev dC dI cA q0 q1 q2 q3 q4 q5 q6 q7 q8 q9 q10 q11 q12 q13 q14 q15 q16 q17 q18 q19 q20 q21 q22 q23 q24 q25 q26 q27 q28 q29 q30 q31 0 u0 u1 u2 u3 u4 u5 u6 u7 u8 u9 u10 u11 u12 u13 u14 u15 u16 u17 u18 u19 u20 hg H.size) (cwV 1 hts (zgV zw_1356 zw_1358 zw_42 zw_115 zw_1359) rfl rfl rfl hd_HM_isColumn ⟨Nat.le_of_ble_eq_true rfl, Nat.le_of_ble_eq_true rfl⟩) (xv_preV (T := TX11) (N := 53) hE hA hS hK hP hD (isC := [0, 1]) (by decide +kernel) hC (q0 := 0) (ci := 11) rfl rfl) rfl rfl hl.1 rfl (lv_room (Nat.le_of_ble_eq_true rfl)) (zdt zkX11_layers 7 rfl) ⟨Nat.le_refl _, Nat.le_refl _⟩) hP hD hS hA (by decide +kernel) rfl hC rfl rfl (fun H locs hP hD hS => ?_)
  refine xi_if_ne (tgt := 15) hx hb (zdt zkX11_layers 10 rfl) (by decide) hf (fun hf => ?_) (fun hf => ?_)
  · refine lv_aload_n hx hb (zdt zkX11_layers 15 rfl) rfl (lv_at hl 0 rfl) ?_
    refine va_get (D := (dC, dI)) (ci := 11) (v := .ref q2) (C := RX11) (T := TX11) (N := 53) hx hb hz zi_X11 hown hK hP 0 rfl rfl 3 (by decide) (hz _ zw_1168) (fun _ h9 => h9) rfl (zdt zkX11_layers 16 rfl) ?_
    refine lv_bipush (v := Int32.ofInt 9) hx hb (zdt zkX11_layers 19 rfl) (by decide) ?_
    refine lv_iload_n hx hb (zdt zkX11_layers 21 rfl) rfl (lv_at hl 1 rfl) ?_
    refine xi_iadd hx hb (zdt zkX11_layers 22 rfl) hf (fun v2 hf => ?_)
    refine xi_iald hx hb hK hP 1 0 rfl rfl (zdt zkX11_layers 23 rfl) hf (fun v3 hf => ?_)
    refine xi_if_le (tgt := 31) hx hb (zdt zkX11_layers 24 rfl) (by decide) hf (fun hf => ?_) (fun hf => ?_)
    · refine lv_iconst (v := Int32.ofInt 0) hx hb (zdt zkX11_layers 31 rfl) rfl ?_
      exact b_32  _ _ _ _ _ _ hf hP hD hS (lv_sub hl [0, 1] rfl)
    · refine lv_iconst (v := Int32.ofInt 1) hx hb (zdt zkX11_layers 27 rfl) rfl ?_
      refine lv_goto (tgt := 32) hx hb (zdt zkX11_layers 28 rfl) (by decide) ?_
      exact b_32  _ _ _ _ _ _ hf hP hD hS (lv_sub hl [0, 1] rfl)
  · refine lv_iconst (v := Int32.ofInt (-1)) hx hb (zdt zkX11_layers 13 rfl) rfl ?_
    obtain rfl := Option.some.inj hf
    exact hret _ _ _ _ rfl (zdt zkX11_layers 14 rfl) hP hD hS
set_option maxRecDepth 100000 in
noncomputable def ztX11_rain (p : Nat) : Option (Jvm.ClassFile.Instr × Nat) := bif Nat.ble 142 p then (bif Nat.ble 212 p then (bif Nat.ble 242 p then (bif Nat.ble 257 p then (bif Nat.ble 268 p then (bif Nat.ble 272 p then (bif Nat.ble 273 p then (bif Nat.ble 276 p then (bif Nat.beq p 276 then some (.ireturn, 1) else none) else (bif Nat.beq p 273 then some (.invokevirtual 136, 3) else none)) else (bif Nat.beq p 272 then some (.iload_n 3, 1) else none)) else (bif Nat.ble 271 p then (bif Nat.beq p 271 then some (.aload_n 0, 1) else none) else (bif Nat.beq p 268 then some (.goto (-88), 3) else none))) else (bif Nat.ble 259 p then (bif Nat.ble 262 p then (bif Nat.ble 265 p then (bif Nat.beq p 265 then some (.iinc 4 1, 3) else none) else (bif Nat.beq p 262 then some (.goto (-42), 3) else none)) else (bif Nat.beq p 259 then some (.iinc 5 1, 3) else none)) else (bif Nat.ble 258 p then (bif Nat.beq p 258 then some (.iastore, 1) else none) else (bif Nat.beq p 257 then some (.iadd, 1) else none)))) else (bif Nat.ble 250 p then (bif Nat.ble 253 p then (bif Nat.ble 255 p then (bif Nat.ble 256 p then (bif Nat.beq p 256 then some (.iaload, 1) else none) else (bif Nat.beq p 255 then some (.iadd, 1) else none)) else (bif Nat.beq p 253 then some (.iload 5, 2) else none)) else (bif Nat.ble 252 p then (bif Nat.beq p 252 then some (.imul, 1) else none) else (bif Nat.beq p 250 then some (.iload 4, 2) else none))) else (bif Nat.ble 244 p then (bif Nat.ble 245 p then (bif Nat.ble 248 p then (bif Nat.beq p 248 then some (.bipush 10, 2) else none) else (bif Nat.beq p 245 then some (.getfield 74, 3) else none)) else (bif Nat.beq p 244 then some (.aload_n 0, 1) else none)) else (bif Nat.ble 243 p then (bif Nat.beq p 243 then some (.iaload, 1) else none) else (bif Nat.beq p 242 then some (.dup2, 1) else none))))) else (bif Nat.ble 226 p then (bif Nat.ble 236 p then (bif Nat.ble 239 p then (bif Nat.ble 240 p then (bif Nat.ble 241 p then (bif Nat.beq p 241 then some (.iadd, 1) else none) else (bif Nat.beq p 240 then some (.iconst 1, 1) else none)) else (bif Nat.beq p 239 then some (.imul, 1) else none)) else (bif Nat.ble 237 p then (bif Nat.beq p 237 then some (.iload 4, 2) else none) else (bif Nat.beq p 236 then some (.iconst 2, 1) else none))) else (bif Nat.ble 229 p then (bif Nat.ble 232 p then (bif Nat.ble 233 p then (bif Nat.beq p 233 then some (.getfield 123, 3) else none) else (bif Nat.beq p 232 then some (.aload_n 0, 1) else none)) else (bif Nat.beq p 229 then some (.if_icmp .ge 36, 3) else none)) else (bif Nat.ble 228 p then (bif Nat.beq p 228 then some (.iaload, 1) else none) else (bif Nat.beq p 226 then some (.iload 4, 2) else none)))) else (bif Nat.ble 217 p then (bif Nat.ble 220 p then (bif Nat.ble 222 p then (bif Nat.ble 223 p then (bif Nat.beq p 223 then some (.getfield 71, 3) else none) else (bif Nat.beq p 222 then some (.aload_n 0, 1) else none)) else (bif Nat.beq p 220 then some (.iload 5, 2) else none)) else (bif Nat.ble 218 p then (bif Nat.beq p 218 then some (.istore 5, 2) else none) else (bif Nat.beq p 217 then some (.iconst 0, 1) else none))) else (bif Nat.ble 214 p then (bif Nat.ble 215 p then (bif Nat.ble 216 p then (bif Nat.beq p 216 then some (.iastore, 1) else none) else (bif Nat.beq p 215 then some (.iconst 0, 1) else none)) else (bif Nat.beq p 214 then some (.iadd, 1) else none)) else (bif Nat.ble 213 p then (bif Nat.beq p 213 then some (.iconst 1, 1) else none) else (bif Nat.beq p 212 then some (.imul, 1) else none)))))) else (bif Nat.ble 177 p then (bif Nat.ble 196 p then (bif Nat.ble 204 p then (bif Nat.ble 206 p then (bif Nat.ble 209 p then (bif Nat.ble 210 p then (bif Nat.beq p 210 then some (.iload 4, 2) else none) else (bif Nat.beq p 209 then some (.iconst 2, 1) else none)) else (bif Nat.beq p 206 then some (.getfield 123, 3) else none)) else (bif Nat.ble 205 p then (bif Nat.beq p 205 then some (.aload_n 0, 1) else none) else (bif Nat.beq p 204 then some (.iastore, 1) else none))) else (bif Nat.ble 198 p then (bif Nat.ble 201 p then (bif Nat.ble 203 p then (bif Nat.beq p 203 then some (.iaload, 1) else none) else (bif Nat.beq p 201 then some (.iload 4, 2) else none)) else (bif Nat.beq p 198 then some (.getfield 71, 3) else none)) else (bif Nat.ble 197 p then (bif Nat.beq p 197 then some (.aload_n 0, 1) else none) else (bif Nat.beq p 196 then some (.imul, 1) else none)))) else (bif Nat.ble 186 p then (bif Nat.ble 190 p then (bif Nat.ble 193 p then (bif Nat.ble 194 p then (bif Nat.beq p 194 then some (.iload 4, 2) else none) else (bif Nat.beq p 193 then some (.iconst 2, 1) else none)) else (bif Nat.beq p 190 then some (.getfield 123, 3) else none)) else (bif Nat.ble 189 p then (bif Nat.beq p 189 then some (.aload_n 0, 1) else none) else (bif Nat.beq p 186 then some (.if_icmp .ge 85, 3) else none))) else (bif Nat.ble 180 p then (bif Nat.ble 182 p then (bif Nat.ble 183 p then (bif Nat.beq p 183 then some (.getfield 480, 3) else none) else (bif Nat.beq p 182 then some (.aload_n 0, 1) else none)) else (bif Nat.beq p 180 then some (.iload 4, 2) else none)) else (bif Nat.ble 178 p then (bif Nat.beq p 178 then some (.istore 4, 2) else none) else (bif Nat.beq p 177 then some (.iconst 0, 1) else none))))) else (bif Nat.ble 159 p then (bif Nat.ble 166 p then (bif Nat.ble 170 p then (bif Nat.ble 171 p then (bif Nat.ble 174 p then (bif Nat.beq p 174 then some (.goto (-116), 3) else none) else (bif Nat.beq p 171 then some (.iinc 4 1, 3) else none)) else (bif Nat.beq p 170 then some (.pop, 1) else none)) else (bif Nat.ble 167 p then (bif Nat.beq p 167 then some (.invokevirtual 379, 3) else none) else (bif Nat.beq p 166 then some (.aload_n 0, 1) else none))) else (bif Nat.ble 161 p then (bif Nat.ble 162 p then (bif Nat.ble 163 p then (bif Nat.beq p 163 then some (.iinc 3 1, 3) else none) else (bif Nat.beq p 162 then some (.iastore, 1) else none)) else (bif Nat.beq p 161 then some (.isub, 1) else none)) else (bif Nat.ble 160 p then (bif Nat.beq p 160 then some (.iconst 1, 1) else none) else (bif Nat.beq p 159 then some (.iaload, 1) else none)))) else (bif Nat.ble 149 p then (bif Nat.ble 153 p then (bif Nat.ble 156 p then (bif Nat.ble 158 p then (bif Nat.beq p 158 then some (.dup2, 1) else none) else (bif Nat.beq p 156 then some (.iload 5, 2) else none)) else (bif Nat.beq p 153 then some (.getfield 71, 3) else none)) else (bif Nat.ble 152 p then (bif Nat.beq p 152 then some (.aload_n 0, 1) else none) else (bif Nat.beq p 149 then some (.goto 17, 3) else none))) else (bif Nat.ble 145 p then (bif Nat.ble 146 p then (bif Nat.beq p 146 then some (.invokevirtual 367, 3) else none) else (bif Nat.beq p 145 then some (.iadd, 1) else none)) else (bif Nat.ble 144 p then (bif Nat.beq p 144 then some (.iconst 1, 1) else none) else (bif Nat.beq p 142 then some (.iload 5, 2) else none))))))) else (bif Nat.ble 71 p then (bif Nat.ble 105 p then (bif Nat.ble 125 p then (bif Nat.ble 133 p then (bif Nat.ble 136 p then (bif Nat.ble 139 p then (bif Nat.ble 140 p then (bif Nat.beq p 140 then some (.iload 5, 2) else none) else (bif Nat.beq p 139 then some (.aload_n 0, 1) else none)) else (bif Nat.beq p 136 then some (.if_icmp .ge 16, 3) else none)) else (bif Nat.ble 134 p then (bif Nat.beq p 134 then some (.bipush 10, 2) else none) else (bif Nat.beq p 133 then some (.iaload, 1) else none))) else (bif Nat.ble 129 p then (bif Nat.ble 131 p then (bif Nat.ble 132 p then (bif Nat.beq p 132 then some (.iadd, 1) else none) else (bif Nat.beq p 131 then some (.iconst 1, 1) else none)) else (bif Nat.beq p 129 then some (.iload 5, 2) else none)) else (bif Nat.ble 126 p then (bif Nat.beq p 126 then some (.getfield 71, 3) else none) else (bif Nat.beq p 125 then some (.aload_n 0, 1) else none)))) else (bif Nat.ble 116 p then (bif Nat.ble 118 p then (bif Nat.ble 119 p then (bif Nat.ble 122 p then (bif Nat.beq p 122 then some (.if_icmp .ge 30, 3) else none) else (bif Nat.beq p 119 then some (.getfield 480, 3) else none)) else (bif Nat.beq p 118 then some (.aload_n 0, 1) else none)) else (bif Nat.ble 117 p then (bif Nat.beq p 117 then some (.iadd, 1) else none) else (bif Nat.beq p 116 then some (.iconst 1, 1) else none))) else (bif Nat.ble 110 p then (bif Nat.ble 111 p then (bif Nat.ble 114 p then (bif Nat.beq p 114 then some (.iload 5, 2) else none) else (bif Nat.beq p 111 then some (.ifCond .le 55, 3) else none)) else (bif Nat.beq p 110 then some (.iaload, 1) else none)) else (bif Nat.ble 108 p then (bif Nat.beq p 108 then some (.iload 5, 2) else none) else (bif Nat.beq p 105 then some (.getfield 71, 3) else none))))) else (bif Nat.ble 88 p then (bif Nat.ble 99 p then (bif Nat.ble 101 p then (bif Nat.ble 102 p then (bif Nat.ble 104 p then (bif Nat.beq p 104 then some (.aload_n 0, 1) else none) else (bif Nat.beq p 102 then some (.istore 5, 2) else none)) else (bif Nat.beq p 101 then some (.l2i, 1) else none)) else (bif Nat.ble 100 p then (bif Nat.beq p 100 then some (.lrem, 1) else none) else (bif Nat.beq p 99 then some (.i2l, 1) else none))) else (bif Nat.ble 92 p then (bif Nat.ble 95 p then (bif Nat.ble 96 p then (bif Nat.beq p 96 then some (.getfield 480, 3) else none) else (bif Nat.beq p 95 then some (.aload_n 0, 1) else none)) else (bif Nat.beq p 92 then some (.getfield 477, 3) else none)) else (bif Nat.ble 91 p then (bif Nat.beq p 91 then some (.aload_n 0, 1) else none) else (bif Nat.beq p 88 then some (.putfield 477, 3) else none)))) else (bif Nat.ble 79 p then (bif Nat.ble 83 p then (bif Nat.ble 84 p then (bif Nat.ble 87 p then (bif Nat.beq p 87 then some (.lrem, 1) else none) else (bif Nat.beq p 84 then some (.ldc2_w 487, 3) else none)) else (bif Nat.beq p 83 then some (.ladd, 1) else none)) else (bif Nat.ble 80 p then (bif Nat.beq p 80 then some (.ldc2_w 485, 3) else none) else (bif Nat.beq p 79 then some (.lmul, 1) else none))) else (bif Nat.ble 73 p then (bif Nat.ble 76 p then (bif Nat.beq p 76 then some (.ldc2_w 483, 3) else none) else (bif Nat.beq p 73 then some (.getfield 477, 3) else none)) else (bif Nat.ble 72 p then (bif Nat.beq p 72 then some (.aload_n 0, 1) else none) else (bif Nat.beq p 71 then some (.aload_n 0, 1) else none)))))) else (bif Nat.ble 35 p then (bif Nat.ble 53 p then (bif Nat.ble 60 p then (bif Nat.ble 64 p then (bif Nat.ble 65 p then (bif Nat.ble 68 p then (bif Nat.beq p 68 then some (.ifCond .le 109, 3) else none) else (bif Nat.beq p 65 then some (.getfield 480, 3) else none)) else (bif Nat.beq p 64 then some (.aload_n 0, 1) else none)) else (bif Nat.ble 61 p then (bif Nat.beq p 61 then some (.if_icmp .ge 116, 3) else none) else (bif Nat.beq p 60 then some (.iload_n 2, 1) else none))) else (bif Nat.ble 55 p then (bif Nat.ble 56 p then (bif Nat.ble 58 p then (bif Nat.beq p 58 then some (.iload 4, 2) else none) else (bif Nat.beq p 56 then some (.istore 4, 2) else none)) else (bif Nat.beq p 55 then some (.iconst 0, 1) else none)) else (bif Nat.ble 54 p then (bif Nat.beq p 54 then some (.istore_n 3, 1) else none) else (bif Nat.beq p 53 then some (.iconst 0, 1) else none)))) else (bif Nat.ble 42 p then (bif Nat.ble 46 p then (bif Nat.ble 47 p then (bif Nat.ble 50 p then (bif Nat.beq p 50 then some (.putfield 480, 3) else none) else (bif Nat.beq p 47 then some (.invokevirtual 140, 3) else none)) else (bif Nat.beq p 46 then some (.aload_n 0, 1) else none)) else (bif Nat.ble 45 p then (bif Nat.beq p 45 then some (.aload_n 0, 1) else none) else (bif Nat.beq p 42 then some (.putfield 477, 3) else none))) else (bif Nat.ble 39 p then (bif Nat.ble 40 p then (bif Nat.ble 41 p then (bif Nat.beq p 41 then some (.i2l, 1) else none) else (bif Nat.beq p 40 then some (.iload_n 1, 1) else none)) else (bif Nat.beq p 39 then some (.aload_n 0, 1) else none)) else (bif Nat.ble 36 p then (bif Nat.beq p 36 then some (.invokevirtual 360, 3) else none) else (bif Nat.beq p 35 then some (.aload_n 0, 1) else none))))) else (bif Nat.ble 17 p then (bif Nat.ble 26 p then (bif Nat.ble 30 p then (bif Nat.ble 31 p then (bif Nat.ble 34 p then (bif Nat.beq p 34 then some (.ireturn, 1) else none) else (bif Nat.beq p 31 then some (.invokevirtual 136, 3) else none)) else (bif Nat.beq p 30 then some (.iconst (-1), 1) else none)) else (bif Nat.ble 29 p then (bif Nat.beq p 29 then some (.aload_n 0, 1) else none) else (bif Nat.beq p 26 then some (.ifCond .ne 9, 3) else none))) else (bif Nat.ble 19 p then (bif Nat.ble 20 p then (bif Nat.ble 23 p then (bif Nat.beq p 23 then some (.invokestatic 132, 3) else none) else (bif Nat.beq p 20 then some (.ldc2_w 475, 3) else none)) else (bif Nat.beq p 19 then some (.lconst 1, 1) else none)) else (bif Nat.ble 18 p then (bif Nat.beq p 18 then some (.i2l, 1) else none) else (bif Nat.beq p 17 then some (.iload_n 2, 1) else none)))) else (bif Nat.ble 6 p then (bif Nat.ble 8 p then (bif Nat.ble 11 p then (bif Nat.ble 14 p then (bif Nat.beq p 14 then some (.ifCond .eq 15, 3) else none) else (bif Nat.beq p 11 then some (.invokestatic 132, 3) else none)) else (bif Nat.beq p 8 then some (.ldc2_w 214, 3) else none)) else (bif Nat.ble 7 p then (bif Nat.beq p 7 then some (.lconst 0, 1) else none) else (bif Nat.beq p 6 then some (.i2l, 1) else none))) else (bif Nat.ble 2 p then (bif Nat.ble 5 p then (bif Nat.beq p 5 then some (.iload_n 1, 1) else none) else (bif Nat.beq p 2 then some (.putfield 126, 3) else none)) else (bif Nat.ble 1 p then (bif Nat.beq p 1 then some (.iconst 0, 1) else none) else (bif Nat.beq p 0 then some (.aload_n 0, 1) else none)))))))
set_option maxRecDepth 100000 in
theorem zkX11_rain : (zbig cX11_rain.data.toList = 8148885624586137676441605053569186319387366966699276295001896311093591741594719063042610547463861347652391176977561182304189672466965403920834518262115737984502855105223042485655236891401792105795663617761759463985924880254890725294809292429271990848329552905438102068830878584712969108870212245647193755194016547137645727088565825290141555452115351366142402146539708385136603707451650970586154672474069285245153764277528533765264667324001301065135663183820247352692943154089147333542802628528668709618842367397523793615708210439192828414343707977465800515624438972876010902192186737327567738894692700236014198947502497940123914348527235621599380219112976976258073386 ∧ cX11_rain.data.toList.length = 277) ∧ zdk cX11_rain 8148885624586137676441605053569186319387366966699276295001896311093591741594719063042610547463861347652391176977561182304189672466965403920834518262115737984502855105223042485655236891401792105795663617761759463985924880254890725294809292429271990848329552905438102068830878584712969108870212245647193755194016547137645727088565825290141555452115351366142402146539708385136603707451650970586154672474069285245153764277528533765264667324001301065135663183820247352692943154089147333542802628528668709618842367397523793615708210439192828414343707977465800515624438972876010902192186737327567738894692700236014198947502497940123914348527235621599380219112976976258073386 277 ztX11_rain 276 = true := by decide +kernel
theorem zw_1215 : (Jvm.Cond.fieldLink "HillSchoolModel" (477 : Nat) "HillSchoolModel" "state" "J") ∈ zall := zmemG (zmj_5 152 rfl) rfl
theorem zw_1216 : (Jvm.Cond.fieldLink "HillSchoolModel" (123 : Nat) "HillSchoolModel" "rained" "[I") ∈ zall := zmemG (zmj_5 153 rfl) rfl
theorem zw_1217 : (Jvm.Cond.fieldLink "HillSchoolModel" (480 : Nat) "HillSchoolModel" "wet" "I") ∈ zall := zmemG (zmj_5 154 rfl) rfl
theorem zw_1769 : (Jvm.Cond.code ({ cls := "HillSchoolModel", name := "rain", desc := "(II)I" } : Jvm.MethodName) prog_13_method_109_code (6 : Nat) (Option.some Jvm.ClassFile.FieldType.int)) ∈ zall := zmemG (zmj_7 226 rfl) rfl
theorem zw_1770 : (Jvm.Cond.constantLong "HillSchoolModel" (475 : Nat) (40 : Int64)) ∈ zall := zmemG (zmj_7 227 rfl) rfl
theorem zw_1771 : (Jvm.Cond.constantLong "HillSchoolModel" (483 : Nat) (1103 : Int64)) ∈ zall := zmemG (zmj_7 228 rfl) rfl
theorem zw_1772 : (Jvm.Cond.constantLong "HillSchoolModel" (485 : Nat) (12345 : Int64)) ∈ zall := zmemG (zmj_7 229 rfl) rfl
theorem zw_1773 : (Jvm.Cond.constantLong "HillSchoolModel" (487 : Nat) (1000003 : Int64)) ∈ zall := zmemG (zmj_7 230 rfl) rfl
noncomputable abbrev w_HM_rain : List Cond := .code yX11_rain cX11_rain 6 (some .int) :: zall
noncomputable abbrev rm_HM_rain : Room := { frames := 5, cells := 0, slots := 0, locals := 111 }
theorem hd_HM_rain : yX11_rain.cls = "HillSchoolModel" ∧ yX11_rain.cls ≠ "java/lang/invoke/MethodHandle" ∧ yX11_rain.cls ≠ "java/lang/invoke/VarHandle" ∧ (parseMethodDescriptor yX11_rain.desc).map (fun d => d.parameters.length) = some 2 := by decide +kernel
noncomputable def wd_HM_rain (cA : Nat → ClassId) (q0 q1 q2 q3 q4 q5 q6 q7 q8 q9 q10 q11 q12 q13 q14 q15 q16 q17 q18 q19 q20 q21 q22 q23 q24 q25 q26 q27 q28 q29 q30 q31 : Nat) (u0 u1 u2 u3 u4 u5 u6 u7 u8 u9 u10 u11 u12 u13 u14 u15 u16 u17 : Int) (i_row : Nat → Int) (i_thrown : Int) (i_status : Int) (i_state : Int) (i_wet : Int) (i_refusals : Nat → Int) (i_high : Nat → Int) (i_heaps : Nat → Int) (i_rained : Nat → Int) : va_W := [(q0, .inr (11, [.int (Int32.ofInt i_thrown), .int (Int32.ofInt i_status), .ref q1, .ref q2, .ref q3, .ref q4, .int (Int32.ofInt u0), .ref q5, .int (Int32.ofInt u1), .int (Int32.ofInt u2), .int (Int32.ofInt u3), .int (Int32.ofInt u4), .long (Int64.ofInt u5), .int (Int32.ofInt u6), .int (Int32.ofInt u7), .int (Int32.ofInt u8), .ref q6, .int (Int32.ofInt u9), .ref q7, .ref q8, .int (Int32.ofInt u10), .ref q9, .ref q10, .int (Int32.ofInt u11), .int (Int32.ofInt u12), .ref q11, .int (Int32.ofInt u13), .ref q12, .ref q13, .int (Int32.ofInt u14), .long (Int64.ofInt u15), .long (Int64.ofInt u16), .ref q14, .ref q15, .ref q16, .ref q17, .ref q18, .int (Int32.ofInt u17), .ref q19, .ref q20, .ref q21, .ref q22, .ref q23, .ref q24, .ref q25, .ref q26, .ref q27, .ref q28, .ref q29, .ref q30, .long (Int64.ofInt i_state), .ref q31, .int (Int32.ofInt i_wet)])), (q1, .inl (cA 0, 7, .inl (za i_refusals))), (q2, .inl (cA 0, 5580, .inl (za i_row))), (q14, .inl (cA 0, 12, .inl (za i_high))), (q15, .inl (cA 0, 120, .inl (za i_heaps))), (q31, .inl (cA 0, 24, .inl (za i_rained)))]
noncomputable def wf_HM_rain (cA : Nat → ClassId) (q0 q1 q2 q3 q4 q5 q6 q7 q8 q9 q10 q11 q12 q13 q14 q15 q16 q17 q18 q19 q20 q21 q22 q23 q24 q25 q26 q27 q28 q29 q30 q31 : Nat) (u0 u1 u2 u3 u4 u5 u6 u7 u8 u9 u10 u11 u12 u13 u14 u15 u16 u17 : Int) (i_row : Nat → Int) (o : Int × Int × Int × Int × Int × (Nat → Int) × (Nat → Int) × (Nat → Int) × (Nat → Int)) : va_W := wd_HM_rain cA q0 q1 q2 q3 q4 q5 q6 q7 q8 q9 q10 q11 q12 q13 q14 q15 q16 q17 q18 q19 q20 q21 q22 q23 q24 q25 q26 q27 q28 q29 q30 q31 u0 u1 u2 u3 u4 u5 u6 u7 u8 u9 u10 u11 u12 u13 u14 u15 u16 u17 i_row o.2.1 o.2.2.1 o.2.2.2.1 o.2.2.2.2.1 o.2.2.2.2.2.1 o.2.2.2.2.2.2.1 o.2.2.2.2.2.2.2.1 o.2.2.2.2.2.2.2.2
noncomputable def f_HM_rain_29 (i_row : Nat → Int) (i_thrown : Int) (i_status : Int) (i_state : Int) (i_wet : Int) (i_refusals : Nat → Int) (i_high : Nat → Int) (i_heaps : Nat → Int) (i_rained : Nat → Int) : Option (Int × Int × Int × Int × Int × (Nat → Int) × (Nat → Int) × (Nat → Int) × (Nat → Int)) :=
  zd3 (f_HM_tell (-1) i_status i_refusals) fun v1 v2 a3 =>
  some (v1, i_thrown, v2, i_state, i_wet, a3, i_high, i_heaps, i_rained)
noncomputable def f_HM_rain_220_b (i_row : Nat → Int) (k180 : Int → Int → Int → Int → Int → Int → (Nat → Int) → (Nat → Int) → (Nat → Int) → (Nat → Int) → Option (Int × Int × Int × Int × Int × (Nat → Int) × (Nat → Int) × (Nat → Int) × (Nat → Int))) (k220 : Int → Int → Int → Int → Int → Int → Int → (Nat → Int) → (Nat → Int) → (Nat → Int) → (Nat → Int) → Option (Int × Int × Int × Int × Int × (Nat → Int) × (Nat → Int) × (Nat → Int) × (Nat → Int))) (x3 : Int) (x4 : Int) (x5 : Int) (i_thrown : Int) (i_status : Int) (i_state : Int) (i_wet : Int) (i_refusals : Nat → Int) (i_high : Nat → Int) (i_heaps : Nat → Int) (i_rained : Nat → Int) : Option (Int × Int × Int × Int × Int × (Nat → Int) × (Nat → Int) × (Nat → Int) × (Nat → Int)) :=
  zg 12 i_high x4 fun v1 =>
  if zi_w v1 ≤ zi_w x5 then
    zn (x4 + 1) fun v2 =>
    k180 x3 v2 i_thrown i_status i_state i_wet i_refusals i_high i_heaps i_rained
  else
    zn (2 * x4) fun v3 =>
    zn (v3 + 1) fun v4 =>
    zg 24 i_rained v4 fun v5 =>
    zn (10 * x4) fun v6 =>
    zn (v6 + x5) fun v7 =>
    zg 120 i_heaps v7 fun v8 =>
    zn (v5 + v8) fun v9 =>
    zs 24 i_rained v4 v9 fun a10 =>
    zn (x5 + 1) fun v11 =>
    k220 x3 x4 v11 i_thrown i_status i_state i_wet i_refusals i_high i_heaps a10
noncomputable def f_HM_rain_220 (i_row : Nat → Int) (k180 : Int → Int → Int → Int → Int → Int → (Nat → Int) → (Nat → Int) → (Nat → Int) → (Nat → Int) → Option (Int × Int × Int × Int × Int × (Nat → Int) × (Nat → Int) × (Nat → Int) × (Nat → Int))) : Nat → Int → Int → Int → Int → Int → Int → Int → (Nat → Int) → (Nat → Int) → (Nat → Int) → (Nat → Int) → Option (Int × Int × Int × Int × Int × (Nat → Int) × (Nat → Int) × (Nat → Int) × (Nat → Int))
  | 0 => fun _ _ _ _ _ _ _ _ _ _ _ => none
  | n + 1 => fun y0 y1 y2 y3 y4 y5 y6 y7 y8 y9 y10 => f_HM_rain_220_b i_row k180 (f_HM_rain_220 i_row k180 n) y0 y1 y2 y3 y4 y5 y6 y7 y8 y9 y10
noncomputable def f_HM_rain_180_b (i_row : Nat → Int) (k180 : Int → Int → Int → Int → Int → Int → (Nat → Int) → (Nat → Int) → (Nat → Int) → (Nat → Int) → Option (Int × Int × Int × Int × Int × (Nat → Int) × (Nat → Int) × (Nat → Int) × (Nat → Int))) (x3 : Int) (x4 : Int) (i_thrown : Int) (i_status : Int) (i_state : Int) (i_wet : Int) (i_refusals : Nat → Int) (i_high : Nat → Int) (i_heaps : Nat → Int) (i_rained : Nat → Int) : Option (Int × Int × Int × Int × Int × (Nat → Int) × (Nat → Int) × (Nat → Int) × (Nat → Int)) :=
  if zi_w i_wet ≤ zi_w x4 then
    zd3 (f_HM_tell x3 i_status i_refusals) fun v1 v2 a3 =>
    some (v1, i_thrown, v2, i_state, i_wet, a3, i_high, i_heaps, i_rained)
  else
    zn (2 * x4) fun v4 =>
    zg 12 i_high x4 fun v5 =>
    zs 24 i_rained v4 v5 fun a6 =>
    zn (2 * x4) fun v7 =>
    zn (v7 + 1) fun v8 =>
    zs 24 a6 v8 0 fun a9 =>
    f_HM_rain_220 i_row k180 zfu x3 x4 0 i_thrown i_status i_state i_wet i_refusals i_high i_heaps a9
noncomputable def f_HM_rain_180 (i_row : Nat → Int) : Nat → Int → Int → Int → Int → Int → Int → (Nat → Int) → (Nat → Int) → (Nat → Int) → (Nat → Int) → Option (Int × Int × Int × Int × Int × (Nat → Int) × (Nat → Int) × (Nat → Int) × (Nat → Int))
  | 0 => fun _ _ _ _ _ _ _ _ _ _ => none
  | n + 1 => fun y0 y1 y2 y3 y4 y5 y6 y7 y8 y9 => f_HM_rain_180_b i_row (f_HM_rain_180 i_row n) y0 y1 y2 y3 y4 y5 y6 y7 y8 y9
noncomputable def f_HM_rain_177 (i_row : Nat → Int) (x3 : Int) (i_thrown : Int) (i_status : Int) (i_state : Int) (i_wet : Int) (i_refusals : Nat → Int) (i_high : Nat → Int) (i_heaps : Nat → Int) (i_rained : Nat → Int) : Option (Int × Int × Int × Int × Int × (Nat → Int) × (Nat → Int) × (Nat → Int) × (Nat → Int)) :=
  f_HM_rain_180 i_row zfu x3 0 i_thrown i_status i_state i_wet i_refusals i_high i_heaps i_rained
noncomputable def f_HM_rain_166 (i_row : Nat → Int) (k58 : Int → Int → Int → Int → Int → Int → Int → (Nat → Int) → (Nat → Int) → (Nat → Int) → (Nat → Int) → Option (Int × Int × Int × Int × Int × (Nat → Int) × (Nat → Int) × (Nat → Int) × (Nat → Int))) (x2 : Int) (x3 : Int) (x4 : Int) (i_thrown : Int) (i_status : Int) (i_state : Int) (i_wet : Int) (i_refusals : Nat → Int) (i_high : Nat → Int) (i_heaps : Nat → Int) (i_rained : Nat → Int) : Option (Int × Int × Int × Int × Int × (Nat → Int) × (Nat → Int) × (Nat → Int) × (Nat → Int)) :=
  zd3 (f_HM_slideAll i_row i_high i_heaps) fun v1 a2 a3 =>
  zn (x4 + 1) fun v4 =>
  k58 x2 x3 v4 i_thrown i_status i_state i_wet i_refusals a2 a3 i_rained
noncomputable def f_HM_rain_152 (i_row : Nat → Int) (k58 : Int → Int → Int → Int → Int → Int → Int → (Nat → Int) → (Nat → Int) → (Nat → Int) → (Nat → Int) → Option (Int × Int × Int × Int × Int × (Nat → Int) × (Nat → Int) × (Nat → Int) × (Nat → Int))) (x2 : Int) (x3 : Int) (x4 : Int) (x5 : Int) (i_thrown : Int) (i_status : Int) (i_state : Int) (i_wet : Int) (i_refusals : Nat → Int) (i_high : Nat → Int) (i_heaps : Nat → Int) (i_rained : Nat → Int) : Option (Int × Int × Int × Int × Int × (Nat → Int) × (Nat → Int) × (Nat → Int) × (Nat → Int)) :=
  zg 12 i_high x5 fun v1 =>
  zn (v1 - 1) fun v2 =>
  zs 12 i_high x5 v2 fun a3 =>
  zn (x3 + 1) fun v4 =>
  f_HM_rain_166 i_row k58 x2 v4 x4 i_thrown i_status i_state i_wet i_refusals a3 i_heaps i_rained
noncomputable def f_HM_rain_58_b (i_row : Nat → Int) (k58 : Int → Int → Int → Int → Int → Int → Int → (Nat → Int) → (Nat → Int) → (Nat → Int) → (Nat → Int) → Option (Int × Int × Int × Int × Int × (Nat → Int) × (Nat → Int) × (Nat → Int) × (Nat → Int))) (x2 : Int) (x3 : Int) (x4 : Int) (i_thrown : Int) (i_status : Int) (i_state : Int) (i_wet : Int) (i_refusals : Nat → Int) (i_high : Nat → Int) (i_heaps : Nat → Int) (i_rained : Nat → Int) : Option (Int × Int × Int × Int × Int × (Nat → Int) × (Nat → Int) × (Nat → Int) × (Nat → Int)) :=
  if zi_w x2 ≤ zi_w x4 then
    f_HM_rain_177 i_row x3 i_thrown i_status i_state i_wet i_refusals i_high i_heaps i_rained
  else
    if zi_w i_wet ≤ 0 then
      f_HM_rain_177 i_row x3 i_thrown i_status i_state i_wet i_refusals i_high i_heaps i_rained
    else
      zn (i_state * 1103) fun v1 =>
      zn (v1 + 12345) fun v2 =>
      if zl_w 1000003 = 0 then none else zn (zl_rem v2 1000003) fun v3 =>
      zn (zi_w i_wet) fun v4 =>
      if zl_w v4 = 0 then none else zn (zl_rem v3 v4) fun v5 =>
      zg 12 i_high v5 fun v6 =>
      if zi_w v6 ≤ 0 then
        f_HM_rain_166 i_row k58 x2 x3 x4 i_thrown i_status v3 i_wet i_refusals i_high i_heaps i_rained
      else
        zn (v5 + 1) fun v7 =>
        if zi_w i_wet ≤ zi_w v7 then
          f_HM_rain_152 i_row k58 x2 x3 x4 v5 i_thrown i_status v3 i_wet i_refusals i_high i_heaps i_rained
        else
          zn (v5 + 1) fun v8 =>
          zg 12 i_high v8 fun v9 =>
          if zi_w 10 ≤ zi_w v9 then
            f_HM_rain_152 i_row k58 x2 x3 x4 v5 i_thrown i_status v3 i_wet i_refusals i_high i_heaps i_rained
          else
            zn (v5 + 1) fun v10 =>
            zd2 (f_HM_shift v5 v10 i_high i_heaps) fun a11 a12 =>
            f_HM_rain_166 i_row k58 x2 x3 x4 i_thrown i_status v3 i_wet i_refusals a11 a12 i_rained
noncomputable def f_HM_rain_58 (i_row : Nat → Int) : Nat → Int → Int → Int → Int → Int → Int → Int → (Nat → Int) → (Nat → Int) → (Nat → Int) → (Nat → Int) → Option (Int × Int × Int × Int × Int × (Nat → Int) × (Nat → Int) × (Nat → Int) × (Nat → Int))
  | 0 => fun _ _ _ _ _ _ _ _ _ _ _ => none
  | n + 1 => fun y0 y1 y2 y3 y4 y5 y6 y7 y8 y9 y10 => f_HM_rain_58_b i_row (f_HM_rain_58 i_row n) y0 y1 y2 y3 y4 y5 y6 y7 y8 y9 y10
noncomputable def f_HM_rain (x1 : Int) (x2 : Int) (i_row : Nat → Int) (i_thrown : Int) (i_status : Int) (i_state : Int) (i_wet : Int) (i_refusals : Nat → Int) (i_high : Nat → Int) (i_heaps : Nat → Int) (i_rained : Nat → Int) : Option (Int × Int × Int × Int × Int × (Nat → Int) × (Nat → Int) × (Nat → Int) × (Nat → Int)) :=
  zn (zi_w x1) fun v1 =>
  zd1 (f_HM_in v1 0 1000000) fun v2 =>
  if zi_w v2 = 0 then
    f_HM_rain_29 i_row 0 i_status i_state i_wet i_refusals i_high i_heaps i_rained
  else
    zn (zi_w x2) fun v3 =>
    zd1 (f_HM_in v3 1 40) fun v4 =>
    if zi_w v4 ≠ 0 then
      zd2 (f_HM_load i_row i_high i_heaps) fun a5 a6 =>
      zn (zi_w x1) fun v7 =>
      zd1 (f_HM_columns i_row) fun v8 =>
      f_HM_rain_58 i_row zfu x2 0 0 0 i_status v7 v8 i_refusals a5 a6 i_rained
    else
      f_HM_rain_29 i_row 0 i_status i_state i_wet i_refusals i_high i_heaps i_rained
set_option maxHeartbeats 4000000 in
set_option maxRecDepth 100000 in
theorem c_HM_rain (l : Launch) (ev : zEv) (dC : Nat → ClassId) (dI : Nat → Nat → Nat) (cA : Nat → ClassId) (q0 q1 q2 q3 q4 q5 q6 q7 q8 q9 q10 q11 q12 q13 q14 q15 q16 q17 q18 q19 q20 q21 q22 q23 q24 q25 q26 q27 q28 q29 q30 q31 : Nat) (u0 u1 u2 u3 u4 u5 u6 u7 u8 u9 u10 u11 u12 u13 u14 u15 u16 u17 : Int) {x1 x2 : Int} {i_row : Nat → Int} {i_thrown : Int} {i_status : Int} {i_state : Int} {i_wet : Int} {i_refusals : Nat → Int} {i_high : Nat → Int} {i_heaps : Nat → Int} {i_rained : Nat → Int} {out : Int × Int × Int × Int × Int × (Nat → Int) × (Nat → Int) × (Nat → Int) × (Nat → Int)} (hf : f_HM_rain x1 x2 i_row i_thrown i_status i_state i_wet i_refusals i_high i_heaps i_rained = some out) : xc_I l ev (dC, dI) vwCl (tyl cA) yX11_rain w_HM_rain rm_HM_rain [.ref q0, .int (Int32.ofInt x1), .int (Int32.ofInt x2)] (wd_HM_rain cA q0 q1 q2 q3 q4 q5 q6 q7 q8 q9 q10 q11 q12 q13 q14 q15 q16 q17 q18 q19 q20 q21 q22 q23 q24 q25 q26 q27 q28 q29 q30 q31 u0 u1 u2 u3 u4 u5 u6 u7 u8 u9 u10 u11 u12 u13 u14 u15 u16 u17 i_row i_thrown i_status i_state i_wet i_refusals i_high i_heaps i_rained) (wf_HM_rain cA q0 q1 q2 q3 q4 q5 q6 q7 q8 q9 q10 q11 q12 q13 q14 q15 q16 q17 q18 q19 q20 q21 q22 q23 q24 q25 q26 q27 q28 q29 q30 q31 u0 u1 u2 u3 u4 u5 u6 u7 u8 u9 u10 u11 u12 u13 u14 u15 u16 u17 i_row out) out.1 := by
  refine xv_startI (cc := cX11_rain) (maxL := 6) (rt := .int) (by decide +kernel) rfl (Nat.le_of_ble_eq_true rfl) ?_
  intro p e s m args below meth c A Q H ls hx hb hml hts hown hK hA hP hD hS hl hE hret
  have hown : s.vm.findClass "HillSchoolModel" = some m.cls := hown
  have hz : ∀ w ∈ zall, w.before args s = true := fun w h => hts w (List.mem_cons_of_mem _ h)
  have hl : lv_has ls 6 [(0, .ref q0), (1, .int (Int32.ofInt x1)), (2, .int (Int32.ofInt x2))] := hl
  have b_29 : ∀ (i_thrown : Int) (i_status : Int) (i_state : Int) (i_wet : Int) (i_refusals : Nat → Int) (i_high : Nat → Int) (i_heaps : Nat → Int) (i_rained : Nat → Int) (H : Heap) (locs : List Loc) (ls : Array Slot), f_HM_rain_29 i_row i_thrown i_status i_state i_wet i_refusals i_high i_heaps i_rained = some out → va_P (dC, dI) vwCl (wd_HM_rain cA q0 q1 q2 q3 q4 q5 q6 q7 q8 q9 q10 q11 q12 q13 q14 q15 q16 q17 q18 q19 q20 q21 q22 q23 q24 q25 q26 q27 q28 q29 q30 q31 u0 u1 u2 u3 u4 u5 u6 u7 u8 u9 u10 u11 u12 u13 u14 u15 u16 u17 i_row i_thrown i_status i_state i_wet i_refusals i_high i_heaps i_rained) H → va_D A (wd_HM_rain cA q0 q1 q2 q3 q4 q5 q6 q7 q8 q9 q10 q11 q12 q13 q14 q15 q16 q17 q18 q19 q20 q21 q22 q23 q24 q25 q26 q27 q28 q29 q30 q31 u0 u1 u2 u3 u4 u5 u6 u7 u8 u9 u10 u11 u12 u13 u14 u15 u16 u17 i_row i_thrown i_status i_state i_wet i_refusals i_high i_heaps i_rained) → va_S A s.heap H locs → lv_has ls 6 [(0, .ref q0)] → W p l e rm_HM_rain s m args below meth c H locs 0 0 Q (F0 m 29 ls []) := by
    intro i_thrown i_status i_state i_wet i_refusals i_high i_heaps i_rained H locs ls hf hP hD hS hl
    unfold f_HM_rain_29 at hf
    refine lv_aload_n hx hb (zdt zkX11_rain 29 rfl) rfl (lv_at hl 0 rfl) ?_
    refine lv_iconst (v := Int32.ofInt (-1)) hx hb (zdt zkX11_rain 30 rfl) rfl ?_
    refine xe_d3 hf (fun v1 v2 a3 hg hf => ?_)
    have hC : ([0, 1] : List Nat).map (fun i => (wd_HM_rain cA q0 q1 q2 q3 q4 q5 q6 q7 q8 q9 q10 q11 q12 q13 q14 q15 q16 q17 q18 q19 q20 q21 q22 q23 q24 q25 q26 q27 q28 q29 q30 q31 u0 u1 u2 u3 u4 u5 u6 u7 u8 u9 u10 u11 u12 u13 u14 u15 u16 u17 i_row i_thrown i_status i_state i_wet i_refusals i_high i_heaps i_rained)[i]?) = (wd_HM_tell cA q0 q1 q2 q3 q4 q5 q6 q7 q8 q9 q10 q11 q12 q13 q14 q15 q16 q17 q18 q19 q20 q21 q22 q23 q24 q25 q26 q27 q28 q29 q30 q31 i_thrown u0 u1 u2 u3 u4 u5 u6 u7 u8 u9 u10 u11 u12 u13 u14 u15 u16 u17 i_state i_wet i_status i_refusals).map some := rfl
    refine xv_afterI (ws' := (wd_HM_rain cA q0 q1 q2 q3 q4 q5 q6 q7 q8 q9 q10 q11 q12 q13 q14 q15 q16 q17 q18 q19 q20 q21 q22 q23 q24 q25 q26 q27 q28 q29 q30 q31 u0 u1 u2 u3 u4 u5 u6 u7 u8 u9 u10 u11 u12 u13 u14 u15 u16 u17 i_row i_thrown v2 i_state i_wet a3 i_high i_heaps i_rained)) (isC := [0, 1]) (ps := [some 0, some 1, none, none, none, none]) (va_runV (As := [.int (Int32.ofInt (-1))]) (rest := []) ⟨hx, hb, hml, hown, hts⟩ (c_HM_tell l ev dC dI cA q0 q1 q2 q3 q4 q5 q6 q7 q8 q9 q10 q11 q12 q13 q14 q15 q16 q17 q18 q19 q20 q21 q22 q23 q24 q25 q26 q27 q28 q29 q30 q31 i_thrown u0 u1 u2 u3 u4 u5 u6 u7 u8 u9 u10 u11 u12 u13 u14 u15 u16 u17 i_state i_wet hg H.size) (cwV 1 hts (zgV zw_1332 zw_1334 zw_40 zw_115 zw_1335) rfl rfl rfl hd_HM_tell ⟨Nat.le_of_ble_eq_true rfl, Nat.le_of_ble_eq_true rfl⟩) (xv_preV (T := TX11) (N := 53) hE hA hS hK hP hD (isC := [0, 1]) (by decide +kernel) hC (q0 := 0) (ci := 11) rfl rfl) rfl rfl hl.1 rfl (lv_room (Nat.le_of_ble_eq_true rfl)) (zdt zkX11_rain 31 rfl) ⟨Nat.le_refl _, Nat.le_refl _⟩) hP hD hS hA (by decide +kernel) rfl hC rfl rfl (fun H locs hP hD hS => ?_)
    obtain rfl := Option.some.inj hf
    exact hret _ _ _ _ rfl (zdt zkX11_rain 34 rfl) hP hD hS
  have b_220 : ∀ (k180 : Int → Int → Int → Int → Int → Int → (Nat → Int) → (Nat → Int) → (Nat → Int) → (Nat → Int) → Option (Int × Int × Int × Int × Int × (Nat → Int) × (Nat → Int) × (Nat → Int) × (Nat → Int))) (_ : ∀ (x3 : Int) (x4 : Int) (i_thrown : Int) (i_status : Int) (i_state : Int) (i_wet : Int) (i_refusals : Nat → Int) (i_high : Nat → Int) (i_heaps : Nat → Int) (i_rained : Nat → Int) (H : Heap) (locs : List Loc) (ls : Array Slot), k180 x3 x4 i_thrown i_status i_state i_wet i_refusals i_high i_heaps i_rained = some out → va_P (dC, dI) vwCl (wd_HM_rain cA q0 q1 q2 q3 q4 q5 q6 q7 q8 q9 q10 q11 q12 q13 q14 q15 q16 q17 q18 q19 q20 q21 q22 q23 q24 q25 q26 q27 q28 q29 q30 q31 u0 u1 u2 u3 u4 u5 u6 u7 u8 u9 u10 u11 u12 u13 u14 u15 u16 u17 i_row i_thrown i_status i_state i_wet i_refusals i_high i_heaps i_rained) H → va_D A (wd_HM_rain cA q0 q1 q2 q3 q4 q5 q6 q7 q8 q9 q10 q11 q12 q13 q14 q15 q16 q17 q18 q19 q20 q21 q22 q23 q24 q25 q26 q27 q28 q29 q30 q31 u0 u1 u2 u3 u4 u5 u6 u7 u8 u9 u10 u11 u12 u13 u14 u15 u16 u17 i_row i_thrown i_status i_state i_wet i_refusals i_high i_heaps i_rained) → va_S A s.heap H locs → lv_has ls 6 [(0, .ref q0), (3, .int (Int32.ofInt x3)), (4, .int (Int32.ofInt x4))] → W p l e rm_HM_rain s m args below meth c H locs 0 0 Q (F0 m 180 ls [])), ∀ (k220 : Int → Int → Int → Int → Int → Int → Int → (Nat → Int) → (Nat → Int) → (Nat → Int) → (Nat → Int) → Option (Int × Int × Int × Int × Int × (Nat → Int) × (Nat → Int) × (Nat → Int) × (Nat → Int))) (_ : ∀ (x3 : Int) (x4 : Int) (x5 : Int) (i_thrown : Int) (i_status : Int) (i_state : Int) (i_wet : Int) (i_refusals : Nat → Int) (i_high : Nat → Int) (i_heaps : Nat → Int) (i_rained : Nat → Int) (H : Heap) (locs : List Loc) (ls : Array Slot), k220 x3 x4 x5 i_thrown i_status i_state i_wet i_refusals i_high i_heaps i_rained = some out → va_P (dC, dI) vwCl (wd_HM_rain cA q0 q1 q2 q3 q4 q5 q6 q7 q8 q9 q10 q11 q12 q13 q14 q15 q16 q17 q18 q19 q20 q21 q22 q23 q24 q25 q26 q27 q28 q29 q30 q31 u0 u1 u2 u3 u4 u5 u6 u7 u8 u9 u10 u11 u12 u13 u14 u15 u16 u17 i_row i_thrown i_status i_state i_wet i_refusals i_high i_heaps i_rained) H → va_D A (wd_HM_rain cA q0 q1 q2 q3 q4 q5 q6 q7 q8 q9 q10 q11 q12 q13 q14 q15 q16 q17 q18 q19 q20 q21 q22 q23 q24 q25 q26 q27 q28 q29 q30 q31 u0 u1 u2 u3 u4 u5 u6 u7 u8 u9 u10 u11 u12 u13 u14 u15 u16 u17 i_row i_thrown i_status i_state i_wet i_refusals i_high i_heaps i_rained) → va_S A s.heap H locs → lv_has ls 6 [(0, .ref q0), (3, .int (Int32.ofInt x3)), (4, .int (Int32.ofInt x4)), (5, .int (Int32.ofInt x5))] → W p l e rm_HM_rain s m args below meth c H locs 0 0 Q (F0 m 220 ls [])), ∀ (x3 : Int) (x4 : Int) (x5 : Int) (i_thrown : Int) (i_status : Int) (i_state : Int) (i_wet : Int) (i_refusals : Nat → Int) (i_high : Nat → Int) (i_heaps : Nat → Int) (i_rained : Nat → Int) (H : Heap) (locs : List Loc) (ls : Array Slot), f_HM_rain_220_b i_row k180 k220 x3 x4 x5 i_thrown i_status i_state i_wet i_refusals i_high i_heaps i_rained = some out → va_P (dC, dI) vwCl (wd_HM_rain cA q0 q1 q2 q3 q4 q5 q6 q7 q8 q9 q10 q11 q12 q13 q14 q15 q16 q17 q18 q19 q20 q21 q22 q23 q24 q25 q26 q27 q28 q29 q30 q31 u0 u1 u2 u3 u4 u5 u6 u7 u8 u9 u10 u11 u12 u13 u14 u15 u16 u17 i_row i_thrown i_status i_state i_wet i_refusals i_high i_heaps i_rained) H → va_D A (wd_HM_rain cA q0 q1 q2 q3 q4 q5 q6 q7 q8 q9 q10 q11 q12 q13 q14 q15 q16 q17 q18 q19 q20 q21 q22 q23 q24 q25 q26 q27 q28 q29 q30 q31 u0 u1 u2 u3 u4 u5 u6 u7 u8 u9 u10 u11 u12 u13 u14 u15 u16 u17 i_row i_thrown i_status i_state i_wet i_refusals i_high i_heaps i_rained) → va_S A s.heap H locs → lv_has ls 6 [(0, .ref q0), (3, .int (Int32.ofInt x3)), (4, .int (Int32.ofInt x4)), (5, .int (Int32.ofInt x5))] → W p l e rm_HM_rain s m args below meth c H locs 0 0 Q (F0 m 220 ls []) := by
    intro k180 ih180 k220 ih220 x3 x4 x5 i_thrown i_status i_state i_wet i_refusals i_high i_heaps i_rained H locs ls hf hP hD hS hl
    unfold f_HM_rain_220_b at hf
    refine lv_iload hx hb (zdt zkX11_rain 220 rfl) (lv_at hl 3 rfl) ?_
    refine lv_aload_n hx hb (zdt zkX11_rain 222 rfl) rfl (lv_at hl 0 rfl) ?_
    refine va_get (D := (dC, dI)) (ci := 11) (v := .ref q14) (C := RX11) (T := TX11) (N := 53) hx hb hz zi_X11 hown hK hP 0 rfl rfl 32 (by decide) (hz _ zw_1197) (fun _ h9 => h9) rfl (zdt zkX11_rain 223 rfl) ?_
    refine lv_iload hx hb (zdt zkX11_rain 226 rfl) (lv_at hl 2 rfl) ?_
    refine xi_iald hx hb hK hP 3 0 rfl rfl (zdt zkX11_rain 228 rfl) hf (fun v1 hf => ?_)
    refine xi_icmp_ge (tgt := 265) hx hb (zdt zkX11_rain 229 rfl) (by decide) hf (fun hf => ?_) (fun hf => ?_)
    · refine xi_iinc hx hb (zdt zkX11_rain 265 rfl) hl (k := 2) rfl (by decide) hf (fun v2 ls hl hf => ?_)
      have hl : lv_has ls 6 [(4, .int (Int32.ofInt v2)), (0, .ref q0), (3, .int (Int32.ofInt x3)), (5, .int (Int32.ofInt x5))] := hl
      refine lv_goto (tgt := 180) hx hb (zdt zkX11_rain 268 rfl) (by decide) ?_
      exact ih180 _ _ _ _ _ _ _ _ _ _ _ _ _ hf hP hD hS (lv_sub hl [1, 2, 0] rfl)
    · refine lv_aload_n hx hb (zdt zkX11_rain 232 rfl) rfl (lv_at hl 0 rfl) ?_
      refine va_get (D := (dC, dI)) (ci := 11) (v := .ref q31) (C := RX11) (T := TX11) (N := 53) hx hb hz zi_X11 hown hK hP 0 rfl rfl 51 (by decide) (hz _ zw_1216) (fun _ h9 => h9) rfl (zdt zkX11_rain 233 rfl) ?_
      refine lv_iconst (v := Int32.ofInt 2) hx hb (zdt zkX11_rain 236 rfl) rfl ?_
      refine lv_iload hx hb (zdt zkX11_rain 237 rfl) (lv_at hl 2 rfl) ?_
      refine xi_imul hx hb (zdt zkX11_rain 239 rfl) hf (fun v3 hf => ?_)
      refine lv_iconst (v := Int32.ofInt 1) hx hb (zdt zkX11_rain 240 rfl) rfl ?_
      refine xi_iadd hx hb (zdt zkX11_rain 241 rfl) hf (fun v4 hf => ?_)
      refine lv_dup2_11 hx hb (zdt zkX11_rain 242 rfl) rfl rfl ?_
      refine xi_iald hx hb hK hP 5 0 rfl rfl (zdt zkX11_rain 243 rfl) hf (fun v5 hf => ?_)
      refine lv_aload_n hx hb (zdt zkX11_rain 244 rfl) rfl (lv_at hl 0 rfl) ?_
      refine va_get (D := (dC, dI)) (ci := 11) (v := .ref q15) (C := RX11) (T := TX11) (N := 53) hx hb hz zi_X11 hown hK hP 0 rfl rfl 33 (by decide) (hz _ zw_1198) (fun _ h9 => h9) rfl (zdt zkX11_rain 245 rfl) ?_
      refine lv_bipush (v := Int32.ofInt 10) hx hb (zdt zkX11_rain 248 rfl) (by decide) ?_
      refine lv_iload hx hb (zdt zkX11_rain 250 rfl) (lv_at hl 2 rfl) ?_
      refine xi_imul hx hb (zdt zkX11_rain 252 rfl) hf (fun v6 hf => ?_)
      refine lv_iload hx hb (zdt zkX11_rain 253 rfl) (lv_at hl 3 rfl) ?_
      refine xi_iadd hx hb (zdt zkX11_rain 255 rfl) hf (fun v7 hf => ?_)
      refine xi_iald hx hb hK hP 4 0 rfl rfl (zdt zkX11_rain 256 rfl) hf (fun v8 hf => ?_)
      refine xi_iadd hx hb (zdt zkX11_rain 257 rfl) hf (fun v9 hf => ?_)
      refine xi_iast hx hb hK hP hD hS 5 0 rfl rfl (zdt zkX11_rain 258 rfl) hf (fun a10 H locs hP hD hS hf => ?_)
      refine xw_PD (wd_HM_rain cA q0 q1 q2 q3 q4 q5 q6 q7 q8 q9 q10 q11 q12 q13 q14 q15 q16 q17 q18 q19 q20 q21 q22 q23 q24 q25 q26 q27 q28 q29 q30 q31 u0 u1 u2 u3 u4 u5 u6 u7 u8 u9 u10 u11 u12 u13 u14 u15 u16 u17 i_row i_thrown i_status i_state i_wet i_refusals i_high i_heaps a10) hP hD (fun hP hD => ?_)
      refine xi_iinc hx hb (zdt zkX11_rain 259 rfl) hl (k := 3) rfl (by decide) hf (fun v11 ls hl hf => ?_)
      have hl : lv_has ls 6 [(5, .int (Int32.ofInt v11)), (0, .ref q0), (3, .int (Int32.ofInt x3)), (4, .int (Int32.ofInt x4))] := hl
      refine lv_goto (tgt := 220) hx hb (zdt zkX11_rain 262 rfl) (by decide) ?_
      exact ih220 _ _ _ _ _ _ _ _ _ _ _ _ _ _ hf hP hD hS (lv_sub hl [1, 2, 3, 0] rfl)
  have l_220 : ∀ (k180 : Int → Int → Int → Int → Int → Int → (Nat → Int) → (Nat → Int) → (Nat → Int) → (Nat → Int) → Option (Int × Int × Int × Int × Int × (Nat → Int) × (Nat → Int) × (Nat → Int) × (Nat → Int))) (_ : ∀ (x3 : Int) (x4 : Int) (i_thrown : Int) (i_status : Int) (i_state : Int) (i_wet : Int) (i_refusals : Nat → Int) (i_high : Nat → Int) (i_heaps : Nat → Int) (i_rained : Nat → Int) (H : Heap) (locs : List Loc) (ls : Array Slot), k180 x3 x4 i_thrown i_status i_state i_wet i_refusals i_high i_heaps i_rained = some out → va_P (dC, dI) vwCl (wd_HM_rain cA q0 q1 q2 q3 q4 q5 q6 q7 q8 q9 q10 q11 q12 q13 q14 q15 q16 q17 q18 q19 q20 q21 q22 q23 q24 q25 q26 q27 q28 q29 q30 q31 u0 u1 u2 u3 u4 u5 u6 u7 u8 u9 u10 u11 u12 u13 u14 u15 u16 u17 i_row i_thrown i_status i_state i_wet i_refusals i_high i_heaps i_rained) H → va_D A (wd_HM_rain cA q0 q1 q2 q3 q4 q5 q6 q7 q8 q9 q10 q11 q12 q13 q14 q15 q16 q17 q18 q19 q20 q21 q22 q23 q24 q25 q26 q27 q28 q29 q30 q31 u0 u1 u2 u3 u4 u5 u6 u7 u8 u9 u10 u11 u12 u13 u14 u15 u16 u17 i_row i_thrown i_status i_state i_wet i_refusals i_high i_heaps i_rained) → va_S A s.heap H locs → lv_has ls 6 [(0, .ref q0), (3, .int (Int32.ofInt x3)), (4, .int (Int32.ofInt x4))] → W p l e rm_HM_rain s m args below meth c H locs 0 0 Q (F0 m 180 ls [])), ∀ (n : Nat), ∀ (x3 : Int) (x4 : Int) (x5 : Int) (i_thrown : Int) (i_status : Int) (i_state : Int) (i_wet : Int) (i_refusals : Nat → Int) (i_high : Nat → Int) (i_heaps : Nat → Int) (i_rained : Nat → Int) (H : Heap) (locs : List Loc) (ls : Array Slot), f_HM_rain_220 i_row k180 n x3 x4 x5 i_thrown i_status i_state i_wet i_refusals i_high i_heaps i_rained = some out → va_P (dC, dI) vwCl (wd_HM_rain cA q0 q1 q2 q3 q4 q5 q6 q7 q8 q9 q10 q11 q12 q13 q14 q15 q16 q17 q18 q19 q20 q21 q22 q23 q24 q25 q26 q27 q28 q29 q30 q31 u0 u1 u2 u3 u4 u5 u6 u7 u8 u9 u10 u11 u12 u13 u14 u15 u16 u17 i_row i_thrown i_status i_state i_wet i_refusals i_high i_heaps i_rained) H → va_D A (wd_HM_rain cA q0 q1 q2 q3 q4 q5 q6 q7 q8 q9 q10 q11 q12 q13 q14 q15 q16 q17 q18 q19 q20 q21 q22 q23 q24 q25 q26 q27 q28 q29 q30 q31 u0 u1 u2 u3 u4 u5 u6 u7 u8 u9 u10 u11 u12 u13 u14 u15 u16 u17 i_row i_thrown i_status i_state i_wet i_refusals i_high i_heaps i_rained) → va_S A s.heap H locs → lv_has ls 6 [(0, .ref q0), (3, .int (Int32.ofInt x3)), (4, .int (Int32.ofInt x4)), (5, .int (Int32.ofInt x5))] → W p l e rm_HM_rain s m args below meth c H locs 0 0 Q (F0 m 220 ls []) := by
    intro k180 ih180 n
    induction n with
    | zero => intro x3 x4 x5 i_thrown i_status i_state i_wet i_refusals i_high i_heaps i_rained H locs ls hf hP hD hS hl; exact nomatch hf
    | succ n ih => intro x3 x4 x5 i_thrown i_status i_state i_wet i_refusals i_high i_heaps i_rained H locs ls hf hP hD hS hl; exact b_220 k180 ih180 (f_HM_rain_220 i_row k180 n) ih x3 x4 x5 i_thrown i_status i_state i_wet i_refusals i_high i_heaps i_rained H locs ls hf hP hD hS hl
  have b_180 : ∀ (k180 : Int → Int → Int → Int → Int → Int → (Nat → Int) → (Nat → Int) → (Nat → Int) → (Nat → Int) → Option (Int × Int × Int × Int × Int × (Nat → Int) × (Nat → Int) × (Nat → Int) × (Nat → Int))) (_ : ∀ (x3 : Int) (x4 : Int) (i_thrown : Int) (i_status : Int) (i_state : Int) (i_wet : Int) (i_refusals : Nat → Int) (i_high : Nat → Int) (i_heaps : Nat → Int) (i_rained : Nat → Int) (H : Heap) (locs : List Loc) (ls : Array Slot), k180 x3 x4 i_thrown i_status i_state i_wet i_refusals i_high i_heaps i_rained = some out → va_P (dC, dI) vwCl (wd_HM_rain cA q0 q1 q2 q3 q4 q5 q6 q7 q8 q9 q10 q11 q12 q13 q14 q15 q16 q17 q18 q19 q20 q21 q22 q23 q24 q25 q26 q27 q28 q29 q30 q31 u0 u1 u2 u3 u4 u5 u6 u7 u8 u9 u10 u11 u12 u13 u14 u15 u16 u17 i_row i_thrown i_status i_state i_wet i_refusals i_high i_heaps i_rained) H → va_D A (wd_HM_rain cA q0 q1 q2 q3 q4 q5 q6 q7 q8 q9 q10 q11 q12 q13 q14 q15 q16 q17 q18 q19 q20 q21 q22 q23 q24 q25 q26 q27 q28 q29 q30 q31 u0 u1 u2 u3 u4 u5 u6 u7 u8 u9 u10 u11 u12 u13 u14 u15 u16 u17 i_row i_thrown i_status i_state i_wet i_refusals i_high i_heaps i_rained) → va_S A s.heap H locs → lv_has ls 6 [(0, .ref q0), (3, .int (Int32.ofInt x3)), (4, .int (Int32.ofInt x4))] → W p l e rm_HM_rain s m args below meth c H locs 0 0 Q (F0 m 180 ls [])), ∀ (x3 : Int) (x4 : Int) (i_thrown : Int) (i_status : Int) (i_state : Int) (i_wet : Int) (i_refusals : Nat → Int) (i_high : Nat → Int) (i_heaps : Nat → Int) (i_rained : Nat → Int) (H : Heap) (locs : List Loc) (ls : Array Slot), f_HM_rain_180_b i_row k180 x3 x4 i_thrown i_status i_state i_wet i_refusals i_high i_heaps i_rained = some out → va_P (dC, dI) vwCl (wd_HM_rain cA q0 q1 q2 q3 q4 q5 q6 q7 q8 q9 q10 q11 q12 q13 q14 q15 q16 q17 q18 q19 q20 q21 q22 q23 q24 q25 q26 q27 q28 q29 q30 q31 u0 u1 u2 u3 u4 u5 u6 u7 u8 u9 u10 u11 u12 u13 u14 u15 u16 u17 i_row i_thrown i_status i_state i_wet i_refusals i_high i_heaps i_rained) H → va_D A (wd_HM_rain cA q0 q1 q2 q3 q4 q5 q6 q7 q8 q9 q10 q11 q12 q13 q14 q15 q16 q17 q18 q19 q20 q21 q22 q23 q24 q25 q26 q27 q28 q29 q30 q31 u0 u1 u2 u3 u4 u5 u6 u7 u8 u9 u10 u11 u12 u13 u14 u15 u16 u17 i_row i_thrown i_status i_state i_wet i_refusals i_high i_heaps i_rained) → va_S A s.heap H locs → lv_has ls 6 [(0, .ref q0), (3, .int (Int32.ofInt x3)), (4, .int (Int32.ofInt x4))] → W p l e rm_HM_rain s m args below meth c H locs 0 0 Q (F0 m 180 ls []) := by
    intro k180 ih180 x3 x4 i_thrown i_status i_state i_wet i_refusals i_high i_heaps i_rained H locs ls hf hP hD hS hl
    unfold f_HM_rain_180_b at hf
    refine lv_iload hx hb (zdt zkX11_rain 180 rfl) (lv_at hl 2 rfl) ?_
    refine lv_aload_n hx hb (zdt zkX11_rain 182 rfl) rfl (lv_at hl 0 rfl) ?_
    refine va_get (D := (dC, dI)) (ci := 11) (v := .int (Int32.ofInt i_wet)) (C := RX11) (T := TX11) (N := 53) hx hb hz zi_X11 hown hK hP 0 rfl rfl 52 (by decide) (hz _ zw_1217) (fun _ h9 => h9) rfl (zdt zkX11_rain 183 rfl) ?_
    refine xi_icmp_ge (tgt := 271) hx hb (zdt zkX11_rain 186 rfl) (by decide) hf (fun hf => ?_) (fun hf => ?_)
    · refine lv_aload_n hx hb (zdt zkX11_rain 271 rfl) rfl (lv_at hl 0 rfl) ?_
      refine lv_iload_n hx hb (zdt zkX11_rain 272 rfl) rfl (lv_at hl 1 rfl) ?_
      refine xe_d3 hf (fun v1 v2 a3 hg hf => ?_)
      have hC : ([0, 1] : List Nat).map (fun i => (wd_HM_rain cA q0 q1 q2 q3 q4 q5 q6 q7 q8 q9 q10 q11 q12 q13 q14 q15 q16 q17 q18 q19 q20 q21 q22 q23 q24 q25 q26 q27 q28 q29 q30 q31 u0 u1 u2 u3 u4 u5 u6 u7 u8 u9 u10 u11 u12 u13 u14 u15 u16 u17 i_row i_thrown i_status i_state i_wet i_refusals i_high i_heaps i_rained)[i]?) = (wd_HM_tell cA q0 q1 q2 q3 q4 q5 q6 q7 q8 q9 q10 q11 q12 q13 q14 q15 q16 q17 q18 q19 q20 q21 q22 q23 q24 q25 q26 q27 q28 q29 q30 q31 i_thrown u0 u1 u2 u3 u4 u5 u6 u7 u8 u9 u10 u11 u12 u13 u14 u15 u16 u17 i_state i_wet i_status i_refusals).map some := rfl
      refine xv_afterI (ws' := (wd_HM_rain cA q0 q1 q2 q3 q4 q5 q6 q7 q8 q9 q10 q11 q12 q13 q14 q15 q16 q17 q18 q19 q20 q21 q22 q23 q24 q25 q26 q27 q28 q29 q30 q31 u0 u1 u2 u3 u4 u5 u6 u7 u8 u9 u10 u11 u12 u13 u14 u15 u16 u17 i_row i_thrown v2 i_state i_wet a3 i_high i_heaps i_rained)) (isC := [0, 1]) (ps := [some 0, some 1, none, none, none, none]) (va_runV (As := [.int (Int32.ofInt x3)]) (rest := []) ⟨hx, hb, hml, hown, hts⟩ (c_HM_tell l ev dC dI cA q0 q1 q2 q3 q4 q5 q6 q7 q8 q9 q10 q11 q12 q13 q14 q15 q16 q17 q18 q19 q20 q21 q22 q23 q24 q25 q26 q27 q28 q29 q30 q31 i_thrown u0 u1 u2 u3 u4 u5 u6 u7 u8 u9 u10 u11 u12 u13 u14 u15 u16 u17 i_state i_wet hg H.size) (cwV 1 hts (zgV zw_1332 zw_1334 zw_40 zw_115 zw_1335) rfl rfl rfl hd_HM_tell ⟨Nat.le_of_ble_eq_true rfl, Nat.le_of_ble_eq_true rfl⟩) (xv_preV (T := TX11) (N := 53) hE hA hS hK hP hD (isC := [0, 1]) (by decide +kernel) hC (q0 := 0) (ci := 11) rfl rfl) rfl rfl hl.1 rfl (lv_room (Nat.le_of_ble_eq_true rfl)) (zdt zkX11_rain 273 rfl) ⟨Nat.le_refl _, Nat.le_refl _⟩) hP hD hS hA (by decide +kernel) rfl hC rfl rfl (fun H locs hP hD hS => ?_)
      obtain rfl := Option.some.inj hf
      exact hret _ _ _ _ rfl (zdt zkX11_rain 276 rfl) hP hD hS
    · refine lv_aload_n hx hb (zdt zkX11_rain 189 rfl) rfl (lv_at hl 0 rfl) ?_
      refine va_get (D := (dC, dI)) (ci := 11) (v := .ref q31) (C := RX11) (T := TX11) (N := 53) hx hb hz zi_X11 hown hK hP 0 rfl rfl 51 (by decide) (hz _ zw_1216) (fun _ h9 => h9) rfl (zdt zkX11_rain 190 rfl) ?_
      refine lv_iconst (v := Int32.ofInt 2) hx hb (zdt zkX11_rain 193 rfl) rfl ?_
      refine lv_iload hx hb (zdt zkX11_rain 194 rfl) (lv_at hl 2 rfl) ?_
      refine xi_imul hx hb (zdt zkX11_rain 196 rfl) hf (fun v4 hf => ?_)
      refine lv_aload_n hx hb (zdt zkX11_rain 197 rfl) rfl (lv_at hl 0 rfl) ?_
      refine va_get (D := (dC, dI)) (ci := 11) (v := .ref q14) (C := RX11) (T := TX11) (N := 53) hx hb hz zi_X11 hown hK hP 0 rfl rfl 32 (by decide) (hz _ zw_1197) (fun _ h9 => h9) rfl (zdt zkX11_rain 198 rfl) ?_
      refine lv_iload hx hb (zdt zkX11_rain 201 rfl) (lv_at hl 2 rfl) ?_
      refine xi_iald hx hb hK hP 3 0 rfl rfl (zdt zkX11_rain 203 rfl) hf (fun v5 hf => ?_)
      refine xi_iast hx hb hK hP hD hS 5 0 rfl rfl (zdt zkX11_rain 204 rfl) hf (fun a6 H locs hP hD hS hf => ?_)
      refine xw_PD (wd_HM_rain cA q0 q1 q2 q3 q4 q5 q6 q7 q8 q9 q10 q11 q12 q13 q14 q15 q16 q17 q18 q19 q20 q21 q22 q23 q24 q25 q26 q27 q28 q29 q30 q31 u0 u1 u2 u3 u4 u5 u6 u7 u8 u9 u10 u11 u12 u13 u14 u15 u16 u17 i_row i_thrown i_status i_state i_wet i_refusals i_high i_heaps a6) hP hD (fun hP hD => ?_)
      refine lv_aload_n hx hb (zdt zkX11_rain 205 rfl) rfl (lv_at hl 0 rfl) ?_
      refine va_get (D := (dC, dI)) (ci := 11) (v := .ref q31) (C := RX11) (T := TX11) (N := 53) hx hb hz zi_X11 hown hK hP 0 rfl rfl 51 (by decide) (hz _ zw_1216) (fun _ h9 => h9) rfl (zdt zkX11_rain 206 rfl) ?_
      refine lv_iconst (v := Int32.ofInt 2) hx hb (zdt zkX11_rain 209 rfl) rfl ?_
      refine lv_iload hx hb (zdt zkX11_rain 210 rfl) (lv_at hl 2 rfl) ?_
      refine xi_imul hx hb (zdt zkX11_rain 212 rfl) hf (fun v7 hf => ?_)
      refine lv_iconst (v := Int32.ofInt 1) hx hb (zdt zkX11_rain 213 rfl) rfl ?_
      refine xi_iadd hx hb (zdt zkX11_rain 214 rfl) hf (fun v8 hf => ?_)
      refine lv_iconst (v := Int32.ofInt 0) hx hb (zdt zkX11_rain 215 rfl) rfl ?_
      refine xi_iast hx hb hK hP hD hS 5 0 rfl rfl (zdt zkX11_rain 216 rfl) hf (fun a9 H locs hP hD hS hf => ?_)
      refine xw_PD (wd_HM_rain cA q0 q1 q2 q3 q4 q5 q6 q7 q8 q9 q10 q11 q12 q13 q14 q15 q16 q17 q18 q19 q20 q21 q22 q23 q24 q25 q26 q27 q28 q29 q30 q31 u0 u1 u2 u3 u4 u5 u6 u7 u8 u9 u10 u11 u12 u13 u14 u15 u16 u17 i_row i_thrown i_status i_state i_wet i_refusals i_high i_heaps a9) hP hD (fun hP hD => ?_)
      refine lv_iconst (v := Int32.ofInt 0) hx hb (zdt zkX11_rain 217 rfl) rfl ?_
      refine lv_istore (lv' := [(5, .int (Int32.ofInt 0)), (0, .ref q0), (3, .int (Int32.ofInt x3)), (4, .int (Int32.ofInt x4))]) hx hb (zdt zkX11_rain 218 rfl) hl (by decide) rfl (fun ls hl => ?_)
      exact l_220 _ ih180 _ _ _ _ _ _ _ _ _ _ _ _ _ _ _ hf hP hD hS (lv_sub hl [1, 2, 3, 0] rfl)
  have l_180 : ∀ (n : Nat), ∀ (x3 : Int) (x4 : Int) (i_thrown : Int) (i_status : Int) (i_state : Int) (i_wet : Int) (i_refusals : Nat → Int) (i_high : Nat → Int) (i_heaps : Nat → Int) (i_rained : Nat → Int) (H : Heap) (locs : List Loc) (ls : Array Slot), f_HM_rain_180 i_row n x3 x4 i_thrown i_status i_state i_wet i_refusals i_high i_heaps i_rained = some out → va_P (dC, dI) vwCl (wd_HM_rain cA q0 q1 q2 q3 q4 q5 q6 q7 q8 q9 q10 q11 q12 q13 q14 q15 q16 q17 q18 q19 q20 q21 q22 q23 q24 q25 q26 q27 q28 q29 q30 q31 u0 u1 u2 u3 u4 u5 u6 u7 u8 u9 u10 u11 u12 u13 u14 u15 u16 u17 i_row i_thrown i_status i_state i_wet i_refusals i_high i_heaps i_rained) H → va_D A (wd_HM_rain cA q0 q1 q2 q3 q4 q5 q6 q7 q8 q9 q10 q11 q12 q13 q14 q15 q16 q17 q18 q19 q20 q21 q22 q23 q24 q25 q26 q27 q28 q29 q30 q31 u0 u1 u2 u3 u4 u5 u6 u7 u8 u9 u10 u11 u12 u13 u14 u15 u16 u17 i_row i_thrown i_status i_state i_wet i_refusals i_high i_heaps i_rained) → va_S A s.heap H locs → lv_has ls 6 [(0, .ref q0), (3, .int (Int32.ofInt x3)), (4, .int (Int32.ofInt x4))] → W p l e rm_HM_rain s m args below meth c H locs 0 0 Q (F0 m 180 ls []) := by
    intro n
    induction n with
    | zero => intro x3 x4 i_thrown i_status i_state i_wet i_refusals i_high i_heaps i_rained H locs ls hf hP hD hS hl; exact nomatch hf
    | succ n ih => intro x3 x4 i_thrown i_status i_state i_wet i_refusals i_high i_heaps i_rained H locs ls hf hP hD hS hl; exact b_180 (f_HM_rain_180 i_row n) ih x3 x4 i_thrown i_status i_state i_wet i_refusals i_high i_heaps i_rained H locs ls hf hP hD hS hl
  have b_177 : ∀ (x3 : Int) (i_thrown : Int) (i_status : Int) (i_state : Int) (i_wet : Int) (i_refusals : Nat → Int) (i_high : Nat → Int) (i_heaps : Nat → Int) (i_rained : Nat → Int) (H : Heap) (locs : List Loc) (ls : Array Slot), f_HM_rain_177 i_row x3 i_thrown i_status i_state i_wet i_refusals i_high i_heaps i_rained = some out → va_P (dC, dI) vwCl (wd_HM_rain cA q0 q1 q2 q3 q4 q5 q6 q7 q8 q9 q10 q11 q12 q13 q14 q15 q16 q17 q18 q19 q20 q21 q22 q23 q24 q25 q26 q27 q28 q29 q30 q31 u0 u1 u2 u3 u4 u5 u6 u7 u8 u9 u10 u11 u12 u13 u14 u15 u16 u17 i_row i_thrown i_status i_state i_wet i_refusals i_high i_heaps i_rained) H → va_D A (wd_HM_rain cA q0 q1 q2 q3 q4 q5 q6 q7 q8 q9 q10 q11 q12 q13 q14 q15 q16 q17 q18 q19 q20 q21 q22 q23 q24 q25 q26 q27 q28 q29 q30 q31 u0 u1 u2 u3 u4 u5 u6 u7 u8 u9 u10 u11 u12 u13 u14 u15 u16 u17 i_row i_thrown i_status i_state i_wet i_refusals i_high i_heaps i_rained) → va_S A s.heap H locs → lv_has ls 6 [(0, .ref q0), (3, .int (Int32.ofInt x3))] → W p l e rm_HM_rain s m args below meth c H locs 0 0 Q (F0 m 177 ls []) := by
    intro x3 i_thrown i_status i_state i_wet i_refusals i_high i_heaps i_rained H locs ls hf hP hD hS hl
    unfold f_HM_rain_177 at hf
    refine lv_iconst (v := Int32.ofInt 0) hx hb (zdt zkX11_rain 177 rfl) rfl ?_
    refine lv_istore (lv' := [(4, .int (Int32.ofInt 0)), (0, .ref q0), (3, .int (Int32.ofInt x3))]) hx hb (zdt zkX11_rain 178 rfl) hl (by decide) rfl (fun ls hl => ?_)
    exact l_180  _ _ _ _ _ _ _ _ _ _ _ _ _ _ hf hP hD hS (lv_sub hl [1, 2, 0] rfl)
  have b_166 : ∀ (k58 : Int → Int → Int → Int → Int → Int → Int → (Nat → Int) → (Nat → Int) → (Nat → Int) → (Nat → Int) → Option (Int × Int × Int × Int × Int × (Nat → Int) × (Nat → Int) × (Nat → Int) × (Nat → Int))) (_ : ∀ (x2 : Int) (x3 : Int) (x4 : Int) (i_thrown : Int) (i_status : Int) (i_state : Int) (i_wet : Int) (i_refusals : Nat → Int) (i_high : Nat → Int) (i_heaps : Nat → Int) (i_rained : Nat → Int) (H : Heap) (locs : List Loc) (ls : Array Slot), k58 x2 x3 x4 i_thrown i_status i_state i_wet i_refusals i_high i_heaps i_rained = some out → va_P (dC, dI) vwCl (wd_HM_rain cA q0 q1 q2 q3 q4 q5 q6 q7 q8 q9 q10 q11 q12 q13 q14 q15 q16 q17 q18 q19 q20 q21 q22 q23 q24 q25 q26 q27 q28 q29 q30 q31 u0 u1 u2 u3 u4 u5 u6 u7 u8 u9 u10 u11 u12 u13 u14 u15 u16 u17 i_row i_thrown i_status i_state i_wet i_refusals i_high i_heaps i_rained) H → va_D A (wd_HM_rain cA q0 q1 q2 q3 q4 q5 q6 q7 q8 q9 q10 q11 q12 q13 q14 q15 q16 q17 q18 q19 q20 q21 q22 q23 q24 q25 q26 q27 q28 q29 q30 q31 u0 u1 u2 u3 u4 u5 u6 u7 u8 u9 u10 u11 u12 u13 u14 u15 u16 u17 i_row i_thrown i_status i_state i_wet i_refusals i_high i_heaps i_rained) → va_S A s.heap H locs → lv_has ls 6 [(0, .ref q0), (2, .int (Int32.ofInt x2)), (3, .int (Int32.ofInt x3)), (4, .int (Int32.ofInt x4))] → W p l e rm_HM_rain s m args below meth c H locs 0 0 Q (F0 m 58 ls [])), ∀ (x2 : Int) (x3 : Int) (x4 : Int) (i_thrown : Int) (i_status : Int) (i_state : Int) (i_wet : Int) (i_refusals : Nat → Int) (i_high : Nat → Int) (i_heaps : Nat → Int) (i_rained : Nat → Int) (H : Heap) (locs : List Loc) (ls : Array Slot), f_HM_rain_166 i_row k58 x2 x3 x4 i_thrown i_status i_state i_wet i_refusals i_high i_heaps i_rained = some out → va_P (dC, dI) vwCl (wd_HM_rain cA q0 q1 q2 q3 q4 q5 q6 q7 q8 q9 q10 q11 q12 q13 q14 q15 q16 q17 q18 q19 q20 q21 q22 q23 q24 q25 q26 q27 q28 q29 q30 q31 u0 u1 u2 u3 u4 u5 u6 u7 u8 u9 u10 u11 u12 u13 u14 u15 u16 u17 i_row i_thrown i_status i_state i_wet i_refusals i_high i_heaps i_rained) H → va_D A (wd_HM_rain cA q0 q1 q2 q3 q4 q5 q6 q7 q8 q9 q10 q11 q12 q13 q14 q15 q16 q17 q18 q19 q20 q21 q22 q23 q24 q25 q26 q27 q28 q29 q30 q31 u0 u1 u2 u3 u4 u5 u6 u7 u8 u9 u10 u11 u12 u13 u14 u15 u16 u17 i_row i_thrown i_status i_state i_wet i_refusals i_high i_heaps i_rained) → va_S A s.heap H locs → lv_has ls 6 [(0, .ref q0), (2, .int (Int32.ofInt x2)), (3, .int (Int32.ofInt x3)), (4, .int (Int32.ofInt x4))] → W p l e rm_HM_rain s m args below meth c H locs 0 0 Q (F0 m 166 ls []) := by
    intro k58 ih58 x2 x3 x4 i_thrown i_status i_state i_wet i_refusals i_high i_heaps i_rained H locs ls hf hP hD hS hl
    unfold f_HM_rain_166 at hf
    refine lv_aload_n hx hb (zdt zkX11_rain 166 rfl) rfl (lv_at hl 0 rfl) ?_
    refine xe_d3 hf (fun v1 a2 a3 hg hf => ?_)
    have hC : ([0, 2, 3, 4] : List Nat).map (fun i => (wd_HM_rain cA q0 q1 q2 q3 q4 q5 q6 q7 q8 q9 q10 q11 q12 q13 q14 q15 q16 q17 q18 q19 q20 q21 q22 q23 q24 q25 q26 q27 q28 q29 q30 q31 u0 u1 u2 u3 u4 u5 u6 u7 u8 u9 u10 u11 u12 u13 u14 u15 u16 u17 i_row i_thrown i_status i_state i_wet i_refusals i_high i_heaps i_rained)[i]?) = (wd_HM_slideAll cA q0 q1 q2 q3 q4 q5 q6 q7 q8 q9 q10 q11 q12 q13 q14 q15 q16 q17 q18 q19 q20 q21 q22 q23 q24 q25 q26 q27 q28 q29 q30 q31 i_thrown i_status u0 u1 u2 u3 u4 u5 u6 u7 u8 u9 u10 u11 u12 u13 u14 u15 u16 u17 i_state i_wet i_row i_high i_heaps).map some := rfl
    refine xv_afterI (ws' := (wd_HM_rain cA q0 q1 q2 q3 q4 q5 q6 q7 q8 q9 q10 q11 q12 q13 q14 q15 q16 q17 q18 q19 q20 q21 q22 q23 q24 q25 q26 q27 q28 q29 q30 q31 u0 u1 u2 u3 u4 u5 u6 u7 u8 u9 u10 u11 u12 u13 u14 u15 u16 u17 i_row i_thrown i_status i_state i_wet i_refusals a2 a3 i_rained)) (isC := [0, 2, 3, 4]) (ps := [some 0, none, some 1, some 2, some 3, none]) (va_runV (As := []) (rest := []) ⟨hx, hb, hml, hown, hts⟩ (c_HM_slideAll l ev dC dI cA q0 q1 q2 q3 q4 q5 q6 q7 q8 q9 q10 q11 q12 q13 q14 q15 q16 q17 q18 q19 q20 q21 q22 q23 q24 q25 q26 q27 q28 q29 q30 q31 i_thrown i_status u0 u1 u2 u3 u4 u5 u6 u7 u8 u9 u10 u11 u12 u13 u14 u15 u16 u17 i_state i_wet hg H.size) (cwV 0 hts (zgV zw_1618 zw_1620 zw_77 zw_115 zw_1621) rfl rfl rfl hd_HM_slideAll ⟨Nat.le_of_ble_eq_true rfl, Nat.le_of_ble_eq_true rfl⟩) (xv_preV (T := TX11) (N := 53) hE hA hS hK hP hD (isC := [0, 2, 3, 4]) (by decide +kernel) hC (q0 := 0) (ci := 11) rfl rfl) rfl rfl hl.1 rfl (lv_room (Nat.le_of_ble_eq_true rfl)) (zdt zkX11_rain 167 rfl) ⟨Nat.le_refl _, Nat.le_refl _⟩) hP hD hS hA (by decide +kernel) rfl hC rfl rfl (fun H locs hP hD hS => ?_)
    refine lv_pop hx hb (zdt zkX11_rain 170 rfl) rfl ?_
    refine xi_iinc hx hb (zdt zkX11_rain 171 rfl) hl (k := 3) rfl (by decide) hf (fun v4 ls hl hf => ?_)
    have hl : lv_has ls 6 [(4, .int (Int32.ofInt v4)), (0, .ref q0), (2, .int (Int32.ofInt x2)), (3, .int (Int32.ofInt x3))] := hl
    refine lv_goto (tgt := 58) hx hb (zdt zkX11_rain 174 rfl) (by decide) ?_
    exact ih58 _ _ _ _ _ _ _ _ _ _ _ _ _ _ hf hP hD hS (lv_sub hl [1, 2, 3, 0] rfl)
  have b_152 : ∀ (k58 : Int → Int → Int → Int → Int → Int → Int → (Nat → Int) → (Nat → Int) → (Nat → Int) → (Nat → Int) → Option (Int × Int × Int × Int × Int × (Nat → Int) × (Nat → Int) × (Nat → Int) × (Nat → Int))) (_ : ∀ (x2 : Int) (x3 : Int) (x4 : Int) (i_thrown : Int) (i_status : Int) (i_state : Int) (i_wet : Int) (i_refusals : Nat → Int) (i_high : Nat → Int) (i_heaps : Nat → Int) (i_rained : Nat → Int) (H : Heap) (locs : List Loc) (ls : Array Slot), k58 x2 x3 x4 i_thrown i_status i_state i_wet i_refusals i_high i_heaps i_rained = some out → va_P (dC, dI) vwCl (wd_HM_rain cA q0 q1 q2 q3 q4 q5 q6 q7 q8 q9 q10 q11 q12 q13 q14 q15 q16 q17 q18 q19 q20 q21 q22 q23 q24 q25 q26 q27 q28 q29 q30 q31 u0 u1 u2 u3 u4 u5 u6 u7 u8 u9 u10 u11 u12 u13 u14 u15 u16 u17 i_row i_thrown i_status i_state i_wet i_refusals i_high i_heaps i_rained) H → va_D A (wd_HM_rain cA q0 q1 q2 q3 q4 q5 q6 q7 q8 q9 q10 q11 q12 q13 q14 q15 q16 q17 q18 q19 q20 q21 q22 q23 q24 q25 q26 q27 q28 q29 q30 q31 u0 u1 u2 u3 u4 u5 u6 u7 u8 u9 u10 u11 u12 u13 u14 u15 u16 u17 i_row i_thrown i_status i_state i_wet i_refusals i_high i_heaps i_rained) → va_S A s.heap H locs → lv_has ls 6 [(0, .ref q0), (2, .int (Int32.ofInt x2)), (3, .int (Int32.ofInt x3)), (4, .int (Int32.ofInt x4))] → W p l e rm_HM_rain s m args below meth c H locs 0 0 Q (F0 m 58 ls [])), ∀ (x2 : Int) (x3 : Int) (x4 : Int) (x5 : Int) (i_thrown : Int) (i_status : Int) (i_state : Int) (i_wet : Int) (i_refusals : Nat → Int) (i_high : Nat → Int) (i_heaps : Nat → Int) (i_rained : Nat → Int) (H : Heap) (locs : List Loc) (ls : Array Slot), f_HM_rain_152 i_row k58 x2 x3 x4 x5 i_thrown i_status i_state i_wet i_refusals i_high i_heaps i_rained = some out → va_P (dC, dI) vwCl (wd_HM_rain cA q0 q1 q2 q3 q4 q5 q6 q7 q8 q9 q10 q11 q12 q13 q14 q15 q16 q17 q18 q19 q20 q21 q22 q23 q24 q25 q26 q27 q28 q29 q30 q31 u0 u1 u2 u3 u4 u5 u6 u7 u8 u9 u10 u11 u12 u13 u14 u15 u16 u17 i_row i_thrown i_status i_state i_wet i_refusals i_high i_heaps i_rained) H → va_D A (wd_HM_rain cA q0 q1 q2 q3 q4 q5 q6 q7 q8 q9 q10 q11 q12 q13 q14 q15 q16 q17 q18 q19 q20 q21 q22 q23 q24 q25 q26 q27 q28 q29 q30 q31 u0 u1 u2 u3 u4 u5 u6 u7 u8 u9 u10 u11 u12 u13 u14 u15 u16 u17 i_row i_thrown i_status i_state i_wet i_refusals i_high i_heaps i_rained) → va_S A s.heap H locs → lv_has ls 6 [(0, .ref q0), (2, .int (Int32.ofInt x2)), (3, .int (Int32.ofInt x3)), (4, .int (Int32.ofInt x4)), (5, .int (Int32.ofInt x5))] → W p l e rm_HM_rain s m args below meth c H locs 0 0 Q (F0 m 152 ls []) := by
    intro k58 ih58 x2 x3 x4 x5 i_thrown i_status i_state i_wet i_refusals i_high i_heaps i_rained H locs ls hf hP hD hS hl
    unfold f_HM_rain_152 at hf
    refine lv_aload_n hx hb (zdt zkX11_rain 152 rfl) rfl (lv_at hl 0 rfl) ?_
    refine va_get (D := (dC, dI)) (ci := 11) (v := .ref q14) (C := RX11) (T := TX11) (N := 53) hx hb hz zi_X11 hown hK hP 0 rfl rfl 32 (by decide) (hz _ zw_1197) (fun _ h9 => h9) rfl (zdt zkX11_rain 153 rfl) ?_
    refine lv_iload hx hb (zdt zkX11_rain 156 rfl) (lv_at hl 4 rfl) ?_
    refine lv_dup2_11 hx hb (zdt zkX11_rain 158 rfl) rfl rfl ?_
    refine xi_iald hx hb hK hP 3 0 rfl rfl (zdt zkX11_rain 159 rfl) hf (fun v1 hf => ?_)
    refine lv_iconst (v := Int32.ofInt 1) hx hb (zdt zkX11_rain 160 rfl) rfl ?_
    refine xi_isub hx hb (zdt zkX11_rain 161 rfl) hf (fun v2 hf => ?_)
    refine xi_iast hx hb hK hP hD hS 3 0 rfl rfl (zdt zkX11_rain 162 rfl) hf (fun a3 H locs hP hD hS hf => ?_)
    refine xw_PD (wd_HM_rain cA q0 q1 q2 q3 q4 q5 q6 q7 q8 q9 q10 q11 q12 q13 q14 q15 q16 q17 q18 q19 q20 q21 q22 q23 q24 q25 q26 q27 q28 q29 q30 q31 u0 u1 u2 u3 u4 u5 u6 u7 u8 u9 u10 u11 u12 u13 u14 u15 u16 u17 i_row i_thrown i_status i_state i_wet i_refusals a3 i_heaps i_rained) hP hD (fun hP hD => ?_)
    refine xi_iinc hx hb (zdt zkX11_rain 163 rfl) hl (k := 2) rfl (by decide) hf (fun v4 ls hl hf => ?_)
    have hl : lv_has ls 6 [(3, .int (Int32.ofInt v4)), (0, .ref q0), (2, .int (Int32.ofInt x2)), (4, .int (Int32.ofInt x4)), (5, .int (Int32.ofInt x5))] := hl
    exact b_166 _ ih58 _ _ _ _ _ _ _ _ _ _ _ _ _ _ hf hP hD hS (lv_sub hl [1, 2, 0, 3] rfl)
  have b_58 : ∀ (k58 : Int → Int → Int → Int → Int → Int → Int → (Nat → Int) → (Nat → Int) → (Nat → Int) → (Nat → Int) → Option (Int × Int × Int × Int × Int × (Nat → Int) × (Nat → Int) × (Nat → Int) × (Nat → Int))) (_ : ∀ (x2 : Int) (x3 : Int) (x4 : Int) (i_thrown : Int) (i_status : Int) (i_state : Int) (i_wet : Int) (i_refusals : Nat → Int) (i_high : Nat → Int) (i_heaps : Nat → Int) (i_rained : Nat → Int) (H : Heap) (locs : List Loc) (ls : Array Slot), k58 x2 x3 x4 i_thrown i_status i_state i_wet i_refusals i_high i_heaps i_rained = some out → va_P (dC, dI) vwCl (wd_HM_rain cA q0 q1 q2 q3 q4 q5 q6 q7 q8 q9 q10 q11 q12 q13 q14 q15 q16 q17 q18 q19 q20 q21 q22 q23 q24 q25 q26 q27 q28 q29 q30 q31 u0 u1 u2 u3 u4 u5 u6 u7 u8 u9 u10 u11 u12 u13 u14 u15 u16 u17 i_row i_thrown i_status i_state i_wet i_refusals i_high i_heaps i_rained) H → va_D A (wd_HM_rain cA q0 q1 q2 q3 q4 q5 q6 q7 q8 q9 q10 q11 q12 q13 q14 q15 q16 q17 q18 q19 q20 q21 q22 q23 q24 q25 q26 q27 q28 q29 q30 q31 u0 u1 u2 u3 u4 u5 u6 u7 u8 u9 u10 u11 u12 u13 u14 u15 u16 u17 i_row i_thrown i_status i_state i_wet i_refusals i_high i_heaps i_rained) → va_S A s.heap H locs → lv_has ls 6 [(0, .ref q0), (2, .int (Int32.ofInt x2)), (3, .int (Int32.ofInt x3)), (4, .int (Int32.ofInt x4))] → W p l e rm_HM_rain s m args below meth c H locs 0 0 Q (F0 m 58 ls [])), ∀ (x2 : Int) (x3 : Int) (x4 : Int) (i_thrown : Int) (i_status : Int) (i_state : Int) (i_wet : Int) (i_refusals : Nat → Int) (i_high : Nat → Int) (i_heaps : Nat → Int) (i_rained : Nat → Int) (H : Heap) (locs : List Loc) (ls : Array Slot), f_HM_rain_58_b i_row k58 x2 x3 x4 i_thrown i_status i_state i_wet i_refusals i_high i_heaps i_rained = some out → va_P (dC, dI) vwCl (wd_HM_rain cA q0 q1 q2 q3 q4 q5 q6 q7 q8 q9 q10 q11 q12 q13 q14 q15 q16 q17 q18 q19 q20 q21 q22 q23 q24 q25 q26 q27 q28 q29 q30 q31 u0 u1 u2 u3 u4 u5 u6 u7 u8 u9 u10 u11 u12 u13 u14 u15 u16 u17 i_row i_thrown i_status i_state i_wet i_refusals i_high i_heaps i_rained) H → va_D A (wd_HM_rain cA q0 q1 q2 q3 q4 q5 q6 q7 q8 q9 q10 q11 q12 q13 q14 q15 q16 q17 q18 q19 q20 q21 q22 q23 q24 q25 q26 q27 q28 q29 q30 q31 u0 u1 u2 u3 u4 u5 u6 u7 u8 u9 u10 u11 u12 u13 u14 u15 u16 u17 i_row i_thrown i_status i_state i_wet i_refusals i_high i_heaps i_rained) → va_S A s.heap H locs → lv_has ls 6 [(0, .ref q0), (2, .int (Int32.ofInt x2)), (3, .int (Int32.ofInt x3)), (4, .int (Int32.ofInt x4))] → W p l e rm_HM_rain s m args below meth c H locs 0 0 Q (F0 m 58 ls []) := by
    intro k58 ih58 x2 x3 x4 i_thrown i_status i_state i_wet i_refusals i_high i_heaps i_rained H locs ls hf hP hD hS hl
    unfold f_HM_rain_58_b at hf
    refine lv_iload hx hb (zdt zkX11_rain 58 rfl) (lv_at hl 3 rfl) ?_
    refine lv_iload_n hx hb (zdt zkX11_rain 60 rfl) rfl (lv_at hl 1 rfl) ?_
    refine xi_icmp_ge (tgt := 177) hx hb (zdt zkX11_rain 61 rfl) (by decide) hf (fun hf => ?_) (fun hf => ?_)
    · exact b_177  _ _ _ _ _ _ _ _ _ _ _ _ hf hP hD hS (lv_sub hl [0, 2] rfl)
    · refine lv_aload_n hx hb (zdt zkX11_rain 64 rfl) rfl (lv_at hl 0 rfl) ?_
      refine va_get (D := (dC, dI)) (ci := 11) (v := .int (Int32.ofInt i_wet)) (C := RX11) (T := TX11) (N := 53) hx hb hz zi_X11 hown hK hP 0 rfl rfl 52 (by decide) (hz _ zw_1217) (fun _ h9 => h9) rfl (zdt zkX11_rain 65 rfl) ?_
      refine xi_if_le (tgt := 177) hx hb (zdt zkX11_rain 68 rfl) (by decide) hf (fun hf => ?_) (fun hf => ?_)
      · exact b_177  _ _ _ _ _ _ _ _ _ _ _ _ hf hP hD hS (lv_sub hl [0, 2] rfl)
      · refine lv_aload_n hx hb (zdt zkX11_rain 71 rfl) rfl (lv_at hl 0 rfl) ?_
        refine lv_aload_n hx hb (zdt zkX11_rain 72 rfl) rfl (lv_at hl 0 rfl) ?_
        refine va_get (D := (dC, dI)) (ci := 11) (v := .long (Int64.ofInt i_state)) (C := RX11) (T := TX11) (N := 53) hx hb hz zi_X11 hown hK hP 0 rfl rfl 50 (by decide) (hz _ zw_1215) (fun _ h9 => h9) rfl (zdt zkX11_rain 73 rfl) ?_
        refine lv_ldc2 (v := Int64.ofInt 1103) hx hb hown (hz _ zw_1771) (zdt zkX11_rain 76 rfl) ?_
        refine xl_lmul hx hb (zdt zkX11_rain 79 rfl) hf (fun v1 hf => ?_)
        refine lv_ldc2 (v := Int64.ofInt 12345) hx hb hown (hz _ zw_1772) (zdt zkX11_rain 80 rfl) ?_
        refine xl_ladd hx hb (zdt zkX11_rain 83 rfl) hf (fun v2 hf => ?_)
        refine lv_ldc2 (v := Int64.ofInt 1000003) hx hb hown (hz _ zw_1773) (zdt zkX11_rain 84 rfl) ?_
        refine xl_lrem hx hb (zdt zkX11_rain 87 rfl) hf (fun v3 hf => ?_)
        refine va_put (D := (dC, dI)) (ci := 11) (v := .long (Int64.ofInt v3)) (ty := .long) (C := RX11) (T := TX11) (N := 53) hx hb hz zi_X11 tyX11 tyX11_ok nmX11 hown hK hP hD hS 0 rfl rfl 50 (by decide) (hz _ zw_1215) (fun _ h9 => h9) rfl (by decide +kernel) rfl rfl (Nat.le_of_ble_eq_true rfl) (zdt zkX11_rain 88 rfl) (fun H locs hP hD hS => ?_)
        refine xw_PD (wd_HM_rain cA q0 q1 q2 q3 q4 q5 q6 q7 q8 q9 q10 q11 q12 q13 q14 q15 q16 q17 q18 q19 q20 q21 q22 q23 q24 q25 q26 q27 q28 q29 q30 q31 u0 u1 u2 u3 u4 u5 u6 u7 u8 u9 u10 u11 u12 u13 u14 u15 u16 u17 i_row i_thrown i_status v3 i_wet i_refusals i_high i_heaps i_rained) hP hD (fun hP hD => ?_)
        refine lv_aload_n hx hb (zdt zkX11_rain 91 rfl) rfl (lv_at hl 0 rfl) ?_
        refine va_get (D := (dC, dI)) (ci := 11) (v := .long (Int64.ofInt v3)) (C := RX11) (T := TX11) (N := 53) hx hb hz zi_X11 hown hK hP 0 rfl rfl 50 (by decide) (hz _ zw_1215) (fun _ h9 => h9) rfl (zdt zkX11_rain 92 rfl) ?_
        refine lv_aload_n hx hb (zdt zkX11_rain 95 rfl) rfl (lv_at hl 0 rfl) ?_
        refine va_get (D := (dC, dI)) (ci := 11) (v := .int (Int32.ofInt i_wet)) (C := RX11) (T := TX11) (N := 53) hx hb hz zi_X11 hown hK hP 0 rfl rfl 52 (by decide) (hz _ zw_1217) (fun _ h9 => h9) rfl (zdt zkX11_rain 96 rfl) ?_
        refine xi_i2l hx hb (zdt zkX11_rain 99 rfl) hf (fun v4 hf => ?_)
        refine xl_lrem hx hb (zdt zkX11_rain 100 rfl) hf (fun v5 hf => ?_)
        refine xl_l2i hx hb (zdt zkX11_rain 101 rfl) ?_
        refine lv_istore (lv' := [(5, .int (Int32.ofInt v5)), (0, .ref q0), (2, .int (Int32.ofInt x2)), (3, .int (Int32.ofInt x3)), (4, .int (Int32.ofInt x4))]) hx hb (zdt zkX11_rain 102 rfl) hl (by decide) rfl (fun ls hl => ?_)
        refine lv_aload_n hx hb (zdt zkX11_rain 104 rfl) rfl (lv_at hl 1 rfl) ?_
        refine va_get (D := (dC, dI)) (ci := 11) (v := .ref q14) (C := RX11) (T := TX11) (N := 53) hx hb hz zi_X11 hown hK hP 0 rfl rfl 32 (by decide) (hz _ zw_1197) (fun _ h9 => h9) rfl (zdt zkX11_rain 105 rfl) ?_
        refine lv_iload hx hb (zdt zkX11_rain 108 rfl) (lv_at hl 0 rfl) ?_
        refine xi_iald hx hb hK hP 3 0 rfl rfl (zdt zkX11_rain 110 rfl) hf (fun v6 hf => ?_)
        refine xi_if_le (tgt := 166) hx hb (zdt zkX11_rain 111 rfl) (by decide) hf (fun hf => ?_) (fun hf => ?_)
        · exact b_166 _ ih58 _ _ _ _ _ _ _ _ _ _ _ _ _ _ hf hP hD hS (lv_sub hl [1, 2, 3, 4] rfl)
        · refine lv_iload hx hb (zdt zkX11_rain 114 rfl) (lv_at hl 0 rfl) ?_
          refine lv_iconst (v := Int32.ofInt 1) hx hb (zdt zkX11_rain 116 rfl) rfl ?_
          refine xi_iadd hx hb (zdt zkX11_rain 117 rfl) hf (fun v7 hf => ?_)
          refine lv_aload_n hx hb (zdt zkX11_rain 118 rfl) rfl (lv_at hl 1 rfl) ?_
          refine va_get (D := (dC, dI)) (ci := 11) (v := .int (Int32.ofInt i_wet)) (C := RX11) (T := TX11) (N := 53) hx hb hz zi_X11 hown hK hP 0 rfl rfl 52 (by decide) (hz _ zw_1217) (fun _ h9 => h9) rfl (zdt zkX11_rain 119 rfl) ?_
          refine xi_icmp_ge (tgt := 152) hx hb (zdt zkX11_rain 122 rfl) (by decide) hf (fun hf => ?_) (fun hf => ?_)
          · exact b_152 _ ih58 _ _ _ _ _ _ _ _ _ _ _ _ _ _ _ hf hP hD hS (lv_sub hl [1, 2, 3, 4, 0] rfl)
          · refine lv_aload_n hx hb (zdt zkX11_rain 125 rfl) rfl (lv_at hl 1 rfl) ?_
            refine va_get (D := (dC, dI)) (ci := 11) (v := .ref q14) (C := RX11) (T := TX11) (N := 53) hx hb hz zi_X11 hown hK hP 0 rfl rfl 32 (by decide) (hz _ zw_1197) (fun _ h9 => h9) rfl (zdt zkX11_rain 126 rfl) ?_
            refine lv_iload hx hb (zdt zkX11_rain 129 rfl) (lv_at hl 0 rfl) ?_
            refine lv_iconst (v := Int32.ofInt 1) hx hb (zdt zkX11_rain 131 rfl) rfl ?_
            refine xi_iadd hx hb (zdt zkX11_rain 132 rfl) hf (fun v8 hf => ?_)
            refine xi_iald hx hb hK hP 3 0 rfl rfl (zdt zkX11_rain 133 rfl) hf (fun v9 hf => ?_)
            refine lv_bipush (v := Int32.ofInt 10) hx hb (zdt zkX11_rain 134 rfl) (by decide) ?_
            refine xi_icmp_ge (tgt := 152) hx hb (zdt zkX11_rain 136 rfl) (by decide) hf (fun hf => ?_) (fun hf => ?_)
            · exact b_152 _ ih58 _ _ _ _ _ _ _ _ _ _ _ _ _ _ _ hf hP hD hS (lv_sub hl [1, 2, 3, 4, 0] rfl)
            · refine lv_aload_n hx hb (zdt zkX11_rain 139 rfl) rfl (lv_at hl 1 rfl) ?_
              refine lv_iload hx hb (zdt zkX11_rain 140 rfl) (lv_at hl 0 rfl) ?_
              refine lv_iload hx hb (zdt zkX11_rain 142 rfl) (lv_at hl 0 rfl) ?_
              refine lv_iconst (v := Int32.ofInt 1) hx hb (zdt zkX11_rain 144 rfl) rfl ?_
              refine xi_iadd hx hb (zdt zkX11_rain 145 rfl) hf (fun v10 hf => ?_)
              refine xe_d2 hf (fun a11 a12 hg hf => ?_)
              have hC : ([0, 3, 4] : List Nat).map (fun i => (wd_HM_rain cA q0 q1 q2 q3 q4 q5 q6 q7 q8 q9 q10 q11 q12 q13 q14 q15 q16 q17 q18 q19 q20 q21 q22 q23 q24 q25 q26 q27 q28 q29 q30 q31 u0 u1 u2 u3 u4 u5 u6 u7 u8 u9 u10 u11 u12 u13 u14 u15 u16 u17 i_row i_thrown i_status v3 i_wet i_refusals i_high i_heaps i_rained)[i]?) = (wd_HM_shift cA q0 q1 q2 q3 q4 q5 q6 q7 q8 q9 q10 q11 q12 q13 q14 q15 q16 q17 q18 q19 q20 q21 q22 q23 q24 q25 q26 q27 q28 q29 q30 q31 i_thrown i_status u0 u1 u2 u3 u4 u5 u6 u7 u8 u9 u10 u11 u12 u13 u14 u15 u16 u17 v3 i_wet i_high i_heaps).map some := rfl
              refine xv_afterV (ws' := (wd_HM_rain cA q0 q1 q2 q3 q4 q5 q6 q7 q8 q9 q10 q11 q12 q13 q14 q15 q16 q17 q18 q19 q20 q21 q22 q23 q24 q25 q26 q27 q28 q29 q30 q31 u0 u1 u2 u3 u4 u5 u6 u7 u8 u9 u10 u11 u12 u13 u14 u15 u16 u17 i_row i_thrown i_status v3 i_wet i_refusals a11 a12 i_rained)) (isC := [0, 3, 4]) (ps := [some 0, none, none, some 1, some 2, none]) (va_runV (As := [.int (Int32.ofInt v5), .int (Int32.ofInt v10)]) (rest := []) ⟨hx, hb, hml, hown, hts⟩ (c_HM_shift l ev dC dI cA q0 q1 q2 q3 q4 q5 q6 q7 q8 q9 q10 q11 q12 q13 q14 q15 q16 q17 q18 q19 q20 q21 q22 q23 q24 q25 q26 q27 q28 q29 q30 q31 i_thrown i_status u0 u1 u2 u3 u4 u5 u6 u7 u8 u9 u10 u11 u12 u13 u14 u15 u16 u17 v3 i_wet hg H.size) (cwV 2 hts (zgV zw_1590 zw_1592 zw_73 zw_115 zw_1593) rfl rfl rfl hd_HM_shift ⟨Nat.le_of_ble_eq_true rfl, Nat.le_of_ble_eq_true rfl⟩) (xv_preV (T := TX11) (N := 53) hE hA hS hK hP hD (isC := [0, 3, 4]) (by decide +kernel) hC (q0 := 0) (ci := 11) rfl rfl) rfl rfl hl.1 rfl (lv_room (Nat.le_of_ble_eq_true rfl)) (zdt zkX11_rain 146 rfl) ⟨Nat.le_refl _, Nat.le_refl _⟩) hP hD hS hA (by decide +kernel) rfl hC rfl rfl (fun H locs hP hD hS => ?_)
              refine lv_goto (tgt := 166) hx hb (zdt zkX11_rain 149 rfl) (by decide) ?_
              exact b_166 _ ih58 _ _ _ _ _ _ _ _ _ _ _ _ _ _ hf hP hD hS (lv_sub hl [1, 2, 3, 4] rfl)
  have l_58 : ∀ (n : Nat), ∀ (x2 : Int) (x3 : Int) (x4 : Int) (i_thrown : Int) (i_status : Int) (i_state : Int) (i_wet : Int) (i_refusals : Nat → Int) (i_high : Nat → Int) (i_heaps : Nat → Int) (i_rained : Nat → Int) (H : Heap) (locs : List Loc) (ls : Array Slot), f_HM_rain_58 i_row n x2 x3 x4 i_thrown i_status i_state i_wet i_refusals i_high i_heaps i_rained = some out → va_P (dC, dI) vwCl (wd_HM_rain cA q0 q1 q2 q3 q4 q5 q6 q7 q8 q9 q10 q11 q12 q13 q14 q15 q16 q17 q18 q19 q20 q21 q22 q23 q24 q25 q26 q27 q28 q29 q30 q31 u0 u1 u2 u3 u4 u5 u6 u7 u8 u9 u10 u11 u12 u13 u14 u15 u16 u17 i_row i_thrown i_status i_state i_wet i_refusals i_high i_heaps i_rained) H → va_D A (wd_HM_rain cA q0 q1 q2 q3 q4 q5 q6 q7 q8 q9 q10 q11 q12 q13 q14 q15 q16 q17 q18 q19 q20 q21 q22 q23 q24 q25 q26 q27 q28 q29 q30 q31 u0 u1 u2 u3 u4 u5 u6 u7 u8 u9 u10 u11 u12 u13 u14 u15 u16 u17 i_row i_thrown i_status i_state i_wet i_refusals i_high i_heaps i_rained) → va_S A s.heap H locs → lv_has ls 6 [(0, .ref q0), (2, .int (Int32.ofInt x2)), (3, .int (Int32.ofInt x3)), (4, .int (Int32.ofInt x4))] → W p l e rm_HM_rain s m args below meth c H locs 0 0 Q (F0 m 58 ls []) := by
    intro n
    induction n with
    | zero => intro x2 x3 x4 i_thrown i_status i_state i_wet i_refusals i_high i_heaps i_rained H locs ls hf hP hD hS hl; exact nomatch hf
    | succ n ih => intro x2 x3 x4 i_thrown i_status i_state i_wet i_refusals i_high i_heaps i_rained H locs ls hf hP hD hS hl; exact b_58 (f_HM_rain_58 i_row n) ih x2 x3 x4 i_thrown i_status i_state i_wet i_refusals i_high i_heaps i_rained H locs ls hf hP hD hS hl
  unfold f_HM_rain at hf
  refine lv_aload_n hx hb (zdt zkX11_rain 0 rfl) rfl (lv_at hl 0 rfl) ?_
  refine lv_iconst (v := Int32.ofInt 0) hx hb (zdt zkX11_rain 1 rfl) rfl ?_
  refine va_put (D := (dC, dI)) (ci := 11) (v := .int (Int32.ofInt 0)) (ty := .int) (C := RX11) (T := TX11) (N := 53) hx hb hz zi_X11 tyX11 tyX11_ok nmX11 hown hK hP hD hS 0 rfl rfl 0 (by decide) (hz _ zw_1165) (fun _ h9 => h9) rfl (by decide +kernel) rfl rfl (Nat.le_of_ble_eq_true rfl) (zdt zkX11_rain 2 rfl) (fun H locs hP hD hS => ?_)
  refine xw_PD (wd_HM_rain cA q0 q1 q2 q3 q4 q5 q6 q7 q8 q9 q10 q11 q12 q13 q14 q15 q16 q17 q18 q19 q20 q21 q22 q23 q24 q25 q26 q27 q28 q29 q30 q31 u0 u1 u2 u3 u4 u5 u6 u7 u8 u9 u10 u11 u12 u13 u14 u15 u16 u17 i_row 0 i_status i_state i_wet i_refusals i_high i_heaps i_rained) hP hD (fun hP hD => ?_)
  refine lv_iload_n hx hb (zdt zkX11_rain 5 rfl) rfl (lv_at hl 1 rfl) ?_
  refine xi_i2l hx hb (zdt zkX11_rain 6 rfl) hf (fun v1 hf => ?_)
  refine lv_lconst (v := Int64.ofInt 0) hx hb (zdt zkX11_rain 7 rfl) (by decide) ?_
  refine lv_ldc2 (v := Int64.ofInt 1000000) hx hb hown (hz _ zw_1452) (zdt zkX11_rain 8 rfl) ?_
  refine xe_d1 hf (fun v2 hg hf => ?_)
  have hC : ([] : List Nat).map (fun i => (wd_HM_rain cA q0 q1 q2 q3 q4 q5 q6 q7 q8 q9 q10 q11 q12 q13 q14 q15 q16 q17 q18 q19 q20 q21 q22 q23 q24 q25 q26 q27 q28 q29 q30 q31 u0 u1 u2 u3 u4 u5 u6 u7 u8 u9 u10 u11 u12 u13 u14 u15 u16 u17 i_row 0 i_status i_state i_wet i_refusals i_high i_heaps i_rained)[i]?) = (wd_HM_in cA).map some := rfl
  refine xv_afterI (ws' := (wd_HM_rain cA q0 q1 q2 q3 q4 q5 q6 q7 q8 q9 q10 q11 q12 q13 q14 q15 q16 q17 q18 q19 q20 q21 q22 q23 q24 q25 q26 q27 q28 q29 q30 q31 u0 u1 u2 u3 u4 u5 u6 u7 u8 u9 u10 u11 u12 u13 u14 u15 u16 u17 i_row 0 i_status i_state i_wet i_refusals i_high i_heaps i_rained)) (isC := []) (ps := [none, none, none, none, none, none]) (va_runS (As := [.long (Int64.ofInt v1), .long (Int64.ofInt 0), .long (Int64.ofInt 1000000)]) (rest := []) ⟨hx, hb, hml, hown, hts⟩ (c_HM_in l ev dC dI cA hg H.size) (va_cwS 3 hts (zgS zw_1329 zw_1330 zw_115 zw_1331) rfl rfl rfl hd_HM_in.2 ⟨Nat.le_of_ble_eq_true rfl, Nat.le_of_ble_eq_true rfl⟩) (xv_preS hE hA hS hK hP hD (isC := []) (by decide +kernel) hC) rfl rfl hl.1 rfl (lv_room (Nat.le_of_ble_eq_true rfl)) (zdt zkX11_rain 11 rfl) ⟨Nat.le_refl _, Nat.le_refl _⟩) hP hD hS hA (by decide +kernel) rfl hC rfl rfl (fun H locs hP hD hS => ?_)
  refine xi_if_eq (tgt := 29) hx hb (zdt zkX11_rain 14 rfl) (by decide) hf (fun hf => ?_) (fun hf => ?_)
  · exact b_29  _ _ _ _ _ _ _ _ _ _ _ hf hP hD hS (lv_sub hl [0] rfl)
  · refine lv_iload_n hx hb (zdt zkX11_rain 17 rfl) rfl (lv_at hl 2 rfl) ?_
    refine xi_i2l hx hb (zdt zkX11_rain 18 rfl) hf (fun v3 hf => ?_)
    refine lv_lconst (v := Int64.ofInt 1) hx hb (zdt zkX11_rain 19 rfl) (by decide) ?_
    refine lv_ldc2 (v := Int64.ofInt 40) hx hb hown (hz _ zw_1770) (zdt zkX11_rain 20 rfl) ?_
    refine xe_d1 hf (fun v4 hg hf => ?_)
    have hC : ([] : List Nat).map (fun i => (wd_HM_rain cA q0 q1 q2 q3 q4 q5 q6 q7 q8 q9 q10 q11 q12 q13 q14 q15 q16 q17 q18 q19 q20 q21 q22 q23 q24 q25 q26 q27 q28 q29 q30 q31 u0 u1 u2 u3 u4 u5 u6 u7 u8 u9 u10 u11 u12 u13 u14 u15 u16 u17 i_row 0 i_status i_state i_wet i_refusals i_high i_heaps i_rained)[i]?) = (wd_HM_in cA).map some := rfl
    refine xv_afterI (ws' := (wd_HM_rain cA q0 q1 q2 q3 q4 q5 q6 q7 q8 q9 q10 q11 q12 q13 q14 q15 q16 q17 q18 q19 q20 q21 q22 q23 q24 q25 q26 q27 q28 q29 q30 q31 u0 u1 u2 u3 u4 u5 u6 u7 u8 u9 u10 u11 u12 u13 u14 u15 u16 u17 i_row 0 i_status i_state i_wet i_refusals i_high i_heaps i_rained)) (isC := []) (ps := [none, none, none, none, none, none]) (va_runS (As := [.long (Int64.ofInt v3), .long (Int64.ofInt 1), .long (Int64.ofInt 40)]) (rest := []) ⟨hx, hb, hml, hown, hts⟩ (c_HM_in l ev dC dI cA hg H.size) (va_cwS 3 hts (zgS zw_1329 zw_1330 zw_115 zw_1331) rfl rfl rfl hd_HM_in.2 ⟨Nat.le_of_ble_eq_true rfl, Nat.le_of_ble_eq_true rfl⟩) (xv_preS hE hA hS hK hP hD (isC := []) (by decide +kernel) hC) rfl rfl hl.1 rfl (lv_room (Nat.le_of_ble_eq_true rfl)) (zdt zkX11_rain 23 rfl) ⟨Nat.le_refl _, Nat.le_refl _⟩) hP hD hS hA (by decide +kernel) rfl hC rfl rfl (fun H locs hP hD hS => ?_)
    refine xi_if_ne (tgt := 35) hx hb (zdt zkX11_rain 26 rfl) (by decide) hf (fun hf => ?_) (fun hf => ?_)
    · refine lv_aload_n hx hb (zdt zkX11_rain 35 rfl) rfl (lv_at hl 0 rfl) ?_
      refine xe_d2 hf (fun a5 a6 hg hf => ?_)
      have hC : ([0, 2, 3, 4] : List Nat).map (fun i => (wd_HM_rain cA q0 q1 q2 q3 q4 q5 q6 q7 q8 q9 q10 q11 q12 q13 q14 q15 q16 q17 q18 q19 q20 q21 q22 q23 q24 q25 q26 q27 q28 q29 q30 q31 u0 u1 u2 u3 u4 u5 u6 u7 u8 u9 u10 u11 u12 u13 u14 u15 u16 u17 i_row 0 i_status i_state i_wet i_refusals i_high i_heaps i_rained)[i]?) = (wd_HM_load cA q0 q1 q2 q3 q4 q5 q6 q7 q8 q9 q10 q11 q12 q13 q14 q15 q16 q17 q18 q19 q20 q21 q22 q23 q24 q25 q26 q27 q28 q29 q30 q31 0 i_status u0 u1 u2 u3 u4 u5 u6 u7 u8 u9 u10 u11 u12 u13 u14 u15 u16 u17 i_state i_wet i_row i_high i_heaps).map some := rfl
      refine xv_afterV (ws' := (wd_HM_rain cA q0 q1 q2 q3 q4 q5 q6 q7 q8 q9 q10 q11 q12 q13 q14 q15 q16 q17 q18 q19 q20 q21 q22 q23 q24 q25 q26 q27 q28 q29 q30 q31 u0 u1 u2 u3 u4 u5 u6 u7 u8 u9 u10 u11 u12 u13 u14 u15 u16 u17 i_row 0 i_status i_state i_wet i_refusals a5 a6 i_rained)) (isC := [0, 2, 3, 4]) (ps := [some 0, none, some 1, some 2, some 3, none]) (va_runV (As := []) (rest := []) ⟨hx, hb, hml, hown, hts⟩ (c_HM_load l ev dC dI cA q0 q1 q2 q3 q4 q5 q6 q7 q8 q9 q10 q11 q12 q13 q14 q15 q16 q17 q18 q19 q20 q21 q22 q23 q24 q25 q26 q27 q28 q29 q30 q31 0 i_status u0 u1 u2 u3 u4 u5 u6 u7 u8 u9 u10 u11 u12 u13 u14 u15 u16 u17 i_state i_wet hg H.size) (cwV 0 hts (zgV zw_1549 zw_1551 zw_66 zw_115 zw_1552) rfl rfl rfl hd_HM_load ⟨Nat.le_of_ble_eq_true rfl, Nat.le_of_ble_eq_true rfl⟩) (xv_preV (T := TX11) (N := 53) hE hA hS hK hP hD (isC := [0, 2, 3, 4]) (by decide +kernel) hC (q0 := 0) (ci := 11) rfl rfl) rfl rfl hl.1 rfl (lv_room (Nat.le_of_ble_eq_true rfl)) (zdt zkX11_rain 36 rfl) ⟨Nat.le_refl _, Nat.le_refl _⟩) hP hD hS hA (by decide +kernel) rfl hC rfl rfl (fun H locs hP hD hS => ?_)
      refine lv_aload_n hx hb (zdt zkX11_rain 39 rfl) rfl (lv_at hl 0 rfl) ?_
      refine lv_iload_n hx hb (zdt zkX11_rain 40 rfl) rfl (lv_at hl 1 rfl) ?_
      refine xi_i2l hx hb (zdt zkX11_rain 41 rfl) hf (fun v7 hf => ?_)
      refine va_put (D := (dC, dI)) (ci := 11) (v := .long (Int64.ofInt v7)) (ty := .long) (C := RX11) (T := TX11) (N := 53) hx hb hz zi_X11 tyX11 tyX11_ok nmX11 hown hK hP hD hS 0 rfl rfl 50 (by decide) (hz _ zw_1215) (fun _ h9 => h9) rfl (by decide +kernel) rfl rfl (Nat.le_of_ble_eq_true rfl) (zdt zkX11_rain 42 rfl) (fun H locs hP hD hS => ?_)
      refine xw_PD (wd_HM_rain cA q0 q1 q2 q3 q4 q5 q6 q7 q8 q9 q10 q11 q12 q13 q14 q15 q16 q17 q18 q19 q20 q21 q22 q23 q24 q25 q26 q27 q28 q29 q30 q31 u0 u1 u2 u3 u4 u5 u6 u7 u8 u9 u10 u11 u12 u13 u14 u15 u16 u17 i_row 0 i_status v7 i_wet i_refusals a5 a6 i_rained) hP hD (fun hP hD => ?_)
      refine lv_aload_n hx hb (zdt zkX11_rain 45 rfl) rfl (lv_at hl 0 rfl) ?_
      refine lv_aload_n hx hb (zdt zkX11_rain 46 rfl) rfl (lv_at hl 0 rfl) ?_
      refine xe_d1 hf (fun v8 hg hf => ?_)
      have hC : ([0, 2] : List Nat).map (fun i => (wd_HM_rain cA q0 q1 q2 q3 q4 q5 q6 q7 q8 q9 q10 q11 q12 q13 q14 q15 q16 q17 q18 q19 q20 q21 q22 q23 q24 q25 q26 q27 q28 q29 q30 q31 u0 u1 u2 u3 u4 u5 u6 u7 u8 u9 u10 u11 u12 u13 u14 u15 u16 u17 i_row 0 i_status v7 i_wet i_refusals a5 a6 i_rained)[i]?) = (wd_HM_columns cA q0 q1 q2 q3 q4 q5 q6 q7 q8 q9 q10 q11 q12 q13 q14 q15 q16 q17 q18 q19 q20 q21 q22 q23 q24 q25 q26 q27 q28 q29 q30 q31 0 i_status u0 u1 u2 u3 u4 u5 u6 u7 u8 u9 u10 u11 u12 u13 u14 u15 u16 u17 v7 i_wet i_row).map some := rfl
      refine xv_afterI (ws' := (wd_HM_rain cA q0 q1 q2 q3 q4 q5 q6 q7 q8 q9 q10 q11 q12 q13 q14 q15 q16 q17 q18 q19 q20 q21 q22 q23 q24 q25 q26 q27 q28 q29 q30 q31 u0 u1 u2 u3 u4 u5 u6 u7 u8 u9 u10 u11 u12 u13 u14 u15 u16 u17 i_row 0 i_status v7 i_wet i_refusals a5 a6 i_rained)) (isC := [0, 2]) (ps := [some 0, none, some 1, none, none, none]) (va_runV (As := []) (rest := [.ref q0]) ⟨hx, hb, hml, hown, hts⟩ (c_HM_columns l ev dC dI cA q0 q1 q2 q3 q4 q5 q6 q7 q8 q9 q10 q11 q12 q13 q14 q15 q16 q17 q18 q19 q20 q21 q22 q23 q24 q25 q26 q27 q28 q29 q30 q31 0 i_status u0 u1 u2 u3 u4 u5 u6 u7 u8 u9 u10 u11 u12 u13 u14 u15 u16 u17 v7 i_wet hg H.size) (cwV 0 hts (zgV zw_1344 zw_1346 zw_41 zw_115 zw_1347) rfl rfl rfl hd_HM_columns ⟨Nat.le_of_ble_eq_true rfl, Nat.le_of_ble_eq_true rfl⟩) (xv_preV (T := TX11) (N := 53) hE hA hS hK hP hD (isC := [0, 2]) (by decide +kernel) hC (q0 := 0) (ci := 11) rfl rfl) rfl rfl hl.1 rfl (lv_room (Nat.le_of_ble_eq_true rfl)) (zdt zkX11_rain 47 rfl) ⟨Nat.le_refl _, Nat.le_refl _⟩) hP hD hS hA (by decide +kernel) rfl hC rfl rfl (fun H locs hP hD hS => ?_)
      refine va_put (D := (dC, dI)) (ci := 11) (v := .int (Int32.ofInt v8)) (ty := .int) (C := RX11) (T := TX11) (N := 53) hx hb hz zi_X11 tyX11 tyX11_ok nmX11 hown hK hP hD hS 0 rfl rfl 52 (by decide) (hz _ zw_1217) (fun _ h9 => h9) rfl (by decide +kernel) rfl rfl (Nat.le_of_ble_eq_true rfl) (zdt zkX11_rain 50 rfl) (fun H locs hP hD hS => ?_)
      refine xw_PD (wd_HM_rain cA q0 q1 q2 q3 q4 q5 q6 q7 q8 q9 q10 q11 q12 q13 q14 q15 q16 q17 q18 q19 q20 q21 q22 q23 q24 q25 q26 q27 q28 q29 q30 q31 u0 u1 u2 u3 u4 u5 u6 u7 u8 u9 u10 u11 u12 u13 u14 u15 u16 u17 i_row 0 i_status v7 v8 i_refusals a5 a6 i_rained) hP hD (fun hP hD => ?_)
      refine lv_iconst (v := Int32.ofInt 0) hx hb (zdt zkX11_rain 53 rfl) rfl ?_
      refine lv_istore_n (lv' := [(3, .int (Int32.ofInt 0)), (0, .ref q0), (1, .int (Int32.ofInt x1)), (2, .int (Int32.ofInt x2))]) hx hb (zdt zkX11_rain 54 rfl) rfl hl (by decide) rfl (fun ls hl => ?_)
      refine lv_iconst (v := Int32.ofInt 0) hx hb (zdt zkX11_rain 55 rfl) rfl ?_
      refine lv_istore (lv' := [(4, .int (Int32.ofInt 0)), (3, .int (Int32.ofInt 0)), (0, .ref q0), (1, .int (Int32.ofInt x1)), (2, .int (Int32.ofInt x2))]) hx hb (zdt zkX11_rain 56 rfl) hl (by decide) rfl (fun ls hl => ?_)
      exact l_58  _ _ _ _ _ _ _ _ _ _ _ _ _ _ _ hf hP hD hS (lv_sub hl [2, 4, 1, 0] rfl)
    · exact b_29  _ _ _ _ _ _ _ _ _ _ _ hf hP hD hS (lv_sub hl [0] rfl)
set_option maxRecDepth 100000 in
noncomputable def ztX11_rained (p : Nat) : Option (Jvm.ClassFile.Instr × Nat) := bif Nat.ble 23 p then (bif Nat.ble 36 p then (bif Nat.ble 40 p then (bif Nat.ble 44 p then (bif Nat.ble 45 p then (bif Nat.beq p 45 then some (.ireturn, 1) else none) else (bif Nat.beq p 44 then some (.iconst (-1), 1) else none)) else (bif Nat.ble 41 p then (bif Nat.beq p 41 then some (.goto 4, 3) else none) else (bif Nat.beq p 40 then some (.iaload, 1) else none))) else (bif Nat.ble 38 p then (bif Nat.ble 39 p then (bif Nat.beq p 39 then some (.iadd, 1) else none) else (bif Nat.beq p 38 then some (.iload_n 2, 1) else none)) else (bif Nat.ble 37 p then (bif Nat.beq p 37 then some (.imul, 1) else none) else (bif Nat.beq p 36 then some (.iload_n 1, 1) else none)))) else (bif Nat.ble 28 p then (bif Nat.ble 32 p then (bif Nat.ble 35 p then (bif Nat.beq p 35 then some (.iconst 2, 1) else none) else (bif Nat.beq p 32 then some (.getfield 123, 3) else none)) else (bif Nat.ble 31 p then (bif Nat.beq p 31 then some (.aload_n 0, 1) else none) else (bif Nat.beq p 28 then some (.ifCond .eq 16, 3) else none))) else (bif Nat.ble 24 p then (bif Nat.ble 25 p then (bif Nat.beq p 25 then some (.invokestatic 132, 3) else none) else (bif Nat.beq p 24 then some (.lconst 1, 1) else none)) else (bif Nat.beq p 23 then some (.lconst 0, 1) else none)))) else (bif Nat.ble 9 p then (bif Nat.ble 15 p then (bif Nat.ble 21 p then (bif Nat.ble 22 p then (bif Nat.beq p 22 then some (.i2l, 1) else none) else (bif Nat.beq p 21 then some (.iload_n 2, 1) else none)) else (bif Nat.ble 18 p then (bif Nat.beq p 18 then some (.ifCond .eq 26, 3) else none) else (bif Nat.beq p 15 then some (.invokestatic 132, 3) else none))) else (bif Nat.ble 13 p then (bif Nat.ble 14 p then (bif Nat.beq p 14 then some (.lsub, 1) else none) else (bif Nat.beq p 13 then some (.lconst 1, 1) else none)) else (bif Nat.ble 12 p then (bif Nat.beq p 12 then some (.i2l, 1) else none) else (bif Nat.beq p 9 then some (.getfield 480, 3) else none)))) else (bif Nat.ble 5 p then (bif Nat.ble 7 p then (bif Nat.ble 8 p then (bif Nat.beq p 8 then some (.aload_n 0, 1) else none) else (bif Nat.beq p 7 then some (.lconst 0, 1) else none)) else (bif Nat.ble 6 p then (bif Nat.beq p 6 then some (.i2l, 1) else none) else (bif Nat.beq p 5 then some (.iload_n 1, 1) else none))) else (bif Nat.ble 1 p then (bif Nat.ble 2 p then (bif Nat.beq p 2 then some (.putfield 126, 3) else none) else (bif Nat.beq p 1 then some (.iconst 0, 1) else none)) else (bif Nat.beq p 0 then some (.aload_n 0, 1) else none))))
set_option maxRecDepth 100000 in
theorem zkX11_rained : (zbig cX11_rained.data.toList = 403967815661107510232880894557021386388410804765849814344788349725151049766588011103944292871312317797297881898 ∧ cX11_rained.data.toList.length = 46) ∧ zdk cX11_rained 403967815661107510232880894557021386388410804765849814344788349725151049766588011103944292871312317797297881898 46 ztX11_rained 45 = true := by decide +kernel
theorem zw_1777 : (Jvm.Cond.code ({ cls := "HillSchoolModel", name := "rained", desc := "(II)I" } : Jvm.MethodName) prog_13_method_110_code (3 : Nat) (Option.some Jvm.ClassFile.FieldType.int)) ∈ zall := zmemG (zmj_7 234 rfl) rfl
noncomputable abbrev w_HM_rained : List Cond := .code yX11_rained cX11_rained 3 (some .int) :: zall
noncomputable abbrev rm_HM_rained : Room := { frames := 1, cells := 0, slots := 0, locals := 25 }
theorem hd_HM_rained : yX11_rained.cls = "HillSchoolModel" ∧ yX11_rained.cls ≠ "java/lang/invoke/MethodHandle" ∧ yX11_rained.cls ≠ "java/lang/invoke/VarHandle" ∧ (parseMethodDescriptor yX11_rained.desc).map (fun d => d.parameters.length) = some 2 := by decide +kernel
noncomputable def wd_HM_rained (cA : Nat → ClassId) (q0 q1 q2 q3 q4 q5 q6 q7 q8 q9 q10 q11 q12 q13 q14 q15 q16 q17 q18 q19 q20 q21 q22 q23 q24 q25 q26 q27 q28 q29 q30 q31 : Nat) (u0 u1 u2 u3 u4 u5 u6 u7 u8 u9 u10 u11 u12 u13 u14 u15 u16 u17 u18 u19 : Int) (i_wet : Int) (i_rained : Nat → Int) (i_thrown : Int) : va_W := [(q0, .inr (11, [.int (Int32.ofInt i_thrown), .int (Int32.ofInt u0), .ref q1, .ref q2, .ref q3, .ref q4, .int (Int32.ofInt u1), .ref q5, .int (Int32.ofInt u2), .int (Int32.ofInt u3), .int (Int32.ofInt u4), .int (Int32.ofInt u5), .long (Int64.ofInt u6), .int (Int32.ofInt u7), .int (Int32.ofInt u8), .int (Int32.ofInt u9), .ref q6, .int (Int32.ofInt u10), .ref q7, .ref q8, .int (Int32.ofInt u11), .ref q9, .ref q10, .int (Int32.ofInt u12), .int (Int32.ofInt u13), .ref q11, .int (Int32.ofInt u14), .ref q12, .ref q13, .int (Int32.ofInt u15), .long (Int64.ofInt u16), .long (Int64.ofInt u17), .ref q14, .ref q15, .ref q16, .ref q17, .ref q18, .int (Int32.ofInt u18), .ref q19, .ref q20, .ref q21, .ref q22, .ref q23, .ref q24, .ref q25, .ref q26, .ref q27, .ref q28, .ref q29, .ref q30, .long (Int64.ofInt u19), .ref q31, .int (Int32.ofInt i_wet)])), (q31, .inl (cA 0, 24, .inl (za i_rained)))]
noncomputable def wf_HM_rained (cA : Nat → ClassId) (q0 q1 q2 q3 q4 q5 q6 q7 q8 q9 q10 q11 q12 q13 q14 q15 q16 q17 q18 q19 q20 q21 q22 q23 q24 q25 q26 q27 q28 q29 q30 q31 : Nat) (u0 u1 u2 u3 u4 u5 u6 u7 u8 u9 u10 u11 u12 u13 u14 u15 u16 u17 u18 u19 : Int) (i_wet : Int) (i_rained : Nat → Int) (o : Int × Int) : va_W := wd_HM_rained cA q0 q1 q2 q3 q4 q5 q6 q7 q8 q9 q10 q11 q12 q13 q14 q15 q16 q17 q18 q19 q20 q21 q22 q23 q24 q25 q26 q27 q28 q29 q30 q31 u0 u1 u2 u3 u4 u5 u6 u7 u8 u9 u10 u11 u12 u13 u14 u15 u16 u17 u18 u19 i_wet i_rained o.2
noncomputable def f_HM_rained (x1 : Int) (x2 : Int) (i_wet : Int) (i_rained : Nat → Int) (i_thrown : Int) : Option (Int × Int) :=
  zn (zi_w x1) fun v1 =>
  zn (zi_w i_wet) fun v2 =>
  zn (v2 - 1) fun v3 =>
  zd1 (f_HM_in v1 0 v3) fun v4 =>
  if zi_w v4 = 0 then
    some ((-1), 0)
  else
    zn (zi_w x2) fun v5 =>
    zd1 (f_HM_in v5 0 1) fun v6 =>
    if zi_w v6 = 0 then
      some ((-1), 0)
    else
      zn (2 * x1) fun v7 =>
      zn (v7 + x2) fun v8 =>
      zg 24 i_rained v8 fun v9 =>
      some (v9, 0)
set_option maxHeartbeats 4000000 in
set_option maxRecDepth 100000 in
theorem c_HM_rained (l : Launch) (ev : zEv) (dC : Nat → ClassId) (dI : Nat → Nat → Nat) (cA : Nat → ClassId) (q0 q1 q2 q3 q4 q5 q6 q7 q8 q9 q10 q11 q12 q13 q14 q15 q16 q17 q18 q19 q20 q21 q22 q23 q24 q25 q26 q27 q28 q29 q30 q31 : Nat) (u0 u1 u2 u3 u4 u5 u6 u7 u8 u9 u10 u11 u12 u13 u14 u15 u16 u17 u18 u19 : Int) {x1 x2 : Int} {i_wet : Int} {i_rained : Nat → Int} {i_thrown : Int} {out : Int × Int} (hf : f_HM_rained x1 x2 i_wet i_rained i_thrown = some out) : xc_I l ev (dC, dI) vwCl (tyl cA) yX11_rained w_HM_rained rm_HM_rained [.ref q0, .int (Int32.ofInt x1), .int (Int32.ofInt x2)] (wd_HM_rained cA q0 q1 q2 q3 q4 q5 q6 q7 q8 q9 q10 q11 q12 q13 q14 q15 q16 q17 q18 q19 q20 q21 q22 q23 q24 q25 q26 q27 q28 q29 q30 q31 u0 u1 u2 u3 u4 u5 u6 u7 u8 u9 u10 u11 u12 u13 u14 u15 u16 u17 u18 u19 i_wet i_rained i_thrown) (wf_HM_rained cA q0 q1 q2 q3 q4 q5 q6 q7 q8 q9 q10 q11 q12 q13 q14 q15 q16 q17 q18 q19 q20 q21 q22 q23 q24 q25 q26 q27 q28 q29 q30 q31 u0 u1 u2 u3 u4 u5 u6 u7 u8 u9 u10 u11 u12 u13 u14 u15 u16 u17 u18 u19 i_wet i_rained out) out.1 := by
  refine xv_startI (cc := cX11_rained) (maxL := 3) (rt := .int) (by decide +kernel) rfl (Nat.le_of_ble_eq_true rfl) ?_
  intro p e s m args below meth c A Q H ls hx hb hml hts hown hK hA hP hD hS hl hE hret
  have hown : s.vm.findClass "HillSchoolModel" = some m.cls := hown
  have hz : ∀ w ∈ zall, w.before args s = true := fun w h => hts w (List.mem_cons_of_mem _ h)
  have hl : lv_has ls 3 [(0, .ref q0), (1, .int (Int32.ofInt x1)), (2, .int (Int32.ofInt x2))] := hl
  unfold f_HM_rained at hf
  refine lv_aload_n hx hb (zdt zkX11_rained 0 rfl) rfl (lv_at hl 0 rfl) ?_
  refine lv_iconst (v := Int32.ofInt 0) hx hb (zdt zkX11_rained 1 rfl) rfl ?_
  refine va_put (D := (dC, dI)) (ci := 11) (v := .int (Int32.ofInt 0)) (ty := .int) (C := RX11) (T := TX11) (N := 53) hx hb hz zi_X11 tyX11 tyX11_ok nmX11 hown hK hP hD hS 0 rfl rfl 0 (by decide) (hz _ zw_1165) (fun _ h9 => h9) rfl (by decide +kernel) rfl rfl (Nat.le_of_ble_eq_true rfl) (zdt zkX11_rained 2 rfl) (fun H locs hP hD hS => ?_)
  refine xw_PD (wd_HM_rained cA q0 q1 q2 q3 q4 q5 q6 q7 q8 q9 q10 q11 q12 q13 q14 q15 q16 q17 q18 q19 q20 q21 q22 q23 q24 q25 q26 q27 q28 q29 q30 q31 u0 u1 u2 u3 u4 u5 u6 u7 u8 u9 u10 u11 u12 u13 u14 u15 u16 u17 u18 u19 i_wet i_rained 0) hP hD (fun hP hD => ?_)
  refine lv_iload_n hx hb (zdt zkX11_rained 5 rfl) rfl (lv_at hl 1 rfl) ?_
  refine xi_i2l hx hb (zdt zkX11_rained 6 rfl) hf (fun v1 hf => ?_)
  refine lv_lconst (v := Int64.ofInt 0) hx hb (zdt zkX11_rained 7 rfl) (by decide) ?_
  refine lv_aload_n hx hb (zdt zkX11_rained 8 rfl) rfl (lv_at hl 0 rfl) ?_
  refine va_get (D := (dC, dI)) (ci := 11) (v := .int (Int32.ofInt i_wet)) (C := RX11) (T := TX11) (N := 53) hx hb hz zi_X11 hown hK hP 0 rfl rfl 52 (by decide) (hz _ zw_1217) (fun _ h9 => h9) rfl (zdt zkX11_rained 9 rfl) ?_
  refine xi_i2l hx hb (zdt zkX11_rained 12 rfl) hf (fun v2 hf => ?_)
  refine lv_lconst (v := Int64.ofInt 1) hx hb (zdt zkX11_rained 13 rfl) (by decide) ?_
  refine xl_lsub hx hb (zdt zkX11_rained 14 rfl) hf (fun v3 hf => ?_)
  refine xe_d1 hf (fun v4 hg hf => ?_)
  have hC : ([] : List Nat).map (fun i => (wd_HM_rained cA q0 q1 q2 q3 q4 q5 q6 q7 q8 q9 q10 q11 q12 q13 q14 q15 q16 q17 q18 q19 q20 q21 q22 q23 q24 q25 q26 q27 q28 q29 q30 q31 u0 u1 u2 u3 u4 u5 u6 u7 u8 u9 u10 u11 u12 u13 u14 u15 u16 u17 u18 u19 i_wet i_rained 0)[i]?) = (wd_HM_in cA).map some := rfl
  refine xv_afterI (ws' := (wd_HM_rained cA q0 q1 q2 q3 q4 q5 q6 q7 q8 q9 q10 q11 q12 q13 q14 q15 q16 q17 q18 q19 q20 q21 q22 q23 q24 q25 q26 q27 q28 q29 q30 q31 u0 u1 u2 u3 u4 u5 u6 u7 u8 u9 u10 u11 u12 u13 u14 u15 u16 u17 u18 u19 i_wet i_rained 0)) (isC := []) (ps := [none, none]) (va_runS (As := [.long (Int64.ofInt v1), .long (Int64.ofInt 0), .long (Int64.ofInt v3)]) (rest := []) ⟨hx, hb, hml, hown, hts⟩ (c_HM_in l ev dC dI cA hg H.size) (va_cwS 3 hts (zgS zw_1329 zw_1330 zw_115 zw_1331) rfl rfl rfl hd_HM_in.2 ⟨Nat.le_of_ble_eq_true rfl, Nat.le_of_ble_eq_true rfl⟩) (xv_preS hE hA hS hK hP hD (isC := []) (by decide +kernel) hC) rfl rfl hl.1 rfl (lv_room (Nat.le_of_ble_eq_true rfl)) (zdt zkX11_rained 15 rfl) ⟨Nat.le_refl _, Nat.le_refl _⟩) hP hD hS hA (by decide +kernel) rfl hC rfl rfl (fun H locs hP hD hS => ?_)
  refine xi_if_eq (tgt := 44) hx hb (zdt zkX11_rained 18 rfl) (by decide) hf (fun hf => ?_) (fun hf => ?_)
  · refine lv_iconst (v := Int32.ofInt (-1)) hx hb (zdt zkX11_rained 44 rfl) rfl ?_
    obtain rfl := Option.some.inj hf
    exact hret _ _ _ _ rfl (zdt zkX11_rained 45 rfl) hP hD hS
  · refine lv_iload_n hx hb (zdt zkX11_rained 21 rfl) rfl (lv_at hl 2 rfl) ?_
    refine xi_i2l hx hb (zdt zkX11_rained 22 rfl) hf (fun v5 hf => ?_)
    refine lv_lconst (v := Int64.ofInt 0) hx hb (zdt zkX11_rained 23 rfl) (by decide) ?_
    refine lv_lconst (v := Int64.ofInt 1) hx hb (zdt zkX11_rained 24 rfl) (by decide) ?_
    refine xe_d1 hf (fun v6 hg hf => ?_)
    have hC : ([] : List Nat).map (fun i => (wd_HM_rained cA q0 q1 q2 q3 q4 q5 q6 q7 q8 q9 q10 q11 q12 q13 q14 q15 q16 q17 q18 q19 q20 q21 q22 q23 q24 q25 q26 q27 q28 q29 q30 q31 u0 u1 u2 u3 u4 u5 u6 u7 u8 u9 u10 u11 u12 u13 u14 u15 u16 u17 u18 u19 i_wet i_rained 0)[i]?) = (wd_HM_in cA).map some := rfl
    refine xv_afterI (ws' := (wd_HM_rained cA q0 q1 q2 q3 q4 q5 q6 q7 q8 q9 q10 q11 q12 q13 q14 q15 q16 q17 q18 q19 q20 q21 q22 q23 q24 q25 q26 q27 q28 q29 q30 q31 u0 u1 u2 u3 u4 u5 u6 u7 u8 u9 u10 u11 u12 u13 u14 u15 u16 u17 u18 u19 i_wet i_rained 0)) (isC := []) (ps := [none, none]) (va_runS (As := [.long (Int64.ofInt v5), .long (Int64.ofInt 0), .long (Int64.ofInt 1)]) (rest := []) ⟨hx, hb, hml, hown, hts⟩ (c_HM_in l ev dC dI cA hg H.size) (va_cwS 3 hts (zgS zw_1329 zw_1330 zw_115 zw_1331) rfl rfl rfl hd_HM_in.2 ⟨Nat.le_of_ble_eq_true rfl, Nat.le_of_ble_eq_true rfl⟩) (xv_preS hE hA hS hK hP hD (isC := []) (by decide +kernel) hC) rfl rfl hl.1 rfl (lv_room (Nat.le_of_ble_eq_true rfl)) (zdt zkX11_rained 25 rfl) ⟨Nat.le_refl _, Nat.le_refl _⟩) hP hD hS hA (by decide +kernel) rfl hC rfl rfl (fun H locs hP hD hS => ?_)
    refine xi_if_eq (tgt := 44) hx hb (zdt zkX11_rained 28 rfl) (by decide) hf (fun hf => ?_) (fun hf => ?_)
    · refine lv_iconst (v := Int32.ofInt (-1)) hx hb (zdt zkX11_rained 44 rfl) rfl ?_
      obtain rfl := Option.some.inj hf
      exact hret _ _ _ _ rfl (zdt zkX11_rained 45 rfl) hP hD hS
    · refine lv_aload_n hx hb (zdt zkX11_rained 31 rfl) rfl (lv_at hl 0 rfl) ?_
      refine va_get (D := (dC, dI)) (ci := 11) (v := .ref q31) (C := RX11) (T := TX11) (N := 53) hx hb hz zi_X11 hown hK hP 0 rfl rfl 51 (by decide) (hz _ zw_1216) (fun _ h9 => h9) rfl (zdt zkX11_rained 32 rfl) ?_
      refine lv_iconst (v := Int32.ofInt 2) hx hb (zdt zkX11_rained 35 rfl) rfl ?_
      refine lv_iload_n hx hb (zdt zkX11_rained 36 rfl) rfl (lv_at hl 1 rfl) ?_
      refine xi_imul hx hb (zdt zkX11_rained 37 rfl) hf (fun v7 hf => ?_)
      refine lv_iload_n hx hb (zdt zkX11_rained 38 rfl) rfl (lv_at hl 2 rfl) ?_
      refine xi_iadd hx hb (zdt zkX11_rained 39 rfl) hf (fun v8 hf => ?_)
      refine xi_iald hx hb hK hP 1 0 rfl rfl (zdt zkX11_rained 40 rfl) hf (fun v9 hf => ?_)
      refine lv_goto (tgt := 45) hx hb (zdt zkX11_rained 41 rfl) (by decide) ?_
      obtain rfl := Option.some.inj hf
      exact hret _ _ _ _ rfl (zdt zkX11_rained 45 rfl) hP hD hS
set_option maxRecDepth 100000 in
noncomputable def ztX11_count (p : Nat) : Option (Jvm.ClassFile.Instr × Nat) := bif Nat.ble 117 p then (bif Nat.ble 145 p then (bif Nat.ble 162 p then (bif Nat.ble 170 p then (bif Nat.ble 172 p then (bif Nat.ble 175 p then (bif Nat.ble 176 p then (bif Nat.beq p 176 then some (.ireturn, 1) else none) else (bif Nat.beq p 175 then some (.iconst (-1), 1) else none)) else (bif Nat.beq p 172 then some (.goto 4, 3) else none)) else (bif Nat.ble 171 p then (bif Nat.beq p 171 then some (.iaload, 1) else none) else (bif Nat.beq p 170 then some (.isub, 1) else none))) else (bif Nat.ble 166 p then (bif Nat.ble 167 p then (bif Nat.ble 168 p then (bif Nat.beq p 168 then some (.bipush 12, 2) else none) else (bif Nat.beq p 167 then some (.iadd, 1) else none)) else (bif Nat.beq p 166 then some (.iload_n 1, 1) else none)) else (bif Nat.ble 165 p then (bif Nat.beq p 165 then some (.iconst 5, 1) else none) else (bif Nat.beq p 162 then some (.getfield 13, 3) else none)))) else (bif Nat.ble 149 p then (bif Nat.ble 155 p then (bif Nat.ble 158 p then (bif Nat.ble 161 p then (bif Nat.beq p 161 then some (.aload_n 0, 1) else none) else (bif Nat.beq p 158 then some (.ifCond .eq 17, 3) else none)) else (bif Nat.beq p 155 then some (.invokestatic 132, 3) else none)) else (bif Nat.ble 152 p then (bif Nat.beq p 152 then some (.ldc2_w 491, 3) else none) else (bif Nat.beq p 149 then some (.ldc2_w 489, 3) else none))) else (bif Nat.ble 147 p then (bif Nat.ble 148 p then (bif Nat.beq p 148 then some (.i2l, 1) else none) else (bif Nat.beq p 147 then some (.iload_n 1, 1) else none)) else (bif Nat.ble 146 p then (bif Nat.beq p 146 then some (.ireturn, 1) else none) else (bif Nat.beq p 145 then some (.iaload, 1) else none))))) else (bif Nat.ble 130 p then (bif Nat.ble 138 p then (bif Nat.ble 140 p then (bif Nat.ble 141 p then (bif Nat.ble 144 p then (bif Nat.beq p 144 then some (.iconst 4, 1) else none) else (bif Nat.beq p 141 then some (.getfield 13, 3) else none)) else (bif Nat.beq p 140 then some (.aload_n 0, 1) else none)) else (bif Nat.ble 139 p then (bif Nat.beq p 139 then some (.ireturn, 1) else none) else (bif Nat.beq p 138 then some (.iaload, 1) else none))) else (bif Nat.ble 132 p then (bif Nat.ble 133 p then (bif Nat.ble 136 p then (bif Nat.beq p 136 then some (.bipush 6, 2) else none) else (bif Nat.beq p 133 then some (.getfield 7, 3) else none)) else (bif Nat.beq p 132 then some (.aload_n 0, 1) else none)) else (bif Nat.ble 131 p then (bif Nat.beq p 131 then some (.ireturn, 1) else none) else (bif Nat.beq p 130 then some (.iaload, 1) else none)))) else (bif Nat.ble 123 p then (bif Nat.ble 125 p then (bif Nat.ble 126 p then (bif Nat.ble 129 p then (bif Nat.beq p 129 then some (.iconst 5, 1) else none) else (bif Nat.beq p 126 then some (.getfield 7, 3) else none)) else (bif Nat.beq p 125 then some (.aload_n 0, 1) else none)) else (bif Nat.ble 124 p then (bif Nat.beq p 124 then some (.ireturn, 1) else none) else (bif Nat.beq p 123 then some (.iaload, 1) else none))) else (bif Nat.ble 119 p then (bif Nat.ble 122 p then (bif Nat.beq p 122 then some (.iconst 3, 1) else none) else (bif Nat.beq p 119 then some (.getfield 7, 3) else none)) else (bif Nat.ble 118 p then (bif Nat.beq p 118 then some (.aload_n 0, 1) else none) else (bif Nat.beq p 117 then some (.ireturn, 1) else none)))))) else (bif Nat.ble 90 p then (bif Nat.ble 103 p then (bif Nat.ble 110 p then (bif Nat.ble 112 p then (bif Nat.ble 115 p then (bif Nat.ble 116 p then (bif Nat.beq p 116 then some (.iaload, 1) else none) else (bif Nat.beq p 115 then some (.iconst 2, 1) else none)) else (bif Nat.beq p 112 then some (.getfield 7, 3) else none)) else (bif Nat.ble 111 p then (bif Nat.beq p 111 then some (.aload_n 0, 1) else none) else (bif Nat.beq p 110 then some (.ireturn, 1) else none))) else (bif Nat.ble 105 p then (bif Nat.ble 108 p then (bif Nat.ble 109 p then (bif Nat.beq p 109 then some (.iaload, 1) else none) else (bif Nat.beq p 108 then some (.iconst 1, 1) else none)) else (bif Nat.beq p 105 then some (.getfield 7, 3) else none)) else (bif Nat.ble 104 p then (bif Nat.beq p 104 then some (.aload_n 0, 1) else none) else (bif Nat.beq p 103 then some (.ireturn, 1) else none)))) else (bif Nat.ble 96 p then (bif Nat.ble 98 p then (bif Nat.ble 99 p then (bif Nat.ble 100 p then (bif Nat.beq p 100 then some (.getfield 172, 3) else none) else (bif Nat.beq p 99 then some (.aload_n 0, 1) else none)) else (bif Nat.beq p 98 then some (.ireturn, 1) else none)) else (bif Nat.ble 97 p then (bif Nat.beq p 97 then some (.iaload, 1) else none) else (bif Nat.beq p 96 then some (.iconst 3, 1) else none))) else (bif Nat.ble 92 p then (bif Nat.ble 93 p then (bif Nat.beq p 93 then some (.getfield 13, 3) else none) else (bif Nat.beq p 92 then some (.aload_n 0, 1) else none)) else (bif Nat.ble 91 p then (bif Nat.beq p 91 then some (.ireturn, 1) else none) else (bif Nat.beq p 90 then some (.iaload, 1) else none))))) else (bif Nat.ble 74 p then (bif Nat.ble 83 p then (bif Nat.ble 85 p then (bif Nat.ble 86 p then (bif Nat.ble 89 p then (bif Nat.beq p 89 then some (.iconst 2, 1) else none) else (bif Nat.beq p 86 then some (.getfield 13, 3) else none)) else (bif Nat.beq p 85 then some (.aload_n 0, 1) else none)) else (bif Nat.ble 84 p then (bif Nat.beq p 84 then some (.ireturn, 1) else none) else (bif Nat.beq p 83 then some (.iaload, 1) else none))) else (bif Nat.ble 78 p then (bif Nat.ble 79 p then (bif Nat.ble 82 p then (bif Nat.beq p 82 then some (.iconst 1, 1) else none) else (bif Nat.beq p 79 then some (.getfield 13, 3) else none)) else (bif Nat.beq p 78 then some (.aload_n 0, 1) else none)) else (bif Nat.ble 77 p then (bif Nat.beq p 77 then some (.ireturn, 1) else none) else (bif Nat.beq p 74 then some (.invokevirtual 442, 3) else none)))) else (bif Nat.ble 6 p then (bif Nat.ble 69 p then (bif Nat.ble 72 p then (bif Nat.ble 73 p then (bif Nat.beq p 73 then some (.aload_n 0, 1) else none) else (bif Nat.beq p 72 then some (.ireturn, 1) else none)) else (bif Nat.beq p 69 then some (.invokevirtual 140, 3) else none)) else (bif Nat.ble 68 p then (bif Nat.beq p 68 then some (.aload_n 0, 1) else none) else (bif Nat.beq p 6 then some (.tableswitch 141 0 11 #[62, 67, 72, 79, 86, 93, 98, 105, 112, 119, 126, 134], 62) else none))) else (bif Nat.ble 2 p then (bif Nat.ble 5 p then (bif Nat.beq p 5 then some (.iload_n 1, 1) else none) else (bif Nat.beq p 2 then some (.putfield 126, 3) else none)) else (bif Nat.ble 1 p then (bif Nat.beq p 1 then some (.iconst 0, 1) else none) else (bif Nat.beq p 0 then some (.aload_n 0, 1) else none))))))
set_option maxRecDepth 100000 in
theorem zkX11_count : (zbig cX11_count.data.toList = 1218378486535555875584512704871746694826530242426837398156725534349038270609728993116553797718993027000811881056466991752020958138947364111232217535293339016987885444818321546795301686975330159486226475438115740483912999358200053309616656241298879885117058949861062380661310953850541930766747661623148698621011455487790732702215023188806928688145301468236956281335746940577365728792403432403340582787613080637117703113512649514 ∧ cX11_count.data.toList.length = 177) ∧ zdk cX11_count 1218378486535555875584512704871746694826530242426837398156725534349038270609728993116553797718993027000811881056466991752020958138947364111232217535293339016987885444818321546795301686975330159486226475438115740483912999358200053309616656241298879885117058949861062380661310953850541930766747661623148698621011455487790732702215023188806928688145301468236956281335746940577365728792403432403340582787613080637117703113512649514 177 ztX11_count 176 = true := by decide +kernel
theorem zw_1781 : (Jvm.Cond.code ({ cls := "HillSchoolModel", name := "count", desc := "(I)I" } : Jvm.MethodName) prog_13_method_111_code (2 : Nat) (Option.some Jvm.ClassFile.FieldType.int)) ∈ zall := zmemG (zmj_7 238 rfl) rfl
theorem zw_1782 : (Jvm.Cond.constantLong "HillSchoolModel" (489 : Nat) (12 : Int64)) ∈ zall := zmemG (zmj_7 239 rfl) rfl
theorem zw_1783 : (Jvm.Cond.constantLong "HillSchoolModel" (491 : Nat) (15 : Int64)) ∈ zall := zmemG (zmj_8 0 rfl) rfl
noncomputable abbrev w_HM_count : List Cond := .code yX11_count cX11_count 2 (some .int) :: zall
noncomputable abbrev rm_HM_count : Room := { frames := 2, cells := 0, slots := 0, locals := 42 }
theorem hd_HM_count : yX11_count.cls = "HillSchoolModel" ∧ yX11_count.cls ≠ "java/lang/invoke/MethodHandle" ∧ yX11_count.cls ≠ "java/lang/invoke/VarHandle" ∧ (parseMethodDescriptor yX11_count.desc).map (fun d => d.parameters.length) = some 1 := by decide +kernel
noncomputable def wd_HM_count (cA : Nat → ClassId) (q0 q1 q2 q3 q4 q5 q6 q7 q8 q9 q10 q11 q12 q13 q14 q15 q16 q17 q18 q19 q20 q21 q22 q23 q24 q25 q26 q27 q28 q29 q30 q31 : Nat) (u0 u1 u2 u3 u4 u5 u6 u7 u8 u9 u10 u11 u12 u13 u14 u15 u16 u17 u18 u19 : Int) (i_taped : Int) (i_refusals : Nat → Int) (i_row : Nat → Int) (i_thrown : Int) : va_W := [(q0, .inr (11, [.int (Int32.ofInt i_thrown), .int (Int32.ofInt u0), .ref q1, .ref q2, .ref q3, .ref q4, .int (Int32.ofInt u1), .ref q5, .int (Int32.ofInt i_taped), .int (Int32.ofInt u2), .int (Int32.ofInt u3), .int (Int32.ofInt u4), .long (Int64.ofInt u5), .int (Int32.ofInt u6), .int (Int32.ofInt u7), .int (Int32.ofInt u8), .ref q6, .int (Int32.ofInt u9), .ref q7, .ref q8, .int (Int32.ofInt u10), .ref q9, .ref q10, .int (Int32.ofInt u11), .int (Int32.ofInt u12), .ref q11, .int (Int32.ofInt u13), .ref q12, .ref q13, .int (Int32.ofInt u14), .long (Int64.ofInt u15), .long (Int64.ofInt u16), .ref q14, .ref q15, .ref q16, .ref q17, .ref q18, .int (Int32.ofInt u17), .ref q19, .ref q20, .ref q21, .ref q22, .ref q23, .ref q24, .ref q25, .ref q26, .ref q27, .ref q28, .ref q29, .ref q30, .long (Int64.ofInt u18), .ref q31, .int (Int32.ofInt u19)])), (q1, .inl (cA 0, 7, .inl (za i_refusals))), (q2, .inl (cA 0, 5580, .inl (za i_row)))]
noncomputable def wf_HM_count (cA : Nat → ClassId) (q0 q1 q2 q3 q4 q5 q6 q7 q8 q9 q10 q11 q12 q13 q14 q15 q16 q17 q18 q19 q20 q21 q22 q23 q24 q25 q26 q27 q28 q29 q30 q31 : Nat) (u0 u1 u2 u3 u4 u5 u6 u7 u8 u9 u10 u11 u12 u13 u14 u15 u16 u17 u18 u19 : Int) (i_taped : Int) (i_refusals : Nat → Int) (i_row : Nat → Int) (o : Int × Int) : va_W := wd_HM_count cA q0 q1 q2 q3 q4 q5 q6 q7 q8 q9 q10 q11 q12 q13 q14 q15 q16 q17 q18 q19 q20 q21 q22 q23 q24 q25 q26 q27 q28 q29 q30 q31 u0 u1 u2 u3 u4 u5 u6 u7 u8 u9 u10 u11 u12 u13 u14 u15 u16 u17 u18 u19 i_taped i_refusals i_row o.2
noncomputable def f_HM_count (x1 : Int) (i_taped : Int) (i_refusals : Nat → Int) (i_row : Nat → Int) (i_thrown : Int) : Option (Int × Int) :=
  if zi_w x1 = 0 then
    zd1 (f_HM_columns i_row) fun v1 =>
    some (v1, 0)
  else if zi_w x1 = 1 then
    zd1 (f_HM_stones i_row) fun v2 =>
    some (v2, 0)
  else if zi_w x1 = 2 then
    zg 5580 i_row 1 fun v3 =>
    some (v3, 0)
  else if zi_w x1 = 3 then
    zg 5580 i_row 2 fun v4 =>
    some (v4, 0)
  else if zi_w x1 = 4 then
    zg 5580 i_row 3 fun v5 =>
    some (v5, 0)
  else if zi_w x1 = 5 then
    some (i_taped, 0)
  else if zi_w x1 = 6 then
    zg 7 i_refusals 1 fun v6 =>
    some (v6, 0)
  else if zi_w x1 = 7 then
    zg 7 i_refusals 2 fun v7 =>
    some (v7, 0)
  else if zi_w x1 = 8 then
    zg 7 i_refusals 3 fun v8 =>
    some (v8, 0)
  else if zi_w x1 = 9 then
    zg 7 i_refusals 5 fun v9 =>
    some (v9, 0)
  else if zi_w x1 = 10 then
    zg 7 i_refusals 6 fun v10 =>
    some (v10, 0)
  else if zi_w x1 = 11 then
    zg 5580 i_row 4 fun v11 =>
    some (v11, 0)
  else
    zn (zi_w x1) fun v12 =>
    zd1 (f_HM_in v12 12 15) fun v13 =>
    if zi_w v13 = 0 then
      some ((-1), 0)
    else
      zn (5 + x1) fun v14 =>
      zn (v14 - 12) fun v15 =>
      zg 5580 i_row v15 fun v16 =>
      some (v16, 0)
set_option maxHeartbeats 4000000 in
set_option maxRecDepth 100000 in
theorem c_HM_count (l : Launch) (ev : zEv) (dC : Nat → ClassId) (dI : Nat → Nat → Nat) (cA : Nat → ClassId) (q0 q1 q2 q3 q4 q5 q6 q7 q8 q9 q10 q11 q12 q13 q14 q15 q16 q17 q18 q19 q20 q21 q22 q23 q24 q25 q26 q27 q28 q29 q30 q31 : Nat) (u0 u1 u2 u3 u4 u5 u6 u7 u8 u9 u10 u11 u12 u13 u14 u15 u16 u17 u18 u19 : Int) {x1 : Int} {i_taped : Int} {i_refusals : Nat → Int} {i_row : Nat → Int} {i_thrown : Int} {out : Int × Int} (hf : f_HM_count x1 i_taped i_refusals i_row i_thrown = some out) : xc_I l ev (dC, dI) vwCl (tyl cA) yX11_count w_HM_count rm_HM_count [.ref q0, .int (Int32.ofInt x1)] (wd_HM_count cA q0 q1 q2 q3 q4 q5 q6 q7 q8 q9 q10 q11 q12 q13 q14 q15 q16 q17 q18 q19 q20 q21 q22 q23 q24 q25 q26 q27 q28 q29 q30 q31 u0 u1 u2 u3 u4 u5 u6 u7 u8 u9 u10 u11 u12 u13 u14 u15 u16 u17 u18 u19 i_taped i_refusals i_row i_thrown) (wf_HM_count cA q0 q1 q2 q3 q4 q5 q6 q7 q8 q9 q10 q11 q12 q13 q14 q15 q16 q17 q18 q19 q20 q21 q22 q23 q24 q25 q26 q27 q28 q29 q30 q31 u0 u1 u2 u3 u4 u5 u6 u7 u8 u9 u10 u11 u12 u13 u14 u15 u16 u17 u18 u19 i_taped i_refusals i_row out) out.1 := by
  refine xv_startI (cc := cX11_count) (maxL := 2) (rt := .int) (by decide +kernel) rfl (Nat.le_of_ble_eq_true rfl) ?_
  intro p e s m args below meth c A Q H ls hx hb hml hts hown hK hA hP hD hS hl hE hret
  have hown : s.vm.findClass "HillSchoolModel" = some m.cls := hown
  have hz : ∀ w ∈ zall, w.before args s = true := fun w h => hts w (List.mem_cons_of_mem _ h)
  have hl : lv_has ls 2 [(0, .ref q0), (1, .int (Int32.ofInt x1))] := hl
  unfold f_HM_count at hf
  refine lv_aload_n hx hb (zdt zkX11_count 0 rfl) rfl (lv_at hl 0 rfl) ?_
  refine lv_iconst (v := Int32.ofInt 0) hx hb (zdt zkX11_count 1 rfl) rfl ?_
  refine va_put (D := (dC, dI)) (ci := 11) (v := .int (Int32.ofInt 0)) (ty := .int) (C := RX11) (T := TX11) (N := 53) hx hb hz zi_X11 tyX11 tyX11_ok nmX11 hown hK hP hD hS 0 rfl rfl 0 (by decide) (hz _ zw_1165) (fun _ h9 => h9) rfl (by decide +kernel) rfl rfl (Nat.le_of_ble_eq_true rfl) (zdt zkX11_count 2 rfl) (fun H locs hP hD hS => ?_)
  refine xw_PD (wd_HM_count cA q0 q1 q2 q3 q4 q5 q6 q7 q8 q9 q10 q11 q12 q13 q14 q15 q16 q17 q18 q19 q20 q21 q22 q23 q24 q25 q26 q27 q28 q29 q30 q31 u0 u1 u2 u3 u4 u5 u6 u7 u8 u9 u10 u11 u12 u13 u14 u15 u16 u17 u18 u19 i_taped i_refusals i_row 0) hP hD (fun hP hD => ?_)
  refine lv_iload_n hx hb (zdt zkX11_count 5 rfl) rfl (lv_at hl 1 rfl) ?_
  refine xz_if hf (fun hc hf => ?_) (fun hn0 hf => ?_)
  · refine xi_tin (tgt := 68) hx hb (zdt zkX11_count 6 rfl) hc (by decide) (by decide) rfl (by decide) ?_
    refine lv_aload_n hx hb (zdt zkX11_count 68 rfl) rfl (lv_at hl 0 rfl) ?_
    refine xe_d1 hf (fun v1 hg hf => ?_)
    have hC : ([0, 2] : List Nat).map (fun i => (wd_HM_count cA q0 q1 q2 q3 q4 q5 q6 q7 q8 q9 q10 q11 q12 q13 q14 q15 q16 q17 q18 q19 q20 q21 q22 q23 q24 q25 q26 q27 q28 q29 q30 q31 u0 u1 u2 u3 u4 u5 u6 u7 u8 u9 u10 u11 u12 u13 u14 u15 u16 u17 u18 u19 i_taped i_refusals i_row 0)[i]?) = (wd_HM_columns cA q0 q1 q2 q3 q4 q5 q6 q7 q8 q9 q10 q11 q12 q13 q14 q15 q16 q17 q18 q19 q20 q21 q22 q23 q24 q25 q26 q27 q28 q29 q30 q31 0 u0 u1 i_taped u2 u3 u4 u5 u6 u7 u8 u9 u10 u11 u12 u13 u14 u15 u16 u17 u18 u19 i_row).map some := rfl
    refine xv_afterI (ws' := (wd_HM_count cA q0 q1 q2 q3 q4 q5 q6 q7 q8 q9 q10 q11 q12 q13 q14 q15 q16 q17 q18 q19 q20 q21 q22 q23 q24 q25 q26 q27 q28 q29 q30 q31 u0 u1 u2 u3 u4 u5 u6 u7 u8 u9 u10 u11 u12 u13 u14 u15 u16 u17 u18 u19 i_taped i_refusals i_row 0)) (isC := [0, 2]) (ps := [some 0, none, some 1]) (va_runV (As := []) (rest := []) ⟨hx, hb, hml, hown, hts⟩ (c_HM_columns l ev dC dI cA q0 q1 q2 q3 q4 q5 q6 q7 q8 q9 q10 q11 q12 q13 q14 q15 q16 q17 q18 q19 q20 q21 q22 q23 q24 q25 q26 q27 q28 q29 q30 q31 0 u0 u1 i_taped u2 u3 u4 u5 u6 u7 u8 u9 u10 u11 u12 u13 u14 u15 u16 u17 u18 u19 hg H.size) (cwV 0 hts (zgV zw_1344 zw_1346 zw_41 zw_115 zw_1347) rfl rfl rfl hd_HM_columns ⟨Nat.le_of_ble_eq_true rfl, Nat.le_of_ble_eq_true rfl⟩) (xv_preV (T := TX11) (N := 53) hE hA hS hK hP hD (isC := [0, 2]) (by decide +kernel) hC (q0 := 0) (ci := 11) rfl rfl) rfl rfl hl.1 rfl (lv_room (Nat.le_of_ble_eq_true rfl)) (zdt zkX11_count 69 rfl) ⟨Nat.le_refl _, Nat.le_refl _⟩) hP hD hS hA (by decide +kernel) rfl hC rfl rfl (fun H locs hP hD hS => ?_)
    obtain rfl := Option.some.inj hf
    exact hret _ _ _ _ rfl (zdt zkX11_count 72 rfl) hP hD hS
  refine xz_if hf (fun hc hf => ?_) (fun hn1 hf => ?_)
  · refine xi_tin (tgt := 73) hx hb (zdt zkX11_count 6 rfl) hc (by decide) (by decide) rfl (by decide) ?_
    refine lv_aload_n hx hb (zdt zkX11_count 73 rfl) rfl (lv_at hl 0 rfl) ?_
    refine xe_d1 hf (fun v2 hg hf => ?_)
    have hC : ([0, 2] : List Nat).map (fun i => (wd_HM_count cA q0 q1 q2 q3 q4 q5 q6 q7 q8 q9 q10 q11 q12 q13 q14 q15 q16 q17 q18 q19 q20 q21 q22 q23 q24 q25 q26 q27 q28 q29 q30 q31 u0 u1 u2 u3 u4 u5 u6 u7 u8 u9 u10 u11 u12 u13 u14 u15 u16 u17 u18 u19 i_taped i_refusals i_row 0)[i]?) = (wd_HM_stones cA q0 q1 q2 q3 q4 q5 q6 q7 q8 q9 q10 q11 q12 q13 q14 q15 q16 q17 q18 q19 q20 q21 q22 q23 q24 q25 q26 q27 q28 q29 q30 q31 0 u0 u1 i_taped u2 u3 u4 u5 u6 u7 u8 u9 u10 u11 u12 u13 u14 u15 u16 u17 u18 u19 i_row).map some := rfl
    refine xv_afterI (ws' := (wd_HM_count cA q0 q1 q2 q3 q4 q5 q6 q7 q8 q9 q10 q11 q12 q13 q14 q15 q16 q17 q18 q19 q20 q21 q22 q23 q24 q25 q26 q27 q28 q29 q30 q31 u0 u1 u2 u3 u4 u5 u6 u7 u8 u9 u10 u11 u12 u13 u14 u15 u16 u17 u18 u19 i_taped i_refusals i_row 0)) (isC := [0, 2]) (ps := [some 0, none, some 1]) (va_runV (As := []) (rest := []) ⟨hx, hb, hml, hown, hts⟩ (c_HM_stones l ev dC dI cA q0 q1 q2 q3 q4 q5 q6 q7 q8 q9 q10 q11 q12 q13 q14 q15 q16 q17 q18 q19 q20 q21 q22 q23 q24 q25 q26 q27 q28 q29 q30 q31 0 u0 u1 i_taped u2 u3 u4 u5 u6 u7 u8 u9 u10 u11 u12 u13 u14 u15 u16 u17 u18 u19 hg H.size) (cwV 0 hts (zgV zw_1650 zw_1652 zw_81 zw_115 zw_1653) rfl rfl rfl hd_HM_stones ⟨Nat.le_of_ble_eq_true rfl, Nat.le_of_ble_eq_true rfl⟩) (xv_preV (T := TX11) (N := 53) hE hA hS hK hP hD (isC := [0, 2]) (by decide +kernel) hC (q0 := 0) (ci := 11) rfl rfl) rfl rfl hl.1 rfl (lv_room (Nat.le_of_ble_eq_true rfl)) (zdt zkX11_count 74 rfl) ⟨Nat.le_refl _, Nat.le_refl _⟩) hP hD hS hA (by decide +kernel) rfl hC rfl rfl (fun H locs hP hD hS => ?_)
    obtain rfl := Option.some.inj hf
    exact hret _ _ _ _ rfl (zdt zkX11_count 77 rfl) hP hD hS
  refine xz_if hf (fun hc hf => ?_) (fun hn2 hf => ?_)
  · refine xi_tin (tgt := 78) hx hb (zdt zkX11_count 6 rfl) hc (by decide) (by decide) rfl (by decide) ?_
    refine lv_aload_n hx hb (zdt zkX11_count 78 rfl) rfl (lv_at hl 0 rfl) ?_
    refine va_get (D := (dC, dI)) (ci := 11) (v := .ref q2) (C := RX11) (T := TX11) (N := 53) hx hb hz zi_X11 hown hK hP 0 rfl rfl 3 (by decide) (hz _ zw_1168) (fun _ h9 => h9) rfl (zdt zkX11_count 79 rfl) ?_
    refine lv_iconst (v := Int32.ofInt 1) hx hb (zdt zkX11_count 82 rfl) rfl ?_
    refine xi_iald hx hb hK hP 2 0 rfl rfl (zdt zkX11_count 83 rfl) hf (fun v3 hf => ?_)
    obtain rfl := Option.some.inj hf
    exact hret _ _ _ _ rfl (zdt zkX11_count 84 rfl) hP hD hS
  refine xz_if hf (fun hc hf => ?_) (fun hn3 hf => ?_)
  · refine xi_tin (tgt := 85) hx hb (zdt zkX11_count 6 rfl) hc (by decide) (by decide) rfl (by decide) ?_
    refine lv_aload_n hx hb (zdt zkX11_count 85 rfl) rfl (lv_at hl 0 rfl) ?_
    refine va_get (D := (dC, dI)) (ci := 11) (v := .ref q2) (C := RX11) (T := TX11) (N := 53) hx hb hz zi_X11 hown hK hP 0 rfl rfl 3 (by decide) (hz _ zw_1168) (fun _ h9 => h9) rfl (zdt zkX11_count 86 rfl) ?_
    refine lv_iconst (v := Int32.ofInt 2) hx hb (zdt zkX11_count 89 rfl) rfl ?_
    refine xi_iald hx hb hK hP 2 0 rfl rfl (zdt zkX11_count 90 rfl) hf (fun v4 hf => ?_)
    obtain rfl := Option.some.inj hf
    exact hret _ _ _ _ rfl (zdt zkX11_count 91 rfl) hP hD hS
  refine xz_if hf (fun hc hf => ?_) (fun hn4 hf => ?_)
  · refine xi_tin (tgt := 92) hx hb (zdt zkX11_count 6 rfl) hc (by decide) (by decide) rfl (by decide) ?_
    refine lv_aload_n hx hb (zdt zkX11_count 92 rfl) rfl (lv_at hl 0 rfl) ?_
    refine va_get (D := (dC, dI)) (ci := 11) (v := .ref q2) (C := RX11) (T := TX11) (N := 53) hx hb hz zi_X11 hown hK hP 0 rfl rfl 3 (by decide) (hz _ zw_1168) (fun _ h9 => h9) rfl (zdt zkX11_count 93 rfl) ?_
    refine lv_iconst (v := Int32.ofInt 3) hx hb (zdt zkX11_count 96 rfl) rfl ?_
    refine xi_iald hx hb hK hP 2 0 rfl rfl (zdt zkX11_count 97 rfl) hf (fun v5 hf => ?_)
    obtain rfl := Option.some.inj hf
    exact hret _ _ _ _ rfl (zdt zkX11_count 98 rfl) hP hD hS
  refine xz_if hf (fun hc hf => ?_) (fun hn5 hf => ?_)
  · refine xi_tin (tgt := 99) hx hb (zdt zkX11_count 6 rfl) hc (by decide) (by decide) rfl (by decide) ?_
    refine lv_aload_n hx hb (zdt zkX11_count 99 rfl) rfl (lv_at hl 0 rfl) ?_
    refine va_get (D := (dC, dI)) (ci := 11) (v := .int (Int32.ofInt i_taped)) (C := RX11) (T := TX11) (N := 53) hx hb hz zi_X11 hown hK hP 0 rfl rfl 8 (by decide) (hz _ zw_1173) (fun _ h9 => h9) rfl (zdt zkX11_count 100 rfl) ?_
    obtain rfl := Option.some.inj hf
    exact hret _ _ _ _ rfl (zdt zkX11_count 103 rfl) hP hD hS
  refine xz_if hf (fun hc hf => ?_) (fun hn6 hf => ?_)
  · refine xi_tin (tgt := 104) hx hb (zdt zkX11_count 6 rfl) hc (by decide) (by decide) rfl (by decide) ?_
    refine lv_aload_n hx hb (zdt zkX11_count 104 rfl) rfl (lv_at hl 0 rfl) ?_
    refine va_get (D := (dC, dI)) (ci := 11) (v := .ref q1) (C := RX11) (T := TX11) (N := 53) hx hb hz zi_X11 hown hK hP 0 rfl rfl 2 (by decide) (hz _ zw_1167) (fun _ h9 => h9) rfl (zdt zkX11_count 105 rfl) ?_
    refine lv_iconst (v := Int32.ofInt 1) hx hb (zdt zkX11_count 108 rfl) rfl ?_
    refine xi_iald hx hb hK hP 1 0 rfl rfl (zdt zkX11_count 109 rfl) hf (fun v6 hf => ?_)
    obtain rfl := Option.some.inj hf
    exact hret _ _ _ _ rfl (zdt zkX11_count 110 rfl) hP hD hS
  refine xz_if hf (fun hc hf => ?_) (fun hn7 hf => ?_)
  · refine xi_tin (tgt := 111) hx hb (zdt zkX11_count 6 rfl) hc (by decide) (by decide) rfl (by decide) ?_
    refine lv_aload_n hx hb (zdt zkX11_count 111 rfl) rfl (lv_at hl 0 rfl) ?_
    refine va_get (D := (dC, dI)) (ci := 11) (v := .ref q1) (C := RX11) (T := TX11) (N := 53) hx hb hz zi_X11 hown hK hP 0 rfl rfl 2 (by decide) (hz _ zw_1167) (fun _ h9 => h9) rfl (zdt zkX11_count 112 rfl) ?_
    refine lv_iconst (v := Int32.ofInt 2) hx hb (zdt zkX11_count 115 rfl) rfl ?_
    refine xi_iald hx hb hK hP 1 0 rfl rfl (zdt zkX11_count 116 rfl) hf (fun v7 hf => ?_)
    obtain rfl := Option.some.inj hf
    exact hret _ _ _ _ rfl (zdt zkX11_count 117 rfl) hP hD hS
  refine xz_if hf (fun hc hf => ?_) (fun hn8 hf => ?_)
  · refine xi_tin (tgt := 118) hx hb (zdt zkX11_count 6 rfl) hc (by decide) (by decide) rfl (by decide) ?_
    refine lv_aload_n hx hb (zdt zkX11_count 118 rfl) rfl (lv_at hl 0 rfl) ?_
    refine va_get (D := (dC, dI)) (ci := 11) (v := .ref q1) (C := RX11) (T := TX11) (N := 53) hx hb hz zi_X11 hown hK hP 0 rfl rfl 2 (by decide) (hz _ zw_1167) (fun _ h9 => h9) rfl (zdt zkX11_count 119 rfl) ?_
    refine lv_iconst (v := Int32.ofInt 3) hx hb (zdt zkX11_count 122 rfl) rfl ?_
    refine xi_iald hx hb hK hP 1 0 rfl rfl (zdt zkX11_count 123 rfl) hf (fun v8 hf => ?_)
    obtain rfl := Option.some.inj hf
    exact hret _ _ _ _ rfl (zdt zkX11_count 124 rfl) hP hD hS
  refine xz_if hf (fun hc hf => ?_) (fun hn9 hf => ?_)
  · refine xi_tin (tgt := 125) hx hb (zdt zkX11_count 6 rfl) hc (by decide) (by decide) rfl (by decide) ?_
    refine lv_aload_n hx hb (zdt zkX11_count 125 rfl) rfl (lv_at hl 0 rfl) ?_
    refine va_get (D := (dC, dI)) (ci := 11) (v := .ref q1) (C := RX11) (T := TX11) (N := 53) hx hb hz zi_X11 hown hK hP 0 rfl rfl 2 (by decide) (hz _ zw_1167) (fun _ h9 => h9) rfl (zdt zkX11_count 126 rfl) ?_
    refine lv_iconst (v := Int32.ofInt 5) hx hb (zdt zkX11_count 129 rfl) rfl ?_
    refine xi_iald hx hb hK hP 1 0 rfl rfl (zdt zkX11_count 130 rfl) hf (fun v9 hf => ?_)
    obtain rfl := Option.some.inj hf
    exact hret _ _ _ _ rfl (zdt zkX11_count 131 rfl) hP hD hS
  refine xz_if hf (fun hc hf => ?_) (fun hn10 hf => ?_)
  · refine xi_tin (tgt := 132) hx hb (zdt zkX11_count 6 rfl) hc (by decide) (by decide) rfl (by decide) ?_
    refine lv_aload_n hx hb (zdt zkX11_count 132 rfl) rfl (lv_at hl 0 rfl) ?_
    refine va_get (D := (dC, dI)) (ci := 11) (v := .ref q1) (C := RX11) (T := TX11) (N := 53) hx hb hz zi_X11 hown hK hP 0 rfl rfl 2 (by decide) (hz _ zw_1167) (fun _ h9 => h9) rfl (zdt zkX11_count 133 rfl) ?_
    refine lv_bipush (v := Int32.ofInt 6) hx hb (zdt zkX11_count 136 rfl) (by decide) ?_
    refine xi_iald hx hb hK hP 1 0 rfl rfl (zdt zkX11_count 138 rfl) hf (fun v10 hf => ?_)
    obtain rfl := Option.some.inj hf
    exact hret _ _ _ _ rfl (zdt zkX11_count 139 rfl) hP hD hS
  refine xz_if hf (fun hc hf => ?_) (fun hn11 hf => ?_)
  · refine xi_tin (tgt := 140) hx hb (zdt zkX11_count 6 rfl) hc (by decide) (by decide) rfl (by decide) ?_
    refine lv_aload_n hx hb (zdt zkX11_count 140 rfl) rfl (lv_at hl 0 rfl) ?_
    refine va_get (D := (dC, dI)) (ci := 11) (v := .ref q2) (C := RX11) (T := TX11) (N := 53) hx hb hz zi_X11 hown hK hP 0 rfl rfl 3 (by decide) (hz _ zw_1168) (fun _ h9 => h9) rfl (zdt zkX11_count 141 rfl) ?_
    refine lv_iconst (v := Int32.ofInt 4) hx hb (zdt zkX11_count 144 rfl) rfl ?_
    refine xi_iald hx hb hK hP 2 0 rfl rfl (zdt zkX11_count 145 rfl) hf (fun v11 hf => ?_)
    obtain rfl := Option.some.inj hf
    exact hret _ _ _ _ rfl (zdt zkX11_count 146 rfl) hP hD hS
  refine xi_tout (tgt := 147) hx hb (zdt zkX11_count 6 rfl) (by omega) (by decide) ?_
  refine lv_iload_n hx hb (zdt zkX11_count 147 rfl) rfl (lv_at hl 1 rfl) ?_
  refine xi_i2l hx hb (zdt zkX11_count 148 rfl) hf (fun v12 hf => ?_)
  refine lv_ldc2 (v := Int64.ofInt 12) hx hb hown (hz _ zw_1782) (zdt zkX11_count 149 rfl) ?_
  refine lv_ldc2 (v := Int64.ofInt 15) hx hb hown (hz _ zw_1783) (zdt zkX11_count 152 rfl) ?_
  refine xe_d1 hf (fun v13 hg hf => ?_)
  have hC : ([] : List Nat).map (fun i => (wd_HM_count cA q0 q1 q2 q3 q4 q5 q6 q7 q8 q9 q10 q11 q12 q13 q14 q15 q16 q17 q18 q19 q20 q21 q22 q23 q24 q25 q26 q27 q28 q29 q30 q31 u0 u1 u2 u3 u4 u5 u6 u7 u8 u9 u10 u11 u12 u13 u14 u15 u16 u17 u18 u19 i_taped i_refusals i_row 0)[i]?) = (wd_HM_in cA).map some := rfl
  refine xv_afterI (ws' := (wd_HM_count cA q0 q1 q2 q3 q4 q5 q6 q7 q8 q9 q10 q11 q12 q13 q14 q15 q16 q17 q18 q19 q20 q21 q22 q23 q24 q25 q26 q27 q28 q29 q30 q31 u0 u1 u2 u3 u4 u5 u6 u7 u8 u9 u10 u11 u12 u13 u14 u15 u16 u17 u18 u19 i_taped i_refusals i_row 0)) (isC := []) (ps := [none, none, none]) (va_runS (As := [.long (Int64.ofInt v12), .long (Int64.ofInt 12), .long (Int64.ofInt 15)]) (rest := []) ⟨hx, hb, hml, hown, hts⟩ (c_HM_in l ev dC dI cA hg H.size) (va_cwS 3 hts (zgS zw_1329 zw_1330 zw_115 zw_1331) rfl rfl rfl hd_HM_in.2 ⟨Nat.le_of_ble_eq_true rfl, Nat.le_of_ble_eq_true rfl⟩) (xv_preS hE hA hS hK hP hD (isC := []) (by decide +kernel) hC) rfl rfl hl.1 rfl (lv_room (Nat.le_of_ble_eq_true rfl)) (zdt zkX11_count 155 rfl) ⟨Nat.le_refl _, Nat.le_refl _⟩) hP hD hS hA (by decide +kernel) rfl hC rfl rfl (fun H locs hP hD hS => ?_)
  refine xi_if_eq (tgt := 175) hx hb (zdt zkX11_count 158 rfl) (by decide) hf (fun hf => ?_) (fun hf => ?_)
  · refine lv_iconst (v := Int32.ofInt (-1)) hx hb (zdt zkX11_count 175 rfl) rfl ?_
    obtain rfl := Option.some.inj hf
    exact hret _ _ _ _ rfl (zdt zkX11_count 176 rfl) hP hD hS
  · refine lv_aload_n hx hb (zdt zkX11_count 161 rfl) rfl (lv_at hl 0 rfl) ?_
    refine va_get (D := (dC, dI)) (ci := 11) (v := .ref q2) (C := RX11) (T := TX11) (N := 53) hx hb hz zi_X11 hown hK hP 0 rfl rfl 3 (by decide) (hz _ zw_1168) (fun _ h9 => h9) rfl (zdt zkX11_count 162 rfl) ?_
    refine lv_iconst (v := Int32.ofInt 5) hx hb (zdt zkX11_count 165 rfl) rfl ?_
    refine lv_iload_n hx hb (zdt zkX11_count 166 rfl) rfl (lv_at hl 1 rfl) ?_
    refine xi_iadd hx hb (zdt zkX11_count 167 rfl) hf (fun v14 hf => ?_)
    refine lv_bipush (v := Int32.ofInt 12) hx hb (zdt zkX11_count 168 rfl) (by decide) ?_
    refine xi_isub hx hb (zdt zkX11_count 170 rfl) hf (fun v15 hf => ?_)
    refine xi_iald hx hb hK hP 2 0 rfl rfl (zdt zkX11_count 171 rfl) hf (fun v16 hf => ?_)
    refine lv_goto (tgt := 176) hx hb (zdt zkX11_count 172 rfl) (by decide) ?_
    obtain rfl := Option.some.inj hf
    exact hret _ _ _ _ rfl (zdt zkX11_count 176 rfl) hP hD hS
set_option maxRecDepth 100000 in
noncomputable def ztX11_status (p : Nat) : Option (Jvm.ClassFile.Instr × Nat) := bif Nat.ble 5 p then (bif Nat.ble 6 p then (bif Nat.ble 9 p then (bif Nat.beq p 9 then some (.ireturn, 1) else none) else (bif Nat.beq p 6 then some (.getfield 129, 3) else none)) else (bif Nat.beq p 5 then some (.aload_n 0, 1) else none)) else (bif Nat.ble 1 p then (bif Nat.ble 2 p then (bif Nat.beq p 2 then some (.putfield 126, 3) else none) else (bif Nat.beq p 1 then some (.iconst 0, 1) else none)) else (bif Nat.beq p 0 then some (.aload_n 0, 1) else none))
set_option maxRecDepth 100000 in
theorem zkX11_status : (zbig cX11_status.data.toList = 814626715751303982940970 ∧ cX11_status.data.toList.length = 10) ∧ zdk cX11_status 814626715751303982940970 10 ztX11_status 9 = true := by decide +kernel
theorem zw_1787 : (Jvm.Cond.code ({ cls := "HillSchoolModel", name := "status", desc := "()I" } : Jvm.MethodName) prog_13_method_112_code (1 : Nat) (Option.some Jvm.ClassFile.FieldType.int)) ∈ zall := zmemG (zmj_8 4 rfl) rfl
noncomputable abbrev w_HM_status : List Cond := .code yX11_status cX11_status 1 (some .int) :: zall
noncomputable abbrev rm_HM_status : Room := { frames := 0, cells := 0, slots := 0, locals := 0 }
theorem hd_HM_status : yX11_status.cls = "HillSchoolModel" ∧ yX11_status.cls ≠ "java/lang/invoke/MethodHandle" ∧ yX11_status.cls ≠ "java/lang/invoke/VarHandle" ∧ (parseMethodDescriptor yX11_status.desc).map (fun d => d.parameters.length) = some 0 := by decide +kernel
noncomputable def wd_HM_status (cA : Nat → ClassId) (q0 q1 q2 q3 q4 q5 q6 q7 q8 q9 q10 q11 q12 q13 q14 q15 q16 q17 q18 q19 q20 q21 q22 q23 q24 q25 q26 q27 q28 q29 q30 q31 : Nat) (u0 u1 u2 u3 u4 u5 u6 u7 u8 u9 u10 u11 u12 u13 u14 u15 u16 u17 u18 u19 : Int) (i_status : Int) (i_thrown : Int) : va_W := [(q0, .inr (11, [.int (Int32.ofInt i_thrown), .int (Int32.ofInt i_status), .ref q1, .ref q2, .ref q3, .ref q4, .int (Int32.ofInt u0), .ref q5, .int (Int32.ofInt u1), .int (Int32.ofInt u2), .int (Int32.ofInt u3), .int (Int32.ofInt u4), .long (Int64.ofInt u5), .int (Int32.ofInt u6), .int (Int32.ofInt u7), .int (Int32.ofInt u8), .ref q6, .int (Int32.ofInt u9), .ref q7, .ref q8, .int (Int32.ofInt u10), .ref q9, .ref q10, .int (Int32.ofInt u11), .int (Int32.ofInt u12), .ref q11, .int (Int32.ofInt u13), .ref q12, .ref q13, .int (Int32.ofInt u14), .long (Int64.ofInt u15), .long (Int64.ofInt u16), .ref q14, .ref q15, .ref q16, .ref q17, .ref q18, .int (Int32.ofInt u17), .ref q19, .ref q20, .ref q21, .ref q22, .ref q23, .ref q24, .ref q25, .ref q26, .ref q27, .ref q28, .ref q29, .ref q30, .long (Int64.ofInt u18), .ref q31, .int (Int32.ofInt u19)]))]
noncomputable def wf_HM_status (cA : Nat → ClassId) (q0 q1 q2 q3 q4 q5 q6 q7 q8 q9 q10 q11 q12 q13 q14 q15 q16 q17 q18 q19 q20 q21 q22 q23 q24 q25 q26 q27 q28 q29 q30 q31 : Nat) (u0 u1 u2 u3 u4 u5 u6 u7 u8 u9 u10 u11 u12 u13 u14 u15 u16 u17 u18 u19 : Int) (i_status : Int) (o : Int × Int) : va_W := wd_HM_status cA q0 q1 q2 q3 q4 q5 q6 q7 q8 q9 q10 q11 q12 q13 q14 q15 q16 q17 q18 q19 q20 q21 q22 q23 q24 q25 q26 q27 q28 q29 q30 q31 u0 u1 u2 u3 u4 u5 u6 u7 u8 u9 u10 u11 u12 u13 u14 u15 u16 u17 u18 u19 i_status o.2
noncomputable def f_HM_status (i_status : Int) (i_thrown : Int) : Option (Int × Int) :=
  some (i_status, 0)
set_option maxHeartbeats 4000000 in
set_option maxRecDepth 100000 in
theorem c_HM_status (l : Launch) (ev : zEv) (dC : Nat → ClassId) (dI : Nat → Nat → Nat) (cA : Nat → ClassId) (q0 q1 q2 q3 q4 q5 q6 q7 q8 q9 q10 q11 q12 q13 q14 q15 q16 q17 q18 q19 q20 q21 q22 q23 q24 q25 q26 q27 q28 q29 q30 q31 : Nat) (u0 u1 u2 u3 u4 u5 u6 u7 u8 u9 u10 u11 u12 u13 u14 u15 u16 u17 u18 u19 : Int) {i_status : Int} {i_thrown : Int} {out : Int × Int} (hf : f_HM_status i_status i_thrown = some out) : xc_I l ev (dC, dI) vwCl (tyl cA) yX11_status w_HM_status rm_HM_status [.ref q0] (wd_HM_status cA q0 q1 q2 q3 q4 q5 q6 q7 q8 q9 q10 q11 q12 q13 q14 q15 q16 q17 q18 q19 q20 q21 q22 q23 q24 q25 q26 q27 q28 q29 q30 q31 u0 u1 u2 u3 u4 u5 u6 u7 u8 u9 u10 u11 u12 u13 u14 u15 u16 u17 u18 u19 i_status i_thrown) (wf_HM_status cA q0 q1 q2 q3 q4 q5 q6 q7 q8 q9 q10 q11 q12 q13 q14 q15 q16 q17 q18 q19 q20 q21 q22 q23 q24 q25 q26 q27 q28 q29 q30 q31 u0 u1 u2 u3 u4 u5 u6 u7 u8 u9 u10 u11 u12 u13 u14 u15 u16 u17 u18 u19 i_status out) out.1 := by
  refine xv_startI (cc := cX11_status) (maxL := 1) (rt := .int) (by decide +kernel) rfl (Nat.le_of_ble_eq_true rfl) ?_
  intro p e s m args below meth c A Q H ls hx hb hml hts hown hK hA hP hD hS hl hE hret
  have hown : s.vm.findClass "HillSchoolModel" = some m.cls := hown
  have hz : ∀ w ∈ zall, w.before args s = true := fun w h => hts w (List.mem_cons_of_mem _ h)
  have hl : lv_has ls 1 [(0, .ref q0)] := hl
  unfold f_HM_status at hf
  refine lv_aload_n hx hb (zdt zkX11_status 0 rfl) rfl (lv_at hl 0 rfl) ?_
  refine lv_iconst (v := Int32.ofInt 0) hx hb (zdt zkX11_status 1 rfl) rfl ?_
  refine va_put (D := (dC, dI)) (ci := 11) (v := .int (Int32.ofInt 0)) (ty := .int) (C := RX11) (T := TX11) (N := 53) hx hb hz zi_X11 tyX11 tyX11_ok nmX11 hown hK hP hD hS 0 rfl rfl 0 (by decide) (hz _ zw_1165) (fun _ h9 => h9) rfl (by decide +kernel) rfl rfl (Nat.le_of_ble_eq_true rfl) (zdt zkX11_status 2 rfl) (fun H locs hP hD hS => ?_)
  refine xw_PD (wd_HM_status cA q0 q1 q2 q3 q4 q5 q6 q7 q8 q9 q10 q11 q12 q13 q14 q15 q16 q17 q18 q19 q20 q21 q22 q23 q24 q25 q26 q27 q28 q29 q30 q31 u0 u1 u2 u3 u4 u5 u6 u7 u8 u9 u10 u11 u12 u13 u14 u15 u16 u17 u18 u19 i_status 0) hP hD (fun hP hD => ?_)
  refine lv_aload_n hx hb (zdt zkX11_status 5 rfl) rfl (lv_at hl 0 rfl) ?_
  refine va_get (D := (dC, dI)) (ci := 11) (v := .int (Int32.ofInt i_status)) (C := RX11) (T := TX11) (N := 53) hx hb hz zi_X11 hown hK hP 0 rfl rfl 1 (by decide) (hz _ zw_1166) (fun _ h9 => h9) rfl (zdt zkX11_status 6 rfl) ?_
  obtain rfl := Option.some.inj hf
  exact hret _ _ _ _ rfl (zdt zkX11_status 9 rfl) hP hD hS
