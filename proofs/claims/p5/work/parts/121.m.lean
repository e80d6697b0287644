theorem dX11_layers_0 : decode cX11_layers 0 = .ok (.aload_n 0, 1) := by decide +kernel
theorem dX11_layers_1 : decode cX11_layers 1 = .ok (.iconst 0, 1) := by decide +kernel
theorem dX11_layers_2 : decode cX11_layers 2 = .ok (.putfield 126, 3) := by decide +kernel
theorem dX11_layers_5 : decode cX11_layers 5 = .ok (.aload_n 0, 1) := by decide +kernel
theorem dX11_layers_6 : decode cX11_layers 6 = .ok (.iload_n 1, 1) := by decide +kernel
theorem dX11_layers_7 : decode cX11_layers 7 = .ok (.invokevirtual 150, 3) := by decide +kernel
theorem dX11_layers_10 : decode cX11_layers 10 = .ok (.ifCond .ne 5, 3) := by decide +kernel
theorem dX11_layers_13 : decode cX11_layers 13 = .ok (.iconst (-1), 1) := by decide +kernel
theorem dX11_layers_14 : decode cX11_layers 14 = .ok (.ireturn, 1) := by decide +kernel
theorem dX11_layers_15 : decode cX11_layers 15 = .ok (.aload_n 0, 1) := by decide +kernel
theorem dX11_layers_16 : decode cX11_layers 16 = .ok (.getfield 13, 3) := by decide +kernel
theorem dX11_layers_19 : decode cX11_layers 19 = .ok (.bipush 9, 2) := by decide +kernel
theorem dX11_layers_21 : decode cX11_layers 21 = .ok (.iload_n 1, 1) := by decide +kernel
theorem dX11_layers_22 : decode cX11_layers 22 = .ok (.iadd, 1) := by decide +kernel
theorem dX11_layers_23 : decode cX11_layers 23 = .ok (.iaload, 1) := by decide +kernel
theorem dX11_layers_24 : decode cX11_layers 24 = .ok (.ifCond .le 7, 3) := by decide +kernel
theorem dX11_layers_27 : decode cX11_layers 27 = .ok (.iconst 1, 1) := by decide +kernel
theorem dX11_layers_28 : decode cX11_layers 28 = .ok (.goto 4, 3) := by decide +kernel
theorem dX11_layers_31 : decode cX11_layers 31 = .ok (.iconst 0, 1) := by decide +kernel
theorem dX11_layers_32 : decode cX11_layers 32 = .ok (.istore_n 2, 1) := by decide +kernel
theorem dX11_layers_33 : decode cX11_layers 33 = .ok (.iconst 1, 1) := by decide +kernel
theorem dX11_layers_34 : decode cX11_layers 34 = .ok (.istore_n 3, 1) := by decide +kernel
theorem dX11_layers_35 : decode cX11_layers 35 = .ok (.iload_n 3, 1) := by decide +kernel
theorem dX11_layers_36 : decode cX11_layers 36 = .ok (.aload_n 0, 1) := by decide +kernel
theorem dX11_layers_37 : decode cX11_layers 37 = .ok (.getfield 13, 3) := by decide +kernel
theorem dX11_layers_40 : decode cX11_layers 40 = .ok (.bipush 9, 2) := by decide +kernel
theorem dX11_layers_42 : decode cX11_layers 42 = .ok (.iload_n 1, 1) := by decide +kernel
theorem dX11_layers_43 : decode cX11_layers 43 = .ok (.iadd, 1) := by decide +kernel
theorem dX11_layers_44 : decode cX11_layers 44 = .ok (.iaload, 1) := by decide +kernel
theorem dX11_layers_45 : decode cX11_layers 45 = .ok (.if_icmp .ge 50, 3) := by decide +kernel
theorem dX11_layers_48 : decode cX11_layers 48 = .ok (.iload_n 2, 1) := by decide +kernel
theorem dX11_layers_49 : decode cX11_layers 49 = .ok (.aload_n 0, 1) := by decide +kernel
theorem dX11_layers_50 : decode cX11_layers 50 = .ok (.getfield 13, 3) := by decide +kernel
theorem dX11_layers_53 : decode cX11_layers 53 = .ok (.bipush 21, 2) := by decide +kernel
theorem dX11_layers_55 : decode cX11_layers 55 = .ok (.bipush 10, 2) := by decide +kernel
theorem dX11_layers_57 : decode cX11_layers 57 = .ok (.iload_n 1, 1) := by decide +kernel
theorem dX11_layers_58 : decode cX11_layers 58 = .ok (.imul, 1) := by decide +kernel
theorem dX11_layers_59 : decode cX11_layers 59 = .ok (.iadd, 1) := by decide +kernel
theorem dX11_layers_60 : decode cX11_layers 60 = .ok (.iload_n 3, 1) := by decide +kernel
theorem dX11_layers_61 : decode cX11_layers 61 = .ok (.iadd, 1) := by decide +kernel
theorem dX11_layers_62 : decode cX11_layers 62 = .ok (.iaload, 1) := by decide +kernel
theorem dX11_layers_63 : decode cX11_layers 63 = .ok (.aload_n 0, 1) := by decide +kernel
theorem dX11_layers_64 : decode cX11_layers 64 = .ok (.getfield 13, 3) := by decide +kernel
theorem dX11_layers_67 : decode cX11_layers 67 = .ok (.bipush 21, 2) := by decide +kernel
theorem dX11_layers_69 : decode cX11_layers 69 = .ok (.bipush 10, 2) := by decide +kernel
theorem dX11_layers_71 : decode cX11_layers 71 = .ok (.iload_n 1, 1) := by decide +kernel
theorem dX11_layers_72 : decode cX11_layers 72 = .ok (.imul, 1) := by decide +kernel
theorem dX11_layers_73 : decode cX11_layers 73 = .ok (.iadd, 1) := by decide +kernel
theorem dX11_layers_74 : decode cX11_layers 74 = .ok (.iload_n 3, 1) := by decide +kernel
theorem dX11_layers_75 : decode cX11_layers 75 = .ok (.iadd, 1) := by decide +kernel
theorem dX11_layers_76 : decode cX11_layers 76 = .ok (.iconst 1, 1) := by decide +kernel
theorem dX11_layers_77 : decode cX11_layers 77 = .ok (.isub, 1) := by decide +kernel
theorem dX11_layers_78 : decode cX11_layers 78 = .ok (.iaload, 1) := by decide +kernel
theorem dX11_layers_79 : decode cX11_layers 79 = .ok (.if_icmp .le 7, 3) := by decide +kernel
theorem dX11_layers_82 : decode cX11_layers 82 = .ok (.iconst 1, 1) := by decide +kernel
theorem dX11_layers_83 : decode cX11_layers 83 = .ok (.goto 4, 3) := by decide +kernel
theorem dX11_layers_86 : decode cX11_layers 86 = .ok (.iconst 0, 1) := by decide +kernel
theorem dX11_layers_87 : decode cX11_layers 87 = .ok (.iadd, 1) := by decide +kernel
theorem dX11_layers_88 : decode cX11_layers 88 = .ok (.istore_n 2, 1) := by decide +kernel
theorem dX11_layers_89 : decode cX11_layers 89 = .ok (.iinc 3 1, 3) := by decide +kernel
theorem dX11_layers_92 : decode cX11_layers 92 = .ok (.goto (-57), 3) := by decide +kernel
theorem dX11_layers_95 : decode cX11_layers 95 = .ok (.iload_n 2, 1) := by decide +kernel
theorem dX11_layers_96 : decode cX11_layers 96 = .ok (.ireturn, 1) := by decide +kernel
theorem zw_1765 : (Jvm.Cond.code ({ cls := "HillSchoolModel", name := "layers", desc := "(I)I" } : Jvm.MethodName) prog_13_method_108_code (4 : Nat) (Option.some Jvm.ClassFile.FieldType.int)) ∈ zall := zmemG (zmj_7 222 rfl) rfl
abbrev w_HM_layers : List Cond := .code yX11_layers cX11_layers 4 (some .int) :: zall
abbrev rm_HM_layers : Room := { frames := 2, cells := 0, slots := 0, locals := 46 }
theorem hd_HM_layers : yX11_layers.cls = "HillSchoolModel" ∧ yX11_layers.cls ≠ "java/lang/invoke/MethodHandle" ∧ yX11_layers.cls ≠ "java/lang/invoke/VarHandle" ∧ (parseMethodDescriptor yX11_layers.desc).map (fun d => d.parameters.length) = some 1 := by decide +kernel
def wd_HM_layers (cA : Nat → ClassId) (q0 q1 q2 q3 q4 q5 q6 q7 q8 q9 q10 q11 q12 q13 q14 q15 q16 q17 q18 q19 q20 q21 q22 q23 q24 q25 q26 q27 q28 q29 q30 q31 : Nat) (u0 u1 u2 u3 u4 u5 u6 u7 u8 u9 u10 u11 u12 u13 u14 u15 u16 u17 u18 u19 u20 : Int) (i_row : Nat → Int) (i_thrown : Int) : va_W := [(q0, .inr (11, [.int (Int32.ofInt i_thrown), .int (Int32.ofInt u0), .ref q1, .ref q2, .ref q3, .ref q4, .int (Int32.ofInt u1), .ref q5, .int (Int32.ofInt u2), .int (Int32.ofInt u3), .int (Int32.ofInt u4), .int (Int32.ofInt u5), .long (Int64.ofInt u6), .int (Int32.ofInt u7), .int (Int32.ofInt u8), .int (Int32.ofInt u9), .ref q6, .int (Int32.ofInt u10), .ref q7, .ref q8, .int (Int32.ofInt u11), .ref q9, .ref q10, .int (Int32.ofInt u12), .int (Int32.ofInt u13), .ref q11, .int (Int32.ofInt u14), .ref q12, .ref q13, .int (Int32.ofInt u15), .long (Int64.ofInt u16), .long (Int64.ofInt u17), .ref q14, .ref q15, .ref q16, .ref q17, .ref q18, .int (Int32.ofInt u18), .ref q19, .ref q20, .ref q21, .ref q22, .ref q23, .ref q24, .ref q25, .ref q26, .ref q27, .ref q28, .ref q29, .ref q30, .long (Int64.ofInt u19), .ref q31, .int (Int32.ofInt u20)])), (q2, .inl (cA 0, 5580, .inl (za i_row)))]
def wf_HM_layers (cA : Nat → ClassId) (q0 q1 q2 q3 q4 q5 q6 q7 q8 q9 q10 q11 q12 q13 q14 q15 q16 q17 q18 q19 q20 q21 q22 q23 q24 q25 q26 q27 q28 q29 q30 q31 : Nat) (u0 u1 u2 u3 u4 u5 u6 u7 u8 u9 u10 u11 u12 u13 u14 u15 u16 u17 u18 u19 u20 : Int) (i_row : Nat → Int) (o : Int × Int) : va_W := wd_HM_layers cA q0 q1 q2 q3 q4 q5 q6 q7 q8 q9 q10 q11 q12 q13 q14 q15 q16 q17 q18 q19 q20 q21 q22 q23 q24 q25 q26 q27 q28 q29 q30 q31 u0 u1 u2 u3 u4 u5 u6 u7 u8 u9 u10 u11 u12 u13 u14 u15 u16 u17 u18 u19 u20 i_row o.2
def f_HM_layers_87 (i_row : Nat → Int) (k35 : Int → Int → Int → Int → Option (Int × Int)) (x1 : Int) (x3 : Int) (s0 : Int) (s1 : Int) (i_thrown : Int) : Option (Int × Int) :=
  zn (s0 + s1) fun v1 =>
  zn (x3 + 1) fun v2 =>
  k35 x1 v1 v2 i_thrown
def f_HM_layers_35_b (i_row : Nat → Int) (k35 : Int → Int → Int → Int → Option (Int × Int)) (x1 : Int) (x2 : Int) (x3 : Int) (i_thrown : Int) : Option (Int × Int) :=
  zn (9 + x1) fun v1 =>
  zg 5580 i_row v1 fun v2 =>
  if zi_w v2 ≤ zi_w x3 then
    some (x2, i_thrown)
  else
    zn (10 * x1) fun v3 =>
    zn (21 + v3) fun v4 =>
    zn (v4 + x3) fun v5 =>
    zg 5580 i_row v5 fun v6 =>
    zn (10 * x1) fun v7 =>
    zn (21 + v7) fun v8 =>
    zn (v8 + x3) fun v9 =>
    zn (v9 - 1) fun v10 =>
    zg 5580 i_row v10 fun v11 =>
    if zi_w v6 ≤ zi_w v11 then
      f_HM_layers_87 i_row k35 x1 x3 x2 0 i_thrown
    else
      f_HM_layers_87 i_row k35 x1 x3 x2 1 i_thrown
def f_HM_layers_35 (i_row : Nat → Int) : Nat → Int → Int → Int → Int → Option (Int × Int)
  | 0 => fun _ _ _ _ => none
  | n + 1 => fun y0 y1 y2 y3 => f_HM_layers_35_b i_row (f_HM_layers_35 i_row n) y0 y1 y2 y3
def f_HM_layers_32 (i_row : Nat → Int) (x1 : Int) (s0 : Int) (i_thrown : Int) : Option (Int × Int) :=
  f_HM_layers_35 i_row zfu x1 s0 1 i_thrown
def f_HM_layers (x1 : Int) (i_row : Nat → Int) (i_thrown : Int) : Option (Int × Int) :=
  zd1 (f_HM_isColumn x1 i_row) fun v1 =>
  if zi_w v1 ≠ 0 then
    zn (9 + x1) fun v2 =>
    zg 5580 i_row v2 fun v3 =>
    if zi_w v3 ≤ 0 then
      f_HM_layers_32 i_row x1 0 0
    else
      f_HM_layers_32 i_row x1 1 0
  else
    some ((-1), 0)
set_option maxHeartbeats 4000000 in
set_option maxRecDepth 100000 in
theorem c_HM_layers (l : Launch) (ev : zEv) (dC : Nat → ClassId) (dI : Nat → Nat → Nat) (cA : Nat → ClassId) (q0 q1 q2 q3 q4 q5 q6 q7 q8 q9 q10 q11 q12 q13 q14 q15 q16 q17 q18 q19 q20 q21 q22 q23 q24 q25 q26 q27 q28 q29 q30 q31 : Nat) (u0 u1 u2 u3 u4 u5 u6 u7 u8 u9 u10 u11 u12 u13 u14 u15 u16 u17 u18 u19 u20 : Int) {x1 : Int} {i_row : Nat → Int} {i_thrown : Int} {out : Int × Int} (hf : f_HM_layers x1 i_row i_thrown = some out) : xc_I l ev (dC, dI) vwCl (tyl cA) yX11_layers w_HM_layers rm_HM_layers [.ref q0, .int (Int32.ofInt x1)] (wd_HM_layers cA q0 q1 q2 q3 q4 q5 q6 q7 q8 q9 q10 q11 q12 q13 q14 q15 q16 q17 q18 q19 q20 q21 q22 q23 q24 q25 q26 q27 q28 q29 q30 q31 u0 u1 u2 u3 u4 u5 u6 u7 u8 u9 u10 u11 u12 u13 u14 u15 u16 u17 u18 u19 u20 i_row i_thrown) (wf_HM_layers cA q0 q1 q2 q3 q4 q5 q6 q7 q8 q9 q10 q11 q12 q13 q14 q15 q16 q17 q18 q19 q20 q21 q22 q23 q24 q25 q26 q27 q28 q29 q30 q31 u0 u1 u2 u3 u4 u5 u6 u7 u8 u9 u10 u11 u12 u13 u14 u15 u16 u17 u18 u19 u20 i_row out) out.1 := by
  refine xv_startI (cc := cX11_layers) (maxL := 4) (rt := .int) (by decide +kernel) rfl (Nat.le_of_ble_eq_true rfl) ?_
  intro p e s m args below meth c A Q H ls hx hb hml hts hown hK hA hP hD hS hl hE hret
  have hown : s.vm.findClass "HillSchoolModel" = some m.cls := hown
  have hz : ∀ w ∈ zall, w.before args s = true := fun w h => hts w (List.mem_cons_of_mem _ h)
  have hl : lv_has ls 4 [(0, .ref q0), (1, .int (Int32.ofInt x1))] := hl
  have b_87 : ∀ (k35 : Int → Int → Int → Int → Option (Int × Int)) (_ : ∀ (x1 : Int) (x2 : Int) (x3 : Int) (i_thrown : Int) (H : Heap) (locs : List Loc) (ls : Array Slot), k35 x1 x2 x3 i_thrown = some out → va_P (dC, dI) vwCl (wd_HM_layers cA q0 q1 q2 q3 q4 q5 q6 q7 q8 q9 q10 q11 q12 q13 q14 q15 q16 q17 q18 q19 q20 q21 q22 q23 q24 q25 q26 q27 q28 q29 q30 q31 u0 u1 u2 u3 u4 u5 u6 u7 u8 u9 u10 u11 u12 u13 u14 u15 u16 u17 u18 u19 u20 i_row i_thrown) H → va_D A (wd_HM_layers cA q0 q1 q2 q3 q4 q5 q6 q7 q8 q9 q10 q11 q12 q13 q14 q15 q16 q17 q18 q19 q20 q21 q22 q23 q24 q25 q26 q27 q28 q29 q30 q31 u0 u1 u2 u3 u4 u5 u6 u7 u8 u9 u10 u11 u12 u13 u14 u15 u16 u17 u18 u19 u20 i_row i_thrown) → va_S A s.heap H locs → lv_has ls 4 [(0, .ref q0), (1, .int (Int32.ofInt x1)), (2, .int (Int32.ofInt x2)), (3, .int (Int32.ofInt x3))] → W p l e rm_HM_layers s m args below meth c H locs 0 0 Q (F0 m 35 ls [])), ∀ (x1 : Int) (x3 : Int) (s0 : Int) (s1 : Int) (i_thrown : Int) (H : Heap) (locs : List Loc) (ls : Array Slot), f_HM_layers_87 i_row k35 x1 x3 s0 s1 i_thrown = some out → va_P (dC, dI) vwCl (wd_HM_layers cA q0 q1 q2 q3 q4 q5 q6 q7 q8 q9 q10 q11 q12 q13 q14 q15 q16 q17 q18 q19 q20 q21 q22 q23 q24 q25 q26 q27 q28 q29 q30 q31 u0 u1 u2 u3 u4 u5 u6 u7 u8 u9 u10 u11 u12 u13 u14 u15 u16 u17 u18 u19 u20 i_row i_thrown) H → va_D A (wd_HM_layers cA q0 q1 q2 q3 q4 q5 q6 q7 q8 q9 q10 q11 q12 q13 q14 q15 q16 q17 q18 q19 q20 q21 q22 q23 q24 q25 q26 q27 q28 q29 q30 q31 u0 u1 u2 u3 u4 u5 u6 u7 u8 u9 u10 u11 u12 u13 u14 u15 u16 u17 u18 u19 u20 i_row i_thrown) → va_S A s.heap H locs → lv_has ls 4 [(0, .ref q0), (1, .int (Int32.ofInt x1)), (3, .int (Int32.ofInt x3))] → W p l e rm_HM_layers s m args below meth c H locs 0 0 Q (F0 m 87 ls [.int (Int32.ofInt s1), .int (Int32.ofInt s0)]) := by
    intro k35 ih35 x1 x3 s0 s1 i_thrown H locs ls hf hP hD hS hl
    unfold f_HM_layers_87 at hf
    refine xi_iadd hx hb dX11_layers_87 hf (fun v1 hf => ?_)
    refine lv_istore_n (lv' := [(2, .int (Int32.ofInt v1)), (0, .ref q0), (1, .int (Int32.ofInt x1)), (3, .int (Int32.ofInt x3))]) hx hb dX11_layers_88 rfl hl (by decide) rfl (fun ls hl => ?_)
    refine xi_iinc hx hb dX11_layers_89 hl (k := 3) rfl (by decide) hf (fun v2 ls hl hf => ?_)
    have hl : lv_has ls 4 [(3, .int (Int32.ofInt v2)), (2, .int (Int32.ofInt v1)), (0, .ref q0), (1, .int (Int32.ofInt x1))] := hl
    refine lv_goto (tgt := 35) hx hb dX11_layers_92 (by decide) ?_
    exact ih35 _ _ _ _ _ _ _ hf hP hD hS (lv_sub hl [2, 3, 1, 0] rfl)
  have b_35 : ∀ (k35 : Int → Int → Int → Int → Option (Int × Int)) (_ : ∀ (x1 : Int) (x2 : Int) (x3 : Int) (i_thrown : Int) (H : Heap) (locs : List Loc) (ls : Array Slot), k35 x1 x2 x3 i_thrown = some out → va_P (dC, dI) vwCl (wd_HM_layers cA q0 q1 q2 q3 q4 q5 q6 q7 q8 q9 q10 q11 q12 q13 q14 q15 q16 q17 q18 q19 q20 q21 q22 q23 q24 q25 q26 q27 q28 q29 q30 q31 u0 u1 u2 u3 u4 u5 u6 u7 u8 u9 u10 u11 u12 u13 u14 u15 u16 u17 u18 u19 u20 i_row i_thrown) H → va_D A (wd_HM_layers cA q0 q1 q2 q3 q4 q5 q6 q7 q8 q9 q10 q11 q12 q13 q14 q15 q16 q17 q18 q19 q20 q21 q22 q23 q24 q25 q26 q27 q28 q29 q30 q31 u0 u1 u2 u3 u4 u5 u6 u7 u8 u9 u10 u11 u12 u13 u14 u15 u16 u17 u18 u19 u20 i_row i_thrown) → va_S A s.heap H locs → lv_has ls 4 [(0, .ref q0), (1, .int (Int32.ofInt x1)), (2, .int (Int32.ofInt x2)), (3, .int (Int32.ofInt x3))] → W p l e rm_HM_layers s m args below meth c H locs 0 0 Q (F0 m 35 ls [])), ∀ (x1 : Int) (x2 : Int) (x3 : Int) (i_thrown : Int) (H : Heap) (locs : List Loc) (ls : Array Slot), f_HM_layers_35_b i_row k35 x1 x2 x3 i_thrown = some out → va_P (dC, dI) vwCl (wd_HM_layers cA q0 q1 q2 q3 q4 q5 q6 q7 q8 q9 q10 q11 q12 q13 q14 q15 q16 q17 q18 q19 q20 q21 q22 q23 q24 q25 q26 q27 q28 q29 q30 q31 u0 u1 u2 u3 u4 u5 u6 u7 u8 u9 u10 u11 u12 u13 u14 u15 u16 u17 u18 u19 u20 i_row i_thrown) H → va_D A (wd_HM_layers cA q0 q1 q2 q3 q4 q5 q6 q7 q8 q9 q10 q11 q12 q13 q14 q15 q16 q17 q18 q19 q20 q21 q22 q23 q24 q25 q26 q27 q28 q29 q30 q31 u0 u1 u2 u3 u4 u5 u6 u7 u8 u9 u10 u11 u12 u13 u14 u15 u16 u17 u18 u19 u20 i_row i_thrown) → va_S A s.heap H locs → lv_has ls 4 [(0, .ref q0), (1, .int (Int32.ofInt x1)), (2, .int (Int32.ofInt x2)), (3, .int (Int32.ofInt x3))] → W p l e rm_HM_layers s m args below meth c H locs 0 0 Q (F0 m 35 ls []) := by
    intro k35 ih35 x1 x2 x3 i_thrown H locs ls hf hP hD hS hl
    unfold f_HM_layers_35_b at hf
    refine lv_iload_n hx hb dX11_layers_35 rfl (lv_at hl 3 rfl) ?_
    refine lv_aload_n hx hb dX11_layers_36 rfl (lv_at hl 0 rfl) ?_
    refine va_get (D := (dC, dI)) (ci := 11) (v := .ref q2) (C := RX11) (T := TX11) (N := 53) hx hb hz zi_X11 hown hK hP 0 rfl rfl 3 (by decide) (hz _ zw_1168) (fun _ h9 => h9) rfl dX11_layers_37 ?_
    refine lv_bipush (v := Int32.ofInt 9) hx hb dX11_layers_40 (by decide) ?_
    refine lv_iload_n hx hb dX11_layers_42 rfl (lv_at hl 1 rfl) ?_
    refine xi_iadd hx hb dX11_layers_43 hf (fun v1 hf => ?_)
    refine xi_iald hx hb hK hP 1 0 rfl rfl dX11_layers_44 hf (fun v2 hf => ?_)
    refine xi_icmp_ge (tgt := 95) hx hb dX11_layers_45 (by decide) hf (fun hf => ?_) (fun hf => ?_)
    · refine lv_iload_n hx hb dX11_layers_95 rfl (lv_at hl 2 rfl) ?_
      obtain rfl := Option.some.inj hf
      exact hret _ _ _ _ rfl dX11_layers_96 hP hD hS
    · refine lv_iload_n hx hb dX11_layers_48 rfl (lv_at hl 2 rfl) ?_
      refine lv_aload_n hx hb dX11_layers_49 rfl (lv_at hl 0 rfl) ?_
      refine va_get (D := (dC, dI)) (ci := 11) (v := .ref q2) (C := RX11) (T := TX11) (N := 53) hx hb hz zi_X11 hown hK hP 0 rfl rfl 3 (by decide) (hz _ zw_1168) (fun _ h9 => h9) rfl dX11_layers_50 ?_
      refine lv_bipush (v := Int32.ofInt 21) hx hb dX11_layers_53 (by decide) ?_
      refine lv_bipush (v := Int32.ofInt 10) hx hb dX11_layers_55 (by decide) ?_
      refine lv_iload_n hx hb dX11_layers_57 rfl (lv_at hl 1 rfl) ?_
      refine xi_imul hx hb dX11_layers_58 hf (fun v3 hf => ?_)
      refine xi_iadd hx hb dX11_layers_59 hf (fun v4 hf => ?_)
      refine lv_iload_n hx hb dX11_layers_60 rfl (lv_at hl 3 rfl) ?_
      refine xi_iadd hx hb dX11_layers_61 hf (fun v5 hf => ?_)
      refine xi_iald hx hb hK hP 1 0 rfl rfl dX11_layers_62 hf (fun v6 hf => ?_)
      refine lv_aload_n hx hb dX11_layers_63 rfl (lv_at hl 0 rfl) ?_
      refine va_get (D := (dC, dI)) (ci := 11) (v := .ref q2) (C := RX11) (T := TX11) (N := 53) hx hb hz zi_X11 hown hK hP 0 rfl rfl 3 (by decide) (hz _ zw_1168) (fun _ h9 => h9) rfl dX11_layers_64 ?_
      refine lv_bipush (v := Int32.ofInt 21) hx hb dX11_layers_67 (by decide) ?_
      refine lv_bipush (v := Int32.ofInt 10) hx hb dX11_layers_69 (by decide) ?_
      refine lv_iload_n hx hb dX11_layers_71 rfl (lv_at hl 1 rfl) ?_
      refine xi_imul hx hb dX11_layers_72 hf (fun v7 hf => ?_)
      refine xi_iadd hx hb dX11_layers_73 hf (fun v8 hf => ?_)
      refine lv_iload_n hx hb dX11_layers_74 rfl (lv_at hl 3 rfl) ?_
      refine xi_iadd hx hb dX11_layers_75 hf (fun v9 hf => ?_)
      refine lv_iconst (v := Int32.ofInt 1) hx hb dX11_layers_76 rfl ?_
      refine xi_isub hx hb dX11_layers_77 hf (fun v10 hf => ?_)
      refine xi_iald hx hb hK hP 1 0 rfl rfl dX11_layers_78 hf (fun v11 hf => ?_)
      refine xi_icmp_le (tgt := 86) hx hb dX11_layers_79 (by decide) hf (fun hf => ?_) (fun hf => ?_)
      · refine lv_iconst (v := Int32.ofInt 0) hx hb dX11_layers_86 rfl ?_
        exact b_87 _ ih35 _ _ _ _ _ _ _ _ hf hP hD hS (lv_sub hl [0, 1, 3] rfl)
      · refine lv_iconst (v := Int32.ofInt 1) hx hb dX11_layers_82 rfl ?_
        refine lv_goto (tgt := 87) hx hb dX11_layers_83 (by decide) ?_
        exact b_87 _ ih35 _ _ _ _ _ _ _ _ hf hP hD hS (lv_sub hl [0, 1, 3] rfl)
  have l_35 : ∀ (n : Nat), ∀ (x1 : Int) (x2 : Int) (x3 : Int) (i_thrown : Int) (H : Heap) (locs : List Loc) (ls : Array Slot), f_HM_layers_35 i_row n x1 x2 x3 i_thrown = some out → va_P (dC, dI) vwCl (wd_HM_layers cA q0 q1 q2 q3 q4 q5 q6 q7 q8 q9 q10 q11 q12 q13 q14 q15 q16 q17 q18 q19 q20 q21 q22 q23 q24 q25 q26 q27 q28 q29 q30 q31 u0 u1 u2 u3 u4 u5 u6 u7 u8 u9 u10 u11 u12 u13 u14 u15 u16 u17 u18 u19 u20 i_row i_thrown) H → va_D A (wd_HM_layers cA q0 q1 q2 q3 q4 q5 q6 q7 q8 q9 q10 q11 q12 q13 q14 q15 q16 q17 q18 q19 q20 q21 q22 q23 q24 q25 q26 q27 q28 q29 q30 q31 u0 u1 u2 u3 u4 u5 u6 u7 u8 u9 u10 u11 u12 u13 u14 u15 u16 u17 u18 u19 u20 i_row i_thrown) → va_S A s.heap H locs → lv_has ls 4 [(0, .ref q0), (1, .int (Int32.ofInt x1)), (2, .int (Int32.ofInt x2)), (3, .int (Int32.ofInt x3))] → W p l e rm_HM_layers s m args below meth c H locs 0 0 Q (F0 m 35 ls []) := by
    intro n
    induction n with
    | zero => intro x1 x2 x3 i_thrown H locs ls hf hP hD hS hl; exact nomatch hf
    | succ n ih => intro x1 x2 x3 i_thrown H locs ls hf hP hD hS hl; exact b_35 (f_HM_layers_35 i_row n) ih x1 x2 x3 i_thrown H locs ls hf hP hD hS hl
  have b_32 : ∀ (x1 : Int) (s0 : Int) (i_thrown : Int) (H : Heap) (locs : List Loc) (ls : Array Slot), f_HM_layers_32 i_row x1 s0 i_thrown = some out → va_P (dC, dI) vwCl (wd_HM_layers cA q0 q1 q2 q3 q4 q5 q6 q7 q8 q9 q10 q11 q12 q13 q14 q15 q16 q17 q18 q19 q20 q21 q22 q23 q24 q25 q26 q27 q28 q29 q30 q31 u0 u1 u2 u3 u4 u5 u6 u7 u8 u9 u10 u11 u12 u13 u14 u15 u16 u17 u18 u19 u20 i_row i_thrown) H → va_D A (wd_HM_layers cA q0 q1 q2 q3 q4 q5 q6 q7 q8 q9 q10 q11 q12 q13 q14 q15 q16 q17 q18 q19 q20 q21 q22 q23 q24 q25 q26 q27 q28 q29 q30 q31 u0 u1 u2 u3 u4 u5 u6 u7 u8 u9 u10 u11 u12 u13 u14 u15 u16 u17 u18 u19 u20 i_row i_thrown) → va_S A s.heap H locs → lv_has ls 4 [(0, .ref q0), (1, .int (Int32.ofInt x1))] → W p l e rm_HM_layers s m args below meth c H locs 0 0 Q (F0 m 32 ls [.int (Int32.ofInt s0)]) := by
    intro x1 s0 i_thrown H locs ls hf hP hD hS hl
    unfold f_HM_layers_32 at hf
    refine lv_istore_n (lv' := [(2, .int (Int32.ofInt s0)), (0, .ref q0), (1, .int (Int32.ofInt x1))]) hx hb dX11_layers_32 rfl hl (by decide) rfl (fun ls hl => ?_)
    refine lv_iconst (v := Int32.ofInt 1) hx hb dX11_layers_33 rfl ?_
    refine lv_istore_n (lv' := [(3, .int (Int32.ofInt 1)), (2, .int (Int32.ofInt s0)), (0, .ref q0), (1, .int (Int32.ofInt x1))]) hx hb dX11_layers_34 rfl hl (by decide) rfl (fun ls hl => ?_)
    exact l_35  _ _ _ _ _ _ _ _ hf hP hD hS (lv_sub hl [2, 3, 1, 0] rfl)
  unfold f_HM_layers at hf
  refine lv_aload_n hx hb dX11_layers_0 rfl (lv_at hl 0 rfl) ?_
  refine lv_iconst (v := Int32.ofInt 0) hx hb dX11_layers_1 rfl ?_
  refine va_put (D := (dC, dI)) (ci := 11) (v := .int (Int32.ofInt 0)) (ty := .int) (C := RX11) (T := TX11) (N := 53) hx hb hz zi_X11 tyX11 tyX11_ok nmX11 hown hK hP hD hS 0 rfl rfl 0 (by decide) (hz _ zw_1165) (fun _ h9 => h9) rfl (by decide +kernel) rfl rfl (Nat.le_of_ble_eq_true rfl) dX11_layers_2 (fun H locs hP hD hS => ?_)
  have hP : va_P (dC, dI) vwCl (wd_HM_layers cA q0 q1 q2 q3 q4 q5 q6 q7 q8 q9 q10 q11 q12 q13 q14 q15 q16 q17 q18 q19 q20 q21 q22 q23 q24 q25 q26 q27 q28 q29 q30 q31 u0 u1 u2 u3 u4 u5 u6 u7 u8 u9 u10 u11 u12 u13 u14 u15 u16 u17 u18 u19 u20 i_row 0) H := hP
  have hD : va_D A (wd_HM_layers cA q0 q1 q2 q3 q4 q5 q6 q7 q8 q9 q10 q11 q12 q13 q14 q15 q16 q17 q18 q19 q20 q21 q22 q23 q24 q25 q26 q27 q28 q29 q30 q31 u0 u1 u2 u3 u4 u5 u6 u7 u8 u9 u10 u11 u12 u13 u14 u15 u16 u17 u18 u19 u20 i_row 0) := hD
  refine lv_aload_n hx hb dX11_layers_5 rfl (lv_at hl 0 rfl) ?_
  refine lv_iload_n hx hb dX11_layers_6 rfl (lv_at hl 1 rfl) ?_
  refine xe_d1 hf (fun v1 hg hf => ?_)
  have hC : ([0, 1] : List Nat).map (fun i => (wd_HM_layers cA q0 q1 q2 q3 q4 q5 q6 q7 q8 q9 q10 q11 q12 q13 q14 q15 q16 q17 q18 q19 q20 q21 q22 q23 q24 q25 q26 q27 q28 q29 q30 q31 u0 u1 u2 u3 u4 u5 u6 u7 u8 u9 u10 u11 u12 u13 u14 u15 u16 u17 u18 u19 u20 i_row 0)[i]?) = (wd_HM_isColumn cA q0 q1 q2 q3 q4 q5 q6 q7 q8 q9 q10 q11 q12 q13 q14 q15 q16 q17 q18 q19 q20 q21 q22 q23 q24 q25 q26 q27 q28 q29 q30 q31 0 u0 u1 u2 u3 u4 u5 u6 u7 u8 u9 u10 u11 u12 u13 u14 u15 u16 u17 u18 u19 u20 i_row).map some := rfl
  refine xv_afterI (ws' := (wd_HM_layers cA q0 q1 q2 q3 q4 q5 q6 q7 q8 q9 q10 q11 q12 q13 q14 q15 q16 q17 q18 q19 q20 q21 q22 q23 q24 q25 q26 q27 q28 q29 q30 q31 u0 u1 u2 u3 u4 u5 u6 u7 u8 u9 u10 u11 u12 u13 u14 u15 u16 u17 u18 u19 u20 i_row 0)) (isC := [0, 1]) (ps := [some 0, some 1]) (va_runV (As := [.int (Int32.ofInt x1)]) (rest := []) ⟨hx, hb, hml, hown, hts⟩ (c_HM_isColumn l ev dC dI cA q0 q1 q2 q3 q4 q5 q6 q7 q8 q9 q10 q11 q12 q13 q14 q15 q16 q17 q18 q19 q20 q21 q22 q23 q24 q25 q26 q27 q28 q29 q30 q31 0 u0 u1 u2 u3 u4 u5 u6 u7 u8 u9 u10 u11 u12 u13 u14 u15 u16 u17 u18 u19 u20 hg H.size) (cwV 1 hts (zgV zw_1356 zw_1358 zw_42 zw_115 zw_1359) rfl rfl rfl hd_HM_isColumn ⟨Nat.le_of_ble_eq_true rfl, Nat.le_of_ble_eq_true rfl⟩) (xv_preV (T := TX11) (N := 53) hE hA hS hK hP hD (isC := [0, 1]) (by decide +kernel) hC (q0 := 0) (ci := 11) rfl rfl) rfl rfl hl.1 rfl (lv_room (Nat.le_of_ble_eq_true rfl)) dX11_layers_7 ⟨Nat.le_refl _, Nat.le_refl _⟩) hP hD hS hA (by decide +kernel) rfl hC rfl rfl (fun H locs hP hD hS => ?_)
  refine xi_if_ne (tgt := 15) hx hb dX11_layers_10 (by decide) hf (fun hf => ?_) (fun hf => ?_)
  · refine lv_aload_n hx hb dX11_layers_15 rfl (lv_at hl 0 rfl) ?_
    refine va_get (D := (dC, dI)) (ci := 11) (v := .ref q2) (C := RX11) (T := TX11) (N := 53) hx hb hz zi_X11 hown hK hP 0 rfl rfl 3 (by decide) (hz _ zw_1168) (fun _ h9 => h9) rfl dX11_layers_16 ?_
    refine lv_bipush (v := Int32.ofInt 9) hx hb dX11_layers_19 (by decide) ?_
    refine lv_iload_n hx hb dX11_layers_21 rfl (lv_at hl 1 rfl) ?_
    refine xi_iadd hx hb dX11_layers_22 hf (fun v2 hf => ?_)
    refine xi_iald hx hb hK hP 1 0 rfl rfl dX11_layers_23 hf (fun v3 hf => ?_)
    refine xi_if_le (tgt := 31) hx hb dX11_layers_24 (by decide) hf (fun hf => ?_) (fun hf => ?_)
    · refine lv_iconst (v := Int32.ofInt 0) hx hb dX11_layers_31 rfl ?_
      exact b_32  _ _ _ _ _ _ hf hP hD hS (lv_sub hl [0, 1] rfl)
    · refine lv_iconst (v := Int32.ofInt 1) hx hb dX11_layers_27 rfl ?_
      refine lv_goto (tgt := 32) hx hb dX11_layers_28 (by decide) ?_
      exact b_32  _ _ _ _ _ _ hf hP hD hS (lv_sub hl [0, 1] rfl)
  · refine lv_iconst (v := Int32.ofInt (-1)) hx hb dX11_layers_13 rfl ?_
    obtain rfl := Option.some.inj hf
    exact hret _ _ _ _ rfl dX11_layers_14 hP hD hS
theorem dX11_rain_0 : decode cX11_rain 0 = .ok (.aload_n 0, 1) := by decide +kernel
theorem dX11_rain_1 : decode cX11_rain 1 = .ok (.iconst 0, 1) := by decide +kernel
theorem dX11_rain_2 : decode cX11_rain 2 = .ok (.putfield 126, 3) := by decide +kernel
theorem dX11_rain_5 : decode cX11_rain 5 = .ok (.iload_n 1, 1) := by decide +kernel
theorem dX11_rain_6 : decode cX11_rain 6 = .ok (.i2l, 1) := by decide +kernel
theorem dX11_rain_7 : decode cX11_rain 7 = .ok (.lconst 0, 1) := by decide +kernel
theorem dX11_rain_8 : decode cX11_rain 8 = .ok (.ldc2_w 214, 3) := by decide +kernel
theorem dX11_rain_11 : decode cX11_rain 11 = .ok (.invokestatic 132, 3) := by decide +kernel
theorem dX11_rain_14 : decode cX11_rain 14 = .ok (.ifCond .eq 15, 3) := by decide +kernel
theorem dX11_rain_17 : decode cX11_rain 17 = .ok (.iload_n 2, 1) := by decide +kernel
theorem dX11_rain_18 : decode cX11_rain 18 = .ok (.i2l, 1) := by decide +kernel
theorem dX11_rain_19 : decode cX11_rain 19 = .ok (.lconst 1, 1) := by decide +kernel
theorem dX11_rain_20 : decode cX11_rain 20 = .ok (.ldc2_w 475, 3) := by decide +kernel
theorem dX11_rain_23 : decode cX11_rain 23 = .ok (.invokestatic 132, 3) := by decide +kernel
theorem dX11_rain_26 : decode cX11_rain 26 = .ok (.ifCond .ne 9, 3) := by decide +kernel
theorem dX11_rain_29 : decode cX11_rain 29 = .ok (.aload_n 0, 1) := by decide +kernel
theorem dX11_rain_30 : decode cX11_rain 30 = .ok (.iconst (-1), 1) := by decide +kernel
theorem dX11_rain_31 : decode cX11_rain 31 = .ok (.invokevirtual 136, 3) := by decide +kernel
theorem dX11_rain_34 : decode cX11_rain 34 = .ok (.ireturn, 1) := by decide +kernel
theorem dX11_rain_35 : decode cX11_rain 35 = .ok (.aload_n 0, 1) := by decide +kernel
theorem dX11_rain_36 : decode cX11_rain 36 = .ok (.invokevirtual 360, 3) := by decide +kernel
theorem dX11_rain_39 : decode cX11_rain 39 = .ok (.aload_n 0, 1) := by decide +kernel
theorem dX11_rain_40 : decode cX11_rain 40 = .ok (.iload_n 1, 1) := by decide +kernel
theorem dX11_rain_41 : decode cX11_rain 41 = .ok (.i2l, 1) := by decide +kernel
theorem dX11_rain_42 : decode cX11_rain 42 = .ok (.putfield 477, 3) := by decide +kernel
theorem dX11_rain_45 : decode cX11_rain 45 = .ok (.aload_n 0, 1) := by decide +kernel
theorem dX11_rain_46 : decode cX11_rain 46 = .ok (.aload_n 0, 1) := by decide +kernel
theorem dX11_rain_47 : decode cX11_rain 47 = .ok (.invokevirtual 140, 3) := by decide +kernel
theorem dX11_rain_50 : decode cX11_rain 50 = .ok (.putfield 480, 3) := by decide +kernel
theorem dX11_rain_53 : decode cX11_rain 53 = .ok (.iconst 0, 1) := by decide +kernel
theorem dX11_rain_54 : decode cX11_rain 54 = .ok (.istore_n 3, 1) := by decide +kernel
theorem dX11_rain_55 : decode cX11_rain 55 = .ok (.iconst 0, 1) := by decide +kernel
theorem dX11_rain_56 : decode cX11_rain 56 = .ok (.istore 4, 2) := by decide +kernel
theorem dX11_rain_58 : decode cX11_rain 58 = .ok (.iload 4, 2) := by decide +kernel
theorem dX11_rain_60 : decode cX11_rain 60 = .ok (.iload_n 2, 1) := by decide +kernel
theorem dX11_rain_61 : decode cX11_rain 61 = .ok (.if_icmp .ge 116, 3) := by decide +kernel
theorem dX11_rain_64 : decode cX11_rain 64 = .ok (.aload_n 0, 1) := by decide +kernel
theorem dX11_rain_65 : decode cX11_rain 65 = .ok (.getfield 480, 3) := by decide +kernel
theorem dX11_rain_68 : decode cX11_rain 68 = .ok (.ifCond .le 109, 3) := by decide +kernel
theorem dX11_rain_71 : decode cX11_rain 71 = .ok (.aload_n 0, 1) := by decide +kernel
theorem dX11_rain_72 : decode cX11_rain 72 = .ok (.aload_n 0, 1) := by decide +kernel
theorem dX11_rain_73 : decode cX11_rain 73 = .ok (.getfield 477, 3) := by decide +kernel
theorem dX11_rain_76 : decode cX11_rain 76 = .ok (.ldc2_w 483, 3) := by decide +kernel
theorem dX11_rain_79 : decode cX11_rain 79 = .ok (.lmul, 1) := by decide +kernel
theorem dX11_rain_80 : decode cX11_rain 80 = .ok (.ldc2_w 485, 3) := by decide +kernel
theorem dX11_rain_83 : decode cX11_rain 83 = .ok (.ladd, 1) := by decide +kernel
theorem dX11_rain_84 : decode cX11_rain 84 = .ok (.ldc2_w 487, 3) := by decide +kernel
theorem dX11_rain_87 : decode cX11_rain 87 = .ok (.lrem, 1) := by decide +kernel
theorem dX11_rain_88 : decode cX11_rain 88 = .ok (.putfield 477, 3) := by decide +kernel
theorem dX11_rain_91 : decode cX11_rain 91 = .ok (.aload_n 0, 1) := by decide +kernel
theorem dX11_rain_92 : decode cX11_rain 92 = .ok (.getfield 477, 3) := by decide +kernel
theorem dX11_rain_95 : decode cX11_rain 95 = .ok (.aload_n 0, 1) := by decide +kernel
theorem dX11_rain_96 : decode cX11_rain 96 = .ok (.getfield 480, 3) := by decide +kernel
theorem dX11_rain_99 : decode cX11_rain 99 = .ok (.i2l, 1) := by decide +kernel
theorem dX11_rain_100 : decode cX11_rain 100 = .ok (.lrem, 1) := by decide +kernel
theorem dX11_rain_101 : decode cX11_rain 101 = .ok (.l2i, 1) := by decide +kernel
theorem dX11_rain_102 : decode cX11_rain 102 = .ok (.istore 5, 2) := by decide +kernel
theorem dX11_rain_104 : decode cX11_rain 104 = .ok (.aload_n 0, 1) := by decide +kernel
theorem dX11_rain_105 : decode cX11_rain 105 = .ok (.getfield 71, 3) := by decide +kernel
theorem dX11_rain_108 : decode cX11_rain 108 = .ok (.iload 5, 2) := by decide +kernel
theorem dX11_rain_110 : decode cX11_rain 110 = .ok (.iaload, 1) := by decide +kernel
theorem dX11_rain_111 : decode cX11_rain 111 = .ok (.ifCond .le 55, 3) := by decide +kernel
theorem dX11_rain_114 : decode cX11_rain 114 = .ok (.iload 5, 2) := by decide +kernel
theorem dX11_rain_116 : decode cX11_rain 116 = .ok (.iconst 1, 1) := by decide +kernel
theorem dX11_rain_117 : decode cX11_rain 117 = .ok (.iadd, 1) := by decide +kernel
theorem dX11_rain_118 : decode cX11_rain 118 = .ok (.aload_n 0, 1) := by decide +kernel
theorem dX11_rain_119 : decode cX11_rain 119 = .ok (.getfield 480, 3) := by decide +kernel
theorem dX11_rain_122 : decode cX11_rain 122 = .ok (.if_icmp .ge 30, 3) := by decide +kernel
theorem dX11_rain_125 : decode cX11_rain 125 = .ok (.aload_n 0, 1) := by decide +kernel
theorem dX11_rain_126 : decode cX11_rain 126 = .ok (.getfield 71, 3) := by decide +kernel
theorem dX11_rain_129 : decode cX11_rain 129 = .ok (.iload 5, 2) := by decide +kernel
theorem dX11_rain_131 : decode cX11_rain 131 = .ok (.iconst 1, 1) := by decide +kernel
theorem dX11_rain_132 : decode cX11_rain 132 = .ok (.iadd, 1) := by decide +kernel
theorem dX11_rain_133 : decode cX11_rain 133 = .ok (.iaload, 1) := by decide +kernel
theorem dX11_rain_134 : decode cX11_rain 134 = .ok (.bipush 10, 2) := by decide +kernel
theorem dX11_rain_136 : decode cX11_rain 136 = .ok (.if_icmp .ge 16, 3) := by decide +kernel
theorem dX11_rain_139 : decode cX11_rain 139 = .ok (.aload_n 0, 1) := by decide +kernel
theorem dX11_rain_140 : decode cX11_rain 140 = .ok (.iload 5, 2) := by decide +kernel
theorem dX11_rain_142 : decode cX11_rain 142 = .ok (.iload 5, 2) := by decide +kernel
theorem dX11_rain_144 : decode cX11_rain 144 = .ok (.iconst 1, 1) := by decide +kernel
theorem dX11_rain_145 : decode cX11_rain 145 = .ok (.iadd, 1) := by decide +kernel
theorem dX11_rain_146 : decode cX11_rain 146 = .ok (.invokevirtual 367, 3) := by decide +kernel
theorem dX11_rain_149 : decode cX11_rain 149 = .ok (.goto 17, 3) := by decide +kernel
theorem dX11_rain_152 : decode cX11_rain 152 = .ok (.aload_n 0, 1) := by decide +kernel
theorem dX11_rain_153 : decode cX11_rain 153 = .ok (.getfield 71, 3) := by decide +kernel
theorem dX11_rain_156 : decode cX11_rain 156 = .ok (.iload 5, 2) := by decide +kernel
theorem dX11_rain_158 : decode cX11_rain 158 = .ok (.dup2, 1) := by decide +kernel
theorem dX11_rain_159 : decode cX11_rain 159 = .ok (.iaload, 1) := by decide +kernel
theorem dX11_rain_160 : decode cX11_rain 160 = .ok (.iconst 1, 1) := by decide +kernel
theorem dX11_rain_161 : decode cX11_rain 161 = .ok (.isub, 1) := by decide +kernel
theorem dX11_rain_162 : decode cX11_rain 162 = .ok (.iastore, 1) := by decide +kernel
theorem dX11_rain_163 : decode cX11_rain 163 = .ok (.iinc 3 1, 3) := by decide +kernel
theorem dX11_rain_166 : decode cX11_rain 166 = .ok (.aload_n 0, 1) := by decide +kernel
theorem dX11_rain_167 : decode cX11_rain 167 = .ok (.invokevirtual 379, 3) := by decide +kernel
theorem dX11_rain_170 : decode cX11_rain 170 = .ok (.pop, 1) := by decide +kernel
theorem dX11_rain_171 : decode cX11_rain 171 = .ok (.iinc 4 1, 3) := by decide +kernel
theorem dX11_rain_174 : decode cX11_rain 174 = .ok (.goto (-116), 3) := by decide +kernel
theorem dX11_rain_177 : decode cX11_rain 177 = .ok (.iconst 0, 1) := by decide +kernel
theorem dX11_rain_178 : decode cX11_rain 178 = .ok (.istore 4, 2) := by decide +kernel
theorem dX11_rain_180 : decode cX11_rain 180 = .ok (.iload 4, 2) := by decide +kernel
theorem dX11_rain_182 : decode cX11_rain 182 = .ok (.aload_n 0, 1) := by decide +kernel
theorem dX11_rain_183 : decode cX11_rain 183 = .ok (.getfield 480, 3) := by decide +kernel
theorem dX11_rain_186 : decode cX11_rain 186 = .ok (.if_icmp .ge 85, 3) := by decide +kernel
theorem dX11_rain_189 : decode cX11_rain 189 = .ok (.aload_n 0, 1) := by decide +kernel
theorem dX11_rain_190 : decode cX11_rain 190 = .ok (.getfield 123, 3) := by decide +kernel
theorem dX11_rain_193 : decode cX11_rain 193 = .ok (.iconst 2, 1) := by decide +kernel
theorem dX11_rain_194 : decode cX11_rain 194 = .ok (.iload 4, 2) := by decide +kernel
theorem dX11_rain_196 : decode cX11_rain 196 = .ok (.imul, 1) := by decide +kernel
theorem dX11_rain_197 : decode cX11_rain 197 = .ok (.aload_n 0, 1) := by decide +kernel
theorem dX11_rain_198 : decode cX11_rain 198 = .ok (.getfield 71, 3) := by decide +kernel
theorem dX11_rain_201 : decode cX11_rain 201 = .ok (.iload 4, 2) := by decide +kernel
theorem dX11_rain_203 : decode cX11_rain 203 = .ok (.iaload, 1) := by decide +kernel
theorem dX11_rain_204 : decode cX11_rain 204 = .ok (.iastore, 1) := by decide +kernel
theorem dX11_rain_205 : decode cX11_rain 205 = .ok (.aload_n 0, 1) := by decide +kernel
theorem dX11_rain_206 : decode cX11_rain 206 = .ok (.getfield 123, 3) := by decide +kernel
theorem dX11_rain_209 : decode cX11_rain 209 = .ok (.iconst 2, 1) := by decide +kernel
theorem dX11_rain_210 : decode cX11_rain 210 = .ok (.iload 4, 2) := by decide +kernel
theorem dX11_rain_212 : decode cX11_rain 212 = .ok (.imul, 1) := by decide +kernel
theorem dX11_rain_213 : decode cX11_rain 213 = .ok (.iconst 1, 1) := by decide +kernel
theorem dX11_rain_214 : decode cX11_rain 214 = .ok (.iadd, 1) := by decide +kernel
theorem dX11_rain_215 : decode cX11_rain 215 = .ok (.iconst 0, 1) := by decide +kernel
theorem dX11_rain_216 : decode cX11_rain 216 = .ok (.iastore, 1) := by decide +kernel
theorem dX11_rain_217 : decode cX11_rain 217 = .ok (.iconst 0, 1) := by decide +kernel
theorem dX11_rain_218 : decode cX11_rain 218 = .ok (.istore 5, 2) := by decide +kernel
theorem dX11_rain_220 : decode cX11_rain 220 = .ok (.iload 5, 2) := by decide +kernel
theorem dX11_rain_222 : decode cX11_rain 222 = .ok (.aload_n 0, 1) := by decide +kernel
theorem dX11_rain_223 : decode cX11_rain 223 = .ok (.getfield 71, 3) := by decide +kernel
theorem dX11_rain_226 : decode cX11_rain 226 = .ok (.iload 4, 2) := by decide +kernel
theorem dX11_rain_228 : decode cX11_rain 228 = .ok (.iaload, 1) := by decide +kernel
theorem dX11_rain_229 : decode cX11_rain 229 = .ok (.if_icmp .ge 36, 3) := by decide +kernel
theorem dX11_rain_232 : decode cX11_rain 232 = .ok (.aload_n 0, 1) := by decide +kernel
theorem dX11_rain_233 : decode cX11_rain 233 = .ok (.getfield 123, 3) := by decide +kernel
theorem dX11_rain_236 : decode cX11_rain 236 = .ok (.iconst 2, 1) := by decide +kernel
theorem dX11_rain_237 : decode cX11_rain 237 = .ok (.iload 4, 2) := by decide +kernel
theorem dX11_rain_239 : decode cX11_rain 239 = .ok (.imul, 1) := by decide +kernel
theorem dX11_rain_240 : decode cX11_rain 240 = .ok (.iconst 1, 1) := by decide +kernel
theorem dX11_rain_241 : decode cX11_rain 241 = .ok (.iadd, 1) := by decide +kernel
theorem dX11_rain_242 : decode cX11_rain 242 = .ok (.dup2, 1) := by decide +kernel
theorem dX11_rain_243 : decode cX11_rain 243 = .ok (.iaload, 1) := by decide +kernel
theorem dX11_rain_244 : decode cX11_rain 244 = .ok (.aload_n 0, 1) := by decide +kernel
theorem dX11_rain_245 : decode cX11_rain 245 = .ok (.getfield 74, 3) := by decide +kernel
theorem dX11_rain_248 : decode cX11_rain 248 = .ok (.bipush 10, 2) := by decide +kernel
theorem dX11_rain_250 : decode cX11_rain 250 = .ok (.iload 4, 2) := by decide +kernel
theorem dX11_rain_252 : decode cX11_rain 252 = .ok (.imul, 1) := by decide +kernel
theorem dX11_rain_253 : decode cX11_rain 253 = .ok (.iload 5, 2) := by decide +kernel
theorem dX11_rain_255 : decode cX11_rain 255 = .ok (.iadd, 1) := by decide +kernel
theorem dX11_rain_256 : decode cX11_rain 256 = .ok (.iaload, 1) := by decide +kernel
theorem dX11_rain_257 : decode cX11_rain 257 = .ok (.iadd, 1) := by decide +kernel
theorem dX11_rain_258 : decode cX11_rain 258 = .ok (.iastore, 1) := by decide +kernel
theorem dX11_rain_259 : decode cX11_rain 259 = .ok (.iinc 5 1, 3) := by decide +kernel
theorem dX11_rain_262 : decode cX11_rain 262 = .ok (.goto (-42), 3) := by decide +kernel
theorem dX11_rain_265 : decode cX11_rain 265 = .ok (.iinc 4 1, 3) := by decide +kernel
theorem dX11_rain_268 : decode cX11_rain 268 = .ok (.goto (-88), 3) := by decide +kernel
theorem dX11_rain_271 : decode cX11_rain 271 = .ok (.aload_n 0, 1) := by decide +kernel
theorem dX11_rain_272 : decode cX11_rain 272 = .ok (.iload_n 3, 1) := by decide +kernel
theorem dX11_rain_273 : decode cX11_rain 273 = .ok (.invokevirtual 136, 3) := by decide +kernel
theorem dX11_rain_276 : decode cX11_rain 276 = .ok (.ireturn, 1) := by decide +kernel
theorem zw_1215 : (Jvm.Cond.fieldLink "HillSchoolModel" (477 : Nat) "HillSchoolModel" "state" "J") ∈ zall := zmemG (zmj_5 152 rfl) rfl
theorem zw_1216 : (Jvm.Cond.fieldLink "HillSchoolModel" (123 : Nat) "HillSchoolModel" "rained" "[I") ∈ zall := zmemG (zmj_5 153 rfl) rfl
theorem zw_1217 : (Jvm.Cond.fieldLink "HillSchoolModel" (480 : Nat) "HillSchoolModel" "wet" "I") ∈ zall := zmemG (zmj_5 154 rfl) rfl
theorem zw_1769 : (Jvm.Cond.code ({ cls := "HillSchoolModel", name := "rain", desc := "(II)I" } : Jvm.MethodName) prog_13_method_109_code (6 : Nat) (Option.some Jvm.ClassFile.FieldType.int)) ∈ zall := zmemG (zmj_7 226 rfl) rfl
theorem zw_1770 : (Jvm.Cond.constantLong "HillSchoolModel" (475 : Nat) (40 : Int64)) ∈ zall := zmemG (zmj_7 227 rfl) rfl
theorem zw_1771 : (Jvm.Cond.constantLong "HillSchoolModel" (483 : Nat) (1103 : Int64)) ∈ zall := zmemG (zmj_7 228 rfl) rfl
theorem zw_1772 : (Jvm.Cond.constantLong "HillSchoolModel" (485 : Nat) (12345 : Int64)) ∈ zall := zmemG (zmj_7 229 rfl) rfl
theorem zw_1773 : (Jvm.Cond.constantLong "HillSchoolModel" (487 : Nat) (1000003 : Int64)) ∈ zall := zmemG (zmj_7 230 rfl) rfl
abbrev w_HM_rain : List Cond := .code yX11_rain cX11_rain 6 (some .int) :: zall
abbrev rm_HM_rain : Room := { frames := 5, cells := 0, slots := 0, locals := 111 }
theorem hd_HM_rain : yX11_rain.cls = "HillSchoolModel" ∧ yX11_rain.cls ≠ "java/lang/invoke/MethodHandle" ∧ yX11_rain.cls ≠ "java/lang/invoke/VarHandle" ∧ (parseMethodDescriptor yX11_rain.desc).map (fun d => d.parameters.length) = some 2 := by decide +kernel
def wd_HM_rain (cA : Nat → ClassId) (q0 q1 q2 q3 q4 q5 q6 q7 q8 q9 q10 q11 q12 q13 q14 q15 q16 q17 q18 q19 q20 q21 q22 q23 q24 q25 q26 q27 q28 q29 q30 q31 : Nat) (u0 u1 u2 u3 u4 u5 u6 u7 u8 u9 u10 u11 u12 u13 u14 u15 u16 u17 : Int) (i_row : Nat → Int) (i_thrown : Int) (i_status : Int) (i_state : Int) (i_wet : Int) (i_refusals : Nat → Int) (i_high : Nat → Int) (i_heaps : Nat → Int) (i_rained : Nat → Int) : va_W := [(q0, .inr (11, [.int (Int32.ofInt i_thrown), .int (Int32.ofInt i_status), .ref q1, .ref q2, .ref q3, .ref q4, .int (Int32.ofInt u0), .ref q5, .int (Int32.ofInt u1), .int (Int32.ofInt u2), .int (Int32.ofInt u3), .int (Int32.ofInt u4), .long (Int64.ofInt u5), .int (Int32.ofInt u6), .int (Int32.ofInt u7), .int (Int32.ofInt u8), .ref q6, .int (Int32.ofInt u9), .ref q7, .ref q8, .int (Int32.ofInt u10), .ref q9, .ref q10, .int (Int32.ofInt u11), .int (Int32.ofInt u12), .ref q11, .int (Int32.ofInt u13), .ref q12, .ref q13, .int (Int32.ofInt u14), .long (Int64.ofInt u15), .long (Int64.ofInt u16), .ref q14, .ref q15, .ref q16, .ref q17, .ref q18, .int (Int32.ofInt u17), .ref q19, .ref q20, .ref q21, .ref q22, .ref q23, .ref q24, .ref q25, .ref q26, .ref q27, .ref q28, .ref q29, .ref q30, .long (Int64.ofInt i_state), .ref q31, .int (Int32.ofInt i_wet)])), (q1, .inl (cA 0, 7, .inl (za i_refusals))), (q2, .inl (cA 0, 5580, .inl (za i_row))), (q14, .inl (cA 0, 12, .inl (za i_high))), (q15, .inl (cA 0, 120, .inl (za i_heaps))), (q31, .inl (cA 0, 24, .inl (za i_rained)))]
def wf_HM_rain (cA : Nat → ClassId) (q0 q1 q2 q3 q4 q5 q6 q7 q8 q9 q10 q11 q12 q13 q14 q15 q16 q17 q18 q19 q20 q21 q22 q23 q24 q25 q26 q27 q28 q29 q30 q31 : Nat) (u0 u1 u2 u3 u4 u5 u6 u7 u8 u9 u10 u11 u12 u13 u14 u15 u16 u17 : Int) (i_row : Nat → Int) (o : Int × Int × Int × Int × Int × (Nat → Int) × (Nat → Int) × (Nat → Int) × (Nat → Int)) : va_W := wd_HM_rain cA q0 q1 q2 q3 q4 q5 q6 q7 q8 q9 q10 q11 q12 q13 q14 q15 q16 q17 q18 q19 q20 q21 q22 q23 q24 q25 q26 q27 q28 q29 q30 q31 u0 u1 u2 u3 u4 u5 u6 u7 u8 u9 u10 u11 u12 u13 u14 u15 u16 u17 i_row o.2.1 o.2.2.1 o.2.2.2.1 o.2.2.2.2.1 o.2.2.2.2.2.1 o.2.2.2.2.2.2.1 o.2.2.2.2.2.2.2.1 o.2.2.2.2.2.2.2.2
def f_HM_rain_29 (i_row : Nat → Int) (i_thrown : Int) (i_status : Int) (i_state : Int) (i_wet : Int) (i_refusals : Nat → Int) (i_high : Nat → Int) (i_heaps : Nat → Int) (i_rained : Nat → Int) : Option (Int × Int × Int × Int × Int × (Nat → Int) × (Nat → Int) × (Nat → Int) × (Nat → Int)) :=
  zd3 (f_HM_tell (-1) i_status i_refusals) fun v1 v2 a3 =>
  some (v1, i_thrown, v2, i_state, i_wet, a3, i_high, i_heaps, i_rained)
def f_HM_rain_220_b (i_row : Nat → Int) (k180 : Int → Int → Int → Int → Int → Int → (Nat → Int) → (Nat → Int) → (Nat → Int) → (Nat → Int) → Option (Int × Int × Int × Int × Int × (Nat → Int) × (Nat → Int) × (Nat → Int) × (Nat → Int))) (k220 : Int → Int → Int → Int → Int → Int → Int → (Nat → Int) → (Nat → Int) → (Nat → Int) → (Nat → Int) → Option (Int × Int × Int × Int × Int × (Nat → Int) × (Nat → Int) × (Nat → Int) × (Nat → Int))) (x3 : Int) (x4 : Int) (x5 : Int) (i_thrown : Int) (i_status : Int) (i_state : Int) (i_wet : Int) (i_refusals : Nat → Int) (i_high : Nat → Int) (i_heaps : Nat → Int) (i_rained : Nat → Int) : Option (Int × Int × Int × Int × Int × (Nat → Int) × (Nat → Int) × (Nat → Int) × (Nat → Int)) :=
  zg 12 i_high x4 fun v1 =>
  if zi_w v1 ≤ zi_w x5 then
    zn (x4 + 1) fun v2 =>
    k180 x3 v2 i_thrown i_status i_state i_wet i_refusals i_high i_heaps i_rained
  else
    zn (2 * x4) fun v3 =>
    zn (v3 + 1) fun v4 =>
    zg 24 i_rained v4 fun v5 =>
    zn (10 * x4) fun v6 =>
    zn (v6 + x5) fun v7 =>
    zg 120 i_heaps v7 fun v8 =>
    zn (v5 + v8) fun v9 =>
    zs 24 i_rained v4 v9 fun a10 =>
    zn (x5 + 1) fun v11 =>
    k220 x3 x4 v11 i_thrown i_status i_state i_wet i_refusals i_high i_heaps a10
def f_HM_rain_220 (i_row : Nat → Int) (k180 : Int → Int → Int → Int → Int → Int → (Nat → Int) → (Nat → Int) → (Nat → Int) → (Nat → Int) → Option (Int × Int × Int × Int × Int × (Nat → Int) × (Nat → Int) × (Nat → Int) × (Nat → Int))) : Nat → Int → Int → Int → Int → Int → Int → Int → (Nat → Int) → (Nat → Int) → (Nat → Int) → (Nat → Int) → Option (Int × Int × Int × Int × Int × (Nat → Int) × (Nat → Int) × (Nat → Int) × (Nat → Int))
  | 0 => fun _ _ _ _ _ _ _ _ _ _ _ => none
  | n + 1 => fun y0 y1 y2 y3 y4 y5 y6 y7 y8 y9 y10 => f_HM_rain_220_b i_row k180 (f_HM_rain_220 i_row k180 n) y0 y1 y2 y3 y4 y5 y6 y7 y8 y9 y10
def f_HM_rain_180_b (i_row : Nat → Int) (k180 : Int → Int → Int → Int → Int → Int → (Nat → Int) → (Nat → Int) → (Nat → Int) → (Nat → Int) → Option (Int × Int × Int × Int × Int × (Nat → Int) × (Nat → Int) × (Nat → Int) × (Nat → Int))) (x3 : Int) (x4 : Int) (i_thrown : Int) (i_status : Int) (i_state : Int) (i_wet : Int) (i_refusals : Nat → Int) (i_high : Nat → Int) (i_heaps : Nat → Int) (i_rained : Nat → Int) : Option (Int × Int × Int × Int × Int × (Nat → Int) × (Nat → Int) × (Nat → Int) × (Nat → Int)) :=
  if zi_w i_wet ≤ zi_w x4 then
    zd3 (f_HM_tell x3 i_status i_refusals) fun v1 v2 a3 =>
    some (v1, i_thrown, v2, i_state, i_wet, a3, i_high, i_heaps, i_rained)
  else
    zn (2 * x4) fun v4 =>
    zg 12 i_high x4 fun v5 =>
    zs 24 i_rained v4 v5 fun a6 =>
    zn (2 * x4) fun v7 =>
    zn (v7 + 1) fun v8 =>
    zs 24 a6 v8 0 fun a9 =>
    f_HM_rain_220 i_row k180 zfu x3 x4 0 i_thrown i_status i_state i_wet i_refusals i_high i_heaps a9
def f_HM_rain_180 (i_row : Nat → Int) : Nat → Int → Int → Int → Int → Int → Int → (Nat → Int) → (Nat → Int) → (Nat → Int) → (Nat → Int) → Option (Int × Int × Int × Int × Int × (Nat → Int) × (Nat → Int) × (Nat → Int) × (Nat → Int))
  | 0 => fun _ _ _ _ _ _ _ _ _ _ => none
  | n + 1 => fun y0 y1 y2 y3 y4 y5 y6 y7 y8 y9 => f_HM_rain_180_b i_row (f_HM_rain_180 i_row n) y0 y1 y2 y3 y4 y5 y6 y7 y8 y9
def f_HM_rain_177 (i_row : Nat → Int) (x3 : Int) (i_thrown : Int) (i_status : Int) (i_state : Int) (i_wet : Int) (i_refusals : Nat → Int) (i_high : Nat → Int) (i_heaps : Nat → Int) (i_rained : Nat → Int) : Option (Int × Int × Int × Int × Int × (Nat → Int) × (Nat → Int) × (Nat → Int) × (Nat → Int)) :=
  f_HM_rain_180 i_row zfu x3 0 i_thrown i_status i_state i_wet i_refusals i_high i_heaps i_rained
def f_HM_rain_166 (i_row : Nat → Int) (k58 : Int → Int → Int → Int → Int → Int → Int → (Nat → Int) → (Nat → Int) → (Nat → Int) → (Nat → Int) → Option (Int × Int × Int × Int × Int × (Nat → Int) × (Nat → Int) × (Nat → Int) × (Nat → Int))) (x2 : Int) (x3 : Int) (x4 : Int) (i_thrown : Int) (i_status : Int) (i_state : Int) (i_wet : Int) (i_refusals : Nat → Int) (i_high : Nat → Int) (i_heaps : Nat → Int) (i_rained : Nat → Int) : Option (Int × Int × Int × Int × Int × (Nat → Int) × (Nat → Int) × (Nat → Int) × (Nat → Int)) :=
  zd3 (f_HM_slideAll i_row i_high i_heaps) fun v1 a2 a3 =>
  zn (x4 + 1) fun v4 =>
  k58 x2 x3 v4 i_thrown i_status i_state i_wet i_refusals a2 a3 i_rained
def f_HM_rain_152 (i_row : Nat → Int) (k58 : Int → Int → Int → Int → Int → Int → Int → (Nat → Int) → (Nat → Int) → (Nat → Int) → (Nat → Int) → Option (Int × Int × Int × Int × Int × (Nat → Int) × (Nat → Int) × (Nat → Int) × (Nat → Int))) (x2 : Int) (x3 : Int) (x4 : Int) (x5 : Int) (i_thrown : Int) (i_status : Int) (i_state : Int) (i_wet : Int) (i_refusals : Nat → Int) (i_high : Nat → Int) (i_heaps : Nat → Int) (i_rained : Nat → Int) : Option (Int × Int × Int × Int × Int × (Nat → Int) × (Nat → Int) × (Nat → Int) × (Nat → Int)) :=
  zg 12 i_high x5 fun v1 =>
  zn (v1 - 1) fun v2 =>
  zs 12 i_high x5 v2 fun a3 =>
  zn (x3 + 1) fun v4 =>
  f_HM_rain_166 i_row k58 x2 v4 x4 i_thrown i_status i_state i_wet i_refusals a3 i_heaps i_rained
def f_HM_rain_58_b (i_row : Nat → Int) (k58 : Int → Int → Int → Int → Int → Int → Int → (Nat → Int) → (Nat → Int) → (Nat → Int) → (Nat → Int) → Option (Int × Int × Int × Int × Int × (Nat → Int) × (Nat → Int) × (Nat → Int) × (Nat → Int))) (x2 : Int) (x3 : Int) (x4 : Int) (i_thrown : Int) (i_status : Int) (i_state : Int) (i_wet : Int) (i_refusals : Nat → Int) (i_high : Nat → Int) (i_heaps : Nat → Int) (i_rained : Nat → Int) : Option (Int × Int × Int × Int × Int × (Nat → Int) × (Nat → Int) × (Nat → Int) × (Nat → Int)) :=
  if zi_w x2 ≤ zi_w x4 then
    f_HM_rain_177 i_row x3 i_thrown i_status i_state i_wet i_refusals i_high i_heaps i_rained
  else
    if zi_w i_wet ≤ 0 then
      f_HM_rain_177 i_row x3 i_thrown i_status i_state i_wet i_refusals i_high i_heaps i_rained
    else
      zn (i_state * 1103) fun v1 =>
      zn (v1 + 12345) fun v2 =>
      if zl_w 1000003 = 0 then none else zn (zl_rem v2 1000003) fun v3 =>
      zn (zi_w i_wet) fun v4 =>
      if zl_w v4 = 0 then none else zn (zl_rem v3 v4) fun v5 =>
      zg 12 i_high v5 fun v6 =>
      if zi_w v6 ≤ 0 then
        f_HM_rain_166 i_row k58 x2 x3 x4 i_thrown i_status v3 i_wet i_refusals i_high i_heaps i_rained
      else
        zn (v5 + 1) fun v7 =>
        if zi_w i_wet ≤ zi_w v7 then
          f_HM_rain_152 i_row k58 x2 x3 x4 v5 i_thrown i_status v3 i_wet i_refusals i_high i_heaps i_rained
        else
          zn (v5 + 1) fun v8 =>
          zg 12 i_high v8 fun v9 =>
          if zi_w 10 ≤ zi_w v9 then
            f_HM_rain_152 i_row k58 x2 x3 x4 v5 i_thrown i_status v3 i_wet i_refusals i_high i_heaps i_rained
          else
            zn (v5 + 1) fun v10 =>
            zd2 (f_HM_shift v5 v10 i_high i_heaps) fun a11 a12 =>
            f_HM_rain_166 i_row k58 x2 x3 x4 i_thrown i_status v3 i_wet i_refusals a11 a12 i_rained
def f_HM_rain_58 (i_row : Nat → Int) : Nat → Int → Int → Int → Int → Int → Int → Int → (Nat → Int) → (Nat → Int) → (Nat → Int) → (Nat → Int) → Option (Int × Int × Int × Int × Int × (Nat → Int) × (Nat → Int) × (Nat → Int) × (Nat → Int))
  | 0 => fun _ _ _ _ _ _ _ _ _ _ _ => none
  | n + 1 => fun y0 y1 y2 y3 y4 y5 y6 y7 y8 y9 y10 => f_HM_rain_58_b i_row (f_HM_rain_58 i_row n) y0 y1 y2 y3 y4 y5 y6 y7 y8 y9 y10
def f_HM_rain (x1 : Int) (x2 : Int) (i_row : Nat → Int) (i_thrown : Int) (i_status : Int) (i_state : Int) (i_wet : Int) (i_refusals : Nat → Int) (i_high : Nat → Int) (i_heaps : Nat → Int) (i_rained : Nat → Int) : Option (Int × Int × Int × Int × Int × (Nat → Int) × (Nat → Int) × (Nat → Int) × (Nat → Int)) :=
  zn (zi_w x1) fun v1 =>
  zd1 (f_HM_in v1 0 1000000) fun v2 =>
  if zi_w v2 = 0 then
    f_HM_rain_29 i_row 0 i_status i_state i_wet i_refusals i_high i_heaps i_rained
  else
    zn (zi_w x2) fun v3 =>
    zd1 (f_HM_in v3 1 40) fun v4 =>
    if zi_w v4 ≠ 0 then
      zd2 (f_HM_load i_row i_high i_heaps) fun a5 a6 =>
      zn (zi_w x1) fun v7 =>
      zd1 (f_HM_columns i_row) fun v8 =>
      f_HM_rain_58 i_row zfu x2 0 0 0 i_status v7 v8 i_refusals a5 a6 i_rained
    else
      f_HM_rain_29 i_row 0 i_status i_state i_wet i_refusals i_high i_heaps i_rained
set_option maxHeartbeats 4000000 in
set_option maxRecDepth 100000 in
theorem c_HM_rain (l : Launch) (ev : zEv) (dC : Nat → ClassId) (dI : Nat → Nat → Nat) (cA : Nat → ClassId) (q0 q1 q2 q3 q4 q5 q6 q7 q8 q9 q10 q11 q12 q13 q14 q15 q16 q17 q18 q19 q20 q21 q22 q23 q24 q25 q26 q27 q28 q29 q30 q31 : Nat) (u0 u1 u2 u3 u4 u5 u6 u7 u8 u9 u10 u11 u12 u13 u14 u15 u16 u17 : Int) {x1 x2 : Int} {i_row : Nat → Int} {i_thrown : Int} {i_status : Int} {i_state : Int} {i_wet : Int} {i_refusals : Nat → Int} {i_high : Nat → Int} {i_heaps : Nat → Int} {i_rained : Nat → Int} {out : Int × Int × Int × Int × Int × (Nat → Int) × (Nat → Int) × (Nat → Int) × (Nat → Int)} (hf : f_HM_rain x1 x2 i_row i_thrown i_status i_state i_wet i_refusals i_high i_heaps i_rained = some out) : xc_I l ev (dC, dI) vwCl (tyl cA) yX11_rain w_HM_rain rm_HM_rain [.ref q0, .int (Int32.ofInt x1), .int (Int32.ofInt x2)] (wd_HM_rain cA q0 q1 q2 q3 q4 q5 q6 q7 q8 q9 q10 q11 q12 q13 q14 q15 q16 q17 q18 q19 q20 q21 q22 q23 q24 q25 q26 q27 q28 q29 q30 q31 u0 u1 u2 u3 u4 u5 u6 u7 u8 u9 u10 u11 u12 u13 u14 u15 u16 u17 i_row i_thrown i_status i_state i_wet i_refusals i_high i_heaps i_rained) (wf_HM_rain cA q0 q1 q2 q3 q4 q5 q6 q7 q8 q9 q10 q11 q12 q13 q14 q15 q16 q17 q18 q19 q20 q21 q22 q23 q24 q25 q26 q27 q28 q29 q30 q31 u0 u1 u2 u3 u4 u5 u6 u7 u8 u9 u10 u11 u12 u13 u14 u15 u16 u17 i_row out) out.1 := by
  refine xv_startI (cc := cX11_rain) (maxL := 6) (rt := .int) (by decide +kernel) rfl (Nat.le_of_ble_eq_true rfl) ?_
  intro p e s m args below meth c A Q H ls hx hb hml hts hown hK hA hP hD hS hl hE hret
  have hown : s.vm.findClass "HillSchoolModel" = some m.cls := hown
  have hz : ∀ w ∈ zall, w.before args s = true := fun w h => hts w (List.mem_cons_of_mem _ h)
  have hl : lv_has ls 6 [(0, .ref q0), (1, .int (Int32.ofInt x1)), (2, .int (Int32.ofInt x2))] := hl
  have b_29 : ∀ (i_thrown : Int) (i_status : Int) (i_state : Int) (i_wet : Int) (i_refusals : Nat → Int) (i_high : Nat → Int) (i_heaps : Nat → Int) (i_rained : Nat → Int) (H : Heap) (locs : List Loc) (ls : Array Slot), f_HM_rain_29 i_row i_thrown i_status i_state i_wet i_refusals i_high i_heaps i_rained = some out → va_P (dC, dI) vwCl (wd_HM_rain cA q0 q1 q2 q3 q4 q5 q6 q7 q8 q9 q10 q11 q12 q13 q14 q15 q16 q17 q18 q19 q20 q21 q22 q23 q24 q25 q26 q27 q28 q29 q30 q31 u0 u1 u2 u3 u4 u5 u6 u7 u8 u9 u10 u11 u12 u13 u14 u15 u16 u17 i_row i_thrown i_status i_state i_wet i_refusals i_high i_heaps i_rained) H → va_D A (wd_HM_rain cA q0 q1 q2 q3 q4 q5 q6 q7 q8 q9 q10 q11 q12 q13 q14 q15 q16 q17 q18 q19 q20 q21 q22 q23 q24 q25 q26 q27 q28 q29 q30 q31 u0 u1 u2 u3 u4 u5 u6 u7 u8 u9 u10 u11 u12 u13 u14 u15 u16 u17 i_row i_thrown i_status i_state i_wet i_refusals i_high i_heaps i_rained) → va_S A s.heap H locs → lv_has ls 6 [(0, .ref q0)] → W p l e rm_HM_rain s m args below meth c H locs 0 0 Q (F0 m 29 ls []) := by
    intro i_thrown i_status i_state i_wet i_refusals i_high i_heaps i_rained H locs ls hf hP hD hS hl
    unfold f_HM_rain_29 at hf
    refine lv_aload_n hx hb dX11_rain_29 rfl (lv_at hl 0 rfl) ?_
    refine lv_iconst (v := Int32.ofInt (-1)) hx hb dX11_rain_30 rfl ?_
    refine xe_d3 hf (fun v1 v2 a3 hg hf => ?_)
    have hC : ([0, 1] : List Nat).map (fun i => (wd_HM_rain cA q0 q1 q2 q3 q4 q5 q6 q7 q8 q9 q10 q11 q12 q13 q14 q15 q16 q17 q18 q19 q20 q21 q22 q23 q24 q25 q26 q27 q28 q29 q30 q31 u0 u1 u2 u3 u4 u5 u6 u7 u8 u9 u10 u11 u12 u13 u14 u15 u16 u17 i_row i_thrown i_status i_state i_wet i_refusals i_high i_heaps i_rained)[i]?) = (wd_HM_tell cA q0 q1 q2 q3 q4 q5 q6 q7 q8 q9 q10 q11 q12 q13 q14 q15 q16 q17 q18 q19 q20 q21 q22 q23 q24 q25 q26 q27 q28 q29 q30 q31 i_thrown u0 u1 u2 u3 u4 u5 u6 u7 u8 u9 u10 u11 u12 u13 u14 u15 u16 u17 i_state i_wet i_status i_refusals).map some := rfl
    refine xv_afterI (ws' := (wd_HM_rain cA q0 q1 q2 q3 q4 q5 q6 q7 q8 q9 q10 q11 q12 q13 q14 q15 q16 q17 q18 q19 q20 q21 q22 q23 q24 q25 q26 q27 q28 q29 q30 q31 u0 u1 u2 u3 u4 u5 u6 u7 u8 u9 u10 u11 u12 u13 u14 u15 u16 u17 i_row i_thrown v2 i_state i_wet a3 i_high i_heaps i_rained)) (isC := [0, 1]) (ps := [some 0, some 1, none, none, none, none]) (va_runV (As := [.int (Int32.ofInt (-1))]) (rest := []) ⟨hx, hb, hml, hown, hts⟩ (c_HM_tell l ev dC dI cA q0 q1 q2 q3 q4 q5 q6 q7 q8 q9 q10 q11 q12 q13 q14 q15 q16 q17 q18 q19 q20 q21 q22 q23 q24 q25 q26 q27 q28 q29 q30 q31 i_thrown u0 u1 u2 u3 u4 u5 u6 u7 u8 u9 u10 u11 u12 u13 u14 u15 u16 u17 i_state i_wet hg H.size) (cwV 1 hts (zgV zw_1332 zw_1334 zw_40 zw_115 zw_1335) rfl rfl rfl hd_HM_tell ⟨Nat.le_of_ble_eq_true rfl, Nat.le_of_ble_eq_true rfl⟩) (xv_preV (T := TX11) (N := 53) hE hA hS hK hP hD (isC := [0, 1]) (by decide +kernel) hC (q0 := 0) (ci := 11) rfl rfl) rfl rfl hl.1 rfl (lv_room (Nat.le_of_ble_eq_true rfl)) dX11_rain_31 ⟨Nat.le_refl _, Nat.le_refl _⟩) hP hD hS hA (by decide +kernel) rfl hC rfl rfl (fun H locs hP hD hS => ?_)
    obtain rfl := Option.some.inj hf
    exact hret _ _ _ _ rfl dX11_rain_34 hP hD hS
  have b_220 : ∀ (k180 : Int → Int → Int → Int → Int → Int → (Nat → Int) → (Nat → Int) → (Nat → Int) → (Nat → Int) → Option (Int × Int × Int × Int × Int × (Nat → Int) × (Nat → Int) × (Nat → Int) × (Nat → Int))) (_ : ∀ (x3 : Int) (x4 : Int) (i_thrown : Int) (i_status : Int) (i_state : Int) (i_wet : Int) (i_refusals : Nat → Int) (i_high : Nat → Int) (i_heaps : Nat → Int) (i_rained : Nat → Int) (H : Heap) (locs : List Loc) (ls : Array Slot), k180 x3 x4 i_thrown i_status i_state i_wet i_refusals i_high i_heaps i_rained = some out → va_P (dC, dI) vwCl (wd_HM_rain cA q0 q1 q2 q3 q4 q5 q6 q7 q8 q9 q10 q11 q12 q13 q14 q15 q16 q17 q18 q19 q20 q21 q22 q23 q24 q25 q26 q27 q28 q29 q30 q31 u0 u1 u2 u3 u4 u5 u6 u7 u8 u9 u10 u11 u12 u13 u14 u15 u16 u17 i_row i_thrown i_status i_state i_wet i_refusals i_high i_heaps i_rained) H → va_D A (wd_HM_rain cA q0 q1 q2 q3 q4 q5 q6 q7 q8 q9 q10 q11 q12 q13 q14 q15 q16 q17 q18 q19 q20 q21 q22 q23 q24 q25 q26 q27 q28 q29 q30 q31 u0 u1 u2 u3 u4 u5 u6 u7 u8 u9 u10 u11 u12 u13 u14 u15 u16 u17 i_row i_thrown i_status i_state i_wet i_refusals i_high i_heaps i_rained) → va_S A s.heap H locs → lv_has ls 6 [(0, .ref q0), (3, .int (Int32.ofInt x3)), (4, .int (Int32.ofInt x4))] → W p l e rm_HM_rain s m args below meth c H locs 0 0 Q (F0 m 180 ls [])), ∀ (k220 : Int → Int → Int → Int → Int → Int → Int → (Nat → Int) → (Nat → Int) → (Nat → Int) → (Nat → Int) → Option (Int × Int × Int × Int × Int × (Nat → Int) × (Nat → Int) × (Nat → Int) × (Nat → Int))) (_ : ∀ (x3 : Int) (x4 : Int) (x5 : Int) (i_thrown : Int) (i_status : Int) (i_state : Int) (i_wet : Int) (i_refusals : Nat → Int) (i_high : Nat → Int) (i_heaps : Nat → Int) (i_rained : Nat → Int) (H : Heap) (locs : List Loc) (ls : Array Slot), k220 x3 x4 x5 i_thrown i_status i_state i_wet i_refusals i_high i_heaps i_rained = some out → va_P (dC, dI) vwCl (wd_HM_rain cA q0 q1 q2 q3 q4 q5 q6 q7 q8 q9 q10 q11 q12 q13 q14 q15 q16 q17 q18 q19 q20 q21 q22 q23 q24 q25 q26 q27 q28 q29 q30 q31 u0 u1 u2 u3 u4 u5 u6 u7 u8 u9 u10 u11 u12 u13 u14 u15 u16 u17 i_row i_thrown i_status i_state i_wet i_refusals i_high i_heaps i_rained) H → va_D A (wd_HM_rain cA q0 q1 q2 q3 q4 q5 q6 q7 q8 q9 q10 q11 q12 q13 q14 q15 q16 q17 q18 q19 q20 q21 q22 q23 q24 q25 q26 q27 q28 q29 q30 q31 u0 u1 u2 u3 u4 u5 u6 u7 u8 u9 u10 u11 u12 u13 u14 u15 u16 u17 i_row i_thrown i_status i_state i_wet i_refusals i_high i_heaps i_rained) → va_S A s.heap H locs → lv_has ls 6 [(0, .ref q0), (3, .int (Int32.ofInt x3)), (4, .int (Int32.ofInt x4)), (5, .int (Int32.ofInt x5))] → W p l e rm_HM_rain s m args below meth c H locs 0 0 Q (F0 m 220 ls [])), ∀ (x3 : Int) (x4 : Int) (x5 : Int) (i_thrown : Int) (i_status : Int) (i_state : Int) (i_wet : Int) (i_refusals : Nat → Int) (i_high : Nat → Int) (i_heaps : Nat → Int) (i_rained : Nat → Int) (H : Heap) (locs : List Loc) (ls : Array Slot), f_HM_rain_220_b i_row k180 k220 x3 x4 x5 i_thrown i_status i_state i_wet i_refusals i_high i_heaps i_rained = some out → va_P (dC, dI) vwCl (wd_HM_rain cA q0 q1 q2 q3 q4 q5 q6 q7 q8 q9 q10 q11 q12 q13 q14 q15 q16 q17 q18 q19 q20 q21 q22 q23 q24 q25 q26 q27 q28 q29 q30 q31 u0 u1 u2 u3 u4 u5 u6 u7 u8 u9 u10 u11 u12 u13 u14 u15 u16 u17 i_row i_thrown i_status i_state i_wet i_refusals i_high i_heaps i_rained) H → va_D A (wd_HM_rain cA q0 q1 q2 q3 q4 q5 q6 q7 q8 q9 q10 q11 q12 q13 q14 q15 q16 q17 q18 q19 q20 q21 q22 q23 q24 q25 q26 q27 q28 q29 q30 q31 u0 u1 u2 u3 u4 u5 u6 u7 u8 u9 u10 u11 u12 u13 u14 u15 u16 u17 i_row i_thrown i_status i_state i_wet i_refusals i_high i_heaps i_rained) → va_S A s.heap H locs → lv_has ls 6 [(0, .ref q0), (3, .int (Int32.ofInt x3)), (4, .int (Int32.ofInt x4)), (5, .int (Int32.ofInt x5))] → W p l e rm_HM_rain s m args below meth c H locs 0 0 Q (F0 m 220 ls []) := by
    intro k180 ih180 k220 ih220 x3 x4 x5 i_thrown i_status i_state i_wet i_refusals i_high i_heaps i_rained H locs ls hf hP hD hS hl
    unfold f_HM_rain_220_b at hf
    refine lv_iload hx hb dX11_rain_220 (lv_at hl 3 rfl) ?_
    refine lv_aload_n hx hb dX11_rain_222 rfl (lv_at hl 0 rfl) ?_
    refine va_get (D := (dC, dI)) (ci := 11) (v := .ref q14) (C := RX11) (T := TX11) (N := 53) hx hb hz zi_X11 hown hK hP 0 rfl rfl 32 (by decide) (hz _ zw_1197) (fun _ h9 => h9) rfl dX11_rain_223 ?_
    refine lv_iload hx hb dX11_rain_226 (lv_at hl 2 rfl) ?_
    refine xi_iald hx hb hK hP 3 0 rfl rfl dX11_rain_228 hf (fun v1 hf => ?_)
    refine xi_icmp_ge (tgt := 265) hx hb dX11_rain_229 (by decide) hf (fun hf => ?_) (fun hf => ?_)
    · refine xi_iinc hx hb dX11_rain_265 hl (k := 2) rfl (by decide) hf (fun v2 ls hl hf => ?_)
      have hl : lv_has ls 6 [(4, .int (Int32.ofInt v2)), (0, .ref q0), (3, .int (Int32.ofInt x3)), (5, .int (Int32.ofInt x5))] := hl
      refine lv_goto (tgt := 180) hx hb dX11_rain_268 (by decide) ?_
      exact ih180 _ _ _ _ _ _ _ _ _ _ _ _ _ hf hP hD hS (lv_sub hl [1, 2, 0] rfl)
    · refine lv_aload_n hx hb dX11_rain_232 rfl (lv_at hl 0 rfl) ?_
      refine va_get (D := (dC, dI)) (ci := 11) (v := .ref q31) (C := RX11) (T := TX11) (N := 53) hx hb hz zi_X11 hown hK hP 0 rfl rfl 51 (by decide) (hz _ zw_1216) (fun _ h9 => h9) rfl dX11_rain_233 ?_
      refine lv_iconst (v := Int32.ofInt 2) hx hb dX11_rain_236 rfl ?_
      refine lv_iload hx hb dX11_rain_237 (lv_at hl 2 rfl) ?_
      refine xi_imul hx hb dX11_rain_239 hf (fun v3 hf => ?_)
      refine lv_iconst (v := Int32.ofInt 1) hx hb dX11_rain_240 rfl ?_
      refine xi_iadd hx hb dX11_rain_241 hf (fun v4 hf => ?_)
      refine lv_dup2_11 hx hb dX11_rain_242 rfl rfl ?_
      refine xi_iald hx hb hK hP 5 0 rfl rfl dX11_rain_243 hf (fun v5 hf => ?_)
      refine lv_aload_n hx hb dX11_rain_244 rfl (lv_at hl 0 rfl) ?_
      refine va_get (D := (dC, dI)) (ci := 11) (v := .ref q15) (C := RX11) (T := TX11) (N := 53) hx hb hz zi_X11 hown hK hP 0 rfl rfl 33 (by decide) (hz _ zw_1198) (fun _ h9 => h9) rfl dX11_rain_245 ?_
      refine lv_bipush (v := Int32.ofInt 10) hx hb dX11_rain_248 (by decide) ?_
      refine lv_iload hx hb dX11_rain_250 (lv_at hl 2 rfl) ?_
      refine xi_imul hx hb dX11_rain_252 hf (fun v6 hf => ?_)
      refine lv_iload hx hb dX11_rain_253 (lv_at hl 3 rfl) ?_
      refine xi_iadd hx hb dX11_rain_255 hf (fun v7 hf => ?_)
      refine xi_iald hx hb hK hP 4 0 rfl rfl dX11_rain_256 hf (fun v8 hf => ?_)
      refine xi_iadd hx hb dX11_rain_257 hf (fun v9 hf => ?_)
      refine xi_iast hx hb hK hP hD hS 5 0 rfl rfl dX11_rain_258 hf (fun a10 H locs hP hD hS hf => ?_)
      have hP : va_P (dC, dI) vwCl (wd_HM_rain cA q0 q1 q2 q3 q4 q5 q6 q7 q8 q9 q10 q11 q12 q13 q14 q15 q16 q17 q18 q19 q20 q21 q22 q23 q24 q25 q26 q27 q28 q29 q30 q31 u0 u1 u2 u3 u4 u5 u6 u7 u8 u9 u10 u11 u12 u13 u14 u15 u16 u17 i_row i_thrown i_status i_state i_wet i_refusals i_high i_heaps a10) H := hP
      have hD : va_D A (wd_HM_rain cA q0 q1 q2 q3 q4 q5 q6 q7 q8 q9 q10 q11 q12 q13 q14 q15 q16 q17 q18 q19 q20 q21 q22 q23 q24 q25 q26 q27 q28 q29 q30 q31 u0 u1 u2 u3 u4 u5 u6 u7 u8 u9 u10 u11 u12 u13 u14 u15 u16 u17 i_row i_thrown i_status i_state i_wet i_refusals i_high i_heaps a10) := hD
      refine xi_iinc hx hb dX11_rain_259 hl (k := 3) rfl (by decide) hf (fun v11 ls hl hf => ?_)
      have hl : lv_has ls 6 [(5, .int (Int32.ofInt v11)), (0, .ref q0), (3, .int (Int32.ofInt x3)), (4, .int (Int32.ofInt x4))] := hl
      refine lv_goto (tgt := 220) hx hb dX11_rain_262 (by decide) ?_
      exact ih220 _ _ _ _ _ _ _ _ _ _ _ _ _ _ hf hP hD hS (lv_sub hl [1, 2, 3, 0] rfl)
  have l_220 : ∀ (k180 : Int → Int → Int → Int → Int → Int → (Nat → Int) → (Nat → Int) → (Nat → Int) → (Nat → Int) → Option (Int × Int × Int × Int × Int × (Nat → Int) × (Nat → Int) × (Nat → Int) × (Nat → Int))) (_ : ∀ (x3 : Int) (x4 : Int) (i_thrown : Int) (i_status : Int) (i_state : Int) (i_wet : Int) (i_refusals : Nat → Int) (i_high : Nat → Int) (i_heaps : Nat → Int) (i_rained : Nat → Int) (H : Heap) (locs : List Loc) (ls : Array Slot), k180 x3 x4 i_thrown i_status i_state i_wet i_refusals i_high i_heaps i_rained = some out → va_P (dC, dI) vwCl (wd_HM_rain cA q0 q1 q2 q3 q4 q5 q6 q7 q8 q9 q10 q11 q12 q13 q14 q15 q16 q17 q18 q19 q20 q21 q22 q23 q24 q25 q26 q27 q28 q29 q30 q31 u0 u1 u2 u3 u4 u5 u6 u7 u8 u9 u10 u11 u12 u13 u14 u15 u16 u17 i_row i_thrown i_status i_state i_wet i_refusals i_high i_heaps i_rained) H → va_D A (wd_HM_rain cA q0 q1 q2 q3 q4 q5 q6 q7 q8 q9 q10 q11 q12 q13 q14 q15 q16 q17 q18 q19 q20 q21 q22 q23 q24 q25 q26 q27 q28 q29 q30 q31 u0 u1 u2 u3 u4 u5 u6 u7 u8 u9 u10 u11 u12 u13 u14 u15 u16 u17 i_row i_thrown i_status i_state i_wet i_refusals i_high i_heaps i_rained) → va_S A s.heap H locs → lv_has ls 6 [(0, .ref q0), (3, .int (Int32.ofInt x3)), (4, .int (Int32.ofInt x4))] → W p l e rm_HM_rain s m args below meth c H locs 0 0 Q (F0 m 180 ls [])), ∀ (n : Nat), ∀ (x3 : Int) (x4 : Int) (x5 : Int) (i_thrown : Int) (i_status : Int) (i_state : Int) (i_wet : Int) (i_refusals : Nat → Int) (i_high : Nat → Int) (i_heaps : Nat → Int) (i_rained : Nat → Int) (H : Heap) (locs : List Loc) (ls : Array Slot), f_HM_rain_220 i_row k180 n x3 x4 x5 i_thrown i_status i_state i_wet i_refusals i_high i_heaps i_rained = some out → va_P (dC, dI) vwCl (wd_HM_rain cA q0 q1 q2 q3 q4 q5 q6 q7 q8 q9 q10 q11 q12 q13 q14 q15 q16 q17 q18 q19 q20 q21 q22 q23 q24 q25 q26 q27 q28 q29 q30 q31 u0 u1 u2 u3 u4 u5 u6 u7 u8 u9 u10 u11 u12 u13 u14 u15 u16 u17 i_row i_thrown i_status i_state i_wet i_refusals i_high i_heaps i_rained) H → va_D A (wd_HM_rain cA q0 q1 q2 q3 q4 q5 q6 q7 q8 q9 q10 q11 q12 q13 q14 q15 q16 q17 q18 q19 q20 q21 q22 q23 q24 q25 q26 q27 q28 q29 q30 q31 u0 u1 u2 u3 u4 u5 u6 u7 u8 u9 u10 u11 u12 u13 u14 u15 u16 u17 i_row i_thrown i_status i_state i_wet i_refusals i_high i_heaps i_rained) → va_S A s.heap H locs → lv_has ls 6 [(0, .ref q0), (3, .int (Int32.ofInt x3)), (4, .int (Int32.ofInt x4)), (5, .int (Int32.ofInt x5))] → W p l e rm_HM_rain s m args below meth c H locs 0 0 Q (F0 m 220 ls []) := by
    intro k180 ih180 n
    induction n with
    | zero => intro x3 x4 x5 i_thrown i_status i_state i_wet i_refusals i_high i_heaps i_rained H locs ls hf hP hD hS hl; exact nomatch hf
    | succ n ih => intro x3 x4 x5 i_thrown i_status i_state i_wet i_refusals i_high i_heaps i_rained H locs ls hf hP hD hS hl; exact b_220 k180 ih180 (f_HM_rain_220 i_row k180 n) ih x3 x4 x5 i_thrown i_status i_state i_wet i_refusals i_high i_heaps i_rained H locs ls hf hP hD hS hl
  have b_180 : ∀ (k180 : Int → Int → Int → Int → Int → Int → (Nat → Int) → (Nat → Int) → (Nat → Int) → (Nat → Int) → Option (Int × Int × Int × Int × Int × (Nat → Int) × (Nat → Int) × (Nat → Int) × (Nat → Int))) (_ : ∀ (x3 : Int) (x4 : Int) (i_thrown : Int) (i_status : Int) (i_state : Int) (i_wet : Int) (i_refusals : Nat → Int) (i_high : Nat → Int) (i_heaps : Nat → Int) (i_rained : Nat → Int) (H : Heap) (locs : List Loc) (ls : Array Slot), k180 x3 x4 i_thrown i_status i_state i_wet i_refusals i_high i_heaps i_rained = some out → va_P (dC, dI) vwCl (wd_HM_rain cA q0 q1 q2 q3 q4 q5 q6 q7 q8 q9 q10 q11 q12 q13 q14 q15 q16 q17 q18 q19 q20 q21 q22 q23 q24 q25 q26 q27 q28 q29 q30 q31 u0 u1 u2 u3 u4 u5 u6 u7 u8 u9 u10 u11 u12 u13 u14 u15 u16 u17 i_row i_thrown i_status i_state i_wet i_refusals i_high i_heaps i_rained) H → va_D A (wd_HM_rain cA q0 q1 q2 q3 q4 q5 q6 q7 q8 q9 q10 q11 q12 q13 q14 q15 q16 q17 q18 q19 q20 q21 q22 q23 q24 q25 q26 q27 q28 q29 q30 q31 u0 u1 u2 u3 u4 u5 u6 u7 u8 u9 u10 u11 u12 u13 u14 u15 u16 u17 i_row i_thrown i_status i_state i_wet i_refusals i_high i_heaps i_rained) → va_S A s.heap H locs → lv_has ls 6 [(0, .ref q0), (3, .int (Int32.ofInt x3)), (4, .int (Int32.ofInt x4))] → W p l e rm_HM_rain s m args below meth c H locs 0 0 Q (F0 m 180 ls [])), ∀ (x3 : Int) (x4 : Int) (i_thrown : Int) (i_status : Int) (i_state : Int) (i_wet : Int) (i_refusals : Nat → Int) (i_high : Nat → Int) (i_heaps : Nat → Int) (i_rained : Nat → Int) (H : Heap) (locs : List Loc) (ls : Array Slot), f_HM_rain_180_b i_row k180 x3 x4 i_thrown i_status i_state i_wet i_refusals i_high i_heaps i_rained = some out → va_P (dC, dI) vwCl (wd_HM_rain cA q0 q1 q2 q3 q4 q5 q6 q7 q8 q9 q10 q11 q12 q13 q14 q15 q16 q17 q18 q19 q20 q21 q22 q23 q24 q25 q26 q27 q28 q29 q30 q31 u0 u1 u2 u3 u4 u5 u6 u7 u8 u9 u10 u11 u12 u13 u14 u15 u16 u17 i_row i_thrown i_status i_state i_wet i_refusals i_high i_heaps i_rained) H → va_D A (wd_HM_rain cA q0 q1 q2 q3 q4 q5 q6 q7 q8 q9 q10 q11 q12 q13 q14 q15 q16 q17 q18 q19 q20 q21 q22 q23 q24 q25 q26 q27 q28 q29 q30 q31 u0 u1 u2 u3 u4 u5 u6 u7 u8 u9 u10 u11 u12 u13 u14 u15 u16 u17 i_row i_thrown i_status i_state i_wet i_refusals i_high i_heaps i_rained) → va_S A s.heap H locs → lv_has ls 6 [(0, .ref q0), (3, .int (Int32.ofInt x3)), (4, .int (Int32.ofInt x4))] → W p l e rm_HM_rain s m args below meth c H locs 0 0 Q (F0 m 180 ls []) := by
    intro k180 ih180 x3 x4 i_thrown i_status i_state i_wet i_refusals i_high i_heaps i_rained H locs ls hf hP hD hS hl
    unfold f_HM_rain_180_b at hf
    refine lv_iload hx hb dX11_rain_180 (lv_at hl 2 rfl) ?_
    refine lv_aload_n hx hb dX11_rain_182 rfl (lv_at hl 0 rfl) ?_
    refine va_get (D := (dC, dI)) (ci := 11) (v := .int (Int32.ofInt i_wet)) (C := RX11) (T := TX11) (N := 53) hx hb hz zi_X11 hown hK hP 0 rfl rfl 52 (by decide) (hz _ zw_1217) (fun _ h9 => h9) rfl dX11_rain_183 ?_
    refine xi_icmp_ge (tgt := 271) hx hb dX11_rain_186 (by decide) hf (fun hf => ?_) (fun hf => ?_)
    · refine lv_aload_n hx hb dX11_rain_271 rfl (lv_at hl 0 rfl) ?_
      refine lv_iload_n hx hb dX11_rain_272 rfl (lv_at hl 1 rfl) ?_
      refine xe_d3 hf (fun v1 v2 a3 hg hf => ?_)
      have hC : ([0, 1] : List Nat).map (fun i => (wd_HM_rain cA q0 q1 q2 q3 q4 q5 q6 q7 q8 q9 q10 q11 q12 q13 q14 q15 q16 q17 q18 q19 q20 q21 q22 q23 q24 q25 q26 q27 q28 q29 q30 q31 u0 u1 u2 u3 u4 u5 u6 u7 u8 u9 u10 u11 u12 u13 u14 u15 u16 u17 i_row i_thrown i_status i_state i_wet i_refusals i_high i_heaps i_rained)[i]?) = (wd_HM_tell cA q0 q1 q2 q3 q4 q5 q6 q7 q8 q9 q10 q11 q12 q13 q14 q15 q16 q17 q18 q19 q20 q21 q22 q23 q24 q25 q26 q27 q28 q29 q30 q31 i_thrown u0 u1 u2 u3 u4 u5 u6 u7 u8 u9 u10 u11 u12 u13 u14 u15 u16 u17 i_state i_wet i_status i_refusals).map some := rfl
      refine xv_afterI (ws' := (wd_HM_rain cA q0 q1 q2 q3 q4 q5 q6 q7 q8 q9 q10 q11 q12 q13 q14 q15 q16 q17 q18 q19 q20 q21 q22 q23 q24 q25 q26 q27 q28 q29 q30 q31 u0 u1 u2 u3 u4 u5 u6 u7 u8 u9 u10 u11 u12 u13 u14 u15 u16 u17 i_row i_thrown v2 i_state i_wet a3 i_high i_heaps i_rained)) (isC := [0, 1]) (ps := [some 0, some 1, none, none, none, none]) (va_runV (As := [.int (Int32.ofInt x3)]) (rest := []) ⟨hx, hb, hml, hown, hts⟩ (c_HM_tell l ev dC dI cA q0 q1 q2 q3 q4 q5 q6 q7 q8 q9 q10 q11 q12 q13 q14 q15 q16 q17 q18 q19 q20 q21 q22 q23 q24 q25 q26 q27 q28 q29 q30 q31 i_thrown u0 u1 u2 u3 u4 u5 u6 u7 u8 u9 u10 u11 u12 u13 u14 u15 u16 u17 i_state i_wet hg H.size) (cwV 1 hts (zgV zw_1332 zw_1334 zw_40 zw_115 zw_1335) rfl rfl rfl hd_HM_tell ⟨Nat.le_of_ble_eq_true rfl, Nat.le_of_ble_eq_true rfl⟩) (xv_preV (T := TX11) (N := 53) hE hA hS hK hP hD (isC := [0, 1]) (by decide +kernel) hC (q0 := 0) (ci := 11) rfl rfl) rfl rfl hl.1 rfl (lv_room (Nat.le_of_ble_eq_true rfl)) dX11_rain_273 ⟨Nat.le_refl _, Nat.le_refl _⟩) hP hD hS hA (by decide +kernel) rfl hC rfl rfl (fun H locs hP hD hS => ?_)
      obtain rfl := Option.some.inj hf
      exact hret _ _ _ _ rfl dX11_rain_276 hP hD hS
    · refine lv_aload_n hx hb dX11_rain_189 rfl (lv_at hl 0 rfl) ?_
      refine va_get (D := (dC, dI)) (ci := 11) (v := .ref q31) (C := RX11) (T := TX11) (N := 53) hx hb hz zi_X11 hown hK hP 0 rfl rfl 51 (by decide) (hz _ zw_1216) (fun _ h9 => h9) rfl dX11_rain_190 ?_
      refine lv_iconst (v := Int32.ofInt 2) hx hb dX11_rain_193 rfl ?_
      refine lv_iload hx hb dX11_rain_194 (lv_at hl 2 rfl) ?_
      refine xi_imul hx hb dX11_rain_196 hf (fun v4 hf => ?_)
      refine lv_aload_n hx hb dX11_rain_197 rfl (lv_at hl 0 rfl) ?_
      refine va_get (D := (dC, dI)) (ci := 11) (v := .ref q14) (C := RX11) (T := TX11) (N := 53) hx hb hz zi_X11 hown hK hP 0 rfl rfl 32 (by decide) (hz _ zw_1197) (fun _ h9 => h9) rfl dX11_rain_198 ?_
      refine lv_iload hx hb dX11_rain_201 (lv_at hl 2 rfl) ?_
      refine xi_iald hx hb hK hP 3 0 rfl rfl dX11_rain_203 hf (fun v5 hf => ?_)
      refine xi_iast hx hb hK hP hD hS 5 0 rfl rfl dX11_rain_204 hf (fun a6 H locs hP hD hS hf => ?_)
      have hP : va_P (dC, dI) vwCl (wd_HM_rain cA q0 q1 q2 q3 q4 q5 q6 q7 q8 q9 q10 q11 q12 q13 q14 q15 q16 q17 q18 q19 q20 q21 q22 q23 q24 q25 q26 q27 q28 q29 q30 q31 u0 u1 u2 u3 u4 u5 u6 u7 u8 u9 u10 u11 u12 u13 u14 u15 u16 u17 i_row i_thrown i_status i_state i_wet i_refusals i_high i_heaps a6) H := hP
      have hD : va_D A (wd_HM_rain cA q0 q1 q2 q3 q4 q5 q6 q7 q8 q9 q10 q11 q12 q13 q14 q15 q16 q17 q18 q19 q20 q21 q22 q23 q24 q25 q26 q27 q28 q29 q30 q31 u0 u1 u2 u3 u4 u5 u6 u7 u8 u9 u10 u11 u12 u13 u14 u15 u16 u17 i_row i_thrown i_status i_state i_wet i_refusals i_high i_heaps a6) := hD
      refine lv_aload_n hx hb dX11_rain_205 rfl (lv_at hl 0 rfl) ?_
      refine va_get (D := (dC, dI)) (ci := 11) (v := .ref q31) (C := RX11) (T := TX11) (N := 53) hx hb hz zi_X11 hown hK hP 0 rfl rfl 51 (by decide) (hz _ zw_1216) (fun _ h9 => h9) rfl dX11_rain_206 ?_
      refine lv_iconst (v := Int32.ofInt 2) hx hb dX11_rain_209 rfl ?_
      refine lv_iload hx hb dX11_rain_210 (lv_at hl 2 rfl) ?_
      refine xi_imul hx hb dX11_rain_212 hf (fun v7 hf => ?_)
      refine lv_iconst (v := Int32.ofInt 1) hx hb dX11_rain_213 rfl ?_
      refine xi_iadd hx hb dX11_rain_214 hf (fun v8 hf => ?_)
      refine lv_iconst (v := Int32.ofInt 0) hx hb dX11_rain_215 rfl ?_
      refine xi_iast hx hb hK hP hD hS 5 0 rfl rfl dX11_rain_216 hf (fun a9 H locs hP hD hS hf => ?_)
      have hP : va_P (dC, dI) vwCl (wd_HM_rain cA q0 q1 q2 q3 q4 q5 q6 q7 q8 q9 q10 q11 q12 q13 q14 q15 q16 q17 q18 q19 q20 q21 q22 q23 q24 q25 q26 q27 q28 q29 q30 q31 u0 u1 u2 u3 u4 u5 u6 u7 u8 u9 u10 u11 u12 u13 u14 u15 u16 u17 i_row i_thrown i_status i_state i_wet i_refusals i_high i_heaps a9) H := hP
      have hD : va_D A (wd_HM_rain cA q0 q1 q2 q3 q4 q5 q6 q7 q8 q9 q10 q11 q12 q13 q14 q15 q16 q17 q18 q19 q20 q21 q22 q23 q24 q25 q26 q27 q28 q29 q30 q31 u0 u1 u2 u3 u4 u5 u6 u7 u8 u9 u10 u11 u12 u13 u14 u15 u16 u17 i_row i_thrown i_status i_state i_wet i_refusals i_high i_heaps a9) := hD
      refine lv_iconst (v := Int32.ofInt 0) hx hb dX11_rain_217 rfl ?_
      refine lv_istore (lv' := [(5, .int (Int32.ofInt 0)), (0, .ref q0), (3, .int (Int32.ofInt x3)), (4, .int (Int32.ofInt x4))]) hx hb dX11_rain_218 hl (by decide) rfl (fun ls hl => ?_)
      exact l_220 _ ih180 _ _ _ _ _ _ _ _ _ _ _ _ _ _ _ hf hP hD hS (lv_sub hl [1, 2, 3, 0] rfl)
  have l_180 : ∀ (n : Nat), ∀ (x3 : Int) (x4 : Int) (i_thrown : Int) (i_status : Int) (i_state : Int) (i_wet : Int) (i_refusals : Nat → Int) (i_high : Nat → Int) (i_heaps : Nat → Int) (i_rained : Nat → Int) (H : Heap) (locs : List Loc) (ls : Array Slot), f_HM_rain_180 i_row n x3 x4 i_thrown i_status i_state i_wet i_refusals i_high i_heaps i_rained = some out → va_P (dC, dI) vwCl (wd_HM_rain cA q0 q1 q2 q3 q4 q5 q6 q7 q8 q9 q10 q11 q12 q13 q14 q15 q16 q17 q18 q19 q20 q21 q22 q23 q24 q25 q26 q27 q28 q29 q30 q31 u0 u1 u2 u3 u4 u5 u6 u7 u8 u9 u10 u11 u12 u13 u14 u15 u16 u17 i_row i_thrown i_status i_state i_wet i_refusals i_high i_heaps i_rained) H → va_D A (wd_HM_rain cA q0 q1 q2 q3 q4 q5 q6 q7 q8 q9 q10 q11 q12 q13 q14 q15 q16 q17 q18 q19 q20 q21 q22 q23 q24 q25 q26 q27 q28 q29 q30 q31 u0 u1 u2 u3 u4 u5 u6 u7 u8 u9 u10 u11 u12 u13 u14 u15 u16 u17 i_row i_thrown i_status i_state i_wet i_refusals i_high i_heaps i_rained) → va_S A s.heap H locs → lv_has ls 6 [(0, .ref q0), (3, .int (Int32.ofInt x3)), (4, .int (Int32.ofInt x4))] → W p l e rm_HM_rain s m args below meth c H locs 0 0 Q (F0 m 180 ls []) := by
    intro n
    induction n with
    | zero => intro x3 x4 i_thrown i_status i_state i_wet i_refusals i_high i_heaps i_rained H locs ls hf hP hD hS hl; exact nomatch hf
    | succ n ih => intro x3 x4 i_thrown i_status i_state i_wet i_refusals i_high i_heaps i_rained H locs ls hf hP hD hS hl; exact b_180 (f_HM_rain_180 i_row n) ih x3 x4 i_thrown i_status i_state i_wet i_refusals i_high i_heaps i_rained H locs ls hf hP hD hS hl
  have b_177 : ∀ (x3 : Int) (i_thrown : Int) (i_status : Int) (i_state : Int) (i_wet : Int) (i_refusals : Nat → Int) (i_high : Nat → Int) (i_heaps : Nat → Int) (i_rained : Nat → Int) (H : Heap) (locs : List Loc) (ls : Array Slot), f_HM_rain_177 i_row x3 i_thrown i_status i_state i_wet i_refusals i_high i_heaps i_rained = some out → va_P (dC, dI) vwCl (wd_HM_rain cA q0 q1 q2 q3 q4 q5 q6 q7 q8 q9 q10 q11 q12 q13 q14 q15 q16 q17 q18 q19 q20 q21 q22 q23 q24 q25 q26 q27 q28 q29 q30 q31 u0 u1 u2 u3 u4 u5 u6 u7 u8 u9 u10 u11 u12 u13 u14 u15 u16 u17 i_row i_thrown i_status i_state i_wet i_refusals i_high i_heaps i_rained) H → va_D A (wd_HM_rain cA q0 q1 q2 q3 q4 q5 q6 q7 q8 q9 q10 q11 q12 q13 q14 q15 q16 q17 q18 q19 q20 q21 q22 q23 q24 q25 q26 q27 q28 q29 q30 q31 u0 u1 u2 u3 u4 u5 u6 u7 u8 u9 u10 u11 u12 u13 u14 u15 u16 u17 i_row i_thrown i_status i_state i_wet i_refusals i_high i_heaps i_rained) → va_S A s.heap H locs → lv_has ls 6 [(0, .ref q0), (3, .int (Int32.ofInt x3))] → W p l e rm_HM_rain s m args below meth c H locs 0 0 Q (F0 m 177 ls []) := by
    intro x3 i_thrown i_status i_state i_wet i_refusals i_high i_heaps i_rained H locs ls hf hP hD hS hl
    unfold f_HM_rain_177 at hf
    refine lv_iconst (v := Int32.ofInt 0) hx hb dX11_rain_177 rfl ?_
    refine lv_istore (lv' := [(4, .int (Int32.ofInt 0)), (0, .ref q0), (3, .int (Int32.ofInt x3))]) hx hb dX11_rain_178 hl (by decide) rfl (fun ls hl => ?_)
    exact l_180  _ _ _ _ _ _ _ _ _ _ _ _ _ _ hf hP hD hS (lv_sub hl [1, 2, 0] rfl)
  have b_166 : ∀ (k58 : Int → Int → Int → Int → Int → Int → Int → (Nat → Int) → (Nat → Int) → (Nat → Int) → (Nat → Int) → Option (Int × Int × Int × Int × Int × (Nat → Int) × (Nat → Int) × (Nat → Int) × (Nat → Int))) (_ : ∀ (x2 : Int) (x3 : Int) (x4 : Int) (i_thrown : Int) (i_status : Int) (i_state : Int) (i_wet : Int) (i_refusals : Nat → Int) (i_high : Nat → Int) (i_heaps : Nat → Int) (i_rained : Nat → Int) (H : Heap) (locs : List Loc) (ls : Array Slot), k58 x2 x3 x4 i_thrown i_status i_state i_wet i_refusals i_high i_heaps i_rained = some out → va_P (dC, dI) vwCl (wd_HM_rain cA q0 q1 q2 q3 q4 q5 q6 q7 q8 q9 q10 q11 q12 q13 q14 q15 q16 q17 q18 q19 q20 q21 q22 q23 q24 q25 q26 q27 q28 q29 q30 q31 u0 u1 u2 u3 u4 u5 u6 u7 u8 u9 u10 u11 u12 u13 u14 u15 u16 u17 i_row i_thrown i_status i_state i_wet i_refusals i_high i_heaps i_rained) H → va_D A (wd_HM_rain cA q0 q1 q2 q3 q4 q5 q6 q7 q8 q9 q10 q11 q12 q13 q14 q15 q16 q17 q18 q19 q20 q21 q22 q23 q24 q25 q26 q27 q28 q29 q30 q31 u0 u1 u2 u3 u4 u5 u6 u7 u8 u9 u10 u11 u12 u13 u14 u15 u16 u17 i_row i_thrown i_status i_state i_wet i_refusals i_high i_heaps i_rained) → va_S A s.heap H locs → lv_has ls 6 [(0, .ref q0), (2, .int (Int32.ofInt x2)), (3, .int (Int32.ofInt x3)), (4, .int (Int32.ofInt x4))] → W p l e rm_HM_rain s m args below meth c H locs 0 0 Q (F0 m 58 ls [])), ∀ (x2 : Int) (x3 : Int) (x4 : Int) (i_thrown : Int) (i_status : Int) (i_state : Int) (i_wet : Int) (i_refusals : Nat → Int) (i_high : Nat → Int) (i_heaps : Nat → Int) (i_rained : Nat → Int) (H : Heap) (locs : List Loc) (ls : Array Slot), f_HM_rain_166 i_row k58 x2 x3 x4 i_thrown i_status i_state i_wet i_refusals i_high i_heaps i_rained = some out → va_P (dC, dI) vwCl (wd_HM_rain cA q0 q1 q2 q3 q4 q5 q6 q7 q8 q9 q10 q11 q12 q13 q14 q15 q16 q17 q18 q19 q20 q21 q22 q23 q24 q25 q26 q27 q28 q29 q30 q31 u0 u1 u2 u3 u4 u5 u6 u7 u8 u9 u10 u11 u12 u13 u14 u15 u16 u17 i_row i_thrown i_status i_state i_wet i_refusals i_high i_heaps i_rained) H → va_D A (wd_HM_rain cA q0 q1 q2 q3 q4 q5 q6 q7 q8 q9 q10 q11 q12 q13 q14 q15 q16 q17 q18 q19 q20 q21 q22 q23 q24 q25 q26 q27 q28 q29 q30 q31 u0 u1 u2 u3 u4 u5 u6 u7 u8 u9 u10 u11 u12 u13 u14 u15 u16 u17 i_row i_thrown i_status i_state i_wet i_refusals i_high i_heaps i_rained) → va_S A s.heap H locs → lv_has ls 6 [(0, .ref q0), (2, .int (Int32.ofInt x2)), (3, .int (Int32.ofInt x3)), (4, .int (Int32.ofInt x4))] → W p l e rm_HM_rain s m args below meth c H locs 0 0 Q (F0 m 166 ls []) := by
    intro k58 ih58 x2 x3 x4 i_thrown i_status i_state i_wet i_refusals i_high i_heaps i_rained H locs ls hf hP hD hS hl
    unfold f_HM_rain_166 at hf
    refine lv_aload_n hx hb dX11_rain_166 rfl (lv_at hl 0 rfl) ?_
    refine xe_d3 hf (fun v1 a2 a3 hg hf => ?_)
    have hC : ([0, 2, 3, 4] : List Nat).map (fun i => (wd_HM_rain cA q0 q1 q2 q3 q4 q5 q6 q7 q8 q9 q10 q11 q12 q13 q14 q15 q16 q17 q18 q19 q20 q21 q22 q23 q24 q25 q26 q27 q28 q29 q30 q31 u0 u1 u2 u3 u4 u5 u6 u7 u8 u9 u10 u11 u12 u13 u14 u15 u16 u17 i_row i_thrown i_status i_state i_wet i_refusals i_high i_heaps i_rained)[i]?) = (wd_HM_slideAll cA q0 q1 q2 q3 q4 q5 q6 q7 q8 q9 q10 q11 q12 q13 q14 q15 q16 q17 q18 q19 q20 q21 q22 q23 q24 q25 q26 q27 q28 q29 q30 q31 i_thrown i_status u0 u1 u2 u3 u4 u5 u6 u7 u8 u9 u10 u11 u12 u13 u14 u15 u16 u17 i_state i_wet i_row i_high i_heaps).map some := rfl
    refine xv_afterI (ws' := (wd_HM_rain cA q0 q1 q2 q3 q4 q5 q6 q7 q8 q9 q10 q11 q12 q13 q14 q15 q16 q17 q18 q19 q20 q21 q22 q23 q24 q25 q26 q27 q28 q29 q30 q31 u0 u1 u2 u3 u4 u5 u6 u7 u8 u9 u10 u11 u12 u13 u14 u15 u16 u17 i_row i_thrown i_status i_state i_wet i_refusals a2 a3 i_rained)) (isC := [0, 2, 3, 4]) (ps := [some 0, none, some 1, some 2, some 3, none]) (va_runV (As := []) (rest := []) ⟨hx, hb, hml, hown, hts⟩ (c_HM_slideAll l ev dC dI cA q0 q1 q2 q3 q4 q5 q6 q7 q8 q9 q10 q11 q12 q13 q14 q15 q16 q17 q18 q19 q20 q21 q22 q23 q24 q25 q26 q27 q28 q29 q30 q31 i_thrown i_status u0 u1 u2 u3 u4 u5 u6 u7 u8 u9 u10 u11 u12 u13 u14 u15 u16 u17 i_state i_wet hg H.size) (cwV 0 hts (zgV zw_1618 zw_1620 zw_77 zw_115 zw_1621) rfl rfl rfl hd_HM_slideAll ⟨Nat.le_of_ble_eq_true rfl, Nat.le_of_ble_eq_true rfl⟩) (xv_preV (T := TX11) (N := 53) hE hA hS hK hP hD (isC := [0, 2, 3, 4]) (by decide +kernel) hC (q0 := 0) (ci := 11) rfl rfl) rfl rfl hl.1 rfl (lv_room (Nat.le_of_ble_eq_true rfl)) dX11_rain_167 ⟨Nat.le_refl _, Nat.le_refl _⟩) hP hD hS hA (by decide +kernel) rfl hC rfl rfl (fun H locs hP hD hS => ?_)
    refine lv_pop hx hb dX11_rain_170 rfl ?_
    refine xi_iinc hx hb dX11_rain_171 hl (k := 3) rfl (by decide) hf (fun v4 ls hl hf => ?_)
    have hl : lv_has ls 6 [(4, .int (Int32.ofInt v4)), (0, .ref q0), (2, .int (Int32.ofInt x2)), (3, .int (Int32.ofInt x3))] := hl
    refine lv_goto (tgt := 58) hx hb dX11_rain_174 (by decide) ?_
    exact ih58 _ _ _ _ _ _ _ _ _ _ _ _ _ _ hf hP hD hS (lv_sub hl [1, 2, 3, 0] rfl)
  have b_152 : ∀ (k58 : Int → Int → Int → Int → Int → Int → Int → (Nat → Int) → (Nat → Int) → (Nat → Int) → (Nat → Int) → Option (Int × Int × Int × Int × Int × (Nat → Int) × (Nat → Int) × (Nat → Int) × (Nat → Int))) (_ : ∀ (x2 : Int) (x3 : Int) (x4 : Int) (i_thrown : Int) (i_status : Int) (i_state : Int) (i_wet : Int) (i_refusals : Nat → Int) (i_high : Nat → Int) (i_heaps : Nat → Int) (i_rained : Nat → Int) (H : Heap) (locs : List Loc) (ls : Array Slot), k58 x2 x3 x4 i_thrown i_status i_state i_wet i_refusals i_high i_heaps i_rained = some out → va_P (dC, dI) vwCl (wd_HM_rain cA q0 q1 q2 q3 q4 q5 q6 q7 q8 q9 q10 q11 q12 q13 q14 q15 q16 q17 q18 q19 q20 q21 q22 q23 q24 q25 q26 q27 q28 q29 q30 q31 u0 u1 u2 u3 u4 u5 u6 u7 u8 u9 u10 u11 u12 u13 u14 u15 u16 u17 i_row i_thrown i_status i_state i_wet i_refusals i_high i_heaps i_rained) H → va_D A (wd_HM_rain cA q0 q1 q2 q3 q4 q5 q6 q7 q8 q9 q10 q11 q12 q13 q14 q15 q16 q17 q18 q19 q20 q21 q22 q23 q24 q25 q26 q27 q28 q29 q30 q31 u0 u1 u2 u3 u4 u5 u6 u7 u8 u9 u10 u11 u12 u13 u14 u15 u16 u17 i_row i_thrown i_status i_state i_wet i_refusals i_high i_heaps i_rained) → va_S A s.heap H locs → lv_has ls 6 [(0, .ref q0), (2, .int (Int32.ofInt x2)), (3, .int (Int32.ofInt x3)), (4, .int (Int32.ofInt x4))] → W p l e rm_HM_rain s m args below meth c H locs 0 0 Q (F0 m 58 ls [])), ∀ (x2 : Int) (x3 : Int) (x4 : Int) (x5 : Int) (i_thrown : Int) (i_status : Int) (i_state : Int) (i_wet : Int) (i_refusals : Nat → Int) (i_high : Nat → Int) (i_heaps : Nat → Int) (i_rained : Nat → Int) (H : Heap) (locs : List Loc) (ls : Array Slot), f_HM_rain_152 i_row k58 x2 x3 x4 x5 i_thrown i_status i_state i_wet i_refusals i_high i_heaps i_rained = some out → va_P (dC, dI) vwCl (wd_HM_rain cA q0 q1 q2 q3 q4 q5 q6 q7 q8 q9 q10 q11 q12 q13 q14 q15 q16 q17 q18 q19 q20 q21 q22 q23 q24 q25 q26 q27 q28 q29 q30 q31 u0 u1 u2 u3 u4 u5 u6 u7 u8 u9 u10 u11 u12 u13 u14 u15 u16 u17 i_row i_thrown i_status i_state i_wet i_refusals i_high i_heaps i_rained) H → va_D A (wd_HM_rain cA q0 q1 q2 q3 q4 q5 q6 q7 q8 q9 q10 q11 q12 q13 q14 q15 q16 q17 q18 q19 q20 q21 q22 q23 q24 q25 q26 q27 q28 q29 q30 q31 u0 u1 u2 u3 u4 u5 u6 u7 u8 u9 u10 u11 u12 u13 u14 u15 u16 u17 i_row i_thrown i_status i_state i_wet i_refusals i_high i_heaps i_rained) → va_S A s.heap H locs → lv_has ls 6 [(0, .ref q0), (2, .int (Int32.ofInt x2)), (3, .int (Int32.ofInt x3)), (4, .int (Int32.ofInt x4)), (5, .int (Int32.ofInt x5))] → W p l e rm_HM_rain s m args below meth c H locs 0 0 Q (F0 m 152 ls []) := by
    intro k58 ih58 x2 x3 x4 x5 i_thrown i_status i_state i_wet i_refusals i_high i_heaps i_rained H locs ls hf hP hD hS hl
    unfold f_HM_rain_152 at hf
    refine lv_aload_n hx hb dX11_rain_152 rfl (lv_at hl 0 rfl) ?_
    refine va_get (D := (dC, dI)) (ci := 11) (v := .ref q14) (C := RX11) (T := TX11) (N := 53) hx hb hz zi_X11 hown hK hP 0 rfl rfl 32 (by decide) (hz _ zw_1197) (fun _ h9 => h9) rfl dX11_rain_153 ?_
    refine lv_iload hx hb dX11_rain_156 (lv_at hl 4 rfl) ?_
    refine lv_dup2_11 hx hb dX11_rain_158 rfl rfl ?_
    refine xi_iald hx hb hK hP 3 0 rfl rfl dX11_rain_159 hf (fun v1 hf => ?_)
    refine lv_iconst (v := Int32.ofInt 1) hx hb dX11_rain_160 rfl ?_
    refine xi_isub hx hb dX11_rain_161 hf (fun v2 hf => ?_)
    refine xi_iast hx hb hK hP hD hS 3 0 rfl rfl dX11_rain_162 hf (fun a3 H locs hP hD hS hf => ?_)
    have hP : va_P (dC, dI) vwCl (wd_HM_rain cA q0 q1 q2 q3 q4 q5 q6 q7 q8 q9 q10 q11 q12 q13 q14 q15 q16 q17 q18 q19 q20 q21 q22 q23 q24 q25 q26 q27 q28 q29 q30 q31 u0 u1 u2 u3 u4 u5 u6 u7 u8 u9 u10 u11 u12 u13 u14 u15 u16 u17 i_row i_thrown i_status i_state i_wet i_refusals a3 i_heaps i_rained) H := hP
    have hD : va_D A (wd_HM_rain cA q0 q1 q2 q3 q4 q5 q6 q7 q8 q9 q10 q11 q12 q13 q14 q15 q16 q17 q18 q19 q20 q21 q22 q23 q24 q25 q26 q27 q28 q29 q30 q31 u0 u1 u2 u3 u4 u5 u6 u7 u8 u9 u10 u11 u12 u13 u14 u15 u16 u17 i_row i_thrown i_status i_state i_wet i_refusals a3 i_heaps i_rained) := hD
    refine xi_iinc hx hb dX11_rain_163 hl (k := 2) rfl (by decide) hf (fun v4 ls hl hf => ?_)
    have hl : lv_has ls 6 [(3, .int (Int32.ofInt v4)), (0, .ref q0), (2, .int (Int32.ofInt x2)), (4, .int (Int32.ofInt x4)), (5, .int (Int32.ofInt x5))] := hl
    exact b_166 _ ih58 _ _ _ _ _ _ _ _ _ _ _ _ _ _ hf hP hD hS (lv_sub hl [1, 2, 0, 3] rfl)
  have b_58 : ∀ (k58 : Int → Int → Int → Int → Int → Int → Int → (Nat → Int) → (Nat → Int) → (Nat → Int) → (Nat → Int) → Option (Int × Int × Int × Int × Int × (Nat → Int) × (Nat → Int) × (Nat → Int) × (Nat → Int))) (_ : ∀ (x2 : Int) (x3 : Int) (x4 : Int) (i_thrown : Int) (i_status : Int) (i_state : Int) (i_wet : Int) (i_refusals : Nat → Int) (i_high : Nat → Int) (i_heaps : Nat → Int) (i_rained : Nat → Int) (H : Heap) (locs : List Loc) (ls : Array Slot), k58 x2 x3 x4 i_thrown i_status i_state i_wet i_refusals i_high i_heaps i_rained = some out → va_P (dC, dI) vwCl (wd_HM_rain cA q0 q1 q2 q3 q4 q5 q6 q7 q8 q9 q10 q11 q12 q13 q14 q15 q16 q17 q18 q19 q20 q21 q22 q23 q24 q25 q26 q27 q28 q29 q30 q31 u0 u1 u2 u3 u4 u5 u6 u7 u8 u9 u10 u11 u12 u13 u14 u15 u16 u17 i_row i_thrown i_status i_state i_wet i_refusals i_high i_heaps i_rained) H → va_D A (wd_HM_rain cA q0 q1 q2 q3 q4 q5 q6 q7 q8 q9 q10 q11 q12 q13 q14 q15 q16 q17 q18 q19 q20 q21 q22 q23 q24 q25 q26 q27 q28 q29 q30 q31 u0 u1 u2 u3 u4 u5 u6 u7 u8 u9 u10 u11 u12 u13 u14 u15 u16 u17 i_row i_thrown i_status i_state i_wet i_refusals i_high i_heaps i_rained) → va_S A s.heap H locs → lv_has ls 6 [(0, .ref q0), (2, .int (Int32.ofInt x2)), (3, .int (Int32.ofInt x3)), (4, .int (Int32.ofInt x4))] → W p l e rm_HM_rain s m args below meth c H locs 0 0 Q (F0 m 58 ls [])), ∀ (x2 : Int) (x3 : Int) (x4 : Int) (i_thrown : Int) (i_status : Int) (i_state : Int) (i_wet : Int) (i_refusals : Nat → Int) (i_high : Nat → Int) (i_heaps : Nat → Int) (i_rained : Nat → Int) (H : Heap) (locs : List Loc) (ls : Array Slot), f_HM_rain_58_b i_row k58 x2 x3 x4 i_thrown i_status i_state i_wet i_refusals i_high i_heaps i_rained = some out → va_P (dC, dI) vwCl (wd_HM_rain cA q0 q1 q2 q3 q4 q5 q6 q7 q8 q9 q10 q11 q12 q13 q14 q15 q16 q17 q18 q19 q20 q21 q22 q23 q24 q25 q26 q27 q28 q29 q30 q31 u0 u1 u2 u3 u4 u5 u6 u7 u8 u9 u10 u11 u12 u13 u14 u15 u16 u17 i_row i_thrown i_status i_state i_wet i_refusals i_high i_heaps i_rained) H → va_D A (wd_HM_rain cA q0 q1 q2 q3 q4 q5 q6 q7 q8 q9 q10 q11 q12 q13 q14 q15 q16 q17 q18 q19 q20 q21 q22 q23 q24 q25 q26 q27 q28 q29 q30 q31 u0 u1 u2 u3 u4 u5 u6 u7 u8 u9 u10 u11 u12 u13 u14 u15 u16 u17 i_row i_thrown i_status i_state i_wet i_refusals i_high i_heaps i_rained) → va_S A s.heap H locs → lv_has ls 6 [(0, .ref q0), (2, .int (Int32.ofInt x2)), (3, .int (Int32.ofInt x3)), (4, .int (Int32.ofInt x4))] → W p l e rm_HM_rain s m args below meth c H locs 0 0 Q (F0 m 58 ls []) := by
    intro k58 ih58 x2 x3 x4 i_thrown i_status i_state i_wet i_refusals i_high i_heaps i_rained H locs ls hf hP hD hS hl
    unfold f_HM_rain_58_b at hf
    refine lv_iload hx hb dX11_rain_58 (lv_at hl 3 rfl) ?_
    refine lv_iload_n hx hb dX11_rain_60 rfl (lv_at hl 1 rfl) ?_
    refine xi_icmp_ge (tgt := 177) hx hb dX11_rain_61 (by decide) hf (fun hf => ?_) (fun hf => ?_)
    · exact b_177  _ _ _ _ _ _ _ _ _ _ _ _ hf hP hD hS (lv_sub hl [0, 2] rfl)
    · refine lv_aload_n hx hb dX11_rain_64 rfl (lv_at hl 0 rfl) ?_
      refine va_get (D := (dC, dI)) (ci := 11) (v := .int (Int32.ofInt i_wet)) (C := RX11) (T := TX11) (N := 53) hx hb hz zi_X11 hown hK hP 0 rfl rfl 52 (by decide) (hz _ zw_1217) (fun _ h9 => h9) rfl dX11_rain_65 ?_
      refine xi_if_le (tgt := 177) hx hb dX11_rain_68 (by decide) hf (fun hf => ?_) (fun hf => ?_)
      · exact b_177  _ _ _ _ _ _ _ _ _ _ _ _ hf hP hD hS (lv_sub hl [0, 2] rfl)
      · refine lv_aload_n hx hb dX11_rain_71 rfl (lv_at hl 0 rfl) ?_
        refine lv_aload_n hx hb dX11_rain_72 rfl (lv_at hl 0 rfl) ?_
        refine va_get (D := (dC, dI)) (ci := 11) (v := .long (Int64.ofInt i_state)) (C := RX11) (T := TX11) (N := 53) hx hb hz zi_X11 hown hK hP 0 rfl rfl 50 (by decide) (hz _ zw_1215) (fun _ h9 => h9) rfl dX11_rain_73 ?_
        refine lv_ldc2 (v := Int64.ofInt 1103) hx hb hown (hz _ zw_1771) dX11_rain_76 ?_
        refine xl_lmul hx hb dX11_rain_79 hf (fun v1 hf => ?_)
        refine lv_ldc2 (v := Int64.ofInt 12345) hx hb hown (hz _ zw_1772) dX11_rain_80 ?_
        refine xl_ladd hx hb dX11_rain_83 hf (fun v2 hf => ?_)
        refine lv_ldc2 (v := Int64.ofInt 1000003) hx hb hown (hz _ zw_1773) dX11_rain_84 ?_
        refine xl_lrem hx hb dX11_rain_87 hf (fun v3 hf => ?_)
        refine va_put (D := (dC, dI)) (ci := 11) (v := .long (Int64.ofInt v3)) (ty := .long) (C := RX11) (T := TX11) (N := 53) hx hb hz zi_X11 tyX11 tyX11_ok nmX11 hown hK hP hD hS 0 rfl rfl 50 (by decide) (hz _ zw_1215) (fun _ h9 => h9) rfl (by decide +kernel) rfl rfl (Nat.le_of_ble_eq_true rfl) dX11_rain_88 (fun H locs hP hD hS => ?_)
        have hP : va_P (dC, dI) vwCl (wd_HM_rain cA q0 q1 q2 q3 q4 q5 q6 q7 q8 q9 q10 q11 q12 q13 q14 q15 q16 q17 q18 q19 q20 q21 q22 q23 q24 q25 q26 q27 q28 q29 q30 q31 u0 u1 u2 u3 u4 u5 u6 u7 u8 u9 u10 u11 u12 u13 u14 u15 u16 u17 i_row i_thrown i_status v3 i_wet i_refusals i_high i_heaps i_rained) H := hP
        have hD : va_D A (wd_HM_rain cA q0 q1 q2 q3 q4 q5 q6 q7 q8 q9 q10 q11 q12 q13 q14 q15 q16 q17 q18 q19 q20 q21 q22 q23 q24 q25 q26 q27 q28 q29 q30 q31 u0 u1 u2 u3 u4 u5 u6 u7 u8 u9 u10 u11 u12 u13 u14 u15 u16 u17 i_row i_thrown i_status v3 i_wet i_refusals i_high i_heaps i_rained) := hD
        refine lv_aload_n hx hb dX11_rain_91 rfl (lv_at hl 0 rfl) ?_
        refine va_get (D := (dC, dI)) (ci := 11) (v := .long (Int64.ofInt v3)) (C := RX11) (T := TX11) (N := 53) hx hb hz zi_X11 hown hK hP 0 rfl rfl 50 (by decide) (hz _ zw_1215) (fun _ h9 => h9) rfl dX11_rain_92 ?_
        refine lv_aload_n hx hb dX11_rain_95 rfl (lv_at hl 0 rfl) ?_
        refine va_get (D := (dC, dI)) (ci := 11) (v := .int (Int32.ofInt i_wet)) (C := RX11) (T := TX11) (N := 53) hx hb hz zi_X11 hown hK hP 0 rfl rfl 52 (by decide) (hz _ zw_1217) (fun _ h9 => h9) rfl dX11_rain_96 ?_
        refine xi_i2l hx hb dX11_rain_99 hf (fun v4 hf => ?_)
        refine xl_lrem hx hb dX11_rain_100 hf (fun v5 hf => ?_)
        refine xl_l2i hx hb dX11_rain_101 ?_
        refine lv_istore (lv' := [(5, .int (Int32.ofInt v5)), (0, .ref q0), (2, .int (Int32.ofInt x2)), (3, .int (Int32.ofInt x3)), (4, .int (Int32.ofInt x4))]) hx hb dX11_rain_102 hl (by decide) rfl (fun ls hl => ?_)
        refine lv_aload_n hx hb dX11_rain_104 rfl (lv_at hl 1 rfl) ?_
        refine va_get (D := (dC, dI)) (ci := 11) (v := .ref q14) (C := RX11) (T := TX11) (N := 53) hx hb hz zi_X11 hown hK hP 0 rfl rfl 32 (by decide) (hz _ zw_1197) (fun _ h9 => h9) rfl dX11_rain_105 ?_
        refine lv_iload hx hb dX11_rain_108 (lv_at hl 0 rfl) ?_
        refine xi_iald hx hb hK hP 3 0 rfl rfl dX11_rain_110 hf (fun v6 hf => ?_)
        refine xi_if_le (tgt := 166) hx hb dX11_rain_111 (by decide) hf (fun hf => ?_) (fun hf => ?_)
        · exact b_166 _ ih58 _ _ _ _ _ _ _ _ _ _ _ _ _ _ hf hP hD hS (lv_sub hl [1, 2, 3, 4] rfl)
        · refine lv_iload hx hb dX11_rain_114 (lv_at hl 0 rfl) ?_
          refine lv_iconst (v := Int32.ofInt 1) hx hb dX11_rain_116 rfl ?_
          refine xi_iadd hx hb dX11_rain_117 hf (fun v7 hf => ?_)
          refine lv_aload_n hx hb dX11_rain_118 rfl (lv_at hl 1 rfl) ?_
          refine va_get (D := (dC, dI)) (ci := 11) (v := .int (Int32.ofInt i_wet)) (C := RX11) (T := TX11) (N := 53) hx hb hz zi_X11 hown hK hP 0 rfl rfl 52 (by decide) (hz _ zw_1217) (fun _ h9 => h9) rfl dX11_rain_119 ?_
          refine xi_icmp_ge (tgt := 152) hx hb dX11_rain_122 (by decide) hf (fun hf => ?_) (fun hf => ?_)
          · exact b_152 _ ih58 _ _ _ _ _ _ _ _ _ _ _ _ _ _ _ hf hP hD hS (lv_sub hl [1, 2, 3, 4, 0] rfl)
          · refine lv_aload_n hx hb dX11_rain_125 rfl (lv_at hl 1 rfl) ?_
            refine va_get (D := (dC, dI)) (ci := 11) (v := .ref q14) (C := RX11) (T := TX11) (N := 53) hx hb hz zi_X11 hown hK hP 0 rfl rfl 32 (by decide) (hz _ zw_1197) (fun _ h9 => h9) rfl dX11_rain_126 ?_
            refine lv_iload hx hb dX11_rain_129 (lv_at hl 0 rfl) ?_
            refine lv_iconst (v := Int32.ofInt 1) hx hb dX11_rain_131 rfl ?_
            refine xi_iadd hx hb dX11_rain_132 hf (fun v8 hf => ?_)
            refine xi_iald hx hb hK hP 3 0 rfl rfl dX11_rain_133 hf (fun v9 hf => ?_)
            refine lv_bipush (v := Int32.ofInt 10) hx hb dX11_rain_134 (by decide) ?_
            refine xi_icmp_ge (tgt := 152) hx hb dX11_rain_136 (by decide) hf (fun hf => ?_) (fun hf => ?_)
            · exact b_152 _ ih58 _ _ _ _ _ _ _ _ _ _ _ _ _ _ _ hf hP hD hS (lv_sub hl [1, 2, 3, 4, 0] rfl)
            · refine lv_aload_n hx hb dX11_rain_139 rfl (lv_at hl 1 rfl) ?_
              refine lv_iload hx hb dX11_rain_140 (lv_at hl 0 rfl) ?_
              refine lv_iload hx hb dX11_rain_142 (lv_at hl 0 rfl) ?_
              refine lv_iconst (v := Int32.ofInt 1) hx hb dX11_rain_144 rfl ?_
              refine xi_iadd hx hb dX11_rain_145 hf (fun v10 hf => ?_)
              refine xe_d2 hf (fun a11 a12 hg hf => ?_)
              have hC : ([0, 3, 4] : List Nat).map (fun i => (wd_HM_rain cA q0 q1 q2 q3 q4 q5 q6 q7 q8 q9 q10 q11 q12 q13 q14 q15 q16 q17 q18 q19 q20 q21 q22 q23 q24 q25 q26 q27 q28 q29 q30 q31 u0 u1 u2 u3 u4 u5 u6 u7 u8 u9 u10 u11 u12 u13 u14 u15 u16 u17 i_row i_thrown i_status v3 i_wet i_refusals i_high i_heaps i_rained)[i]?) = (wd_HM_shift cA q0 q1 q2 q3 q4 q5 q6 q7 q8 q9 q10 q11 q12 q13 q14 q15 q16 q17 q18 q19 q20 q21 q22 q23 q24 q25 q26 q27 q28 q29 q30 q31 i_thrown i_status u0 u1 u2 u3 u4 u5 u6 u7 u8 u9 u10 u11 u12 u13 u14 u15 u16 u17 v3 i_wet i_high i_heaps).map some := rfl
              refine xv_afterV (ws' := (wd_HM_rain cA q0 q1 q2 q3 q4 q5 q6 q7 q8 q9 q10 q11 q12 q13 q14 q15 q16 q17 q18 q19 q20 q21 q22 q23 q24 q25 q26 q27 q28 q29 q30 q31 u0 u1 u2 u3 u4 u5 u6 u7 u8 u9 u10 u11 u12 u13 u14 u15 u16 u17 i_row i_thrown i_status v3 i_wet i_refusals a11 a12 i_rained)) (isC := [0, 3, 4]) (ps := [some 0, none, none, some 1, some 2, none]) (va_runV (As := [.int (Int32.ofInt v5), .int (Int32.ofInt v10)]) (rest := []) ⟨hx, hb, hml, hown, hts⟩ (c_HM_shift l ev dC dI cA q0 q1 q2 q3 q4 q5 q6 q7 q8 q9 q10 q11 q12 q13 q14 q15 q16 q17 q18 q19 q20 q21 q22 q23 q24 q25 q26 q27 q28 q29 q30 q31 i_thrown i_status u0 u1 u2 u3 u4 u5 u6 u7 u8 u9 u10 u11 u12 u13 u14 u15 u16 u17 v3 i_wet hg H.size) (cwV 2 hts (zgV zw_1590 zw_1592 zw_73 zw_115 zw_1593) rfl rfl rfl hd_HM_shift ⟨Nat.le_of_ble_eq_true rfl, Nat.le_of_ble_eq_true rfl⟩) (xv_preV (T := TX11) (N := 53) hE hA hS hK hP hD (isC := [0, 3, 4]) (by decide +kernel) hC (q0 := 0) (ci := 11) rfl rfl) rfl rfl hl.1 rfl (lv_room (Nat.le_of_ble_eq_true rfl)) dX11_rain_146 ⟨Nat.le_refl _, Nat.le_refl _⟩) hP hD hS hA (by decide +kernel) rfl hC rfl rfl (fun H locs hP hD hS => ?_)
              refine lv_goto (tgt := 166) hx hb dX11_rain_149 (by decide) ?_
              exact b_166 _ ih58 _ _ _ _ _ _ _ _ _ _ _ _ _ _ hf hP hD hS (lv_sub hl [1, 2, 3, 4] rfl)
  have l_58 : ∀ (n : Nat), ∀ (x2 : Int) (x3 : Int) (x4 : Int) (i_thrown : Int) (i_status : Int) (i_state : Int) (i_wet : Int) (i_refusals : Nat → Int) (i_high : Nat → Int) (i_heaps : Nat → Int) (i_rained : Nat → Int) (H : Heap) (locs : List Loc) (ls : Array Slot), f_HM_rain_58 i_row n x2 x3 x4 i_thrown i_status i_state i_wet i_refusals i_high i_heaps i_rained = some out → va_P (dC, dI) vwCl (wd_HM_rain cA q0 q1 q2 q3 q4 q5 q6 q7 q8 q9 q10 q11 q12 q13 q14 q15 q16 q17 q18 q19 q20 q21 q22 q23 q24 q25 q26 q27 q28 q29 q30 q31 u0 u1 u2 u3 u4 u5 u6 u7 u8 u9 u10 u11 u12 u13 u14 u15 u16 u17 i_row i_thrown i_status i_state i_wet i_refusals i_high i_heaps i_rained) H → va_D A (wd_HM_rain cA q0 q1 q2 q3 q4 q5 q6 q7 q8 q9 q10 q11 q12 q13 q14 q15 q16 q17 q18 q19 q20 q21 q22 q23 q24 q25 q26 q27 q28 q29 q30 q31 u0 u1 u2 u3 u4 u5 u6 u7 u8 u9 u10 u11 u12 u13 u14 u15 u16 u17 i_row i_thrown i_status i_state i_wet i_refusals i_high i_heaps i_rained) → va_S A s.heap H locs → lv_has ls 6 [(0, .ref q0), (2, .int (Int32.ofInt x2)), (3, .int (Int32.ofInt x3)), (4, .int (Int32.ofInt x4))] → W p l e rm_HM_rain s m args below meth c H locs 0 0 Q (F0 m 58 ls []) := by
    intro n
    induction n with
    | zero => intro x2 x3 x4 i_thrown i_status i_state i_wet i_refusals i_high i_heaps i_rained H locs ls hf hP hD hS hl; exact nomatch hf
    | succ n ih => intro x2 x3 x4 i_thrown i_status i_state i_wet i_refusals i_high i_heaps i_rained H locs ls hf hP hD hS hl; exact b_58 (f_HM_rain_58 i_row n) ih x2 x3 x4 i_thrown i_status i_state i_wet i_refusals i_high i_heaps i_rained H locs ls hf hP hD hS hl
  unfold f_HM_rain at hf
  refine lv_aload_n hx hb dX11_rain_0 rfl (lv_at hl 0 rfl) ?_
  refine lv_iconst (v := Int32.ofInt 0) hx hb dX11_rain_1 rfl ?_
  refine va_put (D := (dC, dI)) (ci := 11) (v := .int (Int32.ofInt 0)) (ty := .int) (C := RX11) (T := TX11) (N := 53) hx hb hz zi_X11 tyX11 tyX11_ok nmX11 hown hK hP hD hS 0 rfl rfl 0 (by decide) (hz _ zw_1165) (fun _ h9 => h9) rfl (by decide +kernel) rfl rfl (Nat.le_of_ble_eq_true rfl) dX11_rain_2 (fun H locs hP hD hS => ?_)
  have hP : va_P (dC, dI) vwCl (wd_HM_rain cA q0 q1 q2 q3 q4 q5 q6 q7 q8 q9 q10 q11 q12 q13 q14 q15 q16 q17 q18 q19 q20 q21 q22 q23 q24 q25 q26 q27 q28 q29 q30 q31 u0 u1 u2 u3 u4 u5 u6 u7 u8 u9 u10 u11 u12 u13 u14 u15 u16 u17 i_row 0 i_status i_state i_wet i_refusals i_high i_heaps i_rained) H := hP
  have hD : va_D A (wd_HM_rain cA q0 q1 q2 q3 q4 q5 q6 q7 q8 q9 q10 q11 q12 q13 q14 q15 q16 q17 q18 q19 q20 q21 q22 q23 q24 q25 q26 q27 q28 q29 q30 q31 u0 u1 u2 u3 u4 u5 u6 u7 u8 u9 u10 u11 u12 u13 u14 u15 u16 u17 i_row 0 i_status i_state i_wet i_refusals i_high i_heaps i_rained) := hD
  refine lv_iload_n hx hb dX11_rain_5 rfl (lv_at hl 1 rfl) ?_
  refine xi_i2l hx hb dX11_rain_6 hf (fun v1 hf => ?_)
  refine lv_lconst (v := Int64.ofInt 0) hx hb dX11_rain_7 (by decide) ?_
  refine lv_ldc2 (v := Int64.ofInt 1000000) hx hb hown (hz _ zw_1452) dX11_rain_8 ?_
  refine xe_d1 hf (fun v2 hg hf => ?_)
  have hC : ([] : List Nat).map (fun i => (wd_HM_rain cA q0 q1 q2 q3 q4 q5 q6 q7 q8 q9 q10 q11 q12 q13 q14 q15 q16 q17 q18 q19 q20 q21 q22 q23 q24 q25 q26 q27 q28 q29 q30 q31 u0 u1 u2 u3 u4 u5 u6 u7 u8 u9 u10 u11 u12 u13 u14 u15 u16 u17 i_row 0 i_status i_state i_wet i_refusals i_high i_heaps i_rained)[i]?) = (wd_HM_in cA).map some := rfl
  refine xv_afterI (ws' := (wd_HM_rain cA q0 q1 q2 q3 q4 q5 q6 q7 q8 q9 q10 q11 q12 q13 q14 q15 q16 q17 q18 q19 q20 q21 q22 q23 q24 q25 q26 q27 q28 q29 q30 q31 u0 u1 u2 u3 u4 u5 u6 u7 u8 u9 u10 u11 u12 u13 u14 u15 u16 u17 i_row 0 i_status i_state i_wet i_refusals i_high i_heaps i_rained)) (isC := []) (ps := [none, none, none, none, none, none]) (va_runS (As := [.long (Int64.ofInt v1), .long (Int64.ofInt 0), .long (Int64.ofInt 1000000)]) (rest := []) ⟨hx, hb, hml, hown, hts⟩ (c_HM_in l ev dC dI cA hg H.size) (va_cwS 3 hts (zgS zw_1329 zw_1330 zw_115 zw_1331) rfl rfl rfl hd_HM_in.2 ⟨Nat.le_of_ble_eq_true rfl, Nat.le_of_ble_eq_true rfl⟩) (xv_preS hE hA hS hK hP hD (isC := []) (by decide +kernel) hC) rfl rfl hl.1 rfl (lv_room (Nat.le_of_ble_eq_true rfl)) dX11_rain_11 ⟨Nat.le_refl _, Nat.le_refl _⟩) hP hD hS hA (by decide +kernel) rfl hC rfl rfl (fun H locs hP hD hS => ?_)
  refine xi_if_eq (tgt := 29) hx hb dX11_rain_14 (by decide) hf (fun hf => ?_) (fun hf => ?_)
  · exact b_29  _ _ _ _ _ _ _ _ _ _ _ hf hP hD hS (lv_sub hl [0] rfl)
  · refine lv_iload_n hx hb dX11_rain_17 rfl (lv_at hl 2 rfl) ?_
    refine xi_i2l hx hb dX11_rain_18 hf (fun v3 hf => ?_)
    refine lv_lconst (v := Int64.ofInt 1) hx hb dX11_rain_19 (by decide) ?_
    refine lv_ldc2 (v := Int64.ofInt 40) hx hb hown (hz _ zw_1770) dX11_rain_20 ?_
    refine xe_d1 hf (fun v4 hg hf => ?_)
    have hC : ([] : List Nat).map (fun i => (wd_HM_rain cA q0 q1 q2 q3 q4 q5 q6 q7 q8 q9 q10 q11 q12 q13 q14 q15 q16 q17 q18 q19 q20 q21 q22 q23 q24 q25 q26 q27 q28 q29 q30 q31 u0 u1 u2 u3 u4 u5 u6 u7 u8 u9 u10 u11 u12 u13 u14 u15 u16 u17 i_row 0 i_status i_state i_wet i_refusals i_high i_heaps i_rained)[i]?) = (wd_HM_in cA).map some := rfl
    refine xv_afterI (ws' := (wd_HM_rain cA q0 q1 q2 q3 q4 q5 q6 q7 q8 q9 q10 q11 q12 q13 q14 q15 q16 q17 q18 q19 q20 q21 q22 q23 q24 q25 q26 q27 q28 q29 q30 q31 u0 u1 u2 u3 u4 u5 u6 u7 u8 u9 u10 u11 u12 u13 u14 u15 u16 u17 i_row 0 i_status i_state i_wet i_refusals i_high i_heaps i_rained)) (isC := []) (ps := [none, none, none, none, none, none]) (va_runS (As := [.long (Int64.ofInt v3), .long (Int64.ofInt 1), .long (Int64.ofInt 40)]) (rest := []) ⟨hx, hb, hml, hown, hts⟩ (c_HM_in l ev dC dI cA hg H.size) (va_cwS 3 hts (zgS zw_1329 zw_1330 zw_115 zw_1331) rfl rfl rfl hd_HM_in.2 ⟨Nat.le_of_ble_eq_true rfl, Nat.le_of_ble_eq_true rfl⟩) (xv_preS hE hA hS hK hP hD (isC := []) (by decide +kernel) hC) rfl rfl hl.1 rfl (lv_room (Nat.le_of_ble_eq_true rfl)) dX11_rain_23 ⟨Nat.le_refl _, Nat.le_refl _⟩) hP hD hS hA (by decide +kernel) rfl hC rfl rfl (fun H locs hP hD hS => ?_)
    refine xi_if_ne (tgt := 35) hx hb dX11_rain_26 (by decide) hf (fun hf => ?_) (fun hf => ?_)
    · refine lv_aload_n hx hb dX11_rain_35 rfl (lv_at hl 0 rfl) ?_
      refine xe_d2 hf (fun a5 a6 hg hf => ?_)
      have hC : ([0, 2, 3, 4] : List Nat).map (fun i => (wd_HM_rain cA q0 q1 q2 q3 q4 q5 q6 q7 q8 q9 q10 q11 q12 q13 q14 q15 q16 q17 q18 q19 q20 q21 q22 q23 q24 q25 q26 q27 q28 q29 q30 q31 u0 u1 u2 u3 u4 u5 u6 u7 u8 u9 u10 u11 u12 u13 u14 u15 u16 u17 i_row 0 i_status i_state i_wet i_refusals i_high i_heaps i_rained)[i]?) = (wd_HM_load cA q0 q1 q2 q3 q4 q5 q6 q7 q8 q9 q10 q11 q12 q13 q14 q15 q16 q17 q18 q19 q20 q21 q22 q23 q24 q25 q26 q27 q28 q29 q30 q31 0 i_status u0 u1 u2 u3 u4 u5 u6 u7 u8 u9 u10 u11 u12 u13 u14 u15 u16 u17 i_state i_wet i_row i_high i_heaps).map some := rfl
      refine xv_afterV (ws' := (wd_HM_rain cA q0 q1 q2 q3 q4 q5 q6 q7 q8 q9 q10 q11 q12 q13 q14 q15 q16 q17 q18 q19 q20 q21 q22 q23 q24 q25 q26 q27 q28 q29 q30 q31 u0 u1 u2 u3 u4 u5 u6 u7 u8 u9 u10 u11 u12 u13 u14 u15 u16 u17 i_row 0 i_status i_state i_wet i_refusals a5 a6 i_rained)) (isC := [0, 2, 3, 4]) (ps := [some 0, none, some 1, some 2, some 3, none]) (va_runV (As := []) (rest := []) ⟨hx, hb, hml, hown, hts⟩ (c_HM_load l ev dC dI cA q0 q1 q2 q3 q4 q5 q6 q7 q8 q9 q10 q11 q12 q13 q14 q15 q16 q17 q18 q19 q20 q21 q22 q23 q24 q25 q26 q27 q28 q29 q30 q31 0 i_status u0 u1 u2 u3 u4 u5 u6 u7 u8 u9 u10 u11 u12 u13 u14 u15 u16 u17 i_state i_wet hg H.size) (cwV 0 hts (zgV zw_1549 zw_1551 zw_66 zw_115 zw_1552) rfl rfl rfl hd_HM_load ⟨Nat.le_of_ble_eq_true rfl, Nat.le_of_ble_eq_true rfl⟩) (xv_preV (T := TX11) (N := 53) hE hA hS hK hP hD (isC := [0, 2, 3, 4]) (by decide +kernel) hC (q0 := 0) (ci := 11) rfl rfl) rfl rfl hl.1 rfl (lv_room (Nat.le_of_ble_eq_true rfl)) dX11_rain_36 ⟨Nat.le_refl _, Nat.le_refl _⟩) hP hD hS hA (by decide +kernel) rfl hC rfl rfl (fun H locs hP hD hS => ?_)
      refine lv_aload_n hx hb dX11_rain_39 rfl (lv_at hl 0 rfl) ?_
      refine lv_iload_n hx hb dX11_rain_40 rfl (lv_at hl 1 rfl) ?_
      refine xi_i2l hx hb dX11_rain_41 hf (fun v7 hf => ?_)
      refine va_put (D := (dC, dI)) (ci := 11) (v := .long (Int64.ofInt v7)) (ty := .long) (C := RX11) (T := TX11) (N := 53) hx hb hz zi_X11 tyX11 tyX11_ok nmX11 hown hK hP hD hS 0 rfl rfl 50 (by decide) (hz _ zw_1215) (fun _ h9 => h9) rfl (by decide +kernel) rfl rfl (Nat.le_of_ble_eq_true rfl) dX11_rain_42 (fun H locs hP hD hS => ?_)
      have hP : va_P (dC, dI) vwCl (wd_HM_rain cA q0 q1 q2 q3 q4 q5 q6 q7 q8 q9 q10 q11 q12 q13 q14 q15 q16 q17 q18 q19 q20 q21 q22 q23 q24 q25 q26 q27 q28 q29 q30 q31 u0 u1 u2 u3 u4 u5 u6 u7 u8 u9 u10 u11 u12 u13 u14 u15 u16 u17 i_row 0 i_status v7 i_wet i_refusals a5 a6 i_rained) H := hP
      have hD : va_D A (wd_HM_rain cA q0 q1 q2 q3 q4 q5 q6 q7 q8 q9 q10 q11 q12 q13 q14 q15 q16 q17 q18 q19 q20 q21 q22 q23 q24 q25 q26 q27 q28 q29 q30 q31 u0 u1 u2 u3 u4 u5 u6 u7 u8 u9 u10 u11 u12 u13 u14 u15 u16 u17 i_row 0 i_status v7 i_wet i_refusals a5 a6 i_rained) := hD
      refine lv_aload_n hx hb dX11_rain_45 rfl (lv_at hl 0 rfl) ?_
      refine lv_aload_n hx hb dX11_rain_46 rfl (lv_at hl 0 rfl) ?_
      refine xe_d1 hf (fun v8 hg hf => ?_)
      have hC : ([0, 2] : List Nat).map (fun i => (wd_HM_rain cA q0 q1 q2 q3 q4 q5 q6 q7 q8 q9 q10 q11 q12 q13 q14 q15 q16 q17 q18 q19 q20 q21 q22 q23 q24 q25 q26 q27 q28 q29 q30 q31 u0 u1 u2 u3 u4 u5 u6 u7 u8 u9 u10 u11 u12 u13 u14 u15 u16 u17 i_row 0 i_status v7 i_wet i_refusals a5 a6 i_rained)[i]?) = (wd_HM_columns cA q0 q1 q2 q3 q4 q5 q6 q7 q8 q9 q10 q11 q12 q13 q14 q15 q16 q17 q18 q19 q20 q21 q22 q23 q24 q25 q26 q27 q28 q29 q30 q31 0 i_status u0 u1 u2 u3 u4 u5 u6 u7 u8 u9 u10 u11 u12 u13 u14 u15 u16 u17 v7 i_wet i_row).map some := rfl
      refine xv_afterI (ws' := (wd_HM_rain cA q0 q1 q2 q3 q4 q5 q6 q7 q8 q9 q10 q11 q12 q13 q14 q15 q16 q17 q18 q19 q20 q21 q22 q23 q24 q25 q26 q27 q28 q29 q30 q31 u0 u1 u2 u3 u4 u5 u6 u7 u8 u9 u10 u11 u12 u13 u14 u15 u16 u17 i_row 0 i_status v7 i_wet i_refusals a5 a6 i_rained)) (isC := [0, 2]) (ps := [some 0, none, some 1, none, none, none]) (va_runV (As := []) (rest := [.ref q0]) ⟨hx, hb, hml, hown, hts⟩ (c_HM_columns l ev dC dI cA q0 q1 q2 q3 q4 q5 q6 q7 q8 q9 q10 q11 q12 q13 q14 q15 q16 q17 q18 q19 q20 q21 q22 q23 q24 q25 q26 q27 q28 q29 q30 q31 0 i_status u0 u1 u2 u3 u4 u5 u6 u7 u8 u9 u10 u11 u12 u13 u14 u15 u16 u17 v7 i_wet hg H.size) (cwV 0 hts (zgV zw_1344 zw_1346 zw_41 zw_115 zw_1347) rfl rfl rfl hd_HM_columns ⟨Nat.le_of_ble_eq_true rfl, Nat.le_of_ble_eq_true rfl⟩) (xv_preV (T := TX11) (N := 53) hE hA hS hK hP hD (isC := [0, 2]) (by decide +kernel) hC (q0 := 0) (ci := 11) rfl rfl) rfl rfl hl.1 rfl (lv_room (Nat.le_of_ble_eq_true rfl)) dX11_rain_47 ⟨Nat.le_refl _, Nat.le_refl _⟩) hP hD hS hA (by decide +kernel) rfl hC rfl rfl (fun H locs hP hD hS => ?_)
      refine va_put (D := (dC, dI)) (ci := 11) (v := .int (Int32.ofInt v8)) (ty := .int) (C := RX11) (T := TX11) (N := 53) hx hb hz zi_X11 tyX11 tyX11_ok nmX11 hown hK hP hD hS 0 rfl rfl 52 (by decide) (hz _ zw_1217) (fun _ h9 => h9) rfl (by decide +kernel) rfl rfl (Nat.le_of_ble_eq_true rfl) dX11_rain_50 (fun H locs hP hD hS => ?_)
      have hP : va_P (dC, dI) vwCl (wd_HM_rain cA q0 q1 q2 q3 q4 q5 q6 q7 q8 q9 q10 q11 q12 q13 q14 q15 q16 q17 q18 q19 q20 q21 q22 q23 q24 q25 q26 q27 q28 q29 q30 q31 u0 u1 u2 u3 u4 u5 u6 u7 u8 u9 u10 u11 u12 u13 u14 u15 u16 u17 i_row 0 i_status v7 v8 i_refusals a5 a6 i_rained) H := hP
      have hD : va_D A (wd_HM_rain cA q0 q1 q2 q3 q4 q5 q6 q7 q8 q9 q10 q11 q12 q13 q14 q15 q16 q17 q18 q19 q20 q21 q22 q23 q24 q25 q26 q27 q28 q29 q30 q31 u0 u1 u2 u3 u4 u5 u6 u7 u8 u9 u10 u11 u12 u13 u14 u15 u16 u17 i_row 0 i_status v7 v8 i_refusals a5 a6 i_rained) := hD
      refine lv_iconst (v := Int32.ofInt 0) hx hb dX11_rain_53 rfl ?_
      refine lv_istore_n (lv' := [(3, .int (Int32.ofInt 0)), (0, .ref q0), (1, .int (Int32.ofInt x1)), (2, .int (Int32.ofInt x2))]) hx hb dX11_rain_54 rfl hl (by decide) rfl (fun ls hl => ?_)
      refine lv_iconst (v := Int32.ofInt 0) hx hb dX11_rain_55 rfl ?_
      refine lv_istore (lv' := [(4, .int (Int32.ofInt 0)), (3, .int (Int32.ofInt 0)), (0, .ref q0), (1, .int (Int32.ofInt x1)), (2, .int (Int32.ofInt x2))]) hx hb dX11_rain_56 hl (by decide) rfl (fun ls hl => ?_)
      exact l_58  _ _ _ _ _ _ _ _ _ _ _ _ _ _ _ hf hP hD hS (lv_sub hl [2, 4, 1, 0] rfl)
    · exact b_29  _ _ _ _ _ _ _ _ _ _ _ hf hP hD hS (lv_sub hl [0] rfl)
theorem dX11_rained_0 : decode cX11_rained 0 = .ok (.aload_n 0, 1) := by decide +kernel
theorem dX11_rained_1 : decode cX11_rained 1 = .ok (.iconst 0, 1) := by decide +kernel
theorem dX11_rained_2 : decode cX11_rained 2 = .ok (.putfield 126, 3) := by decide +kernel
theorem dX11_rained_5 : decode cX11_rained 5 = .ok (.iload_n 1, 1) := by decide +kernel
theorem dX11_rained_6 : decode cX11_rained 6 = .ok (.i2l, 1) := by decide +kernel
theorem dX11_rained_7 : decode cX11_rained 7 = .ok (.lconst 0, 1) := by decide +kernel
theorem dX11_rained_8 : decode cX11_rained 8 = .ok (.aload_n 0, 1) := by decide +kernel
theorem dX11_rained_9 : decode cX11_rained 9 = .ok (.getfield 480, 3) := by decide +kernel
theorem dX11_rained_12 : decode cX11_rained 12 = .ok (.i2l, 1) := by decide +kernel
theorem dX11_rained_13 : decode cX11_rained 13 = .ok (.lconst 1, 1) := by decide +kernel
theorem dX11_rained_14 : decode cX11_rained 14 = .ok (.lsub, 1) := by decide +kernel
theorem dX11_rained_15 : decode cX11_rained 15 = .ok (.invokestatic 132, 3) := by decide +kernel
theorem dX11_rained_18 : decode cX11_rained 18 = .ok (.ifCond .eq 26, 3) := by decide +kernel
theorem dX11_rained_21 : decode cX11_rained 21 = .ok (.iload_n 2, 1) := by decide +kernel
theorem dX11_rained_22 : decode cX11_rained 22 = .ok (.i2l, 1) := by decide +kernel
theorem dX11_rained_23 : decode cX11_rained 23 = .ok (.lconst 0, 1) := by decide +kernel
theorem dX11_rained_24 : decode cX11_rained 24 = .ok (.lconst 1, 1) := by decide +kernel
theorem dX11_rained_25 : decode cX11_rained 25 = .ok (.invokestatic 132, 3) := by decide +kernel
theorem dX11_rained_28 : decode cX11_rained 28 = .ok (.ifCond .eq 16, 3) := by decide +kernel
theorem dX11_rained_31 : decode cX11_rained 31 = .ok (.aload_n 0, 1) := by decide +kernel
theorem dX11_rained_32 : decode cX11_rained 32 = .ok (.getfield 123, 3) := by decide +kernel
theorem dX11_rained_35 : decode cX11_rained 35 = .ok (.iconst 2, 1) := by decide +kernel
theorem dX11_rained_36 : decode cX11_rained 36 = .ok (.iload_n 1, 1) := by decide +kernel
theorem dX11_rained_37 : decode cX11_rained 37 = .ok (.imul, 1) := by decide +kernel
theorem dX11_rained_38 : decode cX11_rained 38 = .ok (.iload_n 2, 1) := by decide +kernel
theorem dX11_rained_39 : decode cX11_rained 39 = .ok (.iadd, 1) := by decide +kernel
theorem dX11_rained_40 : decode cX11_rained 40 = .ok (.iaload, 1) := by decide +kernel
theorem dX11_rained_41 : decode cX11_rained 41 = .ok (.goto 4, 3) := by decide +kernel
theorem dX11_rained_44 : decode cX11_rained 44 = .ok (.iconst (-1), 1) := by decide +kernel
theorem dX11_rained_45 : decode cX11_rained 45 = .ok (.ireturn, 1) := by decide +kernel
theorem zw_1777 : (Jvm.Cond.code ({ cls := "HillSchoolModel", name := "rained", desc := "(II)I" } : Jvm.MethodName) prog_13_method_110_code (3 : Nat) (Option.some Jvm.ClassFile.FieldType.int)) ∈ zall := zmemG (zmj_7 234 rfl) rfl
abbrev w_HM_rained : List Cond := .code yX11_rained cX11_rained 3 (some .int) :: zall
abbrev rm_HM_rained : Room := { frames := 1, cells := 0, slots := 0, locals := 25 }
theorem hd_HM_rained : yX11_rained.cls = "HillSchoolModel" ∧ yX11_rained.cls ≠ "java/lang/invoke/MethodHandle" ∧ yX11_rained.cls ≠ "java/lang/invoke/VarHandle" ∧ (parseMethodDescriptor yX11_rained.desc).map (fun d => d.parameters.length) = some 2 := by decide +kernel
def wd_HM_rained (cA : Nat → ClassId) (q0 q1 q2 q3 q4 q5 q6 q7 q8 q9 q10 q11 q12 q13 q14 q15 q16 q17 q18 q19 q20 q21 q22 q23 q24 q25 q26 q27 q28 q29 q30 q31 : Nat) (u0 u1 u2 u3 u4 u5 u6 u7 u8 u9 u10 u11 u12 u13 u14 u15 u16 u17 u18 u19 : Int) (i_wet : Int) (i_rained : Nat → Int) (i_thrown : Int) : va_W := [(q0, .inr (11, [.int (Int32.ofInt i_thrown), .int (Int32.ofInt u0), .ref q1, .ref q2, .ref q3, .ref q4, .int (Int32.ofInt u1), .ref q5, .int (Int32.ofInt u2), .int (Int32.ofInt u3), .int (Int32.ofInt u4), .int (Int32.ofInt u5), .long (Int64.ofInt u6), .int (Int32.ofInt u7), .int (Int32.ofInt u8), .int (Int32.ofInt u9), .ref q6, .int (Int32.ofInt u10), .ref q7, .ref q8, .int (Int32.ofInt u11), .ref q9, .ref q10, .int (Int32.ofInt u12), .int (Int32.ofInt u13), .ref q11, .int (Int32.ofInt u14), .ref q12, .ref q13, .int (Int32.ofInt u15), .long (Int64.ofInt u16), .long (Int64.ofInt u17), .ref q14, .ref q15, .ref q16, .ref q17, .ref q18, .int (Int32.ofInt u18), .ref q19, .ref q20, .ref q21, .ref q22, .ref q23, .ref q24, .ref q25, .ref q26, .ref q27, .ref q28, .ref q29, .ref q30, .long (Int64.ofInt u19), .ref q31, .int (Int32.ofInt i_wet)])), (q31, .inl (cA 0, 24, .inl (za i_rained)))]
def wf_HM_rained (cA : Nat → ClassId) (q0 q1 q2 q3 q4 q5 q6 q7 q8 q9 q10 q11 q12 q13 q14 q15 q16 q17 q18 q19 q20 q21 q22 q23 q24 q25 q26 q27 q28 q29 q30 q31 : Nat) (u0 u1 u2 u3 u4 u5 u6 u7 u8 u9 u10 u11 u12 u13 u14 u15 u16 u17 u18 u19 : Int) (i_wet : Int) (i_rained : Nat → Int) (o : Int × Int) : va_W := wd_HM_rained cA q0 q1 q2 q3 q4 q5 q6 q7 q8 q9 q10 q11 q12 q13 q14 q15 q16 q17 q18 q19 q20 q21 q22 q23 q24 q25 q26 q27 q28 q29 q30 q31 u0 u1 u2 u3 u4 u5 u6 u7 u8 u9 u10 u11 u12 u13 u14 u15 u16 u17 u18 u19 i_wet i_rained o.2
def f_HM_rained (x1 : Int) (x2 : Int) (i_wet : Int) (i_rained : Nat → Int) (i_thrown : Int) : Option (Int × Int) :=
  zn (zi_w x1) fun v1 =>
  zn (zi_w i_wet) fun v2 =>
  zn (v2 - 1) fun v3 =>
  zd1 (f_HM_in v1 0 v3) fun v4 =>
  if zi_w v4 = 0 then
    some ((-1), 0)
  else
    zn (zi_w x2) fun v5 =>
    zd1 (f_HM_in v5 0 1) fun v6 =>
    if zi_w v6 = 0 then
      some ((-1), 0)
    else
      zn (2 * x1) fun v7 =>
      zn (v7 + x2) fun v8 =>
      zg 24 i_rained v8 fun v9 =>
      some (v9, 0)
set_option maxHeartbeats 4000000 in
set_option maxRecDepth 100000 in
theorem c_HM_rained (l : Launch) (ev : zEv) (dC : Nat → ClassId) (dI : Nat → Nat → Nat) (cA : Nat → ClassId) (q0 q1 q2 q3 q4 q5 q6 q7 q8 q9 q10 q11 q12 q13 q14 q15 q16 q17 q18 q19 q20 q21 q22 q23 q24 q25 q26 q27 q28 q29 q30 q31 : Nat) (u0 u1 u2 u3 u4 u5 u6 u7 u8 u9 u10 u11 u12 u13 u14 u15 u16 u17 u18 u19 : Int) {x1 x2 : Int} {i_wet : Int} {i_rained : Nat → Int} {i_thrown : Int} {out : Int × Int} (hf : f_HM_rained x1 x2 i_wet i_rained i_thrown = some out) : xc_I l ev (dC, dI) vwCl (tyl cA) yX11_rained w_HM_rained rm_HM_rained [.ref q0, .int (Int32.ofInt x1), .int (Int32.ofInt x2)] (wd_HM_rained cA q0 q1 q2 q3 q4 q5 q6 q7 q8 q9 q10 q11 q12 q13 q14 q15 q16 q17 q18 q19 q20 q21 q22 q23 q24 q25 q26 q27 q28 q29 q30 q31 u0 u1 u2 u3 u4 u5 u6 u7 u8 u9 u10 u11 u12 u13 u14 u15 u16 u17 u18 u19 i_wet i_rained i_thrown) (wf_HM_rained cA q0 q1 q2 q3 q4 q5 q6 q7 q8 q9 q10 q11 q12 q13 q14 q15 q16 q17 q18 q19 q20 q21 q22 q23 q24 q25 q26 q27 q28 q29 q30 q31 u0 u1 u2 u3 u4 u5 u6 u7 u8 u9 u10 u11 u12 u13 u14 u15 u16 u17 u18 u19 i_wet i_rained out) out.1 := by
  refine xv_startI (cc := cX11_rained) (maxL := 3) (rt := .int) (by decide +kernel) rfl (Nat.le_of_ble_eq_true rfl) ?_
  intro p e s m args below meth c A Q H ls hx hb hml hts hown hK hA hP hD hS hl hE hret
  have hown : s.vm.findClass "HillSchoolModel" = some m.cls := hown
  have hz : ∀ w ∈ zall, w.before args s = true := fun w h => hts w (List.mem_cons_of_mem _ h)
  have hl : lv_has ls 3 [(0, .ref q0), (1, .int (Int32.ofInt x1)), (2, .int (Int32.ofInt x2))] := hl
  unfold f_HM_rained at hf
  refine lv_aload_n hx hb dX11_rained_0 rfl (lv_at hl 0 rfl) ?_
  refine lv_iconst (v := Int32.ofInt 0) hx hb dX11_rained_1 rfl ?_
  refine va_put (D := (dC, dI)) (ci := 11) (v := .int (Int32.ofInt 0)) (ty := .int) (C := RX11) (T := TX11) (N := 53) hx hb hz zi_X11 tyX11 tyX11_ok nmX11 hown hK hP hD hS 0 rfl rfl 0 (by decide) (hz _ zw_1165) (fun _ h9 => h9) rfl (by decide +kernel) rfl rfl (Nat.le_of_ble_eq_true rfl) dX11_rained_2 (fun H locs hP hD hS => ?_)
  have hP : va_P (dC, dI) vwCl (wd_HM_rained cA q0 q1 q2 q3 q4 q5 q6 q7 q8 q9 q10 q11 q12 q13 q14 q15 q16 q17 q18 q19 q20 q21 q22 q23 q24 q25 q26 q27 q28 q29 q30 q31 u0 u1 u2 u3 u4 u5 u6 u7 u8 u9 u10 u11 u12 u13 u14 u15 u16 u17 u18 u19 i_wet i_rained 0) H := hP
  have hD : va_D A (wd_HM_rained cA q0 q1 q2 q3 q4 q5 q6 q7 q8 q9 q10 q11 q12 q13 q14 q15 q16 q17 q18 q19 q20 q21 q22 q23 q24 q25 q26 q27 q28 q29 q30 q31 u0 u1 u2 u3 u4 u5 u6 u7 u8 u9 u10 u11 u12 u13 u14 u15 u16 u17 u18 u19 i_wet i_rained 0) := hD
  refine lv_iload_n hx hb dX11_rained_5 rfl (lv_at hl 1 rfl) ?_
  refine xi_i2l hx hb dX11_rained_6 hf (fun v1 hf => ?_)
  refine lv_lconst (v := Int64.ofInt 0) hx hb dX11_rained_7 (by decide) ?_
  refine lv_aload_n hx hb dX11_rained_8 rfl (lv_at hl 0 rfl) ?_
  refine va_get (D := (dC, dI)) (ci := 11) (v := .int (Int32.ofInt i_wet)) (C := RX11) (T := TX11) (N := 53) hx hb hz zi_X11 hown hK hP 0 rfl rfl 52 (by decide) (hz _ zw_1217) (fun _ h9 => h9) rfl dX11_rained_9 ?_
  refine xi_i2l hx hb dX11_rained_12 hf (fun v2 hf => ?_)
  refine lv_lconst (v := Int64.ofInt 1) hx hb dX11_rained_13 (by decide) ?_
  refine xl_lsub hx hb dX11_rained_14 hf (fun v3 hf => ?_)
  refine xe_d1 hf (fun v4 hg hf => ?_)
  have hC : ([] : List Nat).map (fun i => (wd_HM_rained cA q0 q1 q2 q3 q4 q5 q6 q7 q8 q9 q10 q11 q12 q13 q14 q15 q16 q17 q18 q19 q20 q21 q22 q23 q24 q25 q26 q27 q28 q29 q30 q31 u0 u1 u2 u3 u4 u5 u6 u7 u8 u9 u10 u11 u12 u13 u14 u15 u16 u17 u18 u19 i_wet i_rained 0)[i]?) = (wd_HM_in cA).map some := rfl
  refine xv_afterI (ws' := (wd_HM_rained cA q0 q1 q2 q3 q4 q5 q6 q7 q8 q9 q10 q11 q12 q13 q14 q15 q16 q17 q18 q19 q20 q21 q22 q23 q24 q25 q26 q27 q28 q29 q30 q31 u0 u1 u2 u3 u4 u5 u6 u7 u8 u9 u10 u11 u12 u13 u14 u15 u16 u17 u18 u19 i_wet i_rained 0)) (isC := []) (ps := [none, none]) (va_runS (As := [.long (Int64.ofInt v1), .long (Int64.ofInt 0), .long (Int64.ofInt v3)]) (rest := []) ⟨hx, hb, hml, hown, hts⟩ (c_HM_in l ev dC dI cA hg H.size) (va_cwS 3 hts (zgS zw_1329 zw_1330 zw_115 zw_1331) rfl rfl rfl hd_HM_in.2 ⟨Nat.le_of_ble_eq_true rfl, Nat.le_of_ble_eq_true rfl⟩) (xv_preS hE hA hS hK hP hD (isC := []) (by decide +kernel) hC) rfl rfl hl.1 rfl (lv_room (Nat.le_of_ble_eq_true rfl)) dX11_rained_15 ⟨Nat.le_refl _, Nat.le_refl _⟩) hP hD hS hA (by decide +kernel) rfl hC rfl rfl (fun H locs hP hD hS => ?_)
  refine xi_if_eq (tgt := 44) hx hb dX11_rained_18 (by decide) hf (fun hf => ?_) (fun hf => ?_)
  · refine lv_iconst (v := Int32.ofInt (-1)) hx hb dX11_rained_44 rfl ?_
    obtain rfl := Option.some.inj hf
    exact hret _ _ _ _ rfl dX11_rained_45 hP hD hS
  · refine lv_iload_n hx hb dX11_rained_21 rfl (lv_at hl 2 rfl) ?_
    refine xi_i2l hx hb dX11_rained_22 hf (fun v5 hf => ?_)
    refine lv_lconst (v := Int64.ofInt 0) hx hb dX11_rained_23 (by decide) ?_
    refine lv_lconst (v := Int64.ofInt 1) hx hb dX11_rained_24 (by decide) ?_
    refine xe_d1 hf (fun v6 hg hf => ?_)
    have hC : ([] : List Nat).map (fun i => (wd_HM_rained cA q0 q1 q2 q3 q4 q5 q6 q7 q8 q9 q10 q11 q12 q13 q14 q15 q16 q17 q18 q19 q20 q21 q22 q23 q24 q25 q26 q27 q28 q29 q30 q31 u0 u1 u2 u3 u4 u5 u6 u7 u8 u9 u10 u11 u12 u13 u14 u15 u16 u17 u18 u19 i_wet i_rained 0)[i]?) = (wd_HM_in cA).map some := rfl
    refine xv_afterI (ws' := (wd_HM_rained cA q0 q1 q2 q3 q4 q5 q6 q7 q8 q9 q10 q11 q12 q13 q14 q15 q16 q17 q18 q19 q20 q21 q22 q23 q24 q25 q26 q27 q28 q29 q30 q31 u0 u1 u2 u3 u4 u5 u6 u7 u8 u9 u10 u11 u12 u13 u14 u15 u16 u17 u18 u19 i_wet i_rained 0)) (isC := []) (ps := [none, none]) (va_runS (As := [.long (Int64.ofInt v5), .long (Int64.ofInt 0), .long (Int64.ofInt 1)]) (rest := []) ⟨hx, hb, hml, hown, hts⟩ (c_HM_in l ev dC dI cA hg H.size) (va_cwS 3 hts (zgS zw_1329 zw_1330 zw_115 zw_1331) rfl rfl rfl hd_HM_in.2 ⟨Nat.le_of_ble_eq_true rfl, Nat.le_of_ble_eq_true rfl⟩) (xv_preS hE hA hS hK hP hD (isC := []) (by decide +kernel) hC) rfl rfl hl.1 rfl (lv_room (Nat.le_of_ble_eq_true rfl)) dX11_rained_25 ⟨Nat.le_refl _, Nat.le_refl _⟩) hP hD hS hA (by decide +kernel) rfl hC rfl rfl (fun H locs hP hD hS => ?_)
    refine xi_if_eq (tgt := 44) hx hb dX11_rained_28 (by decide) hf (fun hf => ?_) (fun hf => ?_)
    · refine lv_iconst (v := Int32.ofInt (-1)) hx hb dX11_rained_44 rfl ?_
      obtain rfl := Option.some.inj hf
      exact hret _ _ _ _ rfl dX11_rained_45 hP hD hS
    · refine lv_aload_n hx hb dX11_rained_31 rfl (lv_at hl 0 rfl) ?_
      refine va_get (D := (dC, dI)) (ci := 11) (v := .ref q31) (C := RX11) (T := TX11) (N := 53) hx hb hz zi_X11 hown hK hP 0 rfl rfl 51 (by decide) (hz _ zw_1216) (fun _ h9 => h9) rfl dX11_rained_32 ?_
      refine lv_iconst (v := Int32.ofInt 2) hx hb dX11_rained_35 rfl ?_
      refine lv_iload_n hx hb dX11_rained_36 rfl (lv_at hl 1 rfl) ?_
      refine xi_imul hx hb dX11_rained_37 hf (fun v7 hf => ?_)
      refine lv_iload_n hx hb dX11_rained_38 rfl (lv_at hl 2 rfl) ?_
      refine xi_iadd hx hb dX11_rained_39 hf (fun v8 hf => ?_)
      refine xi_iald hx hb hK hP 1 0 rfl rfl dX11_rained_40 hf (fun v9 hf => ?_)
      refine lv_goto (tgt := 45) hx hb dX11_rained_41 (by decide) ?_
      obtain rfl := Option.some.inj hf
      exact hret _ _ _ _ rfl dX11_rained_45 hP hD hS
theorem dX11_count_0 : decode cX11_count 0 = .ok (.aload_n 0, 1) := by decide +kernel
theorem dX11_count_1 : decode cX11_count 1 = .ok (.iconst 0, 1) := by decide +kernel
theorem dX11_count_2 : decode cX11_count 2 = .ok (.putfield 126, 3) := by decide +kernel
theorem dX11_count_5 : decode cX11_count 5 = .ok (.iload_n 1, 1) := by decide +kernel
theorem dX11_count_6 : decode cX11_count 6 = .ok (.tableswitch 141 0 11 #[62, 67, 72, 79, 86, 93, 98, 105, 112, 119, 126, 134], 62) := by decide +kernel
theorem dX11_count_68 : decode cX11_count 68 = .ok (.aload_n 0, 1) := by decide +kernel
theorem dX11_count_69 : decode cX11_count 69 = .ok (.invokevirtual 140, 3) := by decide +kernel
theorem dX11_count_72 : decode cX11_count 72 = .ok (.ireturn, 1) := by decide +kernel
theorem dX11_count_73 : decode cX11_count 73 = .ok (.aload_n 0, 1) := by decide +kernel
theorem dX11_count_74 : decode cX11_count 74 = .ok (.invokevirtual 442, 3) := by decide +kernel
theorem dX11_count_77 : decode cX11_count 77 = .ok (.ireturn, 1) := by decide +kernel
theorem dX11_count_78 : decode cX11_count 78 = .ok (.aload_n 0, 1) := by decide +kernel
theorem dX11_count_79 : decode cX11_count 79 = .ok (.getfield 13, 3) := by decide +kernel
theorem dX11_count_82 : decode cX11_count 82 = .ok (.iconst 1, 1) := by decide +kernel
theorem dX11_count_83 : decode cX11_count 83 = .ok (.iaload, 1) := by decide +kernel
theorem dX11_count_84 : decode cX11_count 84 = .ok (.ireturn, 1) := by decide +kernel
theorem dX11_count_85 : decode cX11_count 85 = .ok (.aload_n 0, 1) := by decide +kernel
theorem dX11_count_86 : decode cX11_count 86 = .ok (.getfield 13, 3) := by decide +kernel
theorem dX11_count_89 : decode cX11_count 89 = .ok (.iconst 2, 1) := by decide +kernel
theorem dX11_count_90 : decode cX11_count 90 = .ok (.iaload, 1) := by decide +kernel
theorem dX11_count_91 : decode cX11_count 91 = .ok (.ireturn, 1) := by decide +kernel
theorem dX11_count_92 : decode cX11_count 92 = .ok (.aload_n 0, 1) := by decide +kernel
theorem dX11_count_93 : decode cX11_count 93 = .ok (.getfield 13, 3) := by decide +kernel
theorem dX11_count_96 : decode cX11_count 96 = .ok (.iconst 3, 1) := by decide +kernel
theorem dX11_count_97 : decode cX11_count 97 = .ok (.iaload, 1) := by decide +kernel
theorem dX11_count_98 : decode cX11_count 98 = .ok (.ireturn, 1) := by decide +kernel
theorem dX11_count_99 : decode cX11_count 99 = .ok (.aload_n 0, 1) := by decide +kernel
theorem dX11_count_100 : decode cX11_count 100 = .ok (.getfield 172, 3) := by decide +kernel
theorem dX11_count_103 : decode cX11_count 103 = .ok (.ireturn, 1) := by decide +kernel
theorem dX11_count_104 : decode cX11_count 104 = .ok (.aload_n 0, 1) := by decide +kernel
theorem dX11_count_105 : decode cX11_count 105 = .ok (.getfield 7, 3) := by decide +kernel
theorem dX11_count_108 : decode cX11_count 108 = .ok (.iconst 1, 1) := by decide +kernel
theorem dX11_count_109 : decode cX11_count 109 = .ok (.iaload, 1) := by decide +kernel
theorem dX11_count_110 : decode cX11_count 110 = .ok (.ireturn, 1) := by decide +kernel
theorem dX11_count_111 : decode cX11_count 111 = .ok (.aload_n 0, 1) := by decide +kernel
theorem dX11_count_112 : decode cX11_count 112 = .ok (.getfield 7, 3) := by decide +kernel
theorem dX11_count_115 : decode cX11_count 115 = .ok (.iconst 2, 1) := by decide +kernel
theorem dX11_count_116 : decode cX11_count 116 = .ok (.iaload, 1) := by decide +kernel
theorem dX11_count_117 : decode cX11_count 117 = .ok (.ireturn, 1) := by decide +kernel
theorem dX11_count_118 : decode cX11_count 118 = .ok (.aload_n 0, 1) := by decide +kernel
theorem dX11_count_119 : decode cX11_count 119 = .ok (.getfield 7, 3) := by decide +kernel
theorem dX11_count_122 : decode cX11_count 122 = .ok (.iconst 3, 1) := by decide +kernel
theorem dX11_count_123 : decode cX11_count 123 = .ok (.iaload, 1) := by decide +kernel
theorem dX11_count_124 : decode cX11_count 124 = .ok (.ireturn, 1) := by decide +kernel
theorem dX11_count_125 : decode cX11_count 125 = .ok (.aload_n 0, 1) := by decide +kernel
theorem dX11_count_126 : decode cX11_count 126 = .ok (.getfield 7, 3) := by decide +kernel
theorem dX11_count_129 : decode cX11_count 129 = .ok (.iconst 5, 1) := by decide +kernel
theorem dX11_count_130 : decode cX11_count 130 = .ok (.iaload, 1) := by decide +kernel
theorem dX11_count_131 : decode cX11_count 131 = .ok (.ireturn, 1) := by decide +kernel
theorem dX11_count_132 : decode cX11_count 132 = .ok (.aload_n 0, 1) := by decide +kernel
theorem dX11_count_133 : decode cX11_count 133 = .ok (.getfield 7, 3) := by decide +kernel
theorem dX11_count_136 : decode cX11_count 136 = .ok (.bipush 6, 2) := by decide +kernel
theorem dX11_count_138 : decode cX11_count 138 = .ok (.iaload, 1) := by decide +kernel
theorem dX11_count_139 : decode cX11_count 139 = .ok (.ireturn, 1) := by decide +kernel
theorem dX11_count_140 : decode cX11_count 140 = .ok (.aload_n 0, 1) := by decide +kernel
theorem dX11_count_141 : decode cX11_count 141 = .ok (.getfield 13, 3) := by decide +kernel
theorem dX11_count_144 : decode cX11_count 144 = .ok (.iconst 4, 1) := by decide +kernel
theorem dX11_count_145 : decode cX11_count 145 = .ok (.iaload, 1) := by decide +kernel
theorem dX11_count_146 : decode cX11_count 146 = .ok (.ireturn, 1) := by decide +kernel
theorem dX11_count_147 : decode cX11_count 147 = .ok (.iload_n 1, 1) := by decide +kernel
theorem dX11_count_148 : decode cX11_count 148 = .ok (.i2l, 1) := by decide +kernel
theorem dX11_count_149 : decode cX11_count 149 = .ok (.ldc2_w 489, 3) := by decide +kernel
theorem dX11_count_152 : decode cX11_count 152 = .ok (.ldc2_w 491, 3) := by decide +kernel
theorem dX11_count_155 : decode cX11_count 155 = .ok (.invokestatic 132, 3) := by decide +kernel
theorem dX11_count_158 : decode cX11_count 158 = .ok (.ifCond .eq 17, 3) := by decide +kernel
theorem dX11_count_161 : decode cX11_count 161 = .ok (.aload_n 0, 1) := by decide +kernel
theorem dX11_count_162 : decode cX11_count 162 = .ok (.getfield 13, 3) := by decide +kernel
theorem dX11_count_165 : decode cX11_count 165 = .ok (.iconst 5, 1) := by decide +kernel
theorem dX11_count_166 : decode cX11_count 166 = .ok (.iload_n 1, 1) := by decide +kernel
theorem dX11_count_167 : decode cX11_count 167 = .ok (.iadd, 1) := by decide +kernel
theorem dX11_count_168 : decode cX11_count 168 = .ok (.bipush 12, 2) := by decide +kernel
theorem dX11_count_170 : decode cX11_count 170 = .ok (.isub, 1) := by decide +kernel
theorem dX11_count_171 : decode cX11_count 171 = .ok (.iaload, 1) := by decide +kernel
theorem dX11_count_172 : decode cX11_count 172 = .ok (.goto 4, 3) := by decide +kernel
theorem dX11_count_175 : decode cX11_count 175 = .ok (.iconst (-1), 1) := by decide +kernel
theorem dX11_count_176 : decode cX11_count 176 = .ok (.ireturn, 1) := by decide +kernel
theorem zw_1781 : (Jvm.Cond.code ({ cls := "HillSchoolModel", name := "count", desc := "(I)I" } : Jvm.MethodName) prog_13_method_111_code (2 : Nat) (Option.some Jvm.ClassFile.FieldType.int)) ∈ zall := zmemG (zmj_7 238 rfl) rfl
theorem zw_1782 : (Jvm.Cond.constantLong "HillSchoolModel" (489 : Nat) (12 : Int64)) ∈ zall := zmemG (zmj_7 239 rfl) rfl
theorem zw_1783 : (Jvm.Cond.constantLong "HillSchoolModel" (491 : Nat) (15 : Int64)) ∈ zall := zmemG (zmj_8 0 rfl) rfl
abbrev w_HM_count : List Cond := .code yX11_count cX11_count 2 (some .int) :: zall
abbrev rm_HM_count : Room := { frames := 2, cells := 0, slots := 0, locals := 42 }
theorem hd_HM_count : yX11_count.cls = "HillSchoolModel" ∧ yX11_count.cls ≠ "java/lang/invoke/MethodHandle" ∧ yX11_count.cls ≠ "java/lang/invoke/VarHandle" ∧ (parseMethodDescriptor yX11_count.desc).map (fun d => d.parameters.length) = some 1 := by decide +kernel
def wd_HM_count (cA : Nat → ClassId) (q0 q1 q2 q3 q4 q5 q6 q7 q8 q9 q10 q11 q12 q13 q14 q15 q16 q17 q18 q19 q20 q21 q22 q23 q24 q25 q26 q27 q28 q29 q30 q31 : Nat) (u0 u1 u2 u3 u4 u5 u6 u7 u8 u9 u10 u11 u12 u13 u14 u15 u16 u17 u18 u19 : Int) (i_taped : Int) (i_refusals : Nat → Int) (i_row : Nat → Int) (i_thrown : Int) : va_W := [(q0, .inr (11, [.int (Int32.ofInt i_thrown), .int (Int32.ofInt u0), .ref q1, .ref q2, .ref q3, .ref q4, .int (Int32.ofInt u1), .ref q5, .int (Int32.ofInt i_taped), .int (Int32.ofInt u2), .int (Int32.ofInt u3), .int (Int32.ofInt u4), .long (Int64.ofInt u5), .int (Int32.ofInt u6), .int (Int32.ofInt u7), .int (Int32.ofInt u8), .ref q6, .int (Int32.ofInt u9), .ref q7, .ref q8, .int (Int32.ofInt u10), .ref q9, .ref q10, .int (Int32.ofInt u11), .int (Int32.ofInt u12), .ref q11, .int (Int32.ofInt u13), .ref q12, .ref q13, .int (Int32.ofInt u14), .long (Int64.ofInt u15), .long (Int64.ofInt u16), .ref q14, .ref q15, .ref q16, .ref q17, .ref q18, .int (Int32.ofInt u17), .ref q19, .ref q20, .ref q21, .ref q22, .ref q23, .ref q24, .ref q25, .ref q26, .ref q27, .ref q28, .ref q29, .ref q30, .long (Int64.ofInt u18), .ref q31, .int (Int32.ofInt u19)])), (q1, .inl (cA 0, 7, .inl (za i_refusals))), (q2, .inl (cA 0, 5580, .inl (za i_row)))]
def wf_HM_count (cA : Nat → ClassId) (q0 q1 q2 q3 q4 q5 q6 q7 q8 q9 q10 q11 q12 q13 q14 q15 q16 q17 q18 q19 q20 q21 q22 q23 q24 q25 q26 q27 q28 q29 q30 q31 : Nat) (u0 u1 u2 u3 u4 u5 u6 u7 u8 u9 u10 u11 u12 u13 u14 u15 u16 u17 u18 u19 : Int) (i_taped : Int) (i_refusals : Nat → Int) (i_row : Nat → Int) (o : Int × Int) : va_W := wd_HM_count cA q0 q1 q2 q3 q4 q5 q6 q7 q8 q9 q10 q11 q12 q13 q14 q15 q16 q17 q18 q19 q20 q21 q22 q23 q24 q25 q26 q27 q28 q29 q30 q31 u0 u1 u2 u3 u4 u5 u6 u7 u8 u9 u10 u11 u12 u13 u14 u15 u16 u17 u18 u19 i_taped i_refusals i_row o.2
def f_HM_count (x1 : Int) (i_taped : Int) (i_refusals : Nat → Int) (i_row : Nat → Int) (i_thrown : Int) : Option (Int × Int) :=
  if zi_w x1 = 0 then
    zd1 (f_HM_columns i_row) fun v1 =>
    some (v1, 0)
  else if zi_w x1 = 1 then
    zd1 (f_HM_stones i_row) fun v2 =>
    some (v2, 0)
  else if zi_w x1 = 2 then
    zg 5580 i_row 1 fun v3 =>
    some (v3, 0)
  else if zi_w x1 = 3 then
    zg 5580 i_row 2 fun v4 =>
    some (v4, 0)
  else if zi_w x1 = 4 then
    zg 5580 i_row 3 fun v5 =>
    some (v5, 0)
  else if zi_w x1 = 5 then
    some (i_taped, 0)
  else if zi_w x1 = 6 then
    zg 7 i_refusals 1 fun v6 =>
    some (v6, 0)
  else if zi_w x1 = 7 then
    zg 7 i_refusals 2 fun v7 =>
    some (v7, 0)
  else if zi_w x1 = 8 then
    zg 7 i_refusals 3 fun v8 =>
    some (v8, 0)
  else if zi_w x1 = 9 then
    zg 7 i_refusals 5 fun v9 =>
    some (v9, 0)
  else if zi_w x1 = 10 then
    zg 7 i_refusals 6 fun v10 =>
    some (v10, 0)
  else if zi_w x1 = 11 then
    zg 5580 i_row 4 fun v11 =>
    some (v11, 0)
  else
    zn (zi_w x1) fun v12 =>
    zd1 (f_HM_in v12 12 15) fun v13 =>
    if zi_w v13 = 0 then
      some ((-1), 0)
    else
      zn (5 + x1) fun v14 =>
      zn (v14 - 12) fun v15 =>
      zg 5580 i_row v15 fun v16 =>
      some (v16, 0)
set_option maxHeartbeats 4000000 in
set_option maxRecDepth 100000 in
theorem c_HM_count (l : Launch) (ev : zEv) (dC : Nat → ClassId) (dI : Nat → Nat → Nat) (cA : Nat → ClassId) (q0 q1 q2 q3 q4 q5 q6 q7 q8 q9 q10 q11 q12 q13 q14 q15 q16 q17 q18 q19 q20 q21 q22 q23 q24 q25 q26 q27 q28 q29 q30 q31 : Nat) (u0 u1 u2 u3 u4 u5 u6 u7 u8 u9 u10 u11 u12 u13 u14 u15 u16 u17 u18 u19 : Int) {x1 : Int} {i_taped : Int} {i_refusals : Nat → Int} {i_row : Nat → Int} {i_thrown : Int} {out : Int × Int} (hf : f_HM_count x1 i_taped i_refusals i_row i_thrown = some out) : xc_I l ev (dC, dI) vwCl (tyl cA) yX11_count w_HM_count rm_HM_count [.ref q0, .int (Int32.ofInt x1)] (wd_HM_count cA q0 q1 q2 q3 q4 q5 q6 q7 q8 q9 q10 q11 q12 q13 q14 q15 q16 q17 q18 q19 q20 q21 q22 q23 q24 q25 q26 q27 q28 q29 q30 q31 u0 u1 u2 u3 u4 u5 u6 u7 u8 u9 u10 u11 u12 u13 u14 u15 u16 u17 u18 u19 i_taped i_refusals i_row i_thrown) (wf_HM_count cA q0 q1 q2 q3 q4 q5 q6 q7 q8 q9 q10 q11 q12 q13 q14 q15 q16 q17 q18 q19 q20 q21 q22 q23 q24 q25 q26 q27 q28 q29 q30 q31 u0 u1 u2 u3 u4 u5 u6 u7 u8 u9 u10 u11 u12 u13 u14 u15 u16 u17 u18 u19 i_taped i_refusals i_row out) out.1 := by
  refine xv_startI (cc := cX11_count) (maxL := 2) (rt := .int) (by decide +kernel) rfl (Nat.le_of_ble_eq_true rfl) ?_
  intro p e s m args below meth c A Q H ls hx hb hml hts hown hK hA hP hD hS hl hE hret
  have hown : s.vm.findClass "HillSchoolModel" = some m.cls := hown
  have hz : ∀ w ∈ zall, w.before args s = true := fun w h => hts w (List.mem_cons_of_mem _ h)
  have hl : lv_has ls 2 [(0, .ref q0), (1, .int (Int32.ofInt x1))] := hl
  unfold f_HM_count at hf
  refine lv_aload_n hx hb dX11_count_0 rfl (lv_at hl 0 rfl) ?_
  refine lv_iconst (v := Int32.ofInt 0) hx hb dX11_count_1 rfl ?_
  refine va_put (D := (dC, dI)) (ci := 11) (v := .int (Int32.ofInt 0)) (ty := .int) (C := RX11) (T := TX11) (N := 53) hx hb hz zi_X11 tyX11 tyX11_ok nmX11 hown hK hP hD hS 0 rfl rfl 0 (by decide) (hz _ zw_1165) (fun _ h9 => h9) rfl (by decide +kernel) rfl rfl (Nat.le_of_ble_eq_true rfl) dX11_count_2 (fun H locs hP hD hS => ?_)
  have hP : va_P (dC, dI) vwCl (wd_HM_count cA q0 q1 q2 q3 q4 q5 q6 q7 q8 q9 q10 q11 q12 q13 q14 q15 q16 q17 q18 q19 q20 q21 q22 q23 q24 q25 q26 q27 q28 q29 q30 q31 u0 u1 u2 u3 u4 u5 u6 u7 u8 u9 u10 u11 u12 u13 u14 u15 u16 u17 u18 u19 i_taped i_refusals i_row 0) H := hP
  have hD : va_D A (wd_HM_count cA q0 q1 q2 q3 q4 q5 q6 q7 q8 q9 q10 q11 q12 q13 q14 q15 q16 q17 q18 q19 q20 q21 q22 q23 q24 q25 q26 q27 q28 q29 q30 q31 u0 u1 u2 u3 u4 u5 u6 u7 u8 u9 u10 u11 u12 u13 u14 u15 u16 u17 u18 u19 i_taped i_refusals i_row 0) := hD
  refine lv_iload_n hx hb dX11_count_5 rfl (lv_at hl 1 rfl) ?_
  refine xz_if hf (fun hc hf => ?_) (fun hn0 hf => ?_)
  · refine xi_tin (tgt := 68) hx hb dX11_count_6 hc (by decide) (by decide) rfl (by decide) ?_
    refine lv_aload_n hx hb dX11_count_68 rfl (lv_at hl 0 rfl) ?_
    refine xe_d1 hf (fun v1 hg hf => ?_)
    have hC : ([0, 2] : List Nat).map (fun i => (wd_HM_count cA q0 q1 q2 q3 q4 q5 q6 q7 q8 q9 q10 q11 q12 q13 q14 q15 q16 q17 q18 q19 q20 q21 q22 q23 q24 q25 q26 q27 q28 q29 q30 q31 u0 u1 u2 u3 u4 u5 u6 u7 u8 u9 u10 u11 u12 u13 u14 u15 u16 u17 u18 u19 i_taped i_refusals i_row 0)[i]?) = (wd_HM_columns cA q0 q1 q2 q3 q4 q5 q6 q7 q8 q9 q10 q11 q12 q13 q14 q15 q16 q17 q18 q19 q20 q21 q22 q23 q24 q25 q26 q27 q28 q29 q30 q31 0 u0 u1 i_taped u2 u3 u4 u5 u6 u7 u8 u9 u10 u11 u12 u13 u14 u15 u16 u17 u18 u19 i_row).map some := rfl
    refine xv_afterI (ws' := (wd_HM_count cA q0 q1 q2 q3 q4 q5 q6 q7 q8 q9 q10 q11 q12 q13 q14 q15 q16 q17 q18 q19 q20 q21 q22 q23 q24 q25 q26 q27 q28 q29 q30 q31 u0 u1 u2 u3 u4 u5 u6 u7 u8 u9 u10 u11 u12 u13 u14 u15 u16 u17 u18 u19 i_taped i_refusals i_row 0)) (isC := [0, 2]) (ps := [some 0, none, some 1]) (va_runV (As := []) (rest := []) ⟨hx, hb, hml, hown, hts⟩ (c_HM_columns l ev dC dI cA q0 q1 q2 q3 q4 q5 q6 q7 q8 q9 q10 q11 q12 q13 q14 q15 q16 q17 q18 q19 q20 q21 q22 q23 q24 q25 q26 q27 q28 q29 q30 q31 0 u0 u1 i_taped u2 u3 u4 u5 u6 u7 u8 u9 u10 u11 u12 u13 u14 u15 u16 u17 u18 u19 hg H.size) (cwV 0 hts (zgV zw_1344 zw_1346 zw_41 zw_115 zw_1347) rfl rfl rfl hd_HM_columns ⟨Nat.le_of_ble_eq_true rfl, Nat.le_of_ble_eq_true rfl⟩) (xv_preV (T := TX11) (N := 53) hE hA hS hK hP hD (isC := [0, 2]) (by decide +kernel) hC (q0 := 0) (ci := 11) rfl rfl) rfl rfl hl.1 rfl (lv_room (Nat.le_of_ble_eq_true rfl)) dX11_count_69 ⟨Nat.le_refl _, Nat.le_refl _⟩) hP hD hS hA (by decide +kernel) rfl hC rfl rfl (fun H locs hP hD hS => ?_)
    obtain rfl := Option.some.inj hf
    exact hret _ _ _ _ rfl dX11_count_72 hP hD hS
  refine xz_if hf (fun hc hf => ?_) (fun hn1 hf => ?_)
  · refine xi_tin (tgt := 73) hx hb dX11_count_6 hc (by decide) (by decide) rfl (by decide) ?_
    refine lv_aload_n hx hb dX11_count_73 rfl (lv_at hl 0 rfl) ?_
    refine xe_d1 hf (fun v2 hg hf => ?_)
    have hC : ([0, 2] : List Nat).map (fun i => (wd_HM_count cA q0 q1 q2 q3 q4 q5 q6 q7 q8 q9 q10 q11 q12 q13 q14 q15 q16 q17 q18 q19 q20 q21 q22 q23 q24 q25 q26 q27 q28 q29 q30 q31 u0 u1 u2 u3 u4 u5 u6 u7 u8 u9 u10 u11 u12 u13 u14 u15 u16 u17 u18 u19 i_taped i_refusals i_row 0)[i]?) = (wd_HM_stones cA q0 q1 q2 q3 q4 q5 q6 q7 q8 q9 q10 q11 q12 q13 q14 q15 q16 q17 q18 q19 q20 q21 q22 q23 q24 q25 q26 q27 q28 q29 q30 q31 0 u0 u1 i_taped u2 u3 u4 u5 u6 u7 u8 u9 u10 u11 u12 u13 u14 u15 u16 u17 u18 u19 i_row).map some := rfl
    refine xv_afterI (ws' := (wd_HM_count cA q0 q1 q2 q3 q4 q5 q6 q7 q8 q9 q10 q11 q12 q13 q14 q15 q16 q17 q18 q19 q20 q21 q22 q23 q24 q25 q26 q27 q28 q29 q30 q31 u0 u1 u2 u3 u4 u5 u6 u7 u8 u9 u10 u11 u12 u13 u14 u15 u16 u17 u18 u19 i_taped i_refusals i_row 0)) (isC := [0, 2]) (ps := [some 0, none, some 1]) (va_runV (As := []) (rest := []) ⟨hx, hb, hml, hown, hts⟩ (c_HM_stones l ev dC dI cA q0 q1 q2 q3 q4 q5 q6 q7 q8 q9 q10 q11 q12 q13 q14 q15 q16 q17 q18 q19 q20 q21 q22 q23 q24 q25 q26 q27 q28 q29 q30 q31 0 u0 u1 i_taped u2 u3 u4 u5 u6 u7 u8 u9 u10 u11 u12 u13 u14 u15 u16 u17 u18 u19 hg H.size) (cwV 0 hts (zgV zw_1650 zw_1652 zw_81 zw_115 zw_1653) rfl rfl rfl hd_HM_stones ⟨Nat.le_of_ble_eq_true rfl, Nat.le_of_ble_eq_true rfl⟩) (xv_preV (T := TX11) (N := 53) hE hA hS hK hP hD (isC := [0, 2]) (by decide +kernel) hC (q0 := 0) (ci := 11) rfl rfl) rfl rfl hl.1 rfl (lv_room (Nat.le_of_ble_eq_true rfl)) dX11_count_74 ⟨Nat.le_refl _, Nat.le_refl _⟩) hP hD hS hA (by decide +kernel) rfl hC rfl rfl (fun H locs hP hD hS => ?_)
    obtain rfl := Option.some.inj hf
    exact hret _ _ _ _ rfl dX11_count_77 hP hD hS
  refine xz_if hf (fun hc hf => ?_) (fun hn2 hf => ?_)
  · refine xi_tin (tgt := 78) hx hb dX11_count_6 hc (by decide) (by decide) rfl (by decide) ?_
    refine lv_aload_n hx hb dX11_count_78 rfl (lv_at hl 0 rfl) ?_
    refine va_get (D := (dC, dI)) (ci := 11) (v := .ref q2) (C := RX11) (T := TX11) (N := 53) hx hb hz zi_X11 hown hK hP 0 rfl rfl 3 (by decide) (hz _ zw_1168) (fun _ h9 => h9) rfl dX11_count_79 ?_
    refine lv_iconst (v := Int32.ofInt 1) hx hb dX11_count_82 rfl ?_
    refine xi_iald hx hb hK hP 2 0 rfl rfl dX11_count_83 hf (fun v3 hf => ?_)
    obtain rfl := Option.some.inj hf
    exact hret _ _ _ _ rfl dX11_count_84 hP hD hS
  refine xz_if hf (fun hc hf => ?_) (fun hn3 hf => ?_)
  · refine xi_tin (tgt := 85) hx hb dX11_count_6 hc (by decide) (by decide) rfl (by decide) ?_
    refine lv_aload_n hx hb dX11_count_85 rfl (lv_at hl 0 rfl) ?_
    refine va_get (D := (dC, dI)) (ci := 11) (v := .ref q2) (C := RX11) (T := TX11) (N := 53) hx hb hz zi_X11 hown hK hP 0 rfl rfl 3 (by decide) (hz _ zw_1168) (fun _ h9 => h9) rfl dX11_count_86 ?_
    refine lv_iconst (v := Int32.ofInt 2) hx hb dX11_count_89 rfl ?_
    refine xi_iald hx hb hK hP 2 0 rfl rfl dX11_count_90 hf (fun v4 hf => ?_)
    obtain rfl := Option.some.inj hf
    exact hret _ _ _ _ rfl dX11_count_91 hP hD hS
  refine xz_if hf (fun hc hf => ?_) (fun hn4 hf => ?_)
  · refine xi_tin (tgt := 92) hx hb dX11_count_6 hc (by decide) (by decide) rfl (by decide) ?_
    refine lv_aload_n hx hb dX11_count_92 rfl (lv_at hl 0 rfl) ?_
    refine va_get (D := (dC, dI)) (ci := 11) (v := .ref q2) (C := RX11) (T := TX11) (N := 53) hx hb hz zi_X11 hown hK hP 0 rfl rfl 3 (by decide) (hz _ zw_1168) (fun _ h9 => h9) rfl dX11_count_93 ?_
    refine lv_iconst (v := Int32.ofInt 3) hx hb dX11_count_96 rfl ?_
    refine xi_iald hx hb hK hP 2 0 rfl rfl dX11_count_97 hf (fun v5 hf => ?_)
    obtain rfl := Option.some.inj hf
    exact hret _ _ _ _ rfl dX11_count_98 hP hD hS
  refine xz_if hf (fun hc hf => ?_) (fun hn5 hf => ?_)
  · refine xi_tin (tgt := 99) hx hb dX11_count_6 hc (by decide) (by decide) rfl (by decide) ?_
    refine lv_aload_n hx hb dX11_count_99 rfl (lv_at hl 0 rfl) ?_
    refine va_get (D := (dC, dI)) (ci := 11) (v := .int (Int32.ofInt i_taped)) (C := RX11) (T := TX11) (N := 53) hx hb hz zi_X11 hown hK hP 0 rfl rfl 8 (by decide) (hz _ zw_1173) (fun _ h9 => h9) rfl dX11_count_100 ?_
    obtain rfl := Option.some.inj hf
    exact hret _ _ _ _ rfl dX11_count_103 hP hD hS
  refine xz_if hf (fun hc hf => ?_) (fun hn6 hf => ?_)
  · refine xi_tin (tgt := 104) hx hb dX11_count_6 hc (by decide) (by decide) rfl (by decide) ?_
    refine lv_aload_n hx hb dX11_count_104 rfl (lv_at hl 0 rfl) ?_
    refine va_get (D := (dC, dI)) (ci := 11) (v := .ref q1) (C := RX11) (T := TX11) (N := 53) hx hb hz zi_X11 hown hK hP 0 rfl rfl 2 (by decide) (hz _ zw_1167) (fun _ h9 => h9) rfl dX11_count_105 ?_
    refine lv_iconst (v := Int32.ofInt 1) hx hb dX11_count_108 rfl ?_
    refine xi_iald hx hb hK hP 1 0 rfl rfl dX11_count_109 hf (fun v6 hf => ?_)
    obtain rfl := Option.some.inj hf
    exact hret _ _ _ _ rfl dX11_count_110 hP hD hS
  refine xz_if hf (fun hc hf => ?_) (fun hn7 hf => ?_)
  · refine xi_tin (tgt := 111) hx hb dX11_count_6 hc (by decide) (by decide) rfl (by decide) ?_
    refine lv_aload_n hx hb dX11_count_111 rfl (lv_at hl 0 rfl) ?_
    refine va_get (D := (dC, dI)) (ci := 11) (v := .ref q1) (C := RX11) (T := TX11) (N := 53) hx hb hz zi_X11 hown hK hP 0 rfl rfl 2 (by decide) (hz _ zw_1167) (fun _ h9 => h9) rfl dX11_count_112 ?_
    refine lv_iconst (v := Int32.ofInt 2) hx hb dX11_count_115 rfl ?_
    refine xi_iald hx hb hK hP 1 0 rfl rfl dX11_count_116 hf (fun v7 hf => ?_)
    obtain rfl := Option.some.inj hf
    exact hret _ _ _ _ rfl dX11_count_117 hP hD hS
  refine xz_if hf (fun hc hf => ?_) (fun hn8 hf => ?_)
  · refine xi_tin (tgt := 118) hx hb dX11_count_6 hc (by decide) (by decide) rfl (by decide) ?_
    refine lv_aload_n hx hb dX11_count_118 rfl (lv_at hl 0 rfl) ?_
    refine va_get (D := (dC, dI)) (ci := 11) (v := .ref q1) (C := RX11) (T := TX11) (N := 53) hx hb hz zi_X11 hown hK hP 0 rfl rfl 2 (by decide) (hz _ zw_1167) (fun _ h9 => h9) rfl dX11_count_119 ?_
    refine lv_iconst (v := Int32.ofInt 3) hx hb dX11_count_122 rfl ?_
    refine xi_iald hx hb hK hP 1 0 rfl rfl dX11_count_123 hf (fun v8 hf => ?_)
    obtain rfl := Option.some.inj hf
    exact hret _ _ _ _ rfl dX11_count_124 hP hD hS
  refine xz_if hf (fun hc hf => ?_) (fun hn9 hf => ?_)
  · refine xi_tin (tgt := 125) hx hb dX11_count_6 hc (by decide) (by decide) rfl (by decide) ?_
    refine lv_aload_n hx hb dX11_count_125 rfl (lv_at hl 0 rfl) ?_
    refine va_get (D := (dC, dI)) (ci := 11) (v := .ref q1) (C := RX11) (T := TX11) (N := 53) hx hb hz zi_X11 hown hK hP 0 rfl rfl 2 (by decide) (hz _ zw_1167) (fun _ h9 => h9) rfl dX11_count_126 ?_
    refine lv_iconst (v := Int32.ofInt 5) hx hb dX11_count_129 rfl ?_
    refine xi_iald hx hb hK hP 1 0 rfl rfl dX11_count_130 hf (fun v9 hf => ?_)
    obtain rfl := Option.some.inj hf
    exact hret _ _ _ _ rfl dX11_count_131 hP hD hS
  refine xz_if hf (fun hc hf => ?_) (fun hn10 hf => ?_)
  · refine xi_tin (tgt := 132) hx hb dX11_count_6 hc (by decide) (by decide) rfl (by decide) ?_
    refine lv_aload_n hx hb dX11_count_132 rfl (lv_at hl 0 rfl) ?_
    refine va_get (D := (dC, dI)) (ci := 11) (v := .ref q1) (C := RX11) (T := TX11) (N := 53) hx hb hz zi_X11 hown hK hP 0 rfl rfl 2 (by decide) (hz _ zw_1167) (fun _ h9 => h9) rfl dX11_count_133 ?_
    refine lv_bipush (v := Int32.ofInt 6) hx hb dX11_count_136 (by decide) ?_
    refine xi_iald hx hb hK hP 1 0 rfl rfl dX11_count_138 hf (fun v10 hf => ?_)
    obtain rfl := Option.some.inj hf
    exact hret _ _ _ _ rfl dX11_count_139 hP hD hS
  refine xz_if hf (fun hc hf => ?_) (fun hn11 hf => ?_)
  · refine xi_tin (tgt := 140) hx hb dX11_count_6 hc (by decide) (by decide) rfl (by decide) ?_
    refine lv_aload_n hx hb dX11_count_140 rfl (lv_at hl 0 rfl) ?_
    refine va_get (D := (dC, dI)) (ci := 11) (v := .ref q2) (C := RX11) (T := TX11) (N := 53) hx hb hz zi_X11 hown hK hP 0 rfl rfl 3 (by decide) (hz _ zw_1168) (fun _ h9 => h9) rfl dX11_count_141 ?_
    refine lv_iconst (v := Int32.ofInt 4) hx hb dX11_count_144 rfl ?_
    refine xi_iald hx hb hK hP 2 0 rfl rfl dX11_count_145 hf (fun v11 hf => ?_)
    obtain rfl := Option.some.inj hf
    exact hret _ _ _ _ rfl dX11_count_146 hP hD hS
  refine xi_tout (tgt := 147) hx hb dX11_count_6 (by omega) (by decide) ?_
  refine lv_iload_n hx hb dX11_count_147 rfl (lv_at hl 1 rfl) ?_
  refine xi_i2l hx hb dX11_count_148 hf (fun v12 hf => ?_)
  refine lv_ldc2 (v := Int64.ofInt 12) hx hb hown (hz _ zw_1782) dX11_count_149 ?_
  refine lv_ldc2 (v := Int64.ofInt 15) hx hb hown (hz _ zw_1783) dX11_count_152 ?_
  refine xe_d1 hf (fun v13 hg hf => ?_)
  have hC : ([] : List Nat).map (fun i => (wd_HM_count cA q0 q1 q2 q3 q4 q5 q6 q7 q8 q9 q10 q11 q12 q13 q14 q15 q16 q17 q18 q19 q20 q21 q22 q23 q24 q25 q26 q27 q28 q29 q30 q31 u0 u1 u2 u3 u4 u5 u6 u7 u8 u9 u10 u11 u12 u13 u14 u15 u16 u17 u18 u19 i_taped i_refusals i_row 0)[i]?) = (wd_HM_in cA).map some := rfl
  refine xv_afterI (ws' := (wd_HM_count cA q0 q1 q2 q3 q4 q5 q6 q7 q8 q9 q10 q11 q12 q13 q14 q15 q16 q17 q18 q19 q20 q21 q22 q23 q24 q25 q26 q27 q28 q29 q30 q31 u0 u1 u2 u3 u4 u5 u6 u7 u8 u9 u10 u11 u12 u13 u14 u15 u16 u17 u18 u19 i_taped i_refusals i_row 0)) (isC := []) (ps := [none, none, none]) (va_runS (As := [.long (Int64.ofInt v12), .long (Int64.ofInt 12), .long (Int64.ofInt 15)]) (rest := []) ⟨hx, hb, hml, hown, hts⟩ (c_HM_in l ev dC dI cA hg H.size) (va_cwS 3 hts (zgS zw_1329 zw_1330 zw_115 zw_1331) rfl rfl rfl hd_HM_in.2 ⟨Nat.le_of_ble_eq_true rfl, Nat.le_of_ble_eq_true rfl⟩) (xv_preS hE hA hS hK hP hD (isC := []) (by decide +kernel) hC) rfl rfl hl.1 rfl (lv_room (Nat.le_of_ble_eq_true rfl)) dX11_count_155 ⟨Nat.le_refl _, Nat.le_refl _⟩) hP hD hS hA (by decide +kernel) rfl hC rfl rfl (fun H locs hP hD hS => ?_)
  refine xi_if_eq (tgt := 175) hx hb dX11_count_158 (by decide) hf (fun hf => ?_) (fun hf => ?_)
  · refine lv_iconst (v := Int32.ofInt (-1)) hx hb dX11_count_175 rfl ?_
    obtain rfl := Option.some.inj hf
    exact hret _ _ _ _ rfl dX11_count_176 hP hD hS
  · refine lv_aload_n hx hb dX11_count_161 rfl (lv_at hl 0 rfl) ?_
    refine va_get (D := (dC, dI)) (ci := 11) (v := .ref q2) (C := RX11) (T := TX11) (N := 53) hx hb hz zi_X11 hown hK hP 0 rfl rfl 3 (by decide) (hz _ zw_1168) (fun _ h9 => h9) rfl dX11_count_162 ?_
    refine lv_iconst (v := Int32.ofInt 5) hx hb dX11_count_165 rfl ?_
    refine lv_iload_n hx hb dX11_count_166 rfl (lv_at hl 1 rfl) ?_
    refine xi_iadd hx hb dX11_count_167 hf (fun v14 hf => ?_)
    refine lv_bipush (v := Int32.ofInt 12) hx hb dX11_count_168 (by decide) ?_
    refine xi_isub hx hb dX11_count_170 hf (fun v15 hf => ?_)
    refine xi_iald hx hb hK hP 2 0 rfl rfl dX11_count_171 hf (fun v16 hf => ?_)
    refine lv_goto (tgt := 176) hx hb dX11_count_172 (by decide) ?_
    obtain rfl := Option.some.inj hf
    exact hret _ _ _ _ rfl dX11_count_176 hP hD hS
theorem dX11_status_0 : decode cX11_status 0 = .ok (.aload_n 0, 1) := by decide +kernel
theorem dX11_status_1 : decode cX11_status 1 = .ok (.iconst 0, 1) := by decide +kernel
theorem dX11_status_2 : decode cX11_status 2 = .ok (.putfield 126, 3) := by decide +kernel
theorem dX11_status_5 : decode cX11_status 5 = .ok (.aload_n 0, 1) := by decide +kernel
theorem dX11_status_6 : decode cX11_status 6 = .ok (.getfield 129, 3) := by decide +kernel
theorem dX11_status_9 : decode cX11_status 9 = .ok (.ireturn, 1) := by decide +kernel
theorem zw_1787 : (Jvm.Cond.code ({ cls := "HillSchoolModel", name := "status", desc := "()I" } : Jvm.MethodName) prog_13_method_112_code (1 : Nat) (Option.some Jvm.ClassFile.FieldType.int)) ∈ zall := zmemG (zmj_8 4 rfl) rfl
abbrev w_HM_status : List Cond := .code yX11_status cX11_status 1 (some .int) :: zall
abbrev rm_HM_status : Room := { frames := 0, cells := 0, slots := 0, locals := 0 }
theorem hd_HM_status : yX11_status.cls = "HillSchoolModel" ∧ yX11_status.cls ≠ "java/lang/invoke/MethodHandle" ∧ yX11_status.cls ≠ "java/lang/invoke/VarHandle" ∧ (parseMethodDescriptor yX11_status.desc).map (fun d => d.parameters.length) = some 0 := by decide +kernel
def wd_HM_status (cA : Nat → ClassId) (q0 q1 q2 q3 q4 q5 q6 q7 q8 q9 q10 q11 q12 q13 q14 q15 q16 q17 q18 q19 q20 q21 q22 q23 q24 q25 q26 q27 q28 q29 q30 q31 : Nat) (u0 u1 u2 u3 u4 u5 u6 u7 u8 u9 u10 u11 u12 u13 u14 u15 u16 u17 u18 u19 : Int) (i_status : Int) (i_thrown : Int) : va_W := [(q0, .inr (11, [.int (Int32.ofInt i_thrown), .int (Int32.ofInt i_status), .ref q1, .ref q2, .ref q3, .ref q4, .int (Int32.ofInt u0), .ref q5, .int (Int32.ofInt u1), .int (Int32.ofInt u2), .int (Int32.ofInt u3), .int (Int32.ofInt u4), .long (Int64.ofInt u5), .int (Int32.ofInt u6), .int (Int32.ofInt u7), .int (Int32.ofInt u8), .ref q6, .int (Int32.ofInt u9), .ref q7, .ref q8, .int (Int32.ofInt u10), .ref q9, .ref q10, .int (Int32.ofInt u11), .int (Int32.ofInt u12), .ref q11, .int (Int32.ofInt u13), .ref q12, .ref q13, .int (Int32.ofInt u14), .long (Int64.ofInt u15), .long (Int64.ofInt u16), .ref q14, .ref q15, .ref q16, .ref q17, .ref q18, .int (Int32.ofInt u17), .ref q19, .ref q20, .ref q21, .ref q22, .ref q23, .ref q24, .ref q25, .ref q26, .ref q27, .ref q28, .ref q29, .ref q30, .long (Int64.ofInt u18), .ref q31, .int (Int32.ofInt u19)]))]
def wf_HM_status (cA : Nat → ClassId) (q0 q1 q2 q3 q4 q5 q6 q7 q8 q9 q10 q11 q12 q13 q14 q15 q16 q17 q18 q19 q20 q21 q22 q23 q24 q25 q26 q27 q28 q29 q30 q31 : Nat) (u0 u1 u2 u3 u4 u5 u6 u7 u8 u9 u10 u11 u12 u13 u14 u15 u16 u17 u18 u19 : Int) (i_status : Int) (o : Int × Int) : va_W := wd_HM_status cA q0 q1 q2 q3 q4 q5 q6 q7 q8 q9 q10 q11 q12 q13 q14 q15 q16 q17 q18 q19 q20 q21 q22 q23 q24 q25 q26 q27 q28 q29 q30 q31 u0 u1 u2 u3 u4 u5 u6 u7 u8 u9 u10 u11 u12 u13 u14 u15 u16 u17 u18 u19 i_status o.2
def f_HM_status (i_status : Int) (i_thrown : Int) : Option (Int × Int) :=
  some (i_status, 0)
set_option maxHeartbeats 4000000 in
set_option maxRecDepth 100000 in
theorem c_HM_status (l : Launch) (ev : zEv) (dC : Nat → ClassId) (dI : Nat → Nat → Nat) (cA : Nat → ClassId) (q0 q1 q2 q3 q4 q5 q6 q7 q8 q9 q10 q11 q12 q13 q14 q15 q16 q17 q18 q19 q20 q21 q22 q23 q24 q25 q26 q27 q28 q29 q30 q31 : Nat) (u0 u1 u2 u3 u4 u5 u6 u7 u8 u9 u10 u11 u12 u13 u14 u15 u16 u17 u18 u19 : Int) {i_status : Int} {i_thrown : Int} {out : Int × Int} (hf : f_HM_status i_status i_thrown = some out) : xc_I l ev (dC, dI) vwCl (tyl cA) yX11_status w_HM_status rm_HM_status [.ref q0] (wd_HM_status cA q0 q1 q2 q3 q4 q5 q6 q7 q8 q9 q10 q11 q12 q13 q14 q15 q16 q17 q18 q19 q20 q21 q22 q23 q24 q25 q26 q27 q28 q29 q30 q31 u0 u1 u2 u3 u4 u5 u6 u7 u8 u9 u10 u11 u12 u13 u14 u15 u16 u17 u18 u19 i_status i_thrown) (wf_HM_status cA q0 q1 q2 q3 q4 q5 q6 q7 q8 q9 q10 q11 q12 q13 q14 q15 q16 q17 q18 q19 q20 q21 q22 q23 q24 q25 q26 q27 q28 q29 q30 q31 u0 u1 u2 u3 u4 u5 u6 u7 u8 u9 u10 u11 u12 u13 u14 u15 u16 u17 u18 u19 i_status out) out.1 := by
  refine xv_startI (cc := cX11_status) (maxL := 1) (rt := .int) (by decide +kernel) rfl (Nat.le_of_ble_eq_true rfl) ?_
  intro p e s m args below meth c A Q H ls hx hb hml hts hown hK hA hP hD hS hl hE hret
  have hown : s.vm.findClass "HillSchoolModel" = some m.cls := hown
  have hz : ∀ w ∈ zall, w.before args s = true := fun w h => hts w (List.mem_cons_of_mem _ h)
  have hl : lv_has ls 1 [(0, .ref q0)] := hl
  unfold f_HM_status at hf
  refine lv_aload_n hx hb dX11_status_0 rfl (lv_at hl 0 rfl) ?_
  refine lv_iconst (v := Int32.ofInt 0) hx hb dX11_status_1 rfl ?_
  refine va_put (D := (dC, dI)) (ci := 11) (v := .int (Int32.ofInt 0)) (ty := .int) (C := RX11) (T := TX11) (N := 53) hx hb hz zi_X11 tyX11 tyX11_ok nmX11 hown hK hP hD hS 0 rfl rfl 0 (by decide) (hz _ zw_1165) (fun _ h9 => h9) rfl (by decide +kernel) rfl rfl (Nat.le_of_ble_eq_true rfl) dX11_status_2 (fun H locs hP hD hS => ?_)
  have hP : va_P (dC, dI) vwCl (wd_HM_status cA q0 q1 q2 q3 q4 q5 q6 q7 q8 q9 q10 q11 q12 q13 q14 q15 q16 q17 q18 q19 q20 q21 q22 q23 q24 q25 q26 q27 q28 q29 q30 q31 u0 u1 u2 u3 u4 u5 u6 u7 u8 u9 u10 u11 u12 u13 u14 u15 u16 u17 u18 u19 i_status 0) H := hP
  have hD : va_D A (wd_HM_status cA q0 q1 q2 q3 q4 q5 q6 q7 q8 q9 q10 q11 q12 q13 q14 q15 q16 q17 q18 q19 q20 q21 q22 q23 q24 q25 q26 q27 q28 q29 q30 q31 u0 u1 u2 u3 u4 u5 u6 u7 u8 u9 u10 u11 u12 u13 u14 u15 u16 u17 u18 u19 i_status 0) := hD
  refine lv_aload_n hx hb dX11_status_5 rfl (lv_at hl 0 rfl) ?_
  refine va_get (D := (dC, dI)) (ci := 11) (v := .int (Int32.ofInt i_status)) (C := RX11) (T := TX11) (N := 53) hx hb hz zi_X11 hown hK hP 0 rfl rfl 1 (by decide) (hz _ zw_1166) (fun _ h9 => h9) rfl dX11_status_6 ?_
  obtain rfl := Option.some.inj hf
  exact hret _ _ _ _ rfl dX11_status_9 hP hD hS
