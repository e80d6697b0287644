theorem dX11_isGoal_0 : decode cX11_isGoal 0 = .ok (.iconst 1, 1) := by decide +kernel
theorem dX11_isGoal_1 : decode cX11_isGoal 1 = .ok (.istore_n 1, 1) := by decide +kernel
theorem dX11_isGoal_2 : decode cX11_isGoal 2 = .ok (.iconst 0, 1) := by decide +kernel
theorem dX11_isGoal_3 : decode cX11_isGoal 3 = .ok (.istore_n 2, 1) := by decide +kernel
theorem dX11_isGoal_4 : decode cX11_isGoal 4 = .ok (.iload_n 2, 1) := by decide +kernel
theorem dX11_isGoal_5 : decode cX11_isGoal 5 = .ok (.aload_n 0, 1) := by decide +kernel
theorem dX11_isGoal_6 : decode cX11_isGoal 6 = .ok (.invokevirtual 140, 3) := by decide +kernel
theorem dX11_isGoal_9 : decode cX11_isGoal 9 = .ok (.if_icmp .ge 52, 3) := by decide +kernel
theorem dX11_isGoal_12 : decode cX11_isGoal 12 = .ok (.iload_n 1, 1) := by decide +kernel
theorem dX11_isGoal_13 : decode cX11_isGoal 13 = .ok (.ifCond .eq 40, 3) := by decide +kernel
theorem dX11_isGoal_16 : decode cX11_isGoal 16 = .ok (.aload_n 0, 1) := by decide +kernel
theorem dX11_isGoal_17 : decode cX11_isGoal 17 = .ok (.getfield 13, 3) := by decide +kernel
theorem dX11_isGoal_20 : decode cX11_isGoal 20 = .ok (.sipush 141, 3) := by decide +kernel
theorem dX11_isGoal_23 : decode cX11_isGoal 23 = .ok (.iload_n 2, 1) := by decide +kernel
theorem dX11_isGoal_24 : decode cX11_isGoal 24 = .ok (.iadd, 1) := by decide +kernel
theorem dX11_isGoal_25 : decode cX11_isGoal 25 = .ok (.iaload, 1) := by decide +kernel
theorem dX11_isGoal_26 : decode cX11_isGoal 26 = .ok (.iconst (-1), 1) := by decide +kernel
theorem dX11_isGoal_27 : decode cX11_isGoal 27 = .ok (.if_icmp .eq 22, 3) := by decide +kernel
theorem dX11_isGoal_30 : decode cX11_isGoal 30 = .ok (.aload_n 0, 1) := by decide +kernel
theorem dX11_isGoal_31 : decode cX11_isGoal 31 = .ok (.getfield 13, 3) := by decide +kernel
theorem dX11_isGoal_34 : decode cX11_isGoal 34 = .ok (.sipush 141, 3) := by decide +kernel
theorem dX11_isGoal_37 : decode cX11_isGoal 37 = .ok (.iload_n 2, 1) := by decide +kernel
theorem dX11_isGoal_38 : decode cX11_isGoal 38 = .ok (.iadd, 1) := by decide +kernel
theorem dX11_isGoal_39 : decode cX11_isGoal 39 = .ok (.iaload, 1) := by decide +kernel
theorem dX11_isGoal_40 : decode cX11_isGoal 40 = .ok (.aload_n 0, 1) := by decide +kernel
theorem dX11_isGoal_41 : decode cX11_isGoal 41 = .ok (.getfield 99, 3) := by decide +kernel
theorem dX11_isGoal_44 : decode cX11_isGoal 44 = .ok (.iload_n 2, 1) := by decide +kernel
theorem dX11_isGoal_45 : decode cX11_isGoal 45 = .ok (.iaload, 1) := by decide +kernel
theorem dX11_isGoal_46 : decode cX11_isGoal 46 = .ok (.if_icmp .ne 7, 3) := by decide +kernel
theorem dX11_isGoal_49 : decode cX11_isGoal 49 = .ok (.iconst 1, 1) := by decide +kernel
theorem dX11_isGoal_50 : decode cX11_isGoal 50 = .ok (.goto 4, 3) := by decide +kernel
theorem dX11_isGoal_53 : decode cX11_isGoal 53 = .ok (.iconst 0, 1) := by decide +kernel
theorem dX11_isGoal_54 : decode cX11_isGoal 54 = .ok (.istore_n 1, 1) := by decide +kernel
theorem dX11_isGoal_55 : decode cX11_isGoal 55 = .ok (.iinc 2 1, 3) := by decide +kernel
theorem dX11_isGoal_58 : decode cX11_isGoal 58 = .ok (.goto (-54), 3) := by decide +kernel
theorem dX11_isGoal_61 : decode cX11_isGoal 61 = .ok (.iload_n 1, 1) := by decide +kernel
theorem dX11_isGoal_62 : decode cX11_isGoal 62 = .ok (.ireturn, 1) := by decide +kernel
theorem zw_1701 : (Jvm.Cond.code ({ cls := "HillSchoolModel", name := "isGoal", desc := "()Z" } : Jvm.MethodName) prog_13_method_92_code (3 : Nat) (Option.some Jvm.ClassFile.FieldType.boolean)) ∈ zall := zmemG (zmj_7 158 rfl) rfl
abbrev w_HM_isGoal : List Cond := .code yX11_isGoal cX11_isGoal 3 (some .boolean) :: zall
abbrev rm_HM_isGoal : Room := { frames := 1, cells := 0, slots := 0, locals := 20 }
theorem hd_HM_isGoal : yX11_isGoal.cls = "HillSchoolModel" ∧ yX11_isGoal.cls ≠ "java/lang/invoke/MethodHandle" ∧ yX11_isGoal.cls ≠ "java/lang/invoke/VarHandle" ∧ (parseMethodDescriptor yX11_isGoal.desc).map (fun d => d.parameters.length) = some 0 := by decide +kernel
def wd_HM_isGoal (cA : Nat → ClassId) (q0 q1 q2 q3 q4 q5 q6 q7 q8 q9 q10 q11 q12 q13 q14 q15 q16 q17 q18 q19 q20 q21 q22 q23 q24 q25 q26 q27 q28 q29 q30 q31 : Nat) (u0 u1 u2 u3 u4 u5 u6 u7 u8 u9 u10 u11 u12 u13 u14 u15 u16 u17 u18 u19 u20 u21 : Int) (i_row : Nat → Int) (i_tall : Nat → Int)  : va_W := [(q0, .inr (11, [.int (Int32.ofInt u0), .int (Int32.ofInt u1), .ref q1, .ref q2, .ref q3, .ref q4, .int (Int32.ofInt u2), .ref q5, .int (Int32.ofInt u3), .int (Int32.ofInt u4), .int (Int32.ofInt u5), .int (Int32.ofInt u6), .long (Int64.ofInt u7), .int (Int32.ofInt u8), .int (Int32.ofInt u9), .int (Int32.ofInt u10), .ref q6, .int (Int32.ofInt u11), .ref q7, .ref q8, .int (Int32.ofInt u12), .ref q9, .ref q10, .int (Int32.ofInt u13), .int (Int32.ofInt u14), .ref q11, .int (Int32.ofInt u15), .ref q12, .ref q13, .int (Int32.ofInt u16), .long (Int64.ofInt u17), .long (Int64.ofInt u18), .ref q14, .ref q15, .ref q16, .ref q17, .ref q18, .int (Int32.ofInt u19), .ref q19, .ref q20, .ref q21, .ref q22, .ref q23, .ref q24, .ref q25, .ref q26, .ref q27, .ref q28, .ref q29, .ref q30, .long (Int64.ofInt u20), .ref q31, .int (Int32.ofInt u21)])), (q2, .inl (cA 0, 5580, .inl (za i_row))), (q23, .inl (cA 0, 4, .inl (za i_tall)))]
def wf_HM_isGoal (cA : Nat → ClassId) (q0 q1 q2 q3 q4 q5 q6 q7 q8 q9 q10 q11 q12 q13 q14 q15 q16 q17 q18 q19 q20 q21 q22 q23 q24 q25 q26 q27 q28 q29 q30 q31 : Nat) (u0 u1 u2 u3 u4 u5 u6 u7 u8 u9 u10 u11 u12 u13 u14 u15 u16 u17 u18 u19 u20 u21 : Int) (i_row : Nat → Int) (i_tall : Nat → Int) (o : Int) : va_W := wd_HM_isGoal cA q0 q1 q2 q3 q4 q5 q6 q7 q8 q9 q10 q11 q12 q13 q14 q15 q16 q17 q18 q19 q20 q21 q22 q23 q24 q25 q26 q27 q28 q29 q30 q31 u0 u1 u2 u3 u4 u5 u6 u7 u8 u9 u10 u11 u12 u13 u14 u15 u16 u17 u18 u19 u20 u21 i_row i_tall
def f_HM_isGoal_54 (i_row : Nat → Int) (i_tall : Nat → Int) (k4 : Int → Int → Option (Int)) (x2 : Int) (s0 : Int) : Option (Int) :=
  zn (x2 + 1) fun v1 =>
  k4 s0 v1
def f_HM_isGoal_53 (i_row : Nat → Int) (i_tall : Nat → Int) (k4 : Int → Int → Option (Int)) (x2 : Int) : Option (Int) :=
  f_HM_isGoal_54 i_row i_tall k4 x2 0
def f_HM_isGoal_49 (i_row : Nat → Int) (i_tall : Nat → Int) (k4 : Int → Int → Option (Int)) (x2 : Int) : Option (Int) :=
  f_HM_isGoal_54 i_row i_tall k4 x2 1
def f_HM_isGoal_4_b (i_row : Nat → Int) (i_tall : Nat → Int) (k4 : Int → Int → Option (Int)) (x1 : Int) (x2 : Int) : Option (Int) :=
  zd1 (f_HM_columns i_row) fun v1 =>
  if zi_w v1 ≤ zi_w x2 then
    if ¬ (zi_w x1 = 0 ∨ zi_w x1 = 1) then none else
    some x1
  else
    if zi_w x1 = 0 then
      f_HM_isGoal_53 i_row i_tall k4 x2
    else
      zn (141 + x2) fun v2 =>
      zg 5580 i_row v2 fun v3 =>
      if zi_w v3 = zi_w (-1) then
        f_HM_isGoal_49 i_row i_tall k4 x2
      else
        zn (141 + x2) fun v4 =>
        zg 5580 i_row v4 fun v5 =>
        zg 4 i_tall x2 fun v6 =>
        if zi_w v5 ≠ zi_w v6 then
          f_HM_isGoal_53 i_row i_tall k4 x2
        else
          f_HM_isGoal_49 i_row i_tall k4 x2
def f_HM_isGoal_4 (i_row : Nat → Int) (i_tall : Nat → Int) : Nat → Int → Int → Option (Int)
  | 0 => fun _ _ => none
  | n + 1 => fun y0 y1 => f_HM_isGoal_4_b i_row i_tall (f_HM_isGoal_4 i_row i_tall n) y0 y1
def f_HM_isGoal (i_row : Nat → Int) (i_tall : Nat → Int) : Option (Int) :=
  f_HM_isGoal_4 i_row i_tall zfu 1 0
set_option maxHeartbeats 4000000 in
set_option maxRecDepth 100000 in
theorem c_HM_isGoal (l : Launch) (ev : zEv) (dC : Nat → ClassId) (dI : Nat → Nat → Nat) (cA : Nat → ClassId) (q0 q1 q2 q3 q4 q5 q6 q7 q8 q9 q10 q11 q12 q13 q14 q15 q16 q17 q18 q19 q20 q21 q22 q23 q24 q25 q26 q27 q28 q29 q30 q31 : Nat) (u0 u1 u2 u3 u4 u5 u6 u7 u8 u9 u10 u11 u12 u13 u14 u15 u16 u17 u18 u19 u20 u21 : Int) {i_row : Nat → Int} {i_tall : Nat → Int} {out : Int} (hf : f_HM_isGoal i_row i_tall = some out) : xc_I l ev (dC, dI) vwCl (tyl cA) yX11_isGoal w_HM_isGoal rm_HM_isGoal [.ref q0] (wd_HM_isGoal cA q0 q1 q2 q3 q4 q5 q6 q7 q8 q9 q10 q11 q12 q13 q14 q15 q16 q17 q18 q19 q20 q21 q22 q23 q24 q25 q26 q27 q28 q29 q30 q31 u0 u1 u2 u3 u4 u5 u6 u7 u8 u9 u10 u11 u12 u13 u14 u15 u16 u17 u18 u19 u20 u21 i_row i_tall) (wf_HM_isGoal cA q0 q1 q2 q3 q4 q5 q6 q7 q8 q9 q10 q11 q12 q13 q14 q15 q16 q17 q18 q19 q20 q21 q22 q23 q24 q25 q26 q27 q28 q29 q30 q31 u0 u1 u2 u3 u4 u5 u6 u7 u8 u9 u10 u11 u12 u13 u14 u15 u16 u17 u18 u19 u20 u21 i_row i_tall out) out := by
  refine xv_startI (cc := cX11_isGoal) (maxL := 3) (rt := .boolean) (by decide +kernel) rfl (Nat.le_of_ble_eq_true rfl) ?_
  intro p e s m args below meth c A Q H ls hx hb hml hts hown hK hA hP hD hS hl hE hret
  have hown : s.vm.findClass "HillSchoolModel" = some m.cls := hown
  have hz : ∀ w ∈ zall, w.before args s = true := fun w h => hts w (List.mem_cons_of_mem _ h)
  have hl : lv_has ls 3 [(0, .ref q0)] := hl
  have b_54 : ∀ (k4 : Int → Int → Option (Int)) (_ : ∀ (x1 : Int) (x2 : Int) (H : Heap) (locs : List Loc) (ls : Array Slot), k4 x1 x2 = some out → va_P (dC, dI) vwCl (wd_HM_isGoal cA q0 q1 q2 q3 q4 q5 q6 q7 q8 q9 q10 q11 q12 q13 q14 q15 q16 q17 q18 q19 q20 q21 q22 q23 q24 q25 q26 q27 q28 q29 q30 q31 u0 u1 u2 u3 u4 u5 u6 u7 u8 u9 u10 u11 u12 u13 u14 u15 u16 u17 u18 u19 u20 u21 i_row i_tall) H → va_D A (wd_HM_isGoal cA q0 q1 q2 q3 q4 q5 q6 q7 q8 q9 q10 q11 q12 q13 q14 q15 q16 q17 q18 q19 q20 q21 q22 q23 q24 q25 q26 q27 q28 q29 q30 q31 u0 u1 u2 u3 u4 u5 u6 u7 u8 u9 u10 u11 u12 u13 u14 u15 u16 u17 u18 u19 u20 u21 i_row i_tall) → va_S A s.heap H locs → lv_has ls 3 [(0, .ref q0), (1, .int (Int32.ofInt x1)), (2, .int (Int32.ofInt x2))] → W p l e rm_HM_isGoal s m args below meth c H locs 0 0 Q (F0 m 4 ls [])), ∀ (x2 : Int) (s0 : Int) (H : Heap) (locs : List Loc) (ls : Array Slot), f_HM_isGoal_54 i_row i_tall k4 x2 s0 = some out → va_P (dC, dI) vwCl (wd_HM_isGoal cA q0 q1 q2 q3 q4 q5 q6 q7 q8 q9 q10 q11 q12 q13 q14 q15 q16 q17 q18 q19 q20 q21 q22 q23 q24 q25 q26 q27 q28 q29 q30 q31 u0 u1 u2 u3 u4 u5 u6 u7 u8 u9 u10 u11 u12 u13 u14 u15 u16 u17 u18 u19 u20 u21 i_row i_tall) H → va_D A (wd_HM_isGoal cA q0 q1 q2 q3 q4 q5 q6 q7 q8 q9 q10 q11 q12 q13 q14 q15 q16 q17 q18 q19 q20 q21 q22 q23 q24 q25 q26 q27 q28 q29 q30 q31 u0 u1 u2 u3 u4 u5 u6 u7 u8 u9 u10 u11 u12 u13 u14 u15 u16 u17 u18 u19 u20 u21 i_row i_tall) → va_S A s.heap H locs → lv_has ls 3 [(0, .ref q0), (2, .int (Int32.ofInt x2))] → W p l e rm_HM_isGoal s m args below meth c H locs 0 0 Q (F0 m 54 ls [.int (Int32.ofInt s0)]) := by
    intro k4 ih4 x2 s0 H locs ls hf hP hD hS hl
    unfold f_HM_isGoal_54 at hf
    refine lv_istore_n (lv' := [(1, .int (Int32.ofInt s0)), (0, .ref q0), (2, .int (Int32.ofInt x2))]) hx hb dX11_isGoal_54 rfl hl (by decide) rfl (fun ls hl => ?_)
    refine xi_iinc hx hb dX11_isGoal_55 hl (k := 2) rfl (by decide) hf (fun v1 ls hl hf => ?_)
    have hl : lv_has ls 3 [(2, .int (Int32.ofInt v1)), (1, .int (Int32.ofInt s0)), (0, .ref q0)] := hl
    refine lv_goto (tgt := 4) hx hb dX11_isGoal_58 (by decide) ?_
    exact ih4 _ _ _ _ _ hf hP hD hS (lv_sub hl [2, 1, 0] rfl)
  have b_53 : ∀ (k4 : Int → Int → Option (Int)) (_ : ∀ (x1 : Int) (x2 : Int) (H : Heap) (locs : List Loc) (ls : Array Slot), k4 x1 x2 = some out → va_P (dC, dI) vwCl (wd_HM_isGoal cA q0 q1 q2 q3 q4 q5 q6 q7 q8 q9 q10 q11 q12 q13 q14 q15 q16 q17 q18 q19 q20 q21 q22 q23 q24 q25 q26 q27 q28 q29 q30 q31 u0 u1 u2 u3 u4 u5 u6 u7 u8 u9 u10 u11 u12 u13 u14 u15 u16 u17 u18 u19 u20 u21 i_row i_tall) H → va_D A (wd_HM_isGoal cA q0 q1 q2 q3 q4 q5 q6 q7 q8 q9 q10 q11 q12 q13 q14 q15 q16 q17 q18 q19 q20 q21 q22 q23 q24 q25 q26 q27 q28 q29 q30 q31 u0 u1 u2 u3 u4 u5 u6 u7 u8 u9 u10 u11 u12 u13 u14 u15 u16 u17 u18 u19 u20 u21 i_row i_tall) → va_S A s.heap H locs → lv_has ls 3 [(0, .ref q0), (1, .int (Int32.ofInt x1)), (2, .int (Int32.ofInt x2))] → W p l e rm_HM_isGoal s m args below meth c H locs 0 0 Q (F0 m 4 ls [])), ∀ (x2 : Int) (H : Heap) (locs : List Loc) (ls : Array Slot), f_HM_isGoal_53 i_row i_tall k4 x2 = some out → va_P (dC, dI) vwCl (wd_HM_isGoal cA q0 q1 q2 q3 q4 q5 q6 q7 q8 q9 q10 q11 q12 q13 q14 q15 q16 q17 q18 q19 q20 q21 q22 q23 q24 q25 q26 q27 q28 q29 q30 q31 u0 u1 u2 u3 u4 u5 u6 u7 u8 u9 u10 u11 u12 u13 u14 u15 u16 u17 u18 u19 u20 u21 i_row i_tall) H → va_D A (wd_HM_isGoal cA q0 q1 q2 q3 q4 q5 q6 q7 q8 q9 q10 q11 q12 q13 q14 q15 q16 q17 q18 q19 q20 q21 q22 q23 q24 q25 q26 q27 q28 q29 q30 q31 u0 u1 u2 u3 u4 u5 u6 u7 u8 u9 u10 u11 u12 u13 u14 u15 u16 u17 u18 u19 u20 u21 i_row i_tall) → va_S A s.heap H locs → lv_has ls 3 [(0, .ref q0), (2, .int (Int32.ofInt x2))] → W p l e rm_HM_isGoal s m args below meth c H locs 0 0 Q (F0 m 53 ls []) := by
    intro k4 ih4 x2 H locs ls hf hP hD hS hl
    unfold f_HM_isGoal_53 at hf
    refine lv_iconst (v := Int32.ofInt 0) hx hb dX11_isGoal_53 rfl ?_
    exact b_54 _ ih4 _ _ _ _ _ hf hP hD hS (lv_sub hl [0, 1] rfl)
  have b_49 : ∀ (k4 : Int → Int → Option (Int)) (_ : ∀ (x1 : Int) (x2 : Int) (H : Heap) (locs : List Loc) (ls : Array Slot), k4 x1 x2 = some out → va_P (dC, dI) vwCl (wd_HM_isGoal cA q0 q1 q2 q3 q4 q5 q6 q7 q8 q9 q10 q11 q12 q13 q14 q15 q16 q17 q18 q19 q20 q21 q22 q23 q24 q25 q26 q27 q28 q29 q30 q31 u0 u1 u2 u3 u4 u5 u6 u7 u8 u9 u10 u11 u12 u13 u14 u15 u16 u17 u18 u19 u20 u21 i_row i_tall) H → va_D A (wd_HM_isGoal cA q0 q1 q2 q3 q4 q5 q6 q7 q8 q9 q10 q11 q12 q13 q14 q15 q16 q17 q18 q19 q20 q21 q22 q23 q24 q25 q26 q27 q28 q29 q30 q31 u0 u1 u2 u3 u4 u5 u6 u7 u8 u9 u10 u11 u12 u13 u14 u15 u16 u17 u18 u19 u20 u21 i_row i_tall) → va_S A s.heap H locs → lv_has ls 3 [(0, .ref q0), (1, .int (Int32.ofInt x1)), (2, .int (Int32.ofInt x2))] → W p l e rm_HM_isGoal s m args below meth c H locs 0 0 Q (F0 m 4 ls [])), ∀ (x2 : Int) (H : Heap) (locs : List Loc) (ls : Array Slot), f_HM_isGoal_49 i_row i_tall k4 x2 = some out → va_P (dC, dI) vwCl (wd_HM_isGoal cA q0 q1 q2 q3 q4 q5 q6 q7 q8 q9 q10 q11 q12 q13 q14 q15 q16 q17 q18 q19 q20 q21 q22 q23 q24 q25 q26 q27 q28 q29 q30 q31 u0 u1 u2 u3 u4 u5 u6 u7 u8 u9 u10 u11 u12 u13 u14 u15 u16 u17 u18 u19 u20 u21 i_row i_tall) H → va_D A (wd_HM_isGoal cA q0 q1 q2 q3 q4 q5 q6 q7 q8 q9 q10 q11 q12 q13 q14 q15 q16 q17 q18 q19 q20 q21 q22 q23 q24 q25 q26 q27 q28 q29 q30 q31 u0 u1 u2 u3 u4 u5 u6 u7 u8 u9 u10 u11 u12 u13 u14 u15 u16 u17 u18 u19 u20 u21 i_row i_tall) → va_S A s.heap H locs → lv_has ls 3 [(0, .ref q0), (2, .int (Int32.ofInt x2))] → W p l e rm_HM_isGoal s m args below meth c H locs 0 0 Q (F0 m 49 ls []) := by
    intro k4 ih4 x2 H locs ls hf hP hD hS hl
    unfold f_HM_isGoal_49 at hf
    refine lv_iconst (v := Int32.ofInt 1) hx hb dX11_isGoal_49 rfl ?_
    refine lv_goto (tgt := 54) hx hb dX11_isGoal_50 (by decide) ?_
    exact b_54 _ ih4 _ _ _ _ _ hf hP hD hS (lv_sub hl [0, 1] rfl)
  have b_4 : ∀ (k4 : Int → Int → Option (Int)) (_ : ∀ (x1 : Int) (x2 : Int) (H : Heap) (locs : List Loc) (ls : Array Slot), k4 x1 x2 = some out → va_P (dC, dI) vwCl (wd_HM_isGoal cA q0 q1 q2 q3 q4 q5 q6 q7 q8 q9 q10 q11 q12 q13 q14 q15 q16 q17 q18 q19 q20 q21 q22 q23 q24 q25 q26 q27 q28 q29 q30 q31 u0 u1 u2 u3 u4 u5 u6 u7 u8 u9 u10 u11 u12 u13 u14 u15 u16 u17 u18 u19 u20 u21 i_row i_tall) H → va_D A (wd_HM_isGoal cA q0 q1 q2 q3 q4 q5 q6 q7 q8 q9 q10 q11 q12 q13 q14 q15 q16 q17 q18 q19 q20 q21 q22 q23 q24 q25 q26 q27 q28 q29 q30 q31 u0 u1 u2 u3 u4 u5 u6 u7 u8 u9 u10 u11 u12 u13 u14 u15 u16 u17 u18 u19 u20 u21 i_row i_tall) → va_S A s.heap H locs → lv_has ls 3 [(0, .ref q0), (1, .int (Int32.ofInt x1)), (2, .int (Int32.ofInt x2))] → W p l e rm_HM_isGoal s m args below meth c H locs 0 0 Q (F0 m 4 ls [])), ∀ (x1 : Int) (x2 : Int) (H : Heap) (locs : List Loc) (ls : Array Slot), f_HM_isGoal_4_b i_row i_tall k4 x1 x2 = some out → va_P (dC, dI) vwCl (wd_HM_isGoal cA q0 q1 q2 q3 q4 q5 q6 q7 q8 q9 q10 q11 q12 q13 q14 q15 q16 q17 q18 q19 q20 q21 q22 q23 q24 q25 q26 q27 q28 q29 q30 q31 u0 u1 u2 u3 u4 u5 u6 u7 u8 u9 u10 u11 u12 u13 u14 u15 u16 u17 u18 u19 u20 u21 i_row i_tall) H → va_D A (wd_HM_isGoal cA q0 q1 q2 q3 q4 q5 q6 q7 q8 q9 q10 q11 q12 q13 q14 q15 q16 q17 q18 q19 q20 q21 q22 q23 q24 q25 q26 q27 q28 q29 q30 q31 u0 u1 u2 u3 u4 u5 u6 u7 u8 u9 u10 u11 u12 u13 u14 u15 u16 u17 u18 u19 u20 u21 i_row i_tall) → va_S A s.heap H locs → lv_has ls 3 [(0, .ref q0), (1, .int (Int32.ofInt x1)), (2, .int (Int32.ofInt x2))] → W p l e rm_HM_isGoal s m args below meth c H locs 0 0 Q (F0 m 4 ls []) := by
    intro k4 ih4 x1 x2 H locs ls hf hP hD hS hl
    unfold f_HM_isGoal_4_b at hf
    refine lv_iload_n hx hb dX11_isGoal_4 rfl (lv_at hl 2 rfl) ?_
    refine lv_aload_n hx hb dX11_isGoal_5 rfl (lv_at hl 0 rfl) ?_
    refine xe_d1 hf (fun v1 hg hf => ?_)
    have hC : ([0, 1] : List Nat).map (fun i => (wd_HM_isGoal cA q0 q1 q2 q3 q4 q5 q6 q7 q8 q9 q10 q11 q12 q13 q14 q15 q16 q17 q18 q19 q20 q21 q22 q23 q24 q25 q26 q27 q28 q29 q30 q31 u0 u1 u2 u3 u4 u5 u6 u7 u8 u9 u10 u11 u12 u13 u14 u15 u16 u17 u18 u19 u20 u21 i_row i_tall)[i]?) = (wd_HM_columns cA q0 q1 q2 q3 q4 q5 q6 q7 q8 q9 q10 q11 q12 q13 q14 q15 q16 q17 q18 q19 q20 q21 q22 q23 q24 q25 q26 q27 q28 q29 q30 q31 u0 u1 u2 u3 u4 u5 u6 u7 u8 u9 u10 u11 u12 u13 u14 u15 u16 u17 u18 u19 u20 u21 i_row).map some := rfl
    refine xv_afterI (ws' := (wd_HM_isGoal cA q0 q1 q2 q3 q4 q5 q6 q7 q8 q9 q10 q11 q12 q13 q14 q15 q16 q17 q18 q19 q20 q21 q22 q23 q24 q25 q26 q27 q28 q29 q30 q31 u0 u1 u2 u3 u4 u5 u6 u7 u8 u9 u10 u11 u12 u13 u14 u15 u16 u17 u18 u19 u20 u21 i_row i_tall)) (isC := [0, 1]) (ps := [some 0, some 1, none]) (va_runV (As := []) (rest := [.int (Int32.ofInt x2)]) ⟨hx, hb, hml, hown, hts⟩ (c_HM_columns l ev dC dI cA q0 q1 q2 q3 q4 q5 q6 q7 q8 q9 q10 q11 q12 q13 q14 q15 q16 q17 q18 q19 q20 q21 q22 q23 q24 q25 q26 q27 q28 q29 q30 q31 u0 u1 u2 u3 u4 u5 u6 u7 u8 u9 u10 u11 u12 u13 u14 u15 u16 u17 u18 u19 u20 u21 hg H.size) (cwV 0 hts (zgV zw_1344 zw_1346 zw_41 zw_115 zw_1347) rfl rfl rfl hd_HM_columns ⟨Nat.le_of_ble_eq_true rfl, Nat.le_of_ble_eq_true rfl⟩) (xv_preV (T := TX11) (N := 53) hE hA hS hK hP hD (isC := [0, 1]) (by decide +kernel) hC (q0 := 0) (ci := 11) rfl rfl) rfl rfl hl.1 rfl (lv_room (Nat.le_of_ble_eq_true rfl)) dX11_isGoal_6 ⟨Nat.le_refl _, Nat.le_refl _⟩) hP hD hS hA (by decide +kernel) rfl hC rfl rfl (fun H locs hP hD hS => ?_)
    refine xi_icmp_ge (tgt := 61) hx hb dX11_isGoal_9 (by decide) hf (fun hf => ?_) (fun hf => ?_)
    · refine lv_iload_n hx hb dX11_isGoal_61 rfl (lv_at hl 1 rfl) ?_
      obtain ⟨hzb, hf⟩ := xz_q hf
      obtain rfl := Option.some.inj hf
      exact hret _ _ _ _ (zz_bool hzb) dX11_isGoal_62 hP hD hS
    · refine lv_iload_n hx hb dX11_isGoal_12 rfl (lv_at hl 1 rfl) ?_
      refine xi_if_eq (tgt := 53) hx hb dX11_isGoal_13 (by decide) hf (fun hf => ?_) (fun hf => ?_)
      · exact b_53 _ ih4 _ _ _ _ hf hP hD hS (lv_sub hl [0, 2] rfl)
      · refine lv_aload_n hx hb dX11_isGoal_16 rfl (lv_at hl 0 rfl) ?_
        refine va_get (D := (dC, dI)) (ci := 11) (v := .ref q2) (C := RX11) (T := TX11) (N := 53) hx hb hz zi_X11 hown hK hP 0 rfl rfl 3 (by decide) (hz _ zw_1168) (fun _ h9 => h9) rfl dX11_isGoal_17 ?_
        refine lv_sipush (v := Int32.ofInt 141) hx hb dX11_isGoal_20 (by decide) ?_
        refine lv_iload_n hx hb dX11_isGoal_23 rfl (lv_at hl 2 rfl) ?_
        refine xi_iadd hx hb dX11_isGoal_24 hf (fun v2 hf => ?_)
        refine xi_iald hx hb hK hP 1 0 rfl rfl dX11_isGoal_25 hf (fun v3 hf => ?_)
        refine lv_iconst (v := Int32.ofInt (-1)) hx hb dX11_isGoal_26 rfl ?_
        refine xi_icmp_eq (tgt := 49) hx hb dX11_isGoal_27 (by decide) hf (fun hf => ?_) (fun hf => ?_)
        · exact b_49 _ ih4 _ _ _ _ hf hP hD hS (lv_sub hl [0, 2] rfl)
        · refine lv_aload_n hx hb dX11_isGoal_30 rfl (lv_at hl 0 rfl) ?_
          refine va_get (D := (dC, dI)) (ci := 11) (v := .ref q2) (C := RX11) (T := TX11) (N := 53) hx hb hz zi_X11 hown hK hP 0 rfl rfl 3 (by decide) (hz _ zw_1168) (fun _ h9 => h9) rfl dX11_isGoal_31 ?_
          refine lv_sipush (v := Int32.ofInt 141) hx hb dX11_isGoal_34 (by decide) ?_
          refine lv_iload_n hx hb dX11_isGoal_37 rfl (lv_at hl 2 rfl) ?_
          refine xi_iadd hx hb dX11_isGoal_38 hf (fun v4 hf => ?_)
          refine xi_iald hx hb hK hP 1 0 rfl rfl dX11_isGoal_39 hf (fun v5 hf => ?_)
          refine lv_aload_n hx hb dX11_isGoal_40 rfl (lv_at hl 0 rfl) ?_
          refine va_get (D := (dC, dI)) (ci := 11) (v := .ref q23) (C := RX11) (T := TX11) (N := 53) hx hb hz zi_X11 hown hK hP 0 rfl rfl 42 (by decide) (hz _ zw_1207) (fun _ h9 => h9) rfl dX11_isGoal_41 ?_
          refine lv_iload_n hx hb dX11_isGoal_44 rfl (lv_at hl 2 rfl) ?_
          refine xi_iald hx hb hK hP 2 0 rfl rfl dX11_isGoal_45 hf (fun v6 hf => ?_)
          refine xi_icmp_ne (tgt := 53) hx hb dX11_isGoal_46 (by decide) hf (fun hf => ?_) (fun hf => ?_)
          · exact b_53 _ ih4 _ _ _ _ hf hP hD hS (lv_sub hl [0, 2] rfl)
          · exact b_49 _ ih4 _ _ _ _ hf hP hD hS (lv_sub hl [0, 2] rfl)
  have l_4 : ∀ (n : Nat), ∀ (x1 : Int) (x2 : Int) (H : Heap) (locs : List Loc) (ls : Array Slot), f_HM_isGoal_4 i_row i_tall n x1 x2 = some out → va_P (dC, dI) vwCl (wd_HM_isGoal cA q0 q1 q2 q3 q4 q5 q6 q7 q8 q9 q10 q11 q12 q13 q14 q15 q16 q17 q18 q19 q20 q21 q22 q23 q24 q25 q26 q27 q28 q29 q30 q31 u0 u1 u2 u3 u4 u5 u6 u7 u8 u9 u10 u11 u12 u13 u14 u15 u16 u17 u18 u19 u20 u21 i_row i_tall) H → va_D A (wd_HM_isGoal cA q0 q1 q2 q3 q4 q5 q6 q7 q8 q9 q10 q11 q12 q13 q14 q15 q16 q17 q18 q19 q20 q21 q22 q23 q24 q25 q26 q27 q28 q29 q30 q31 u0 u1 u2 u3 u4 u5 u6 u7 u8 u9 u10 u11 u12 u13 u14 u15 u16 u17 u18 u19 u20 u21 i_row i_tall) → va_S A s.heap H locs → lv_has ls 3 [(0, .ref q0), (1, .int (Int32.ofInt x1)), (2, .int (Int32.ofInt x2))] → W p l e rm_HM_isGoal s m args below meth c H locs 0 0 Q (F0 m 4 ls []) := by
    intro n
    induction n with
    | zero => intro x1 x2 H locs ls hf hP hD hS hl; exact nomatch hf
    | succ n ih => intro x1 x2 H locs ls hf hP hD hS hl; exact b_4 (f_HM_isGoal_4 i_row i_tall n) ih x1 x2 H locs ls hf hP hD hS hl
  unfold f_HM_isGoal at hf
  refine lv_iconst (v := Int32.ofInt 1) hx hb dX11_isGoal_0 rfl ?_
  refine lv_istore_n (lv' := [(1, .int (Int32.ofInt 1)), (0, .ref q0)]) hx hb dX11_isGoal_1 rfl hl (by decide) rfl (fun ls hl => ?_)
  refine lv_iconst (v := Int32.ofInt 0) hx hb dX11_isGoal_2 rfl ?_
  refine lv_istore_n (lv' := [(2, .int (Int32.ofInt 0)), (1, .int (Int32.ofInt 1)), (0, .ref q0)]) hx hb dX11_isGoal_3 rfl hl (by decide) rfl (fun ls hl => ?_)
  exact l_4  _ _ _ _ _ _ hf hP hD hS (lv_sub hl [2, 1, 0] rfl)
theorem dX11_codeOfSmall_0 : decode cX11_codeOfSmall 0 = .ok (.iconst 0, 1) := by decide +kernel
theorem dX11_codeOfSmall_1 : decode cX11_codeOfSmall 1 = .ok (.istore_n 1, 1) := by decide +kernel
theorem dX11_codeOfSmall_2 : decode cX11_codeOfSmall 2 = .ok (.iconst 0, 1) := by decide +kernel
theorem dX11_codeOfSmall_3 : decode cX11_codeOfSmall 3 = .ok (.istore_n 2, 1) := by decide +kernel
theorem dX11_codeOfSmall_4 : decode cX11_codeOfSmall 4 = .ok (.iload_n 2, 1) := by decide +kernel
theorem dX11_codeOfSmall_5 : decode cX11_codeOfSmall 5 = .ok (.iconst 4, 1) := by decide +kernel
theorem dX11_codeOfSmall_6 : decode cX11_codeOfSmall 6 = .ok (.if_icmp .ge 59, 3) := by decide +kernel
theorem dX11_codeOfSmall_9 : decode cX11_codeOfSmall 9 = .ok (.iconst 0, 1) := by decide +kernel
theorem dX11_codeOfSmall_10 : decode cX11_codeOfSmall 10 = .ok (.istore_n 3, 1) := by decide +kernel
theorem dX11_codeOfSmall_11 : decode cX11_codeOfSmall 11 = .ok (.iload_n 3, 1) := by decide +kernel
theorem dX11_codeOfSmall_12 : decode cX11_codeOfSmall 12 = .ok (.aload_n 0, 1) := by decide +kernel
theorem dX11_codeOfSmall_13 : decode cX11_codeOfSmall 13 = .ok (.getfield 99, 3) := by decide +kernel
theorem dX11_codeOfSmall_16 : decode cX11_codeOfSmall 16 = .ok (.iload_n 2, 1) := by decide +kernel
theorem dX11_codeOfSmall_17 : decode cX11_codeOfSmall 17 = .ok (.iaload, 1) := by decide +kernel
theorem dX11_codeOfSmall_18 : decode cX11_codeOfSmall 18 = .ok (.if_icmp .ge 27, 3) := by decide +kernel
theorem dX11_codeOfSmall_21 : decode cX11_codeOfSmall 21 = .ok (.bipush 6, 2) := by decide +kernel
theorem dX11_codeOfSmall_23 : decode cX11_codeOfSmall 23 = .ok (.iload_n 1, 1) := by decide +kernel
theorem dX11_codeOfSmall_24 : decode cX11_codeOfSmall 24 = .ok (.imul, 1) := by decide +kernel
theorem dX11_codeOfSmall_25 : decode cX11_codeOfSmall 25 = .ok (.aload_n 0, 1) := by decide +kernel
theorem dX11_codeOfSmall_26 : decode cX11_codeOfSmall 26 = .ok (.getfield 96, 3) := by decide +kernel
theorem dX11_codeOfSmall_29 : decode cX11_codeOfSmall 29 = .ok (.iconst 5, 1) := by decide +kernel
theorem dX11_codeOfSmall_30 : decode cX11_codeOfSmall 30 = .ok (.iload_n 2, 1) := by decide +kernel
theorem dX11_codeOfSmall_31 : decode cX11_codeOfSmall 31 = .ok (.imul, 1) := by decide +kernel
theorem dX11_codeOfSmall_32 : decode cX11_codeOfSmall 32 = .ok (.iload_n 3, 1) := by decide +kernel
theorem dX11_codeOfSmall_33 : decode cX11_codeOfSmall 33 = .ok (.iadd, 1) := by decide +kernel
theorem dX11_codeOfSmall_34 : decode cX11_codeOfSmall 34 = .ok (.iaload, 1) := by decide +kernel
theorem dX11_codeOfSmall_35 : decode cX11_codeOfSmall 35 = .ok (.iadd, 1) := by decide +kernel
theorem dX11_codeOfSmall_36 : decode cX11_codeOfSmall 36 = .ok (.iconst 1, 1) := by decide +kernel
theorem dX11_codeOfSmall_37 : decode cX11_codeOfSmall 37 = .ok (.iadd, 1) := by decide +kernel
theorem dX11_codeOfSmall_38 : decode cX11_codeOfSmall 38 = .ok (.istore_n 1, 1) := by decide +kernel
theorem dX11_codeOfSmall_39 : decode cX11_codeOfSmall 39 = .ok (.iinc 3 1, 3) := by decide +kernel
theorem dX11_codeOfSmall_42 : decode cX11_codeOfSmall 42 = .ok (.goto (-31), 3) := by decide +kernel
theorem dX11_codeOfSmall_45 : decode cX11_codeOfSmall 45 = .ok (.iload_n 2, 1) := by decide +kernel
theorem dX11_codeOfSmall_46 : decode cX11_codeOfSmall 46 = .ok (.iconst 3, 1) := by decide +kernel
theorem dX11_codeOfSmall_47 : decode cX11_codeOfSmall 47 = .ok (.if_icmp .ge 10, 3) := by decide +kernel
theorem dX11_codeOfSmall_50 : decode cX11_codeOfSmall 50 = .ok (.bipush 6, 2) := by decide +kernel
theorem dX11_codeOfSmall_52 : decode cX11_codeOfSmall 52 = .ok (.iload_n 1, 1) := by decide +kernel
theorem dX11_codeOfSmall_53 : decode cX11_codeOfSmall 53 = .ok (.imul, 1) := by decide +kernel
theorem dX11_codeOfSmall_54 : decode cX11_codeOfSmall 54 = .ok (.goto 4, 3) := by decide +kernel
theorem dX11_codeOfSmall_57 : decode cX11_codeOfSmall 57 = .ok (.iload_n 1, 1) := by decide +kernel
theorem dX11_codeOfSmall_58 : decode cX11_codeOfSmall 58 = .ok (.istore_n 1, 1) := by decide +kernel
theorem dX11_codeOfSmall_59 : decode cX11_codeOfSmall 59 = .ok (.iinc 2 1, 3) := by decide +kernel
theorem dX11_codeOfSmall_62 : decode cX11_codeOfSmall 62 = .ok (.goto (-58), 3) := by decide +kernel
theorem dX11_codeOfSmall_65 : decode cX11_codeOfSmall 65 = .ok (.iload_n 1, 1) := by decide +kernel
theorem dX11_codeOfSmall_66 : decode cX11_codeOfSmall 66 = .ok (.ireturn, 1) := by decide +kernel
theorem zw_1669 : (Jvm.Cond.code ({ cls := "HillSchoolModel", name := "codeOfSmall", desc := "()I" } : Jvm.MethodName) prog_13_method_82_code (4 : Nat) (Option.some Jvm.ClassFile.FieldType.int)) ∈ zall := zmemG (zmj_7 126 rfl) rfl
abbrev w_HM_codeOfSmall : List Cond := .code yX11_codeOfSmall cX11_codeOfSmall 4 (some .int) :: zall
abbrev rm_HM_codeOfSmall : Room := { frames := 0, cells := 0, slots := 0, locals := 0 }
theorem hd_HM_codeOfSmall : yX11_codeOfSmall.cls = "HillSchoolModel" ∧ yX11_codeOfSmall.cls ≠ "java/lang/invoke/MethodHandle" ∧ yX11_codeOfSmall.cls ≠ "java/lang/invoke/VarHandle" ∧ (parseMethodDescriptor yX11_codeOfSmall.desc).map (fun d => d.parameters.length) = some 0 := by decide +kernel
def wd_HM_codeOfSmall (cA : Nat → ClassId) (q0 q1 q2 q3 q4 q5 q6 q7 q8 q9 q10 q11 q12 q13 q14 q15 q16 q17 q18 q19 q20 q21 q22 q23 q24 q25 q26 q27 q28 q29 q30 q31 : Nat) (u0 u1 u2 u3 u4 u5 u6 u7 u8 u9 u10 u11 u12 u13 u14 u15 u16 u17 u18 u19 u20 u21 : Int) (i_small : Nat → Int) (i_tall : Nat → Int)  : va_W := [(q0, .inr (11, [.int (Int32.ofInt u0), .int (Int32.ofInt u1), .ref q1, .ref q2, .ref q3, .ref q4, .int (Int32.ofInt u2), .ref q5, .int (Int32.ofInt u3), .int (Int32.ofInt u4), .int (Int32.ofInt u5), .int (Int32.ofInt u6), .long (Int64.ofInt u7), .int (Int32.ofInt u8), .int (Int32.ofInt u9), .int (Int32.ofInt u10), .ref q6, .int (Int32.ofInt u11), .ref q7, .ref q8, .int (Int32.ofInt u12), .ref q9, .ref q10, .int (Int32.ofInt u13), .int (Int32.ofInt u14), .ref q11, .int (Int32.ofInt u15), .ref q12, .ref q13, .int (Int32.ofInt u16), .long (Int64.ofInt u17), .long (Int64.ofInt u18), .ref q14, .ref q15, .ref q16, .ref q17, .ref q18, .int (Int32.ofInt u19), .ref q19, .ref q20, .ref q21, .ref q22, .ref q23, .ref q24, .ref q25, .ref q26, .ref q27, .ref q28, .ref q29, .ref q30, .long (Int64.ofInt u20), .ref q31, .int (Int32.ofInt u21)])), (q22, .inl (cA 0, 20, .inl (za i_small))), (q23, .inl (cA 0, 4, .inl (za i_tall)))]
def wf_HM_codeOfSmall (cA : Nat → ClassId) (q0 q1 q2 q3 q4 q5 q6 q7 q8 q9 q10 q11 q12 q13 q14 q15 q16 q17 q18 q19 q20 q21 q22 q23 q24 q25 q26 q27 q28 q29 q30 q31 : Nat) (u0 u1 u2 u3 u4 u5 u6 u7 u8 u9 u10 u11 u12 u13 u14 u15 u16 u17 u18 u19 u20 u21 : Int) (i_small : Nat → Int) (i_tall : Nat → Int) (o : Int) : va_W := wd_HM_codeOfSmall cA q0 q1 q2 q3 q4 q5 q6 q7 q8 q9 q10 q11 q12 q13 q14 q15 q16 q17 q18 q19 q20 q21 q22 q23 q24 q25 q26 q27 q28 q29 q30 q31 u0 u1 u2 u3 u4 u5 u6 u7 u8 u9 u10 u11 u12 u13 u14 u15 u16 u17 u18 u19 u20 u21 i_small i_tall
def f_HM_codeOfSmall_58 (i_small : Nat → Int) (i_tall : Nat → Int) (k4 : Int → Int → Option (Int)) (x2 : Int) (s0 : Int) : Option (Int) :=
  zn (x2 + 1) fun v1 =>
  k4 s0 v1
def f_HM_codeOfSmall_11_b (i_small : Nat → Int) (i_tall : Nat → Int) (k4 : Int → Int → Option (Int)) (k11 : Int → Int → Int → Option (Int)) (x1 : Int) (x2 : Int) (x3 : Int) : Option (Int) :=
  zg 4 i_tall x2 fun v1 =>
  if zi_w v1 ≤ zi_w x3 then
    if zi_w 3 ≤ zi_w x2 then
      f_HM_codeOfSmall_58 i_small i_tall k4 x2 x1
    else
      zn (6 * x1) fun v2 =>
      f_HM_codeOfSmall_58 i_small i_tall k4 x2 v2
  else
    zn (6 * x1) fun v3 =>
    zn (5 * x2) fun v4 =>
    zn (v4 + x3) fun v5 =>
    zg 20 i_small v5 fun v6 =>
    zn (v3 + v6) fun v7 =>
    zn (v7 + 1) fun v8 =>
    zn (x3 + 1) fun v9 =>
    k11 v8 x2 v9
def f_HM_codeOfSmall_11 (i_small : Nat → Int) (i_tall : Nat → Int) (k4 : Int → Int → Option (Int)) : Nat → Int → Int → Int → Option (Int)
  | 0 => fun _ _ _ => none
  | n + 1 => fun y0 y1 y2 => f_HM_codeOfSmall_11_b i_small i_tall k4 (f_HM_codeOfSmall_11 i_small i_tall k4 n) y0 y1 y2
def f_HM_codeOfSmall_4_b (i_small : Nat → Int) (i_tall : Nat → Int) (k4 : Int → Int → Option (Int)) (x1 : Int) (x2 : Int) : Option (Int) :=
  if zi_w 4 ≤ zi_w x2 then
    some x1
  else
    f_HM_codeOfSmall_11 i_small i_tall k4 zfu x1 x2 0
def f_HM_codeOfSmall_4 (i_small : Nat → Int) (i_tall : Nat → Int) : Nat → Int → Int → Option (Int)
  | 0 => fun _ _ => none
  | n + 1 => fun y0 y1 => f_HM_codeOfSmall_4_b i_small i_tall (f_HM_codeOfSmall_4 i_small i_tall n) y0 y1
def f_HM_codeOfSmall (i_small : Nat → Int) (i_tall : Nat → Int) : Option (Int) :=
  f_HM_codeOfSmall_4 i_small i_tall zfu 0 0
set_option maxHeartbeats 4000000 in
set_option maxRecDepth 100000 in
theorem c_HM_codeOfSmall (l : Launch) (ev : zEv) (dC : Nat → ClassId) (dI : Nat → Nat → Nat) (cA : Nat → ClassId) (q0 q1 q2 q3 q4 q5 q6 q7 q8 q9 q10 q11 q12 q13 q14 q15 q16 q17 q18 q19 q20 q21 q22 q23 q24 q25 q26 q27 q28 q29 q30 q31 : Nat) (u0 u1 u2 u3 u4 u5 u6 u7 u8 u9 u10 u11 u12 u13 u14 u15 u16 u17 u18 u19 u20 u21 : Int) {i_small : Nat → Int} {i_tall : Nat → Int} {out : Int} (hf : f_HM_codeOfSmall i_small i_tall = some out) : xc_I l ev (dC, dI) vwCl (tyl cA) yX11_codeOfSmall w_HM_codeOfSmall rm_HM_codeOfSmall [.ref q0] (wd_HM_codeOfSmall cA q0 q1 q2 q3 q4 q5 q6 q7 q8 q9 q10 q11 q12 q13 q14 q15 q16 q17 q18 q19 q20 q21 q22 q23 q24 q25 q26 q27 q28 q29 q30 q31 u0 u1 u2 u3 u4 u5 u6 u7 u8 u9 u10 u11 u12 u13 u14 u15 u16 u17 u18 u19 u20 u21 i_small i_tall) (wf_HM_codeOfSmall cA q0 q1 q2 q3 q4 q5 q6 q7 q8 q9 q10 q11 q12 q13 q14 q15 q16 q17 q18 q19 q20 q21 q22 q23 q24 q25 q26 q27 q28 q29 q30 q31 u0 u1 u2 u3 u4 u5 u6 u7 u8 u9 u10 u11 u12 u13 u14 u15 u16 u17 u18 u19 u20 u21 i_small i_tall out) out := by
  refine xv_startI (cc := cX11_codeOfSmall) (maxL := 4) (rt := .int) (by decide +kernel) rfl (Nat.le_of_ble_eq_true rfl) ?_
  intro p e s m args below meth c A Q H ls hx hb hml hts hown hK hA hP hD hS hl hE hret
  have hown : s.vm.findClass "HillSchoolModel" = some m.cls := hown
  have hz : ∀ w ∈ zall, w.before args s = true := fun w h => hts w (List.mem_cons_of_mem _ h)
  have hl : lv_has ls 4 [(0, .ref q0)] := hl
  have b_58 : ∀ (k4 : Int → Int → Option (Int)) (_ : ∀ (x1 : Int) (x2 : Int) (H : Heap) (locs : List Loc) (ls : Array Slot), k4 x1 x2 = some out → va_P (dC, dI) vwCl (wd_HM_codeOfSmall cA q0 q1 q2 q3 q4 q5 q6 q7 q8 q9 q10 q11 q12 q13 q14 q15 q16 q17 q18 q19 q20 q21 q22 q23 q24 q25 q26 q27 q28 q29 q30 q31 u0 u1 u2 u3 u4 u5 u6 u7 u8 u9 u10 u11 u12 u13 u14 u15 u16 u17 u18 u19 u20 u21 i_small i_tall) H → va_D A (wd_HM_codeOfSmall cA q0 q1 q2 q3 q4 q5 q6 q7 q8 q9 q10 q11 q12 q13 q14 q15 q16 q17 q18 q19 q20 q21 q22 q23 q24 q25 q26 q27 q28 q29 q30 q31 u0 u1 u2 u3 u4 u5 u6 u7 u8 u9 u10 u11 u12 u13 u14 u15 u16 u17 u18 u19 u20 u21 i_small i_tall) → va_S A s.heap H locs → lv_has ls 4 [(0, .ref q0), (1, .int (Int32.ofInt x1)), (2, .int (Int32.ofInt x2))] → W p l e rm_HM_codeOfSmall s m args below meth c H locs 0 0 Q (F0 m 4 ls [])), ∀ (x2 : Int) (s0 : Int) (H : Heap) (locs : List Loc) (ls : Array Slot), f_HM_codeOfSmall_58 i_small i_tall k4 x2 s0 = some out → va_P (dC, dI) vwCl (wd_HM_codeOfSmall cA q0 q1 q2 q3 q4 q5 q6 q7 q8 q9 q10 q11 q12 q13 q14 q15 q16 q17 q18 q19 q20 q21 q22 q23 q24 q25 q26 q27 q28 q29 q30 q31 u0 u1 u2 u3 u4 u5 u6 u7 u8 u9 u10 u11 u12 u13 u14 u15 u16 u17 u18 u19 u20 u21 i_small i_tall) H → va_D A (wd_HM_codeOfSmall cA q0 q1 q2 q3 q4 q5 q6 q7 q8 q9 q10 q11 q12 q13 q14 q15 q16 q17 q18 q19 q20 q21 q22 q23 q24 q25 q26 q27 q28 q29 q30 q31 u0 u1 u2 u3 u4 u5 u6 u7 u8 u9 u10 u11 u12 u13 u14 u15 u16 u17 u18 u19 u20 u21 i_small i_tall) → va_S A s.heap H locs → lv_has ls 4 [(0, .ref q0), (2, .int (Int32.ofInt x2))] → W p l e rm_HM_codeOfSmall s m args below meth c H locs 0 0 Q (F0 m 58 ls [.int (Int32.ofInt s0)]) := by
    intro k4 ih4 x2 s0 H locs ls hf hP hD hS hl
    unfold f_HM_codeOfSmall_58 at hf
    refine lv_istore_n (lv' := [(1, .int (Int32.ofInt s0)), (0, .ref q0), (2, .int (Int32.ofInt x2))]) hx hb dX11_codeOfSmall_58 rfl hl (by decide) rfl (fun ls hl => ?_)
    refine xi_iinc hx hb dX11_codeOfSmall_59 hl (k := 2) rfl (by decide) hf (fun v1 ls hl hf => ?_)
    have hl : lv_has ls 4 [(2, .int (Int32.ofInt v1)), (1, .int (Int32.ofInt s0)), (0, .ref q0)] := hl
    refine lv_goto (tgt := 4) hx hb dX11_codeOfSmall_62 (by decide) ?_
    exact ih4 _ _ _ _ _ hf hP hD hS (lv_sub hl [2, 1, 0] rfl)
  have b_11 : ∀ (k4 : Int → Int → Option (Int)) (_ : ∀ (x1 : Int) (x2 : Int) (H : Heap) (locs : List Loc) (ls : Array Slot), k4 x1 x2 = some out → va_P (dC, dI) vwCl (wd_HM_codeOfSmall cA q0 q1 q2 q3 q4 q5 q6 q7 q8 q9 q10 q11 q12 q13 q14 q15 q16 q17 q18 q19 q20 q21 q22 q23 q24 q25 q26 q27 q28 q29 q30 q31 u0 u1 u2 u3 u4 u5 u6 u7 u8 u9 u10 u11 u12 u13 u14 u15 u16 u17 u18 u19 u20 u21 i_small i_tall) H → va_D A (wd_HM_codeOfSmall cA q0 q1 q2 q3 q4 q5 q6 q7 q8 q9 q10 q11 q12 q13 q14 q15 q16 q17 q18 q19 q20 q21 q22 q23 q24 q25 q26 q27 q28 q29 q30 q31 u0 u1 u2 u3 u4 u5 u6 u7 u8 u9 u10 u11 u12 u13 u14 u15 u16 u17 u18 u19 u20 u21 i_small i_tall) → va_S A s.heap H locs → lv_has ls 4 [(0, .ref q0), (1, .int (Int32.ofInt x1)), (2, .int (Int32.ofInt x2))] → W p l e rm_HM_codeOfSmall s m args below meth c H locs 0 0 Q (F0 m 4 ls [])), ∀ (k11 : Int → Int → Int → Option (Int)) (_ : ∀ (x1 : Int) (x2 : Int) (x3 : Int) (H : Heap) (locs : List Loc) (ls : Array Slot), k11 x1 x2 x3 = some out → va_P (dC, dI) vwCl (wd_HM_codeOfSmall cA q0 q1 q2 q3 q4 q5 q6 q7 q8 q9 q10 q11 q12 q13 q14 q15 q16 q17 q18 q19 q20 q21 q22 q23 q24 q25 q26 q27 q28 q29 q30 q31 u0 u1 u2 u3 u4 u5 u6 u7 u8 u9 u10 u11 u12 u13 u14 u15 u16 u17 u18 u19 u20 u21 i_small i_tall) H → va_D A (wd_HM_codeOfSmall cA q0 q1 q2 q3 q4 q5 q6 q7 q8 q9 q10 q11 q12 q13 q14 q15 q16 q17 q18 q19 q20 q21 q22 q23 q24 q25 q26 q27 q28 q29 q30 q31 u0 u1 u2 u3 u4 u5 u6 u7 u8 u9 u10 u11 u12 u13 u14 u15 u16 u17 u18 u19 u20 u21 i_small i_tall) → va_S A s.heap H locs → lv_has ls 4 [(0, .ref q0), (1, .int (Int32.ofInt x1)), (2, .int (Int32.ofInt x2)), (3, .int (Int32.ofInt x3))] → W p l e rm_HM_codeOfSmall s m args below meth c H locs 0 0 Q (F0 m 11 ls [])), ∀ (x1 : Int) (x2 : Int) (x3 : Int) (H : Heap) (locs : List Loc) (ls : Array Slot), f_HM_codeOfSmall_11_b i_small i_tall k4 k11 x1 x2 x3 = some out → va_P (dC, dI) vwCl (wd_HM_codeOfSmall cA q0 q1 q2 q3 q4 q5 q6 q7 q8 q9 q10 q11 q12 q13 q14 q15 q16 q17 q18 q19 q20 q21 q22 q23 q24 q25 q26 q27 q28 q29 q30 q31 u0 u1 u2 u3 u4 u5 u6 u7 u8 u9 u10 u11 u12 u13 u14 u15 u16 u17 u18 u19 u20 u21 i_small i_tall) H → va_D A (wd_HM_codeOfSmall cA q0 q1 q2 q3 q4 q5 q6 q7 q8 q9 q10 q11 q12 q13 q14 q15 q16 q17 q18 q19 q20 q21 q22 q23 q24 q25 q26 q27 q28 q29 q30 q31 u0 u1 u2 u3 u4 u5 u6 u7 u8 u9 u10 u11 u12 u13 u14 u15 u16 u17 u18 u19 u20 u21 i_small i_tall) → va_S A s.heap H locs → lv_has ls 4 [(0, .ref q0), (1, .int (Int32.ofInt x1)), (2, .int (Int32.ofInt x2)), (3, .int (Int32.ofInt x3))] → W p l e rm_HM_codeOfSmall s m args below meth c H locs 0 0 Q (F0 m 11 ls []) := by
    intro k4 ih4 k11 ih11 x1 x2 x3 H locs ls hf hP hD hS hl
    unfold f_HM_codeOfSmall_11_b at hf
    refine lv_iload_n hx hb dX11_codeOfSmall_11 rfl (lv_at hl 3 rfl) ?_
    refine lv_aload_n hx hb dX11_codeOfSmall_12 rfl (lv_at hl 0 rfl) ?_
    refine va_get (D := (dC, dI)) (ci := 11) (v := .ref q23) (C := RX11) (T := TX11) (N := 53) hx hb hz zi_X11 hown hK hP 0 rfl rfl 42 (by decide) (hz _ zw_1207) (fun _ h9 => h9) rfl dX11_codeOfSmall_13 ?_
    refine lv_iload_n hx hb dX11_codeOfSmall_16 rfl (lv_at hl 2 rfl) ?_
    refine xi_iald hx hb hK hP 2 0 rfl rfl dX11_codeOfSmall_17 hf (fun v1 hf => ?_)
    refine xi_icmp_ge (tgt := 45) hx hb dX11_codeOfSmall_18 (by decide) hf (fun hf => ?_) (fun hf => ?_)
    · refine lv_iload_n hx hb dX11_codeOfSmall_45 rfl (lv_at hl 2 rfl) ?_
      refine lv_iconst (v := Int32.ofInt 3) hx hb dX11_codeOfSmall_46 rfl ?_
      refine xi_icmp_ge (tgt := 57) hx hb dX11_codeOfSmall_47 (by decide) hf (fun hf => ?_) (fun hf => ?_)
      · refine lv_iload_n hx hb dX11_codeOfSmall_57 rfl (lv_at hl 1 rfl) ?_
        exact b_58 _ ih4 _ _ _ _ _ hf hP hD hS (lv_sub hl [0, 2] rfl)
      · refine lv_bipush (v := Int32.ofInt 6) hx hb dX11_codeOfSmall_50 (by decide) ?_
        refine lv_iload_n hx hb dX11_codeOfSmall_52 rfl (lv_at hl 1 rfl) ?_
        refine xi_imul hx hb dX11_codeOfSmall_53 hf (fun v2 hf => ?_)
        refine lv_goto (tgt := 58) hx hb dX11_codeOfSmall_54 (by decide) ?_
        exact b_58 _ ih4 _ _ _ _ _ hf hP hD hS (lv_sub hl [0, 2] rfl)
    · refine lv_bipush (v := Int32.ofInt 6) hx hb dX11_codeOfSmall_21 (by decide) ?_
      refine lv_iload_n hx hb dX11_codeOfSmall_23 rfl (lv_at hl 1 rfl) ?_
      refine xi_imul hx hb dX11_codeOfSmall_24 hf (fun v3 hf => ?_)
      refine lv_aload_n hx hb dX11_codeOfSmall_25 rfl (lv_at hl 0 rfl) ?_
      refine va_get (D := (dC, dI)) (ci := 11) (v := .ref q22) (C := RX11) (T := TX11) (N := 53) hx hb hz zi_X11 hown hK hP 0 rfl rfl 41 (by decide) (hz _ zw_1206) (fun _ h9 => h9) rfl dX11_codeOfSmall_26 ?_
      refine lv_iconst (v := Int32.ofInt 5) hx hb dX11_codeOfSmall_29 rfl ?_
      refine lv_iload_n hx hb dX11_codeOfSmall_30 rfl (lv_at hl 2 rfl) ?_
      refine xi_imul hx hb dX11_codeOfSmall_31 hf (fun v4 hf => ?_)
      refine lv_iload_n hx hb dX11_codeOfSmall_32 rfl (lv_at hl 3 rfl) ?_
      refine xi_iadd hx hb dX11_codeOfSmall_33 hf (fun v5 hf => ?_)
      refine xi_iald hx hb hK hP 1 0 rfl rfl dX11_codeOfSmall_34 hf (fun v6 hf => ?_)
      refine xi_iadd hx hb dX11_codeOfSmall_35 hf (fun v7 hf => ?_)
      refine lv_iconst (v := Int32.ofInt 1) hx hb dX11_codeOfSmall_36 rfl ?_
      refine xi_iadd hx hb dX11_codeOfSmall_37 hf (fun v8 hf => ?_)
      refine lv_istore_n (lv' := [(1, .int (Int32.ofInt v8)), (0, .ref q0), (2, .int (Int32.ofInt x2)), (3, .int (Int32.ofInt x3))]) hx hb dX11_codeOfSmall_38 rfl hl (by decide) rfl (fun ls hl => ?_)
      refine xi_iinc hx hb dX11_codeOfSmall_39 hl (k := 3) rfl (by decide) hf (fun v9 ls hl hf => ?_)
      have hl : lv_has ls 4 [(3, .int (Int32.ofInt v9)), (1, .int (Int32.ofInt v8)), (0, .ref q0), (2, .int (Int32.ofInt x2))] := hl
      refine lv_goto (tgt := 11) hx hb dX11_codeOfSmall_42 (by decide) ?_
      exact ih11 _ _ _ _ _ _ hf hP hD hS (lv_sub hl [2, 1, 3, 0] rfl)
  have l_11 : ∀ (k4 : Int → Int → Option (Int)) (_ : ∀ (x1 : Int) (x2 : Int) (H : Heap) (locs : List Loc) (ls : Array Slot), k4 x1 x2 = some out → va_P (dC, dI) vwCl (wd_HM_codeOfSmall cA q0 q1 q2 q3 q4 q5 q6 q7 q8 q9 q10 q11 q12 q13 q14 q15 q16 q17 q18 q19 q20 q21 q22 q23 q24 q25 q26 q27 q28 q29 q30 q31 u0 u1 u2 u3 u4 u5 u6 u7 u8 u9 u10 u11 u12 u13 u14 u15 u16 u17 u18 u19 u20 u21 i_small i_tall) H → va_D A (wd_HM_codeOfSmall cA q0 q1 q2 q3 q4 q5 q6 q7 q8 q9 q10 q11 q12 q13 q14 q15 q16 q17 q18 q19 q20 q21 q22 q23 q24 q25 q26 q27 q28 q29 q30 q31 u0 u1 u2 u3 u4 u5 u6 u7 u8 u9 u10 u11 u12 u13 u14 u15 u16 u17 u18 u19 u20 u21 i_small i_tall) → va_S A s.heap H locs → lv_has ls 4 [(0, .ref q0), (1, .int (Int32.ofInt x1)), (2, .int (Int32.ofInt x2))] → W p l e rm_HM_codeOfSmall s m args below meth c H locs 0 0 Q (F0 m 4 ls [])), ∀ (n : Nat), ∀ (x1 : Int) (x2 : Int) (x3 : Int) (H : Heap) (locs : List Loc) (ls : Array Slot), f_HM_codeOfSmall_11 i_small i_tall k4 n x1 x2 x3 = some out → va_P (dC, dI) vwCl (wd_HM_codeOfSmall cA q0 q1 q2 q3 q4 q5 q6 q7 q8 q9 q10 q11 q12 q13 q14 q15 q16 q17 q18 q19 q20 q21 q22 q23 q24 q25 q26 q27 q28 q29 q30 q31 u0 u1 u2 u3 u4 u5 u6 u7 u8 u9 u10 u11 u12 u13 u14 u15 u16 u17 u18 u19 u20 u21 i_small i_tall) H → va_D A (wd_HM_codeOfSmall cA q0 q1 q2 q3 q4 q5 q6 q7 q8 q9 q10 q11 q12 q13 q14 q15 q16 q17 q18 q19 q20 q21 q22 q23 q24 q25 q26 q27 q28 q29 q30 q31 u0 u1 u2 u3 u4 u5 u6 u7 u8 u9 u10 u11 u12 u13 u14 u15 u16 u17 u18 u19 u20 u21 i_small i_tall) → va_S A s.heap H locs → lv_has ls 4 [(0, .ref q0), (1, .int (Int32.ofInt x1)), (2, .int (Int32.ofInt x2)), (3, .int (Int32.ofInt x3))] → W p l e rm_HM_codeOfSmall s m args below meth c H locs 0 0 Q (F0 m 11 ls []) := by
    intro k4 ih4 n
    induction n with
    | zero => intro x1 x2 x3 H locs ls hf hP hD hS hl; exact nomatch hf
    | succ n ih => intro x1 x2 x3 H locs ls hf hP hD hS hl; exact b_11 k4 ih4 (f_HM_codeOfSmall_11 i_small i_tall k4 n) ih x1 x2 x3 H locs ls hf hP hD hS hl
  have b_4 : ∀ (k4 : Int → Int → Option (Int)) (_ : ∀ (x1 : Int) (x2 : Int) (H : Heap) (locs : List Loc) (ls : Array Slot), k4 x1 x2 = some out → va_P (dC, dI) vwCl (wd_HM_codeOfSmall cA q0 q1 q2 q3 q4 q5 q6 q7 q8 q9 q10 q11 q12 q13 q14 q15 q16 q17 q18 q19 q20 q21 q22 q23 q24 q25 q26 q27 q28 q29 q30 q31 u0 u1 u2 u3 u4 u5 u6 u7 u8 u9 u10 u11 u12 u13 u14 u15 u16 u17 u18 u19 u20 u21 i_small i_tall) H → va_D A (wd_HM_codeOfSmall cA q0 q1 q2 q3 q4 q5 q6 q7 q8 q9 q10 q11 q12 q13 q14 q15 q16 q17 q18 q19 q20 q21 q22 q23 q24 q25 q26 q27 q28 q29 q30 q31 u0 u1 u2 u3 u4 u5 u6 u7 u8 u9 u10 u11 u12 u13 u14 u15 u16 u17 u18 u19 u20 u21 i_small i_tall) → va_S A s.heap H locs → lv_has ls 4 [(0, .ref q0), (1, .int (Int32.ofInt x1)), (2, .int (Int32.ofInt x2))] → W p l e rm_HM_codeOfSmall s m args below meth c H locs 0 0 Q (F0 m 4 ls [])), ∀ (x1 : Int) (x2 : Int) (H : Heap) (locs : List Loc) (ls : Array Slot), f_HM_codeOfSmall_4_b i_small i_tall k4 x1 x2 = some out → va_P (dC, dI) vwCl (wd_HM_codeOfSmall cA q0 q1 q2 q3 q4 q5 q6 q7 q8 q9 q10 q11 q12 q13 q14 q15 q16 q17 q18 q19 q20 q21 q22 q23 q24 q25 q26 q27 q28 q29 q30 q31 u0 u1 u2 u3 u4 u5 u6 u7 u8 u9 u10 u11 u12 u13 u14 u15 u16 u17 u18 u19 u20 u21 i_small i_tall) H → va_D A (wd_HM_codeOfSmall cA q0 q1 q2 q3 q4 q5 q6 q7 q8 q9 q10 q11 q12 q13 q14 q15 q16 q17 q18 q19 q20 q21 q22 q23 q24 q25 q26 q27 q28 q29 q30 q31 u0 u1 u2 u3 u4 u5 u6 u7 u8 u9 u10 u11 u12 u13 u14 u15 u16 u17 u18 u19 u20 u21 i_small i_tall) → va_S A s.heap H locs → lv_has ls 4 [(0, .ref q0), (1, .int (Int32.ofInt x1)), (2, .int (Int32.ofInt x2))] → W p l e rm_HM_codeOfSmall s m args below meth c H locs 0 0 Q (F0 m 4 ls []) := by
    intro k4 ih4 x1 x2 H locs ls hf hP hD hS hl
    unfold f_HM_codeOfSmall_4_b at hf
    refine lv_iload_n hx hb dX11_codeOfSmall_4 rfl (lv_at hl 2 rfl) ?_
    refine lv_iconst (v := Int32.ofInt 4) hx hb dX11_codeOfSmall_5 rfl ?_
    refine xi_icmp_ge (tgt := 65) hx hb dX11_codeOfSmall_6 (by decide) hf (fun hf => ?_) (fun hf => ?_)
    · refine lv_iload_n hx hb dX11_codeOfSmall_65 rfl (lv_at hl 1 rfl) ?_
      obtain rfl := Option.some.inj hf
      exact hret _ _ _ _ rfl dX11_codeOfSmall_66 hP hD hS
    · refine lv_iconst (v := Int32.ofInt 0) hx hb dX11_codeOfSmall_9 rfl ?_
      refine lv_istore_n (lv' := [(3, .int (Int32.ofInt 0)), (0, .ref q0), (1, .int (Int32.ofInt x1)), (2, .int (Int32.ofInt x2))]) hx hb dX11_codeOfSmall_10 rfl hl (by decide) rfl (fun ls hl => ?_)
      exact l_11 _ ih4 _ _ _ _ _ _ _ hf hP hD hS (lv_sub hl [1, 2, 3, 0] rfl)
  have l_4 : ∀ (n : Nat), ∀ (x1 : Int) (x2 : Int) (H : Heap) (locs : List Loc) (ls : Array Slot), f_HM_codeOfSmall_4 i_small i_tall n x1 x2 = some out → va_P (dC, dI) vwCl (wd_HM_codeOfSmall cA q0 q1 q2 q3 q4 q5 q6 q7 q8 q9 q10 q11 q12 q13 q14 q15 q16 q17 q18 q19 q20 q21 q22 q23 q24 q25 q26 q27 q28 q29 q30 q31 u0 u1 u2 u3 u4 u5 u6 u7 u8 u9 u10 u11 u12 u13 u14 u15 u16 u17 u18 u19 u20 u21 i_small i_tall) H → va_D A (wd_HM_codeOfSmall cA q0 q1 q2 q3 q4 q5 q6 q7 q8 q9 q10 q11 q12 q13 q14 q15 q16 q17 q18 q19 q20 q21 q22 q23 q24 q25 q26 q27 q28 q29 q30 q31 u0 u1 u2 u3 u4 u5 u6 u7 u8 u9 u10 u11 u12 u13 u14 u15 u16 u17 u18 u19 u20 u21 i_small i_tall) → va_S A s.heap H locs → lv_has ls 4 [(0, .ref q0), (1, .int (Int32.ofInt x1)), (2, .int (Int32.ofInt x2))] → W p l e rm_HM_codeOfSmall s m args below meth c H locs 0 0 Q (F0 m 4 ls []) := by
    intro n
    induction n with
    | zero => intro x1 x2 H locs ls hf hP hD hS hl; exact nomatch hf
    | succ n ih => intro x1 x2 H locs ls hf hP hD hS hl; exact b_4 (f_HM_codeOfSmall_4 i_small i_tall n) ih x1 x2 H locs ls hf hP hD hS hl
  unfold f_HM_codeOfSmall at hf
  refine lv_iconst (v := Int32.ofInt 0) hx hb dX11_codeOfSmall_0 rfl ?_
  refine lv_istore_n (lv' := [(1, .int (Int32.ofInt 0)), (0, .ref q0)]) hx hb dX11_codeOfSmall_1 rfl hl (by decide) rfl (fun ls hl => ?_)
  refine lv_iconst (v := Int32.ofInt 0) hx hb dX11_codeOfSmall_2 rfl ?_
  refine lv_istore_n (lv' := [(2, .int (Int32.ofInt 0)), (1, .int (Int32.ofInt 0)), (0, .ref q0)]) hx hb dX11_codeOfSmall_3 rfl hl (by decide) rfl (fun ls hl => ?_)
  exact l_4  _ _ _ _ _ _ hf hP hD hS (lv_sub hl [2, 1, 0] rfl)
theorem dX11_placeOf_0 : decode cX11_placeOf 0 = .ok (.iload_n 1, 1) := by decide +kernel
theorem dX11_placeOf_1 : decode cX11_placeOf 1 = .ok (.bipush 31, 2) := by decide +kernel
theorem dX11_placeOf_3 : decode cX11_placeOf 3 = .ok (.imul, 1) := by decide +kernel
theorem dX11_placeOf_4 : decode cX11_placeOf 4 = .ok (.sipush 16384, 3) := by decide +kernel
theorem dX11_placeOf_7 : decode cX11_placeOf 7 = .ok (.irem, 1) := by decide +kernel
theorem dX11_placeOf_8 : decode cX11_placeOf 8 = .ok (.istore_n 2, 1) := by decide +kernel
theorem dX11_placeOf_9 : decode cX11_placeOf 9 = .ok (.aload_n 0, 1) := by decide +kernel
theorem dX11_placeOf_10 : decode cX11_placeOf 10 = .ok (.getfield 83, 3) := by decide +kernel
theorem dX11_placeOf_13 : decode cX11_placeOf 13 = .ok (.iload_n 2, 1) := by decide +kernel
theorem dX11_placeOf_14 : decode cX11_placeOf 14 = .ok (.iaload, 1) := by decide +kernel
theorem dX11_placeOf_15 : decode cX11_placeOf 15 = .ok (.iconst (-1), 1) := by decide +kernel
theorem dX11_placeOf_16 : decode cX11_placeOf 16 = .ok (.if_icmp .eq 29, 3) := by decide +kernel
theorem dX11_placeOf_19 : decode cX11_placeOf 19 = .ok (.aload_n 0, 1) := by decide +kernel
theorem dX11_placeOf_20 : decode cX11_placeOf 20 = .ok (.getfield 80, 3) := by decide +kernel
theorem dX11_placeOf_23 : decode cX11_placeOf 23 = .ok (.aload_n 0, 1) := by decide +kernel
theorem dX11_placeOf_24 : decode cX11_placeOf 24 = .ok (.getfield 83, 3) := by decide +kernel
theorem dX11_placeOf_27 : decode cX11_placeOf 27 = .ok (.iload_n 2, 1) := by decide +kernel
theorem dX11_placeOf_28 : decode cX11_placeOf 28 = .ok (.iaload, 1) := by decide +kernel
theorem dX11_placeOf_29 : decode cX11_placeOf 29 = .ok (.iaload, 1) := by decide +kernel
theorem dX11_placeOf_30 : decode cX11_placeOf 30 = .ok (.iload_n 1, 1) := by decide +kernel
theorem dX11_placeOf_31 : decode cX11_placeOf 31 = .ok (.if_icmp .eq 14, 3) := by decide +kernel
theorem dX11_placeOf_34 : decode cX11_placeOf 34 = .ok (.iload_n 2, 1) := by decide +kernel
theorem dX11_placeOf_35 : decode cX11_placeOf 35 = .ok (.iconst 1, 1) := by decide +kernel
theorem dX11_placeOf_36 : decode cX11_placeOf 36 = .ok (.iadd, 1) := by decide +kernel
theorem dX11_placeOf_37 : decode cX11_placeOf 37 = .ok (.sipush 16384, 3) := by decide +kernel
theorem dX11_placeOf_40 : decode cX11_placeOf 40 = .ok (.irem, 1) := by decide +kernel
theorem dX11_placeOf_41 : decode cX11_placeOf 41 = .ok (.istore_n 2, 1) := by decide +kernel
theorem dX11_placeOf_42 : decode cX11_placeOf 42 = .ok (.goto (-33), 3) := by decide +kernel
theorem dX11_placeOf_45 : decode cX11_placeOf 45 = .ok (.iload_n 2, 1) := by decide +kernel
theorem dX11_placeOf_46 : decode cX11_placeOf 46 = .ok (.ireturn, 1) := by decide +kernel
theorem zw_1201 : (Jvm.Cond.fieldLink "HillSchoolModel" (83 : Nat) "HillSchoolModel" "table" "[I") ∈ zall := zmemG (zmj_5 138 rfl) rfl
theorem zw_1677 : (Jvm.Cond.code ({ cls := "HillSchoolModel", name := "placeOf", desc := "(I)I" } : Jvm.MethodName) prog_13_method_83_code (3 : Nat) (Option.some Jvm.ClassFile.FieldType.int)) ∈ zall := zmemG (zmj_7 134 rfl) rfl
abbrev w_HM_placeOf : List Cond := .code yX11_placeOf cX11_placeOf 3 (some .int) :: zall
abbrev rm_HM_placeOf : Room := { frames := 0, cells := 0, slots := 0, locals := 0 }
theorem hd_HM_placeOf : yX11_placeOf.cls = "HillSchoolModel" ∧ yX11_placeOf.cls ≠ "java/lang/invoke/MethodHandle" ∧ yX11_placeOf.cls ≠ "java/lang/invoke/VarHandle" ∧ (parseMethodDescriptor yX11_placeOf.desc).map (fun d => d.parameters.length) = some 1 := by decide +kernel
def wd_HM_placeOf (cA : Nat → ClassId) (q0 q1 q2 q3 q4 q5 q6 q7 q8 q9 q10 q11 q12 q13 q14 q15 q16 q17 q18 q19 q20 q21 q22 q23 q24 q25 q26 q27 q28 q29 q30 q31 : Nat) (u0 u1 u2 u3 u4 u5 u6 u7 u8 u9 u10 u11 u12 u13 u14 u15 u16 u17 u18 u19 u20 u21 : Int) (i_states : Nat → Int) (i_table : Nat → Int)  : va_W := [(q0, .inr (11, [.int (Int32.ofInt u0), .int (Int32.ofInt u1), .ref q1, .ref q2, .ref q3, .ref q4, .int (Int32.ofInt u2), .ref q5, .int (Int32.ofInt u3), .int (Int32.ofInt u4), .int (Int32.ofInt u5), .int (Int32.ofInt u6), .long (Int64.ofInt u7), .int (Int32.ofInt u8), .int (Int32.ofInt u9), .int (Int32.ofInt u10), .ref q6, .int (Int32.ofInt u11), .ref q7, .ref q8, .int (Int32.ofInt u12), .ref q9, .ref q10, .int (Int32.ofInt u13), .int (Int32.ofInt u14), .ref q11, .int (Int32.ofInt u15), .ref q12, .ref q13, .int (Int32.ofInt u16), .long (Int64.ofInt u17), .long (Int64.ofInt u18), .ref q14, .ref q15, .ref q16, .ref q17, .ref q18, .int (Int32.ofInt u19), .ref q19, .ref q20, .ref q21, .ref q22, .ref q23, .ref q24, .ref q25, .ref q26, .ref q27, .ref q28, .ref q29, .ref q30, .long (Int64.ofInt u20), .ref q31, .int (Int32.ofInt u21)])), (q17, .inl (cA 0, 6720, .inl (za i_states))), (q18, .inl (cA 0, 16384, .inl (za i_table)))]
def wf_HM_placeOf (cA : Nat → ClassId) (q0 q1 q2 q3 q4 q5 q6 q7 q8 q9 q10 q11 q12 q13 q14 q15 q16 q17 q18 q19 q20 q21 q22 q23 q24 q25 q26 q27 q28 q29 q30 q31 : Nat) (u0 u1 u2 u3 u4 u5 u6 u7 u8 u9 u10 u11 u12 u13 u14 u15 u16 u17 u18 u19 u20 u21 : Int) (i_states : Nat → Int) (i_table : Nat → Int) (o : Int) : va_W := wd_HM_placeOf cA q0 q1 q2 q3 q4 q5 q6 q7 q8 q9 q10 q11 q12 q13 q14 q15 q16 q17 q18 q19 q20 q21 q22 q23 q24 q25 q26 q27 q28 q29 q30 q31 u0 u1 u2 u3 u4 u5 u6 u7 u8 u9 u10 u11 u12 u13 u14 u15 u16 u17 u18 u19 u20 u21 i_states i_table
def f_HM_placeOf_9_b (i_states : Nat → Int) (i_table : Nat → Int) (k9 : Int → Int → Option (Int)) (x1 : Int) (x2 : Int) : Option (Int) :=
  zg 16384 i_table x2 fun v1 =>
  if zi_w v1 = zi_w (-1) then
    some x2
  else
    zg 16384 i_table x2 fun v2 =>
    zg 6720 i_states v2 fun v3 =>
    if zi_w v3 = zi_w x1 then
      some x2
    else
      zn (x2 + 1) fun v4 =>
      if zi_w 16384 = 0 then none else zn (zi_rem v4 16384) fun v5 =>
      k9 x1 v5
def f_HM_placeOf_9 (i_states : Nat → Int) (i_table : Nat → Int) : Nat → Int → Int → Option (Int)
  | 0 => fun _ _ => none
  | n + 1 => fun y0 y1 => f_HM_placeOf_9_b i_states i_table (f_HM_placeOf_9 i_states i_table n) y0 y1
def f_HM_placeOf (x1 : Int) (i_states : Nat → Int) (i_table : Nat → Int) : Option (Int) :=
  zn (x1 * 31) fun v1 =>
  if zi_w 16384 = 0 then none else zn (zi_rem v1 16384) fun v2 =>
  f_HM_placeOf_9 i_states i_table zfu x1 v2
set_option maxHeartbeats 4000000 in
set_option maxRecDepth 100000 in
theorem c_HM_placeOf (l : Launch) (ev : zEv) (dC : Nat → ClassId) (dI : Nat → Nat → Nat) (cA : Nat → ClassId) (q0 q1 q2 q3 q4 q5 q6 q7 q8 q9 q10 q11 q12 q13 q14 q15 q16 q17 q18 q19 q20 q21 q22 q23 q24 q25 q26 q27 q28 q29 q30 q31 : Nat) (u0 u1 u2 u3 u4 u5 u6 u7 u8 u9 u10 u11 u12 u13 u14 u15 u16 u17 u18 u19 u20 u21 : Int) {x1 : Int} {i_states : Nat → Int} {i_table : Nat → Int} {out : Int} (hf : f_HM_placeOf x1 i_states i_table = some out) : xc_I l ev (dC, dI) vwCl (tyl cA) yX11_placeOf w_HM_placeOf rm_HM_placeOf [.ref q0, .int (Int32.ofInt x1)] (wd_HM_placeOf cA q0 q1 q2 q3 q4 q5 q6 q7 q8 q9 q10 q11 q12 q13 q14 q15 q16 q17 q18 q19 q20 q21 q22 q23 q24 q25 q26 q27 q28 q29 q30 q31 u0 u1 u2 u3 u4 u5 u6 u7 u8 u9 u10 u11 u12 u13 u14 u15 u16 u17 u18 u19 u20 u21 i_states i_table) (wf_HM_placeOf cA q0 q1 q2 q3 q4 q5 q6 q7 q8 q9 q10 q11 q12 q13 q14 q15 q16 q17 q18 q19 q20 q21 q22 q23 q24 q25 q26 q27 q28 q29 q30 q31 u0 u1 u2 u3 u4 u5 u6 u7 u8 u9 u10 u11 u12 u13 u14 u15 u16 u17 u18 u19 u20 u21 i_states i_table out) out := by
  refine xv_startI (cc := cX11_placeOf) (maxL := 3) (rt := .int) (by decide +kernel) rfl (Nat.le_of_ble_eq_true rfl) ?_
  intro p e s m args below meth c A Q H ls hx hb hml hts hown hK hA hP hD hS hl hE hret
  have hown : s.vm.findClass "HillSchoolModel" = some m.cls := hown
  have hz : ∀ w ∈ zall, w.before args s = true := fun w h => hts w (List.mem_cons_of_mem _ h)
  have hl : lv_has ls 3 [(0, .ref q0), (1, .int (Int32.ofInt x1))] := hl
  have b_9 : ∀ (k9 : Int → Int → Option (Int)) (_ : ∀ (x1 : Int) (x2 : Int) (H : Heap) (locs : List Loc) (ls : Array Slot), k9 x1 x2 = some out → va_P (dC, dI) vwCl (wd_HM_placeOf cA q0 q1 q2 q3 q4 q5 q6 q7 q8 q9 q10 q11 q12 q13 q14 q15 q16 q17 q18 q19 q20 q21 q22 q23 q24 q25 q26 q27 q28 q29 q30 q31 u0 u1 u2 u3 u4 u5 u6 u7 u8 u9 u10 u11 u12 u13 u14 u15 u16 u17 u18 u19 u20 u21 i_states i_table) H → va_D A (wd_HM_placeOf cA q0 q1 q2 q3 q4 q5 q6 q7 q8 q9 q10 q11 q12 q13 q14 q15 q16 q17 q18 q19 q20 q21 q22 q23 q24 q25 q26 q27 q28 q29 q30 q31 u0 u1 u2 u3 u4 u5 u6 u7 u8 u9 u10 u11 u12 u13 u14 u15 u16 u17 u18 u19 u20 u21 i_states i_table) → va_S A s.heap H locs → lv_has ls 3 [(0, .ref q0), (1, .int (Int32.ofInt x1)), (2, .int (Int32.ofInt x2))] → W p l e rm_HM_placeOf s m args below meth c H locs 0 0 Q (F0 m 9 ls [])), ∀ (x1 : Int) (x2 : Int) (H : Heap) (locs : List Loc) (ls : Array Slot), f_HM_placeOf_9_b i_states i_table k9 x1 x2 = some out → va_P (dC, dI) vwCl (wd_HM_placeOf cA q0 q1 q2 q3 q4 q5 q6 q7 q8 q9 q10 q11 q12 q13 q14 q15 q16 q17 q18 q19 q20 q21 q22 q23 q24 q25 q26 q27 q28 q29 q30 q31 u0 u1 u2 u3 u4 u5 u6 u7 u8 u9 u10 u11 u12 u13 u14 u15 u16 u17 u18 u19 u20 u21 i_states i_table) H → va_D A (wd_HM_placeOf cA q0 q1 q2 q3 q4 q5 q6 q7 q8 q9 q10 q11 q12 q13 q14 q15 q16 q17 q18 q19 q20 q21 q22 q23 q24 q25 q26 q27 q28 q29 q30 q31 u0 u1 u2 u3 u4 u5 u6 u7 u8 u9 u10 u11 u12 u13 u14 u15 u16 u17 u18 u19 u20 u21 i_states i_table) → va_S A s.heap H locs → lv_has ls 3 [(0, .ref q0), (1, .int (Int32.ofInt x1)), (2, .int (Int32.ofInt x2))] → W p l e rm_HM_placeOf s m args below meth c H locs 0 0 Q (F0 m 9 ls []) := by
    intro k9 ih9 x1 x2 H locs ls hf hP hD hS hl
    unfold f_HM_placeOf_9_b at hf
    refine lv_aload_n hx hb dX11_placeOf_9 rfl (lv_at hl 0 rfl) ?_
    refine va_get (D := (dC, dI)) (ci := 11) (v := .ref q18) (C := RX11) (T := TX11) (N := 53) hx hb hz zi_X11 hown hK hP 0 rfl rfl 36 (by decide) (hz _ zw_1201) (fun _ h9 => h9) rfl dX11_placeOf_10 ?_
    refine lv_iload_n hx hb dX11_placeOf_13 rfl (lv_at hl 2 rfl) ?_
    refine xi_iald hx hb hK hP 2 0 rfl rfl dX11_placeOf_14 hf (fun v1 hf => ?_)
    refine lv_iconst (v := Int32.ofInt (-1)) hx hb dX11_placeOf_15 rfl ?_
    refine xi_icmp_eq (tgt := 45) hx hb dX11_placeOf_16 (by decide) hf (fun hf => ?_) (fun hf => ?_)
    · refine lv_iload_n hx hb dX11_placeOf_45 rfl (lv_at hl 2 rfl) ?_
      obtain rfl := Option.some.inj hf
      exact hret _ _ _ _ rfl dX11_placeOf_46 hP hD hS
    · refine lv_aload_n hx hb dX11_placeOf_19 rfl (lv_at hl 0 rfl) ?_
      refine va_get (D := (dC, dI)) (ci := 11) (v := .ref q17) (C := RX11) (T := TX11) (N := 53) hx hb hz zi_X11 hown hK hP 0 rfl rfl 35 (by decide) (hz _ zw_1200) (fun _ h9 => h9) rfl dX11_placeOf_20 ?_
      refine lv_aload_n hx hb dX11_placeOf_23 rfl (lv_at hl 0 rfl) ?_
      refine va_get (D := (dC, dI)) (ci := 11) (v := .ref q18) (C := RX11) (T := TX11) (N := 53) hx hb hz zi_X11 hown hK hP 0 rfl rfl 36 (by decide) (hz _ zw_1201) (fun _ h9 => h9) rfl dX11_placeOf_24 ?_
      refine lv_iload_n hx hb dX11_placeOf_27 rfl (lv_at hl 2 rfl) ?_
      refine xi_iald hx hb hK hP 2 0 rfl rfl dX11_placeOf_28 hf (fun v2 hf => ?_)
      refine xi_iald hx hb hK hP 1 0 rfl rfl dX11_placeOf_29 hf (fun v3 hf => ?_)
      refine lv_iload_n hx hb dX11_placeOf_30 rfl (lv_at hl 1 rfl) ?_
      refine xi_icmp_eq (tgt := 45) hx hb dX11_placeOf_31 (by decide) hf (fun hf => ?_) (fun hf => ?_)
      · refine lv_iload_n hx hb dX11_placeOf_45 rfl (lv_at hl 2 rfl) ?_
        obtain rfl := Option.some.inj hf
        exact hret _ _ _ _ rfl dX11_placeOf_46 hP hD hS
      · refine lv_iload_n hx hb dX11_placeOf_34 rfl (lv_at hl 2 rfl) ?_
        refine lv_iconst (v := Int32.ofInt 1) hx hb dX11_placeOf_35 rfl ?_
        refine xi_iadd hx hb dX11_placeOf_36 hf (fun v4 hf => ?_)
        refine lv_sipush (v := Int32.ofInt 16384) hx hb dX11_placeOf_37 (by decide) ?_
        refine xi_irem hx hb dX11_placeOf_40 hf (fun v5 hf => ?_)
        refine lv_istore_n (lv' := [(2, .int (Int32.ofInt v5)), (0, .ref q0), (1, .int (Int32.ofInt x1))]) hx hb dX11_placeOf_41 rfl hl (by decide) rfl (fun ls hl => ?_)
        refine lv_goto (tgt := 9) hx hb dX11_placeOf_42 (by decide) ?_
        exact ih9 _ _ _ _ _ hf hP hD hS (lv_sub hl [1, 2, 0] rfl)
  have l_9 : ∀ (n : Nat), ∀ (x1 : Int) (x2 : Int) (H : Heap) (locs : List Loc) (ls : Array Slot), f_HM_placeOf_9 i_states i_table n x1 x2 = some out → va_P (dC, dI) vwCl (wd_HM_placeOf cA q0 q1 q2 q3 q4 q5 q6 q7 q8 q9 q10 q11 q12 q13 q14 q15 q16 q17 q18 q19 q20 q21 q22 q23 q24 q25 q26 q27 q28 q29 q30 q31 u0 u1 u2 u3 u4 u5 u6 u7 u8 u9 u10 u11 u12 u13 u14 u15 u16 u17 u18 u19 u20 u21 i_states i_table) H → va_D A (wd_HM_placeOf cA q0 q1 q2 q3 q4 q5 q6 q7 q8 q9 q10 q11 q12 q13 q14 q15 q16 q17 q18 q19 q20 q21 q22 q23 q24 q25 q26 q27 q28 q29 q30 q31 u0 u1 u2 u3 u4 u5 u6 u7 u8 u9 u10 u11 u12 u13 u14 u15 u16 u17 u18 u19 u20 u21 i_states i_table) → va_S A s.heap H locs → lv_has ls 3 [(0, .ref q0), (1, .int (Int32.ofInt x1)), (2, .int (Int32.ofInt x2))] → W p l e rm_HM_placeOf s m args below meth c H locs 0 0 Q (F0 m 9 ls []) := by
    intro n
    induction n with
    | zero => intro x1 x2 H locs ls hf hP hD hS hl; exact nomatch hf
    | succ n ih => intro x1 x2 H locs ls hf hP hD hS hl; exact b_9 (f_HM_placeOf_9 i_states i_table n) ih x1 x2 H locs ls hf hP hD hS hl
  unfold f_HM_placeOf at hf
  refine lv_iload_n hx hb dX11_placeOf_0 rfl (lv_at hl 1 rfl) ?_
  refine lv_bipush (v := Int32.ofInt 31) hx hb dX11_placeOf_1 (by decide) ?_
  refine xi_imul hx hb dX11_placeOf_3 hf (fun v1 hf => ?_)
  refine lv_sipush (v := Int32.ofInt 16384) hx hb dX11_placeOf_4 (by decide) ?_
  refine xi_irem hx hb dX11_placeOf_7 hf (fun v2 hf => ?_)
  refine lv_istore_n (lv' := [(2, .int (Int32.ofInt v2)), (0, .ref q0), (1, .int (Int32.ofInt x1))]) hx hb dX11_placeOf_8 rfl hl (by decide) rfl (fun ls hl => ?_)
  exact l_9  _ _ _ _ _ _ hf hP hD hS (lv_sub hl [1, 2, 0] rfl)
theorem dX11_numberOf_0 : decode cX11_numberOf 0 = .ok (.aload_n 0, 1) := by decide +kernel
theorem dX11_numberOf_1 : decode cX11_numberOf 1 = .ok (.iload_n 1, 1) := by decide +kernel
theorem dX11_numberOf_2 : decode cX11_numberOf 2 = .ok (.invokevirtual 391, 3) := by decide +kernel
theorem dX11_numberOf_5 : decode cX11_numberOf 5 = .ok (.istore_n 2, 1) := by decide +kernel
theorem dX11_numberOf_6 : decode cX11_numberOf 6 = .ok (.aload_n 0, 1) := by decide +kernel
theorem dX11_numberOf_7 : decode cX11_numberOf 7 = .ok (.getfield 83, 3) := by decide +kernel
theorem dX11_numberOf_10 : decode cX11_numberOf 10 = .ok (.iload_n 2, 1) := by decide +kernel
theorem dX11_numberOf_11 : decode cX11_numberOf 11 = .ok (.iaload, 1) := by decide +kernel
theorem dX11_numberOf_12 : decode cX11_numberOf 12 = .ok (.iconst (-1), 1) := by decide +kernel
theorem dX11_numberOf_13 : decode cX11_numberOf 13 = .ok (.if_icmp .ne 33, 3) := by decide +kernel
theorem dX11_numberOf_16 : decode cX11_numberOf 16 = .ok (.aload_n 0, 1) := by decide +kernel
theorem dX11_numberOf_17 : decode cX11_numberOf 17 = .ok (.getfield 83, 3) := by decide +kernel
theorem dX11_numberOf_20 : decode cX11_numberOf 20 = .ok (.iload_n 2, 1) := by decide +kernel
theorem dX11_numberOf_21 : decode cX11_numberOf 21 = .ok (.aload_n 0, 1) := by decide +kernel
theorem dX11_numberOf_22 : decode cX11_numberOf 22 = .ok (.getfield 394, 3) := by decide +kernel
theorem dX11_numberOf_25 : decode cX11_numberOf 25 = .ok (.iastore, 1) := by decide +kernel
theorem dX11_numberOf_26 : decode cX11_numberOf 26 = .ok (.aload_n 0, 1) := by decide +kernel
theorem dX11_numberOf_27 : decode cX11_numberOf 27 = .ok (.getfield 80, 3) := by decide +kernel
theorem dX11_numberOf_30 : decode cX11_numberOf 30 = .ok (.aload_n 0, 1) := by decide +kernel
theorem dX11_numberOf_31 : decode cX11_numberOf 31 = .ok (.getfield 394, 3) := by decide +kernel
theorem dX11_numberOf_34 : decode cX11_numberOf 34 = .ok (.iload_n 1, 1) := by decide +kernel
theorem dX11_numberOf_35 : decode cX11_numberOf 35 = .ok (.iastore, 1) := by decide +kernel
theorem dX11_numberOf_36 : decode cX11_numberOf 36 = .ok (.aload_n 0, 1) := by decide +kernel
theorem dX11_numberOf_37 : decode cX11_numberOf 37 = .ok (.dup, 1) := by decide +kernel
theorem dX11_numberOf_38 : decode cX11_numberOf 38 = .ok (.getfield 394, 3) := by decide +kernel
theorem dX11_numberOf_41 : decode cX11_numberOf 41 = .ok (.iconst 1, 1) := by decide +kernel
theorem dX11_numberOf_42 : decode cX11_numberOf 42 = .ok (.iadd, 1) := by decide +kernel
theorem dX11_numberOf_43 : decode cX11_numberOf 43 = .ok (.putfield 394, 3) := by decide +kernel
theorem dX11_numberOf_46 : decode cX11_numberOf 46 = .ok (.aload_n 0, 1) := by decide +kernel
theorem dX11_numberOf_47 : decode cX11_numberOf 47 = .ok (.getfield 83, 3) := by decide +kernel
theorem dX11_numberOf_50 : decode cX11_numberOf 50 = .ok (.iload_n 2, 1) := by decide +kernel
theorem dX11_numberOf_51 : decode cX11_numberOf 51 = .ok (.iaload, 1) := by decide +kernel
theorem dX11_numberOf_52 : decode cX11_numberOf 52 = .ok (.ireturn, 1) := by decide +kernel
theorem zw_87 : (Jvm.Cond.selects "HillSchoolModel" ({ cls := "HillSchoolModel", name := "placeOf", desc := "(I)I" } : Jvm.MethodName) ({ cls := "HillSchoolModel", name := "placeOf", desc := "(I)I" } : Jvm.MethodName)) ∈ zall := zmemG (zmj_0 87 rfl) rfl
theorem zw_1202 : (Jvm.Cond.fieldLink "HillSchoolModel" (394 : Nat) "HillSchoolModel" "nStates" "I") ∈ zall := zmemG (zmj_5 139 rfl) rfl
theorem zw_1673 : (Jvm.Cond.code ({ cls := "HillSchoolModel", name := "numberOf", desc := "(I)I" } : Jvm.MethodName) prog_13_method_84_code (3 : Nat) (Option.some Jvm.ClassFile.FieldType.int)) ∈ zall := zmemG (zmj_7 130 rfl) rfl
theorem zw_1674 : (Jvm.Cond.methodLink "HillSchoolModel" (391 : Nat) ({ cls := "HillSchoolModel", name := "placeOf", desc := "(I)I" } : Jvm.MethodName)) ∈ zall := zmemG (zmj_7 131 rfl) rfl
theorem zw_1676 : (Jvm.Cond.instanceMethod ({ cls := "HillSchoolModel", name := "placeOf", desc := "(I)I" } : Jvm.MethodName)) ∈ zall := zmemG (zmj_7 133 rfl) rfl
abbrev w_HM_numberOf : List Cond := .code yX11_numberOf cX11_numberOf 3 (some .int) :: zall
abbrev rm_HM_numberOf : Room := { frames := 1, cells := 0, slots := 0, locals := 22 }
theorem hd_HM_numberOf : yX11_numberOf.cls = "HillSchoolModel" ∧ yX11_numberOf.cls ≠ "java/lang/invoke/MethodHandle" ∧ yX11_numberOf.cls ≠ "java/lang/invoke/VarHandle" ∧ (parseMethodDescriptor yX11_numberOf.desc).map (fun d => d.parameters.length) = some 1 := by decide +kernel
def wd_HM_numberOf (cA : Nat → ClassId) (q0 q1 q2 q3 q4 q5 q6 q7 q8 q9 q10 q11 q12 q13 q14 q15 q16 q17 q18 q19 q20 q21 q22 q23 q24 q25 q26 q27 q28 q29 q30 q31 : Nat) (u0 u1 u2 u3 u4 u5 u6 u7 u8 u9 u10 u11 u12 u13 u14 u15 u16 u17 u18 u19 u20 : Int)  (i_nStates : Int) (i_states : Nat → Int) (i_table : Nat → Int) : va_W := [(q0, .inr (11, [.int (Int32.ofInt u0), .int (Int32.ofInt u1), .ref q1, .ref q2, .ref q3, .ref q4, .int (Int32.ofInt u2), .ref q5, .int (Int32.ofInt u3), .int (Int32.ofInt u4), .int (Int32.ofInt u5), .int (Int32.ofInt u6), .long (Int64.ofInt u7), .int (Int32.ofInt u8), .int (Int32.ofInt u9), .int (Int32.ofInt u10), .ref q6, .int (Int32.ofInt u11), .ref q7, .ref q8, .int (Int32.ofInt u12), .ref q9, .ref q10, .int (Int32.ofInt u13), .int (Int32.ofInt u14), .ref q11, .int (Int32.ofInt u15), .ref q12, .ref q13, .int (Int32.ofInt u16), .long (Int64.ofInt u17), .long (Int64.ofInt u18), .ref q14, .ref q15, .ref q16, .ref q17, .ref q18, .int (Int32.ofInt i_nStates), .ref q19, .ref q20, .ref q21, .ref q22, .ref q23, .ref q24, .ref q25, .ref q26, .ref q27, .ref q28, .ref q29, .ref q30, .long (Int64.ofInt u19), .ref q31, .int (Int32.ofInt u20)])), (q17, .inl (cA 0, 6720, .inl (za i_states))), (q18, .inl (cA 0, 16384, .inl (za i_table)))]
def wf_HM_numberOf (cA : Nat → ClassId) (q0 q1 q2 q3 q4 q5 q6 q7 q8 q9 q10 q11 q12 q13 q14 q15 q16 q17 q18 q19 q20 q21 q22 q23 q24 q25 q26 q27 q28 q29 q30 q31 : Nat) (u0 u1 u2 u3 u4 u5 u6 u7 u8 u9 u10 u11 u12 u13 u14 u15 u16 u17 u18 u19 u20 : Int)  (o : Int × Int × (Nat → Int) × (Nat → Int)) : va_W := wd_HM_numberOf cA q0 q1 q2 q3 q4 q5 q6 q7 q8 q9 q10 q11 q12 q13 q14 q15 q16 q17 q18 q19 q20 q21 q22 q23 q24 q25 q26 q27 q28 q29 q30 q31 u0 u1 u2 u3 u4 u5 u6 u7 u8 u9 u10 u11 u12 u13 u14 u15 u16 u17 u18 u19 u20 o.2.1 o.2.2.1 o.2.2.2
def f_HM_numberOf (x1 : Int) (i_nStates : Int) (i_states : Nat → Int) (i_table : Nat → Int) : Option (Int × Int × (Nat → Int) × (Nat → Int)) :=
  zd1 (f_HM_placeOf x1 i_states i_table) fun v1 =>
  zg 16384 i_table v1 fun v2 =>
  if zi_w v2 ≠ zi_w (-1) then
    zg 16384 i_table v1 fun v3 =>
    some (v3, i_nStates, i_states, i_table)
  else
    zs 16384 i_table v1 i_nStates fun a4 =>
    zs 6720 i_states i_nStates x1 fun a5 =>
    zn (i_nStates + 1) fun v6 =>
    zg 16384 a4 v1 fun v7 =>
    some (v7, v6, a5, a4)
set_option maxHeartbeats 4000000 in
set_option maxRecDepth 100000 in
theorem c_HM_numberOf (l : Launch) (ev : zEv) (dC : Nat → ClassId) (dI : Nat → Nat → Nat) (cA : Nat → ClassId) (q0 q1 q2 q3 q4 q5 q6 q7 q8 q9 q10 q11 q12 q13 q14 q15 q16 q17 q18 q19 q20 q21 q22 q23 q24 q25 q26 q27 q28 q29 q30 q31 : Nat) (u0 u1 u2 u3 u4 u5 u6 u7 u8 u9 u10 u11 u12 u13 u14 u15 u16 u17 u18 u19 u20 : Int) {x1 : Int} {i_nStates : Int} {i_states : Nat → Int} {i_table : Nat → Int} {out : Int × Int × (Nat → Int) × (Nat → Int)} (hf : f_HM_numberOf x1 i_nStates i_states i_table = some out) : xc_I l ev (dC, dI) vwCl (tyl cA) yX11_numberOf w_HM_numberOf rm_HM_numberOf [.ref q0, .int (Int32.ofInt x1)] (wd_HM_numberOf cA q0 q1 q2 q3 q4 q5 q6 q7 q8 q9 q10 q11 q12 q13 q14 q15 q16 q17 q18 q19 q20 q21 q22 q23 q24 q25 q26 q27 q28 q29 q30 q31 u0 u1 u2 u3 u4 u5 u6 u7 u8 u9 u10 u11 u12 u13 u14 u15 u16 u17 u18 u19 u20 i_nStates i_states i_table) (wf_HM_numberOf cA q0 q1 q2 q3 q4 q5 q6 q7 q8 q9 q10 q11 q12 q13 q14 q15 q16 q17 q18 q19 q20 q21 q22 q23 q24 q25 q26 q27 q28 q29 q30 q31 u0 u1 u2 u3 u4 u5 u6 u7 u8 u9 u10 u11 u12 u13 u14 u15 u16 u17 u18 u19 u20 out) out.1 := by
  refine xv_startI (cc := cX11_numberOf) (maxL := 3) (rt := .int) (by decide +kernel) rfl (Nat.le_of_ble_eq_true rfl) ?_
  intro p e s m args below meth c A Q H ls hx hb hml hts hown hK hA hP hD hS hl hE hret
  have hown : s.vm.findClass "HillSchoolModel" = some m.cls := hown
  have hz : ∀ w ∈ zall, w.before args s = true := fun w h => hts w (List.mem_cons_of_mem _ h)
  have hl : lv_has ls 3 [(0, .ref q0), (1, .int (Int32.ofInt x1))] := hl
  unfold f_HM_numberOf at hf
  refine lv_aload_n hx hb dX11_numberOf_0 rfl (lv_at hl 0 rfl) ?_
  refine lv_iload_n hx hb dX11_numberOf_1 rfl (lv_at hl 1 rfl) ?_
  refine xe_d1 hf (fun v1 hg hf => ?_)
  have hC : ([0, 1, 2] : List Nat).map (fun i => (wd_HM_numberOf cA q0 q1 q2 q3 q4 q5 q6 q7 q8 q9 q10 q11 q12 q13 q14 q15 q16 q17 q18 q19 q20 q21 q22 q23 q24 q25 q26 q27 q28 q29 q30 q31 u0 u1 u2 u3 u4 u5 u6 u7 u8 u9 u10 u11 u12 u13 u14 u15 u16 u17 u18 u19 u20 i_nStates i_states i_table)[i]?) = (wd_HM_placeOf cA q0 q1 q2 q3 q4 q5 q6 q7 q8 q9 q10 q11 q12 q13 q14 q15 q16 q17 q18 q19 q20 q21 q22 q23 q24 q25 q26 q27 q28 q29 q30 q31 u0 u1 u2 u3 u4 u5 u6 u7 u8 u9 u10 u11 u12 u13 u14 u15 u16 u17 u18 i_nStates u19 u20 i_states i_table).map some := rfl
  refine xv_afterI (ws' := (wd_HM_numberOf cA q0 q1 q2 q3 q4 q5 q6 q7 q8 q9 q10 q11 q12 q13 q14 q15 q16 q17 q18 q19 q20 q21 q22 q23 q24 q25 q26 q27 q28 q29 q30 q31 u0 u1 u2 u3 u4 u5 u6 u7 u8 u9 u10 u11 u12 u13 u14 u15 u16 u17 u18 u19 u20 i_nStates i_states i_table)) (isC := [0, 1, 2]) (ps := [some 0, some 1, some 2]) (va_runV (As := [.int (Int32.ofInt x1)]) (rest := []) ⟨hx, hb, hml, hown, hts⟩ (c_HM_placeOf l ev dC dI cA q0 q1 q2 q3 q4 q5 q6 q7 q8 q9 q10 q11 q12 q13 q14 q15 q16 q17 q18 q19 q20 q21 q22 q23 q24 q25 q26 q27 q28 q29 q30 q31 u0 u1 u2 u3 u4 u5 u6 u7 u8 u9 u10 u11 u12 u13 u14 u15 u16 u17 u18 i_nStates u19 u20 hg H.size) (cwV 1 hts (zgV zw_1674 zw_1676 zw_87 zw_115 zw_1677) rfl rfl rfl hd_HM_placeOf ⟨Nat.le_of_ble_eq_true rfl, Nat.le_of_ble_eq_true rfl⟩) (xv_preV (T := TX11) (N := 53) hE hA hS hK hP hD (isC := [0, 1, 2]) (by decide +kernel) hC (q0 := 0) (ci := 11) rfl rfl) rfl rfl hl.1 rfl (lv_room (Nat.le_of_ble_eq_true rfl)) dX11_numberOf_2 ⟨Nat.le_refl _, Nat.le_refl _⟩) hP hD hS hA (by decide +kernel) rfl hC rfl rfl (fun H locs hP hD hS => ?_)
  refine lv_istore_n (lv' := [(2, .int (Int32.ofInt v1)), (0, .ref q0), (1, .int (Int32.ofInt x1))]) hx hb dX11_numberOf_5 rfl hl (by decide) rfl (fun ls hl => ?_)
  refine lv_aload_n hx hb dX11_numberOf_6 rfl (lv_at hl 1 rfl) ?_
  refine va_get (D := (dC, dI)) (ci := 11) (v := .ref q18) (C := RX11) (T := TX11) (N := 53) hx hb hz zi_X11 hown hK hP 0 rfl rfl 36 (by decide) (hz _ zw_1201) (fun _ h9 => h9) rfl dX11_numberOf_7 ?_
  refine lv_iload_n hx hb dX11_numberOf_10 rfl (lv_at hl 0 rfl) ?_
  refine xi_iald hx hb hK hP 2 0 rfl rfl dX11_numberOf_11 hf (fun v2 hf => ?_)
  refine lv_iconst (v := Int32.ofInt (-1)) hx hb dX11_numberOf_12 rfl ?_
  refine xi_icmp_ne (tgt := 46) hx hb dX11_numberOf_13 (by decide) hf (fun hf => ?_) (fun hf => ?_)
  · refine lv_aload_n hx hb dX11_numberOf_46 rfl (lv_at hl 1 rfl) ?_
    refine va_get (D := (dC, dI)) (ci := 11) (v := .ref q18) (C := RX11) (T := TX11) (N := 53) hx hb hz zi_X11 hown hK hP 0 rfl rfl 36 (by decide) (hz _ zw_1201) (fun _ h9 => h9) rfl dX11_numberOf_47 ?_
    refine lv_iload_n hx hb dX11_numberOf_50 rfl (lv_at hl 0 rfl) ?_
    refine xi_iald hx hb hK hP 2 0 rfl rfl dX11_numberOf_51 hf (fun v3 hf => ?_)
    obtain rfl := Option.some.inj hf
    exact hret _ _ _ _ rfl dX11_numberOf_52 hP hD hS
  · refine lv_aload_n hx hb dX11_numberOf_16 rfl (lv_at hl 1 rfl) ?_
    refine va_get (D := (dC, dI)) (ci := 11) (v := .ref q18) (C := RX11) (T := TX11) (N := 53) hx hb hz zi_X11 hown hK hP 0 rfl rfl 36 (by decide) (hz _ zw_1201) (fun _ h9 => h9) rfl dX11_numberOf_17 ?_
    refine lv_iload_n hx hb dX11_numberOf_20 rfl (lv_at hl 0 rfl) ?_
    refine lv_aload_n hx hb dX11_numberOf_21 rfl (lv_at hl 1 rfl) ?_
    refine va_get (D := (dC, dI)) (ci := 11) (v := .int (Int32.ofInt i_nStates)) (C := RX11) (T := TX11) (N := 53) hx hb hz zi_X11 hown hK hP 0 rfl rfl 37 (by decide) (hz _ zw_1202) (fun _ h9 => h9) rfl dX11_numberOf_22 ?_
    refine xi_iast hx hb hK hP hD hS 2 0 rfl rfl dX11_numberOf_25 hf (fun a4 H locs hP hD hS hf => ?_)
    have hP : va_P (dC, dI) vwCl (wd_HM_numberOf cA q0 q1 q2 q3 q4 q5 q6 q7 q8 q9 q10 q11 q12 q13 q14 q15 q16 q17 q18 q19 q20 q21 q22 q23 q24 q25 q26 q27 q28 q29 q30 q31 u0 u1 u2 u3 u4 u5 u6 u7 u8 u9 u10 u11 u12 u13 u14 u15 u16 u17 u18 u19 u20 i_nStates i_states a4) H := hP
    have hD : va_D A (wd_HM_numberOf cA q0 q1 q2 q3 q4 q5 q6 q7 q8 q9 q10 q11 q12 q13 q14 q15 q16 q17 q18 q19 q20 q21 q22 q23 q24 q25 q26 q27 q28 q29 q30 q31 u0 u1 u2 u3 u4 u5 u6 u7 u8 u9 u10 u11 u12 u13 u14 u15 u16 u17 u18 u19 u20 i_nStates i_states a4) := hD
    refine lv_aload_n hx hb dX11_numberOf_26 rfl (lv_at hl 1 rfl) ?_
    refine va_get (D := (dC, dI)) (ci := 11) (v := .ref q17) (C := RX11) (T := TX11) (N := 53) hx hb hz zi_X11 hown hK hP 0 rfl rfl 35 (by decide) (hz _ zw_1200) (fun _ h9 => h9) rfl dX11_numberOf_27 ?_
    refine lv_aload_n hx hb dX11_numberOf_30 rfl (lv_at hl 1 rfl) ?_
    refine va_get (D := (dC, dI)) (ci := 11) (v := .int (Int32.ofInt i_nStates)) (C := RX11) (T := TX11) (N := 53) hx hb hz zi_X11 hown hK hP 0 rfl rfl 37 (by decide) (hz _ zw_1202) (fun _ h9 => h9) rfl dX11_numberOf_31 ?_
    refine lv_iload_n hx hb dX11_numberOf_34 rfl (lv_at hl 2 rfl) ?_
    refine xi_iast hx hb hK hP hD hS 1 0 rfl rfl dX11_numberOf_35 hf (fun a5 H locs hP hD hS hf => ?_)
    have hP : va_P (dC, dI) vwCl (wd_HM_numberOf cA q0 q1 q2 q3 q4 q5 q6 q7 q8 q9 q10 q11 q12 q13 q14 q15 q16 q17 q18 q19 q20 q21 q22 q23 q24 q25 q26 q27 q28 q29 q30 q31 u0 u1 u2 u3 u4 u5 u6 u7 u8 u9 u10 u11 u12 u13 u14 u15 u16 u17 u18 u19 u20 i_nStates a5 a4) H := hP
    have hD : va_D A (wd_HM_numberOf cA q0 q1 q2 q3 q4 q5 q6 q7 q8 q9 q10 q11 q12 q13 q14 q15 q16 q17 q18 q19 q20 q21 q22 q23 q24 q25 q26 q27 q28 q29 q30 q31 u0 u1 u2 u3 u4 u5 u6 u7 u8 u9 u10 u11 u12 u13 u14 u15 u16 u17 u18 u19 u20 i_nStates a5 a4) := hD
    refine lv_aload_n hx hb dX11_numberOf_36 rfl (lv_at hl 1 rfl) ?_
    refine lv_dup hx hb dX11_numberOf_37 rfl ?_
    refine va_get (D := (dC, dI)) (ci := 11) (v := .int (Int32.ofInt i_nStates)) (C := RX11) (T := TX11) (N := 53) hx hb hz zi_X11 hown hK hP 0 rfl rfl 37 (by decide) (hz _ zw_1202) (fun _ h9 => h9) rfl dX11_numberOf_38 ?_
    refine lv_iconst (v := Int32.ofInt 1) hx hb dX11_numberOf_41 rfl ?_
    refine xi_iadd hx hb dX11_numberOf_42 hf (fun v6 hf => ?_)
    refine va_put (D := (dC, dI)) (ci := 11) (v := .int (Int32.ofInt v6)) (ty := .int) (C := RX11) (T := TX11) (N := 53) hx hb hz zi_X11 tyX11 tyX11_ok nmX11 hown hK hP hD hS 0 rfl rfl 37 (by decide) (hz _ zw_1202) (fun _ h9 => h9) rfl (by decide +kernel) rfl rfl (Nat.le_of_ble_eq_true rfl) dX11_numberOf_43 (fun H locs hP hD hS => ?_)
    have hP : va_P (dC, dI) vwCl (wd_HM_numberOf cA q0 q1 q2 q3 q4 q5 q6 q7 q8 q9 q10 q11 q12 q13 q14 q15 q16 q17 q18 q19 q20 q21 q22 q23 q24 q25 q26 q27 q28 q29 q30 q31 u0 u1 u2 u3 u4 u5 u6 u7 u8 u9 u10 u11 u12 u13 u14 u15 u16 u17 u18 u19 u20 v6 a5 a4) H := hP
    have hD : va_D A (wd_HM_numberOf cA q0 q1 q2 q3 q4 q5 q6 q7 q8 q9 q10 q11 q12 q13 q14 q15 q16 q17 q18 q19 q20 q21 q22 q23 q24 q25 q26 q27 q28 q29 q30 q31 u0 u1 u2 u3 u4 u5 u6 u7 u8 u9 u10 u11 u12 u13 u14 u15 u16 u17 u18 u19 u20 v6 a5 a4) := hD
    refine lv_aload_n hx hb dX11_numberOf_46 rfl (lv_at hl 1 rfl) ?_
    refine va_get (D := (dC, dI)) (ci := 11) (v := .ref q18) (C := RX11) (T := TX11) (N := 53) hx hb hz zi_X11 hown hK hP 0 rfl rfl 36 (by decide) (hz _ zw_1201) (fun _ h9 => h9) rfl dX11_numberOf_47 ?_
    refine lv_iload_n hx hb dX11_numberOf_50 rfl (lv_at hl 0 rfl) ?_
    refine xi_iald hx hb hK hP 2 0 rfl rfl dX11_numberOf_51 hf (fun v7 hf => ?_)
    obtain rfl := Option.some.inj hf
    exact hret _ _ _ _ rfl dX11_numberOf_52 hP hD hS
theorem dX11_findCosts_0 : decode cX11_findCosts 0 = .ok (.iconst 0, 1) := by decide +kernel
theorem dX11_findCosts_1 : decode cX11_findCosts 1 = .ok (.istore_n 2, 1) := by decide +kernel
theorem dX11_findCosts_2 : decode cX11_findCosts 2 = .ok (.iload_n 2, 1) := by decide +kernel
theorem dX11_findCosts_3 : decode cX11_findCosts 3 = .ok (.aload_n 0, 1) := by decide +kernel
theorem dX11_findCosts_4 : decode cX11_findCosts 4 = .ok (.getfield 13, 3) := by decide +kernel
theorem dX11_findCosts_7 : decode cX11_findCosts 7 = .ok (.iconst 1, 1) := by decide +kernel
theorem dX11_findCosts_8 : decode cX11_findCosts 8 = .ok (.iaload, 1) := by decide +kernel
theorem dX11_findCosts_9 : decode cX11_findCosts 9 = .ok (.if_icmp .ge 143, 3) := by decide +kernel
theorem dX11_findCosts_12 : decode cX11_findCosts 12 = .ok (.iconst 0, 1) := by decide +kernel
theorem dX11_findCosts_13 : decode cX11_findCosts 13 = .ok (.istore_n 3, 1) := by decide +kernel
theorem dX11_findCosts_14 : decode cX11_findCosts 14 = .ok (.iload_n 3, 1) := by decide +kernel
theorem dX11_findCosts_15 : decode cX11_findCosts 15 = .ok (.iload_n 1, 1) := by decide +kernel
theorem dX11_findCosts_16 : decode cX11_findCosts 16 = .ok (.if_icmp .ge 130, 3) := by decide +kernel
theorem dX11_findCosts_19 : decode cX11_findCosts 19 = .ok (.iconst 0, 1) := by decide +kernel
theorem dX11_findCosts_20 : decode cX11_findCosts 20 = .ok (.istore 4, 2) := by decide +kernel
theorem dX11_findCosts_22 : decode cX11_findCosts 22 = .ok (.iload 4, 2) := by decide +kernel
theorem dX11_findCosts_24 : decode cX11_findCosts 24 = .ok (.bipush 16, 2) := by decide +kernel
theorem dX11_findCosts_26 : decode cX11_findCosts 26 = .ok (.if_icmp .ge 114, 3) := by decide +kernel
theorem dX11_findCosts_29 : decode cX11_findCosts 29 = .ok (.iload 4, 2) := by decide +kernel
theorem dX11_findCosts_31 : decode cX11_findCosts 31 = .ok (.iconst 4, 1) := by decide +kernel
theorem dX11_findCosts_32 : decode cX11_findCosts 32 = .ok (.idiv, 1) := by decide +kernel
theorem dX11_findCosts_33 : decode cX11_findCosts 33 = .ok (.aload_n 0, 1) := by decide +kernel
theorem dX11_findCosts_34 : decode cX11_findCosts 34 = .ok (.invokevirtual 140, 3) := by decide +kernel
theorem dX11_findCosts_37 : decode cX11_findCosts 37 = .ok (.if_icmp .ge 18, 3) := by decide +kernel
theorem dX11_findCosts_40 : decode cX11_findCosts 40 = .ok (.iload 4, 2) := by decide +kernel
theorem dX11_findCosts_42 : decode cX11_findCosts 42 = .ok (.iconst 4, 1) := by decide +kernel
theorem dX11_findCosts_43 : decode cX11_findCosts 43 = .ok (.irem, 1) := by decide +kernel
theorem dX11_findCosts_44 : decode cX11_findCosts 44 = .ok (.aload_n 0, 1) := by decide +kernel
theorem dX11_findCosts_45 : decode cX11_findCosts 45 = .ok (.invokevirtual 140, 3) := by decide +kernel
theorem dX11_findCosts_48 : decode cX11_findCosts 48 = .ok (.if_icmp .ge 7, 3) := by decide +kernel
theorem dX11_findCosts_51 : decode cX11_findCosts 51 = .ok (.iconst 1, 1) := by decide +kernel
theorem dX11_findCosts_52 : decode cX11_findCosts 52 = .ok (.goto 4, 3) := by decide +kernel
theorem dX11_findCosts_55 : decode cX11_findCosts 55 = .ok (.iconst 0, 1) := by decide +kernel
theorem dX11_findCosts_56 : decode cX11_findCosts 56 = .ok (.istore 5, 2) := by decide +kernel
theorem dX11_findCosts_58 : decode cX11_findCosts 58 = .ok (.iconst 0, 1) := by decide +kernel
theorem dX11_findCosts_59 : decode cX11_findCosts 59 = .ok (.istore 6, 2) := by decide +kernel
theorem dX11_findCosts_61 : decode cX11_findCosts 61 = .ok (.iload 6, 2) := by decide +kernel
theorem dX11_findCosts_63 : decode cX11_findCosts 63 = .ok (.bipush 25, 2) := by decide +kernel
theorem dX11_findCosts_65 : decode cX11_findCosts 65 = .ok (.if_icmp .ge 69, 3) := by decide +kernel
theorem dX11_findCosts_68 : decode cX11_findCosts 68 = .ok (.aload_n 0, 1) := by decide +kernel
theorem dX11_findCosts_69 : decode cX11_findCosts 69 = .ok (.getfield 93, 3) := by decide +kernel
theorem dX11_findCosts_72 : decode cX11_findCosts 72 = .ok (.iload_n 2, 1) := by decide +kernel
theorem dX11_findCosts_73 : decode cX11_findCosts 73 = .ok (.iconst 5, 1) := by decide +kernel
theorem dX11_findCosts_74 : decode cX11_findCosts 74 = .ok (.imul, 1) := by decide +kernel
theorem dX11_findCosts_75 : decode cX11_findCosts 75 = .ok (.iload_n 3, 1) := by decide +kernel
theorem dX11_findCosts_76 : decode cX11_findCosts 76 = .ok (.iadd, 1) := by decide +kernel
theorem dX11_findCosts_77 : decode cX11_findCosts 77 = .ok (.bipush 16, 2) := by decide +kernel
theorem dX11_findCosts_79 : decode cX11_findCosts 79 = .ok (.imul, 1) := by decide +kernel
theorem dX11_findCosts_80 : decode cX11_findCosts 80 = .ok (.iload 4, 2) := by decide +kernel
theorem dX11_findCosts_82 : decode cX11_findCosts 82 = .ok (.iadd, 1) := by decide +kernel
theorem dX11_findCosts_83 : decode cX11_findCosts 83 = .ok (.bipush 25, 2) := by decide +kernel
theorem dX11_findCosts_85 : decode cX11_findCosts 85 = .ok (.imul, 1) := by decide +kernel
theorem dX11_findCosts_86 : decode cX11_findCosts 86 = .ok (.iload 6, 2) := by decide +kernel
theorem dX11_findCosts_88 : decode cX11_findCosts 88 = .ok (.iadd, 1) := by decide +kernel
theorem dX11_findCosts_89 : decode cX11_findCosts 89 = .ok (.iload 5, 2) := by decide +kernel
theorem dX11_findCosts_91 : decode cX11_findCosts 91 = .ok (.ifCond .eq 35, 3) := by decide +kernel
theorem dX11_findCosts_94 : decode cX11_findCosts 94 = .ok (.aload_n 0, 1) := by decide +kernel
theorem dX11_findCosts_95 : decode cX11_findCosts 95 = .ok (.iload_n 2, 1) := by decide +kernel
theorem dX11_findCosts_96 : decode cX11_findCosts 96 = .ok (.aload_n 0, 1) := by decide +kernel
theorem dX11_findCosts_97 : decode cX11_findCosts 97 = .ok (.getfield 77, 3) := by decide +kernel
theorem dX11_findCosts_100 : decode cX11_findCosts 100 = .ok (.iload_n 3, 1) := by decide +kernel
theorem dX11_findCosts_101 : decode cX11_findCosts 101 = .ok (.iaload, 1) := by decide +kernel
theorem dX11_findCosts_102 : decode cX11_findCosts 102 = .ok (.iload 4, 2) := by decide +kernel
theorem dX11_findCosts_104 : decode cX11_findCosts 104 = .ok (.iconst 4, 1) := by decide +kernel
theorem dX11_findCosts_105 : decode cX11_findCosts 105 = .ok (.idiv, 1) := by decide +kernel
theorem dX11_findCosts_106 : decode cX11_findCosts 106 = .ok (.iload 4, 2) := by decide +kernel
theorem dX11_findCosts_108 : decode cX11_findCosts 108 = .ok (.iconst 4, 1) := by decide +kernel
theorem dX11_findCosts_109 : decode cX11_findCosts 109 = .ok (.irem, 1) := by decide +kernel
theorem dX11_findCosts_110 : decode cX11_findCosts 110 = .ok (.iload 6, 2) := by decide +kernel
theorem dX11_findCosts_112 : decode cX11_findCosts 112 = .ok (.iconst 5, 1) := by decide +kernel
theorem dX11_findCosts_113 : decode cX11_findCosts 113 = .ok (.idiv, 1) := by decide +kernel
theorem dX11_findCosts_114 : decode cX11_findCosts 114 = .ok (.iconst 1, 1) := by decide +kernel
theorem dX11_findCosts_115 : decode cX11_findCosts 115 = .ok (.iadd, 1) := by decide +kernel
theorem dX11_findCosts_116 : decode cX11_findCosts 116 = .ok (.iload 6, 2) := by decide +kernel
theorem dX11_findCosts_118 : decode cX11_findCosts 118 = .ok (.iconst 5, 1) := by decide +kernel
theorem dX11_findCosts_119 : decode cX11_findCosts 119 = .ok (.irem, 1) := by decide +kernel
theorem dX11_findCosts_120 : decode cX11_findCosts 120 = .ok (.invokevirtual 352, 3) := by decide +kernel
theorem dX11_findCosts_123 : decode cX11_findCosts 123 = .ok (.goto 4, 3) := by decide +kernel
theorem dX11_findCosts_126 : decode cX11_findCosts 126 = .ok (.iconst (-1), 1) := by decide +kernel
theorem dX11_findCosts_127 : decode cX11_findCosts 127 = .ok (.iastore, 1) := by decide +kernel
theorem dX11_findCosts_128 : decode cX11_findCosts 128 = .ok (.iinc 6 1, 3) := by decide +kernel
theorem dX11_findCosts_131 : decode cX11_findCosts 131 = .ok (.goto (-70), 3) := by decide +kernel
theorem dX11_findCosts_134 : decode cX11_findCosts 134 = .ok (.iinc 4 1, 3) := by decide +kernel
theorem dX11_findCosts_137 : decode cX11_findCosts 137 = .ok (.goto (-115), 3) := by decide +kernel
theorem dX11_findCosts_140 : decode cX11_findCosts 140 = .ok (.iinc 3 1, 3) := by decide +kernel
theorem dX11_findCosts_143 : decode cX11_findCosts 143 = .ok (.goto (-129), 3) := by decide +kernel
theorem dX11_findCosts_146 : decode cX11_findCosts 146 = .ok (.iinc 2 1, 3) := by decide +kernel
theorem dX11_findCosts_149 : decode cX11_findCosts 149 = .ok (.goto (-147), 3) := by decide +kernel
theorem dX11_findCosts_152 : decode cX11_findCosts 152 = .ok (.return_, 1) := by decide +kernel
theorem zw_1199 : (Jvm.Cond.fieldLink "HillSchoolModel" (77 : Nat) "HillSchoolModel" "weights" "[I") ∈ zall := zmemG (zmj_5 136 rfl) rfl
theorem zw_1665 : (Jvm.Cond.code ({ cls := "HillSchoolModel", name := "findCosts", desc := "(I)V" } : Jvm.MethodName) prog_13_method_87_code (7 : Nat) (Option.none : Option Jvm.ClassFile.FieldType)) ∈ zall := zmemG (zmj_7 122 rfl) rfl
abbrev w_HM_findCosts : List Cond := .code yX11_findCosts cX11_findCosts 7 none :: zall
abbrev rm_HM_findCosts : Room := { frames := 4, cells := 0, slots := 0, locals := 103 }
theorem hd_HM_findCosts : yX11_findCosts.cls = "HillSchoolModel" ∧ yX11_findCosts.cls ≠ "java/lang/invoke/MethodHandle" ∧ yX11_findCosts.cls ≠ "java/lang/invoke/VarHandle" ∧ (parseMethodDescriptor yX11_findCosts.desc).map (fun d => d.parameters.length) = some 1 := by decide +kernel
def wd_HM_findCosts (cA : Nat → ClassId) (q0 q1 q2 q3 q4 q5 q6 q7 q8 q9 q10 q11 q12 q13 q14 q15 q16 q17 q18 q19 q20 q21 q22 q23 q24 q25 q26 q27 q28 q29 q30 q31 : Nat) (u0 u1 u2 u3 u4 u5 u6 u7 u8 u9 u10 u11 u12 u13 u14 u15 u16 u17 : Int) (i_row : Nat → Int) (i_weights : Nat → Int) (i_law : Int) (i_broken : Int) (i_value : Int) (i_sum : Int) (i_set : Nat → Int) (i_rest : Nat → Int) (i_costs : Nat → Int) : va_W := [(q0, .inr (11, [.int (Int32.ofInt u0), .int (Int32.ofInt u1), .ref q1, .ref q2, .ref q3, .ref q4, .int (Int32.ofInt u2), .ref q5, .int (Int32.ofInt u3), .int (Int32.ofInt u4), .int (Int32.ofInt u5), .int (Int32.ofInt u6), .long (Int64.ofInt u7), .int (Int32.ofInt u8), .int (Int32.ofInt u9), .int (Int32.ofInt u10), .ref q6, .int (Int32.ofInt u11), .ref q7, .ref q8, .int (Int32.ofInt u12), .ref q9, .ref q10, .int (Int32.ofInt u13), .int (Int32.ofInt u14), .ref q11, .int (Int32.ofInt i_law), .ref q12, .ref q13, .int (Int32.ofInt i_broken), .long (Int64.ofInt i_value), .long (Int64.ofInt i_sum), .ref q14, .ref q15, .ref q16, .ref q17, .ref q18, .int (Int32.ofInt u15), .ref q19, .ref q20, .ref q21, .ref q22, .ref q23, .ref q24, .ref q25, .ref q26, .ref q27, .ref q28, .ref q29, .ref q30, .long (Int64.ofInt u16), .ref q31, .int (Int32.ofInt u17)])), (q2, .inl (cA 0, 5580, .inl (za i_row))), (q12, .inl (cA 2, 13, .inr (.inl (zl i_set)))), (q13, .inl (cA 2, 400, .inr (.inl (zl i_rest)))), (q16, .inl (cA 0, 5, .inl (za i_weights))), (q21, .inl (cA 0, 12000, .inl (za i_costs)))]
def wf_HM_findCosts (cA : Nat → ClassId) (q0 q1 q2 q3 q4 q5 q6 q7 q8 q9 q10 q11 q12 q13 q14 q15 q16 q17 q18 q19 q20 q21 q22 q23 q24 q25 q26 q27 q28 q29 q30 q31 : Nat) (u0 u1 u2 u3 u4 u5 u6 u7 u8 u9 u10 u11 u12 u13 u14 u15 u16 u17 : Int) (i_row : Nat → Int) (i_weights : Nat → Int) (o : Int × Int × Int × Int × (Nat → Int) × (Nat → Int) × (Nat → Int)) : va_W := wd_HM_findCosts cA q0 q1 q2 q3 q4 q5 q6 q7 q8 q9 q10 q11 q12 q13 q14 q15 q16 q17 q18 q19 q20 q21 q22 q23 q24 q25 q26 q27 q28 q29 q30 q31 u0 u1 u2 u3 u4 u5 u6 u7 u8 u9 u10 u11 u12 u13 u14 u15 u16 u17 i_row i_weights o.1 o.2.1 o.2.2.1 o.2.2.2.1 o.2.2.2.2.1 o.2.2.2.2.2.1 o.2.2.2.2.2.2
def f_HM_findCosts_127 (i_row : Nat → Int) (i_weights : Nat → Int) (k2 : Int → Int → Int → Int → Int → Int → (Nat → Int) → (Nat → Int) → (Nat → Int) → Option (Int × Int × Int × Int × (Nat → Int) × (Nat → Int) × (Nat → Int))) (k14 : Int → Int → Int → Int → Int → Int → Int → (Nat → Int) → (Nat → Int) → (Nat → Int) → Option (Int × Int × Int × Int × (Nat → Int) × (Nat → Int) × (Nat → Int))) (k22 : Int → Int → Int → Int → Int → Int → Int → Int → (Nat → Int) → (Nat → Int) → (Nat → Int) → Option (Int × Int × Int × Int × (Nat → Int) × (Nat → Int) × (Nat → Int))) (k61 : Int → Int → Int → Int → Int → Int → Int → Int → Int → Int → (Nat → Int) → (Nat → Int) → (Nat → Int) → Option (Int × Int × Int × Int × (Nat → Int) × (Nat → Int) × (Nat → Int))) (x1 : Int) (x2 : Int) (x3 : Int) (x4 : Int) (x5 : Int) (x6 : Int) (s1 : Int) (s2 : Int) (i_law : Int) (i_broken : Int) (i_value : Int) (i_sum : Int) (i_set : Nat → Int) (i_rest : Nat → Int) (i_costs : Nat → Int) : Option (Int × Int × Int × Int × (Nat → Int) × (Nat → Int) × (Nat → Int)) :=
  zs 12000 i_costs s1 s2 fun a1 =>
  zn (x6 + 1) fun v2 =>
  k61 x1 x2 x3 x4 x5 v2 i_law i_broken i_value i_sum i_set i_rest a1
def f_HM_findCosts_61_b (i_row : Nat → Int) (i_weights : Nat → Int) (k2 : Int → Int → Int → Int → Int → Int → (Nat → Int) → (Nat → Int) → (Nat → Int) → Option (Int × Int × Int × Int × (Nat → Int) × (Nat → Int) × (Nat → Int))) (k14 : Int → Int → Int → Int → Int → Int → Int → (Nat → Int) → (Nat → Int) → (Nat → Int) → Option (Int × Int × Int × Int × (Nat → Int) × (Nat → Int) × (Nat → Int))) (k22 : Int → Int → Int → Int → Int → Int → Int → Int → (Nat → Int) → (Nat → Int) → (Nat → Int) → Option (Int × Int × Int × Int × (Nat → Int) × (Nat → Int) × (Nat → Int))) (k61 : Int → Int → Int → Int → Int → Int → Int → Int → Int → Int → (Nat → Int) → (Nat → Int) → (Nat → Int) → Option (Int × Int × Int × Int × (Nat → Int) × (Nat → Int) × (Nat → Int))) (x1 : Int) (x2 : Int) (x3 : Int) (x4 : Int) (x5 : Int) (x6 : Int) (i_law : Int) (i_broken : Int) (i_value : Int) (i_sum : Int) (i_set : Nat → Int) (i_rest : Nat → Int) (i_costs : Nat → Int) : Option (Int × Int × Int × Int × (Nat → Int) × (Nat → Int) × (Nat → Int)) :=
  if zi_w 25 ≤ zi_w x6 then
    zn (x4 + 1) fun v1 =>
    k22 x1 x2 x3 v1 i_law i_broken i_value i_sum i_set i_rest i_costs
  else
    zn (x2 * 5) fun v2 =>
    zn (v2 + x3) fun v3 =>
    zn (v3 * 16) fun v4 =>
    zn (v4 + x4) fun v5 =>
    zn (v5 * 25) fun v6 =>
    zn (v6 + x6) fun v7 =>
    if zi_w x5 = 0 then
      f_HM_findCosts_127 i_row i_weights k2 k14 k22 k61 x1 x2 x3 x4 x5 x6 v7 (-1) i_law i_broken i_value i_sum i_set i_rest i_costs
    else
      zg 5 i_weights x3 fun v8 =>
      if zi_w 4 = 0 then none else zn (zi_div x4 4) fun v9 =>
      if zi_w 4 = 0 then none else zn (zi_rem x4 4) fun v10 =>
      if zi_w 5 = 0 then none else zn (zi_div x6 5) fun v11 =>
      zn (v11 + 1) fun v12 =>
      if zi_w 5 = 0 then none else zn (zi_rem x6 5) fun v13 =>
      zd7 (f_HM_tiring x2 v8 v9 v10 v12 v13 i_row i_law i_broken i_value i_sum i_set i_rest) fun v14 v15 v16 v17 v18 a19 a20 =>
      f_HM_findCosts_127 i_row i_weights k2 k14 k22 k61 x1 x2 x3 x4 x5 x6 v7 v14 v15 v16 v17 v18 a19 a20 i_costs
def f_HM_findCosts_61 (i_row : Nat → Int) (i_weights : Nat → Int) (k2 : Int → Int → Int → Int → Int → Int → (Nat → Int) → (Nat → Int) → (Nat → Int) → Option (Int × Int × Int × Int × (Nat → Int) × (Nat → Int) × (Nat → Int))) (k14 : Int → Int → Int → Int → Int → Int → Int → (Nat → Int) → (Nat → Int) → (Nat → Int) → Option (Int × Int × Int × Int × (Nat → Int) × (Nat → Int) × (Nat → Int))) (k22 : Int → Int → Int → Int → Int → Int → Int → Int → (Nat → Int) → (Nat → Int) → (Nat → Int) → Option (Int × Int × Int × Int × (Nat → Int) × (Nat → Int) × (Nat → Int))) : Nat → Int → Int → Int → Int → Int → Int → Int → Int → Int → Int → (Nat → Int) → (Nat → Int) → (Nat → Int) → Option (Int × Int × Int × Int × (Nat → Int) × (Nat → Int) × (Nat → Int))
  | 0 => fun _ _ _ _ _ _ _ _ _ _ _ _ _ => none
  | n + 1 => fun y0 y1 y2 y3 y4 y5 y6 y7 y8 y9 y10 y11 y12 => f_HM_findCosts_61_b i_row i_weights k2 k14 k22 (f_HM_findCosts_61 i_row i_weights k2 k14 k22 n) y0 y1 y2 y3 y4 y5 y6 y7 y8 y9 y10 y11 y12
def f_HM_findCosts_56 (i_row : Nat → Int) (i_weights : Nat → Int) (k2 : Int → Int → Int → Int → Int → Int → (Nat → Int) → (Nat → Int) → (Nat → Int) → Option (Int × Int × Int × Int × (Nat → Int) × (Nat → Int) × (Nat → Int))) (k14 : Int → Int → Int → Int → Int → Int → Int → (Nat → Int) → (Nat → Int) → (Nat → Int) → Option (Int × Int × Int × Int × (Nat → Int) × (Nat → Int) × (Nat → Int))) (k22 : Int → Int → Int → Int → Int → Int → Int → Int → (Nat → Int) → (Nat → Int) → (Nat → Int) → Option (Int × Int × Int × Int × (Nat → Int) × (Nat → Int) × (Nat → Int))) (x1 : Int) (x2 : Int) (x3 : Int) (x4 : Int) (s0 : Int) (i_law : Int) (i_broken : Int) (i_value : Int) (i_sum : Int) (i_set : Nat → Int) (i_rest : Nat → Int) (i_costs : Nat → Int) : Option (Int × Int × Int × Int × (Nat → Int) × (Nat → Int) × (Nat → Int)) :=
  f_HM_findCosts_61 i_row i_weights k2 k14 k22 zfu x1 x2 x3 x4 s0 0 i_law i_broken i_value i_sum i_set i_rest i_costs
def f_HM_findCosts_55 (i_row : Nat → Int) (i_weights : Nat → Int) (k2 : Int → Int → Int → Int → Int → Int → (Nat → Int) → (Nat → Int) → (Nat → Int) → Option (Int × Int × Int × Int × (Nat → Int) × (Nat → Int) × (Nat → Int))) (k14 : Int → Int → Int → Int → Int → Int → Int → (Nat → Int) → (Nat → Int) → (Nat → Int) → Option (Int × Int × Int × Int × (Nat → Int) × (Nat → Int) × (Nat → Int))) (k22 : Int → Int → Int → Int → Int → Int → Int → Int → (Nat → Int) → (Nat → Int) → (Nat → Int) → Option (Int × Int × Int × Int × (Nat → Int) × (Nat → Int) × (Nat → Int))) (x1 : Int) (x2 : Int) (x3 : Int) (x4 : Int) (i_law : Int) (i_broken : Int) (i_value : Int) (i_sum : Int) (i_set : Nat → Int) (i_rest : Nat → Int) (i_costs : Nat → Int) : Option (Int × Int × Int × Int × (Nat → Int) × (Nat → Int) × (Nat → Int)) :=
  f_HM_findCosts_56 i_row i_weights k2 k14 k22 x1 x2 x3 x4 0 i_law i_broken i_value i_sum i_set i_rest i_costs
def f_HM_findCosts_22_b (i_row : Nat → Int) (i_weights : Nat → Int) (k2 : Int → Int → Int → Int → Int → Int → (Nat → Int) → (Nat → Int) → (Nat → Int) → Option (Int × Int × Int × Int × (Nat → Int) × (Nat → Int) × (Nat → Int))) (k14 : Int → Int → Int → Int → Int → Int → Int → (Nat → Int) → (Nat → Int) → (Nat → Int) → Option (Int × Int × Int × Int × (Nat → Int) × (Nat → Int) × (Nat → Int))) (k22 : Int → Int → Int → Int → Int → Int → Int → Int → (Nat → Int) → (Nat → Int) → (Nat → Int) → Option (Int × Int × Int × Int × (Nat → Int) × (Nat → Int) × (Nat → Int))) (x1 : Int) (x2 : Int) (x3 : Int) (x4 : Int) (i_law : Int) (i_broken : Int) (i_value : Int) (i_sum : Int) (i_set : Nat → Int) (i_rest : Nat → Int) (i_costs : Nat → Int) : Option (Int × Int × Int × Int × (Nat → Int) × (Nat → Int) × (Nat → Int)) :=
  if zi_w 16 ≤ zi_w x4 then
    zn (x3 + 1) fun v1 =>
    k14 x1 x2 v1 i_law i_broken i_value i_sum i_set i_rest i_costs
  else
    if zi_w 4 = 0 then none else zn (zi_div x4 4) fun v2 =>
    zd1 (f_HM_columns i_row) fun v3 =>
    if zi_w v3 ≤ zi_w v2 then
      f_HM_findCosts_55 i_row i_weights k2 k14 k22 x1 x2 x3 x4 i_law i_broken i_value i_sum i_set i_rest i_costs
    else
      if zi_w 4 = 0 then none else zn (zi_rem x4 4) fun v4 =>
      zd1 (f_HM_columns i_row) fun v5 =>
      if zi_w v5 ≤ zi_w v4 then
        f_HM_findCosts_55 i_row i_weights k2 k14 k22 x1 x2 x3 x4 i_law i_broken i_value i_sum i_set i_rest i_costs
      else
        f_HM_findCosts_56 i_row i_weights k2 k14 k22 x1 x2 x3 x4 1 i_law i_broken i_value i_sum i_set i_rest i_costs
def f_HM_findCosts_22 (i_row : Nat → Int) (i_weights : Nat → Int) (k2 : Int → Int → Int → Int → Int → Int → (Nat → Int) → (Nat → Int) → (Nat → Int) → Option (Int × Int × Int × Int × (Nat → Int) × (Nat → Int) × (Nat → Int))) (k14 : Int → Int → Int → Int → Int → Int → Int → (Nat → Int) → (Nat → Int) → (Nat → Int) → Option (Int × Int × Int × Int × (Nat → Int) × (Nat → Int) × (Nat → Int))) : Nat → Int → Int → Int → Int → Int → Int → Int → Int → (Nat → Int) → (Nat → Int) → (Nat → Int) → Option (Int × Int × Int × Int × (Nat → Int) × (Nat → Int) × (Nat → Int))
  | 0 => fun _ _ _ _ _ _ _ _ _ _ _ => none
  | n + 1 => fun y0 y1 y2 y3 y4 y5 y6 y7 y8 y9 y10 => f_HM_findCosts_22_b i_row i_weights k2 k14 (f_HM_findCosts_22 i_row i_weights k2 k14 n) y0 y1 y2 y3 y4 y5 y6 y7 y8 y9 y10
def f_HM_findCosts_14_b (i_row : Nat → Int) (i_weights : Nat → Int) (k2 : Int → Int → Int → Int → Int → Int → (Nat → Int) → (Nat → Int) → (Nat → Int) → Option (Int × Int × Int × Int × (Nat → Int) × (Nat → Int) × (Nat → Int))) (k14 : Int → Int → Int → Int → Int → Int → Int → (Nat → Int) → (Nat → Int) → (Nat → Int) → Option (Int × Int × Int × Int × (Nat → Int) × (Nat → Int) × (Nat → Int))) (x1 : Int) (x2 : Int) (x3 : Int) (i_law : Int) (i_broken : Int) (i_value : Int) (i_sum : Int) (i_set : Nat → Int) (i_rest : Nat → Int) (i_costs : Nat → Int) : Option (Int × Int × Int × Int × (Nat → Int) × (Nat → Int) × (Nat → Int)) :=
  if zi_w x1 ≤ zi_w x3 then
    zn (x2 + 1) fun v1 =>
    k2 x1 v1 i_law i_broken i_value i_sum i_set i_rest i_costs
  else
    f_HM_findCosts_22 i_row i_weights k2 k14 zfu x1 x2 x3 0 i_law i_broken i_value i_sum i_set i_rest i_costs
def f_HM_findCosts_14 (i_row : Nat → Int) (i_weights : Nat → Int) (k2 : Int → Int → Int → Int → Int → Int → (Nat → Int) → (Nat → Int) → (Nat → Int) → Option (Int × Int × Int × Int × (Nat → Int) × (Nat → Int) × (Nat → Int))) : Nat → Int → Int → Int → Int → Int → Int → Int → (Nat → Int) → (Nat → Int) → (Nat → Int) → Option (Int × Int × Int × Int × (Nat → Int) × (Nat → Int) × (Nat → Int))
  | 0 => fun _ _ _ _ _ _ _ _ _ _ => none
  | n + 1 => fun y0 y1 y2 y3 y4 y5 y6 y7 y8 y9 => f_HM_findCosts_14_b i_row i_weights k2 (f_HM_findCosts_14 i_row i_weights k2 n) y0 y1 y2 y3 y4 y5 y6 y7 y8 y9
def f_HM_findCosts_2_b (i_row : Nat → Int) (i_weights : Nat → Int) (k2 : Int → Int → Int → Int → Int → Int → (Nat → Int) → (Nat → Int) → (Nat → Int) → Option (Int × Int × Int × Int × (Nat → Int) × (Nat → Int) × (Nat → Int))) (x1 : Int) (x2 : Int) (i_law : Int) (i_broken : Int) (i_value : Int) (i_sum : Int) (i_set : Nat → Int) (i_rest : Nat → Int) (i_costs : Nat → Int) : Option (Int × Int × Int × Int × (Nat → Int) × (Nat → Int) × (Nat → Int)) :=
  zg 5580 i_row 1 fun v1 =>
  if zi_w v1 ≤ zi_w x2 then
    some (i_law, i_broken, i_value, i_sum, i_set, i_rest, i_costs)
  else
    f_HM_findCosts_14 i_row i_weights k2 zfu x1 x2 0 i_law i_broken i_value i_sum i_set i_rest i_costs
def f_HM_findCosts_2 (i_row : Nat → Int) (i_weights : Nat → Int) : Nat → Int → Int → Int → Int → Int → Int → (Nat → Int) → (Nat → Int) → (Nat → Int) → Option (Int × Int × Int × Int × (Nat → Int) × (Nat → Int) × (Nat → Int))
  | 0 => fun _ _ _ _ _ _ _ _ _ => none
  | n + 1 => fun y0 y1 y2 y3 y4 y5 y6 y7 y8 => f_HM_findCosts_2_b i_row i_weights (f_HM_findCosts_2 i_row i_weights n) y0 y1 y2 y3 y4 y5 y6 y7 y8
def f_HM_findCosts (x1 : Int) (i_row : Nat → Int) (i_weights : Nat → Int) (i_law : Int) (i_broken : Int) (i_value : Int) (i_sum : Int) (i_set : Nat → Int) (i_rest : Nat → Int) (i_costs : Nat → Int) : Option (Int × Int × Int × Int × (Nat → Int) × (Nat → Int) × (Nat → Int)) :=
  f_HM_findCosts_2 i_row i_weights zfu x1 0 i_law i_broken i_value i_sum i_set i_rest i_costs
set_option maxHeartbeats 4000000 in
set_option maxRecDepth 100000 in
theorem c_HM_findCosts (l : Launch) (ev : zEv) (dC : Nat → ClassId) (dI : Nat → Nat → Nat) (cA : Nat → ClassId) (q0 q1 q2 q3 q4 q5 q6 q7 q8 q9 q10 q11 q12 q13 q14 q15 q16 q17 q18 q19 q20 q21 q22 q23 q24 q25 q26 q27 q28 q29 q30 q31 : Nat) (u0 u1 u2 u3 u4 u5 u6 u7 u8 u9 u10 u11 u12 u13 u14 u15 u16 u17 : Int) {x1 : Int} {i_row : Nat → Int} {i_weights : Nat → Int} {i_law : Int} {i_broken : Int} {i_value : Int} {i_sum : Int} {i_set : Nat → Int} {i_rest : Nat → Int} {i_costs : Nat → Int} {out : Int × Int × Int × Int × (Nat → Int) × (Nat → Int) × (Nat → Int)} (hf : f_HM_findCosts x1 i_row i_weights i_law i_broken i_value i_sum i_set i_rest i_costs = some out) : xc_V l ev (dC, dI) vwCl (tyl cA) yX11_findCosts w_HM_findCosts rm_HM_findCosts [.ref q0, .int (Int32.ofInt x1)] (wd_HM_findCosts cA q0 q1 q2 q3 q4 q5 q6 q7 q8 q9 q10 q11 q12 q13 q14 q15 q16 q17 q18 q19 q20 q21 q22 q23 q24 q25 q26 q27 q28 q29 q30 q31 u0 u1 u2 u3 u4 u5 u6 u7 u8 u9 u10 u11 u12 u13 u14 u15 u16 u17 i_row i_weights i_law i_broken i_value i_sum i_set i_rest i_costs) (wf_HM_findCosts cA q0 q1 q2 q3 q4 q5 q6 q7 q8 q9 q10 q11 q12 q13 q14 q15 q16 q17 q18 q19 q20 q21 q22 q23 q24 q25 q26 q27 q28 q29 q30 q31 u0 u1 u2 u3 u4 u5 u6 u7 u8 u9 u10 u11 u12 u13 u14 u15 u16 u17 i_row i_weights out) := by
  refine xv_startV (cc := cX11_findCosts) (maxL := 7) (by decide +kernel) rfl (Nat.le_of_ble_eq_true rfl) ?_
  intro p e s m args below meth c A Q H ls hx hb hml hts hown hK hA hP hD hS hl hE hret
  have hown : s.vm.findClass "HillSchoolModel" = some m.cls := hown
  have hz : ∀ w ∈ zall, w.before args s = true := fun w h => hts w (List.mem_cons_of_mem _ h)
  have hl : lv_has ls 7 [(0, .ref q0), (1, .int (Int32.ofInt x1))] := hl
  have b_127 : ∀ (k2 : Int → Int → Int → Int → Int → Int → (Nat → Int) → (Nat → Int) → (Nat → Int) → Option (Int × Int × Int × Int × (Nat → Int) × (Nat → Int) × (Nat → Int))) (_ : ∀ (x1 : Int) (x2 : Int) (i_law : Int) (i_broken : Int) (i_value : Int) (i_sum : Int) (i_set : Nat → Int) (i_rest : Nat → Int) (i_costs : Nat → Int) (H : Heap) (locs : List Loc) (ls : Array Slot), k2 x1 x2 i_law i_broken i_value i_sum i_set i_rest i_costs = some out → va_P (dC, dI) vwCl (wd_HM_findCosts cA q0 q1 q2 q3 q4 q5 q6 q7 q8 q9 q10 q11 q12 q13 q14 q15 q16 q17 q18 q19 q20 q21 q22 q23 q24 q25 q26 q27 q28 q29 q30 q31 u0 u1 u2 u3 u4 u5 u6 u7 u8 u9 u10 u11 u12 u13 u14 u15 u16 u17 i_row i_weights i_law i_broken i_value i_sum i_set i_rest i_costs) H → va_D A (wd_HM_findCosts cA q0 q1 q2 q3 q4 q5 q6 q7 q8 q9 q10 q11 q12 q13 q14 q15 q16 q17 q18 q19 q20 q21 q22 q23 q24 q25 q26 q27 q28 q29 q30 q31 u0 u1 u2 u3 u4 u5 u6 u7 u8 u9 u10 u11 u12 u13 u14 u15 u16 u17 i_row i_weights i_law i_broken i_value i_sum i_set i_rest i_costs) → va_S A s.heap H locs → lv_has ls 7 [(0, .ref q0), (1, .int (Int32.ofInt x1)), (2, .int (Int32.ofInt x2))] → W p l e rm_HM_findCosts s m args below meth c H locs 0 0 Q (F0 m 2 ls [])), ∀ (k14 : Int → Int → Int → Int → Int → Int → Int → (Nat → Int) → (Nat → Int) → (Nat → Int) → Option (Int × Int × Int × Int × (Nat → Int) × (Nat → Int) × (Nat → Int))) (_ : ∀ (x1 : Int) (x2 : Int) (x3 : Int) (i_law : Int) (i_broken : Int) (i_value : Int) (i_sum : Int) (i_set : Nat → Int) (i_rest : Nat → Int) (i_costs : Nat → Int) (H : Heap) (locs : List Loc) (ls : Array Slot), k14 x1 x2 x3 i_law i_broken i_value i_sum i_set i_rest i_costs = some out → va_P (dC, dI) vwCl (wd_HM_findCosts cA q0 q1 q2 q3 q4 q5 q6 q7 q8 q9 q10 q11 q12 q13 q14 q15 q16 q17 q18 q19 q20 q21 q22 q23 q24 q25 q26 q27 q28 q29 q30 q31 u0 u1 u2 u3 u4 u5 u6 u7 u8 u9 u10 u11 u12 u13 u14 u15 u16 u17 i_row i_weights i_law i_broken i_value i_sum i_set i_rest i_costs) H → va_D A (wd_HM_findCosts cA q0 q1 q2 q3 q4 q5 q6 q7 q8 q9 q10 q11 q12 q13 q14 q15 q16 q17 q18 q19 q20 q21 q22 q23 q24 q25 q26 q27 q28 q29 q30 q31 u0 u1 u2 u3 u4 u5 u6 u7 u8 u9 u10 u11 u12 u13 u14 u15 u16 u17 i_row i_weights i_law i_broken i_value i_sum i_set i_rest i_costs) → va_S A s.heap H locs → lv_has ls 7 [(0, .ref q0), (1, .int (Int32.ofInt x1)), (2, .int (Int32.ofInt x2)), (3, .int (Int32.ofInt x3))] → W p l e rm_HM_findCosts s m args below meth c H locs 0 0 Q (F0 m 14 ls [])), ∀ (k22 : Int → Int → Int → Int → Int → Int → Int → Int → (Nat → Int) → (Nat → Int) → (Nat → Int) → Option (Int × Int × Int × Int × (Nat → Int) × (Nat → Int) × (Nat → Int))) (_ : ∀ (x1 : Int) (x2 : Int) (x3 : Int) (x4 : Int) (i_law : Int) (i_broken : Int) (i_value : Int) (i_sum : Int) (i_set : Nat → Int) (i_rest : Nat → Int) (i_costs : Nat → Int) (H : Heap) (locs : List Loc) (ls : Array Slot), k22 x1 x2 x3 x4 i_law i_broken i_value i_sum i_set i_rest i_costs = some out → va_P (dC, dI) vwCl (wd_HM_findCosts cA q0 q1 q2 q3 q4 q5 q6 q7 q8 q9 q10 q11 q12 q13 q14 q15 q16 q17 q18 q19 q20 q21 q22 q23 q24 q25 q26 q27 q28 q29 q30 q31 u0 u1 u2 u3 u4 u5 u6 u7 u8 u9 u10 u11 u12 u13 u14 u15 u16 u17 i_row i_weights i_law i_broken i_value i_sum i_set i_rest i_costs) H → va_D A (wd_HM_findCosts cA q0 q1 q2 q3 q4 q5 q6 q7 q8 q9 q10 q11 q12 q13 q14 q15 q16 q17 q18 q19 q20 q21 q22 q23 q24 q25 q26 q27 q28 q29 q30 q31 u0 u1 u2 u3 u4 u5 u6 u7 u8 u9 u10 u11 u12 u13 u14 u15 u16 u17 i_row i_weights i_law i_broken i_value i_sum i_set i_rest i_costs) → va_S A s.heap H locs → lv_has ls 7 [(0, .ref q0), (1, .int (Int32.ofInt x1)), (2, .int (Int32.ofInt x2)), (3, .int (Int32.ofInt x3)), (4, .int (Int32.ofInt x4))] → W p l e rm_HM_findCosts s m args below meth c H locs 0 0 Q (F0 m 22 ls [])), ∀ (k61 : Int → Int → Int → Int → Int → Int → Int → Int → Int → Int → (Nat → Int) → (Nat → Int) → (Nat → Int) → Option (Int × Int × Int × Int × (Nat → Int) × (Nat → Int) × (Nat → Int))) (_ : ∀ (x1 : Int) (x2 : Int) (x3 : Int) (x4 : Int) (x5 : Int) (x6 : Int) (i_law : Int) (i_broken : Int) (i_value : Int) (i_sum : Int) (i_set : Nat → Int) (i_rest : Nat → Int) (i_costs : Nat → Int) (H : Heap) (locs : List Loc) (ls : Array Slot), k61 x1 x2 x3 x4 x5 x6 i_law i_broken i_value i_sum i_set i_rest i_costs = some out → va_P (dC, dI) vwCl (wd_HM_findCosts cA q0 q1 q2 q3 q4 q5 q6 q7 q8 q9 q10 q11 q12 q13 q14 q15 q16 q17 q18 q19 q20 q21 q22 q23 q24 q25 q26 q27 q28 q29 q30 q31 u0 u1 u2 u3 u4 u5 u6 u7 u8 u9 u10 u11 u12 u13 u14 u15 u16 u17 i_row i_weights i_law i_broken i_value i_sum i_set i_rest i_costs) H → va_D A (wd_HM_findCosts cA q0 q1 q2 q3 q4 q5 q6 q7 q8 q9 q10 q11 q12 q13 q14 q15 q16 q17 q18 q19 q20 q21 q22 q23 q24 q25 q26 q27 q28 q29 q30 q31 u0 u1 u2 u3 u4 u5 u6 u7 u8 u9 u10 u11 u12 u13 u14 u15 u16 u17 i_row i_weights i_law i_broken i_value i_sum i_set i_rest i_costs) → va_S A s.heap H locs → lv_has ls 7 [(0, .ref q0), (1, .int (Int32.ofInt x1)), (2, .int (Int32.ofInt x2)), (3, .int (Int32.ofInt x3)), (4, .int (Int32.ofInt x4)), (5, .int (Int32.ofInt x5)), (6, .int (Int32.ofInt x6))] → W p l e rm_HM_findCosts s m args below meth c H locs 0 0 Q (F0 m 61 ls [])), ∀ (x1 : Int) (x2 : Int) (x3 : Int) (x4 : Int) (x5 : Int) (x6 : Int) (s1 : Int) (s2 : Int) (i_law : Int) (i_broken : Int) (i_value : Int) (i_sum : Int) (i_set : Nat → Int) (i_rest : Nat → Int) (i_costs : Nat → Int) (H : Heap) (locs : List Loc) (ls : Array Slot), f_HM_findCosts_127 i_row i_weights k2 k14 k22 k61 x1 x2 x3 x4 x5 x6 s1 s2 i_law i_broken i_value i_sum i_set i_rest i_costs = some out → va_P (dC, dI) vwCl (wd_HM_findCosts cA q0 q1 q2 q3 q4 q5 q6 q7 q8 q9 q10 q11 q12 q13 q14 q15 q16 q17 q18 q19 q20 q21 q22 q23 q24 q25 q26 q27 q28 q29 q30 q31 u0 u1 u2 u3 u4 u5 u6 u7 u8 u9 u10 u11 u12 u13 u14 u15 u16 u17 i_row i_weights i_law i_broken i_value i_sum i_set i_rest i_costs) H → va_D A (wd_HM_findCosts cA q0 q1 q2 q3 q4 q5 q6 q7 q8 q9 q10 q11 q12 q13 q14 q15 q16 q17 q18 q19 q20 q21 q22 q23 q24 q25 q26 q27 q28 q29 q30 q31 u0 u1 u2 u3 u4 u5 u6 u7 u8 u9 u10 u11 u12 u13 u14 u15 u16 u17 i_row i_weights i_law i_broken i_value i_sum i_set i_rest i_costs) → va_S A s.heap H locs → lv_has ls 7 [(0, .ref q0), (1, .int (Int32.ofInt x1)), (2, .int (Int32.ofInt x2)), (3, .int (Int32.ofInt x3)), (4, .int (Int32.ofInt x4)), (5, .int (Int32.ofInt x5)), (6, .int (Int32.ofInt x6))] → W p l e rm_HM_findCosts s m args below meth c H locs 0 0 Q (F0 m 127 ls [.int (Int32.ofInt s2), .int (Int32.ofInt s1), .ref q21]) := by
    intro k2 ih2 k14 ih14 k22 ih22 k61 ih61 x1 x2 x3 x4 x5 x6 s1 s2 i_law i_broken i_value i_sum i_set i_rest i_costs H locs ls hf hP hD hS hl
    unfold f_HM_findCosts_127 at hf
    refine xi_iast hx hb hK hP hD hS 5 0 rfl rfl dX11_findCosts_127 hf (fun a1 H locs hP hD hS hf => ?_)
    have hP : va_P (dC, dI) vwCl (wd_HM_findCosts cA q0 q1 q2 q3 q4 q5 q6 q7 q8 q9 q10 q11 q12 q13 q14 q15 q16 q17 q18 q19 q20 q21 q22 q23 q24 q25 q26 q27 q28 q29 q30 q31 u0 u1 u2 u3 u4 u5 u6 u7 u8 u9 u10 u11 u12 u13 u14 u15 u16 u17 i_row i_weights i_law i_broken i_value i_sum i_set i_rest a1) H := hP
    have hD : va_D A (wd_HM_findCosts cA q0 q1 q2 q3 q4 q5 q6 q7 q8 q9 q10 q11 q12 q13 q14 q15 q16 q17 q18 q19 q20 q21 q22 q23 q24 q25 q26 q27 q28 q29 q30 q31 u0 u1 u2 u3 u4 u5 u6 u7 u8 u9 u10 u11 u12 u13 u14 u15 u16 u17 i_row i_weights i_law i_broken i_value i_sum i_set i_rest a1) := hD
    refine xi_iinc hx hb dX11_findCosts_128 hl (k := 6) rfl (by decide) hf (fun v2 ls hl hf => ?_)
    have hl : lv_has ls 7 [(6, .int (Int32.ofInt v2)), (0, .ref q0), (1, .int (Int32.ofInt x1)), (2, .int (Int32.ofInt x2)), (3, .int (Int32.ofInt x3)), (4, .int (Int32.ofInt x4)), (5, .int (Int32.ofInt x5))] := hl
    refine lv_goto (tgt := 61) hx hb dX11_findCosts_131 (by decide) ?_
    exact ih61 _ _ _ _ _ _ _ _ _ _ _ _ _ _ _ _ hf hP hD hS (lv_sub hl [1, 2, 3, 4, 5, 6, 0] rfl)
  have b_61 : ∀ (k2 : Int → Int → Int → Int → Int → Int → (Nat → Int) → (Nat → Int) → (Nat → Int) → Option (Int × Int × Int × Int × (Nat → Int) × (Nat → Int) × (Nat → Int))) (_ : ∀ (x1 : Int) (x2 : Int) (i_law : Int) (i_broken : Int) (i_value : Int) (i_sum : Int) (i_set : Nat → Int) (i_rest : Nat → Int) (i_costs : Nat → Int) (H : Heap) (locs : List Loc) (ls : Array Slot), k2 x1 x2 i_law i_broken i_value i_sum i_set i_rest i_costs = some out → va_P (dC, dI) vwCl (wd_HM_findCosts cA q0 q1 q2 q3 q4 q5 q6 q7 q8 q9 q10 q11 q12 q13 q14 q15 q16 q17 q18 q19 q20 q21 q22 q23 q24 q25 q26 q27 q28 q29 q30 q31 u0 u1 u2 u3 u4 u5 u6 u7 u8 u9 u10 u11 u12 u13 u14 u15 u16 u17 i_row i_weights i_law i_broken i_value i_sum i_set i_rest i_costs) H → va_D A (wd_HM_findCosts cA q0 q1 q2 q3 q4 q5 q6 q7 q8 q9 q10 q11 q12 q13 q14 q15 q16 q17 q18 q19 q20 q21 q22 q23 q24 q25 q26 q27 q28 q29 q30 q31 u0 u1 u2 u3 u4 u5 u6 u7 u8 u9 u10 u11 u12 u13 u14 u15 u16 u17 i_row i_weights i_law i_broken i_value i_sum i_set i_rest i_costs) → va_S A s.heap H locs → lv_has ls 7 [(0, .ref q0), (1, .int (Int32.ofInt x1)), (2, .int (Int32.ofInt x2))] → W p l e rm_HM_findCosts s m args below meth c H locs 0 0 Q (F0 m 2 ls [])), ∀ (k14 : Int → Int → Int → Int → Int → Int → Int → (Nat → Int) → (Nat → Int) → (Nat → Int) → Option (Int × Int × Int × Int × (Nat → Int) × (Nat → Int) × (Nat → Int))) (_ : ∀ (x1 : Int) (x2 : Int) (x3 : Int) (i_law : Int) (i_broken : Int) (i_value : Int) (i_sum : Int) (i_set : Nat → Int) (i_rest : Nat → Int) (i_costs : Nat → Int) (H : Heap) (locs : List Loc) (ls : Array Slot), k14 x1 x2 x3 i_law i_broken i_value i_sum i_set i_rest i_costs = some out → va_P (dC, dI) vwCl (wd_HM_findCosts cA q0 q1 q2 q3 q4 q5 q6 q7 q8 q9 q10 q11 q12 q13 q14 q15 q16 q17 q18 q19 q20 q21 q22 q23 q24 q25 q26 q27 q28 q29 q30 q31 u0 u1 u2 u3 u4 u5 u6 u7 u8 u9 u10 u11 u12 u13 u14 u15 u16 u17 i_row i_weights i_law i_broken i_value i_sum i_set i_rest i_costs) H → va_D A (wd_HM_findCosts cA q0 q1 q2 q3 q4 q5 q6 q7 q8 q9 q10 q11 q12 q13 q14 q15 q16 q17 q18 q19 q20 q21 q22 q23 q24 q25 q26 q27 q28 q29 q30 q31 u0 u1 u2 u3 u4 u5 u6 u7 u8 u9 u10 u11 u12 u13 u14 u15 u16 u17 i_row i_weights i_law i_broken i_value i_sum i_set i_rest i_costs) → va_S A s.heap H locs → lv_has ls 7 [(0, .ref q0), (1, .int (Int32.ofInt x1)), (2, .int (Int32.ofInt x2)), (3, .int (Int32.ofInt x3))] → W p l e rm_HM_findCosts s m args below meth c H locs 0 0 Q (F0 m 14 ls [])), ∀ (k22 : Int → Int → Int → Int → Int → Int → Int → Int → (Nat → Int) → (Nat → Int) → (Nat → Int) → Option (Int × Int × Int × Int × (Nat → Int) × (Nat → Int) × (Nat → Int))) (_ : ∀ (x1 : Int) (x2 : Int) (x3 : Int) (x4 : Int) (i_law : Int) (i_broken : Int) (i_value : Int) (i_sum : Int) (i_set : Nat → Int) (i_rest : Nat → Int) (i_costs : Nat → Int) (H : Heap) (locs : List Loc) (ls : Array Slot), k22 x1 x2 x3 x4 i_law i_broken i_value i_sum i_set i_rest i_costs = some out → va_P (dC, dI) vwCl (wd_HM_findCosts cA q0 q1 q2 q3 q4 q5 q6 q7 q8 q9 q10 q11 q12 q13 q14 q15 q16 q17 q18 q19 q20 q21 q22 q23 q24 q25 q26 q27 q28 q29 q30 q31 u0 u1 u2 u3 u4 u5 u6 u7 u8 u9 u10 u11 u12 u13 u14 u15 u16 u17 i_row i_weights i_law i_broken i_value i_sum i_set i_rest i_costs) H → va_D A (wd_HM_findCosts cA q0 q1 q2 q3 q4 q5 q6 q7 q8 q9 q10 q11 q12 q13 q14 q15 q16 q17 q18 q19 q20 q21 q22 q23 q24 q25 q26 q27 q28 q29 q30 q31 u0 u1 u2 u3 u4 u5 u6 u7 u8 u9 u10 u11 u12 u13 u14 u15 u16 u17 i_row i_weights i_law i_broken i_value i_sum i_set i_rest i_costs) → va_S A s.heap H locs → lv_has ls 7 [(0, .ref q0), (1, .int (Int32.ofInt x1)), (2, .int (Int32.ofInt x2)), (3, .int (Int32.ofInt x3)), (4, .int (Int32.ofInt x4))] → W p l e rm_HM_findCosts s m args below meth c H locs 0 0 Q (F0 m 22 ls [])), ∀ (k61 : Int → Int → Int → Int → Int → Int → Int → Int → Int → Int → (Nat → Int) → (Nat → Int) → (Nat → Int) → Option (Int × Int × Int × Int × (Nat → Int) × (Nat → Int) × (Nat → Int))) (_ : ∀ (x1 : Int) (x2 : Int) (x3 : Int) (x4 : Int) (x5 : Int) (x6 : Int) (i_law : Int) (i_broken : Int) (i_value : Int) (i_sum : Int) (i_set : Nat → Int) (i_rest : Nat → Int) (i_costs : Nat → Int) (H : Heap) (locs : List Loc) (ls : Array Slot), k61 x1 x2 x3 x4 x5 x6 i_law i_broken i_value i_sum i_set i_rest i_costs = some out → va_P (dC, dI) vwCl (wd_HM_findCosts cA q0 q1 q2 q3 q4 q5 q6 q7 q8 q9 q10 q11 q12 q13 q14 q15 q16 q17 q18 q19 q20 q21 q22 q23 q24 q25 q26 q27 q28 q29 q30 q31 u0 u1 u2 u3 u4 u5 u6 u7 u8 u9 u10 u11 u12 u13 u14 u15 u16 u17 i_row i_weights i_law i_broken i_value i_sum i_set i_rest i_costs) H → va_D A (wd_HM_findCosts cA q0 q1 q2 q3 q4 q5 q6 q7 q8 q9 q10 q11 q12 q13 q14 q15 q16 q17 q18 q19 q20 q21 q22 q23 q24 q25 q26 q27 q28 q29 q30 q31 u0 u1 u2 u3 u4 u5 u6 u7 u8 u9 u10 u11 u12 u13 u14 u15 u16 u17 i_row i_weights i_law i_broken i_value i_sum i_set i_rest i_costs) → va_S A s.heap H locs → lv_has ls 7 [(0, .ref q0), (1, .int (Int32.ofInt x1)), (2, .int (Int32.ofInt x2)), (3, .int (Int32.ofInt x3)), (4, .int (Int32.ofInt x4)), (5, .int (Int32.ofInt x5)), (6, .int (Int32.ofInt x6))] → W p l e rm_HM_findCosts s m args below meth c H locs 0 0 Q (F0 m 61 ls [])), ∀ (x1 : Int) (x2 : Int) (x3 : Int) (x4 : Int) (x5 : Int) (x6 : Int) (i_law : Int) (i_broken : Int) (i_value : Int) (i_sum : Int) (i_set : Nat → Int) (i_rest : Nat → Int) (i_costs : Nat → Int) (H : Heap) (locs : List Loc) (ls : Array Slot), f_HM_findCosts_61_b i_row i_weights k2 k14 k22 k61 x1 x2 x3 x4 x5 x6 i_law i_broken i_value i_sum i_set i_rest i_costs = some out → va_P (dC, dI) vwCl (wd_HM_findCosts cA q0 q1 q2 q3 q4 q5 q6 q7 q8 q9 q10 q11 q12 q13 q14 q15 q16 q17 q18 q19 q20 q21 q22 q23 q24 q25 q26 q27 q28 q29 q30 q31 u0 u1 u2 u3 u4 u5 u6 u7 u8 u9 u10 u11 u12 u13 u14 u15 u16 u17 i_row i_weights i_law i_broken i_value i_sum i_set i_rest i_costs) H → va_D A (wd_HM_findCosts cA q0 q1 q2 q3 q4 q5 q6 q7 q8 q9 q10 q11 q12 q13 q14 q15 q16 q17 q18 q19 q20 q21 q22 q23 q24 q25 q26 q27 q28 q29 q30 q31 u0 u1 u2 u3 u4 u5 u6 u7 u8 u9 u10 u11 u12 u13 u14 u15 u16 u17 i_row i_weights i_law i_broken i_value i_sum i_set i_rest i_costs) → va_S A s.heap H locs → lv_has ls 7 [(0, .ref q0), (1, .int (Int32.ofInt x1)), (2, .int (Int32.ofInt x2)), (3, .int (Int32.ofInt x3)), (4, .int (Int32.ofInt x4)), (5, .int (Int32.ofInt x5)), (6, .int (Int32.ofInt x6))] → W p l e rm_HM_findCosts s m args below meth c H locs 0 0 Q (F0 m 61 ls []) := by
    intro k2 ih2 k14 ih14 k22 ih22 k61 ih61 x1 x2 x3 x4 x5 x6 i_law i_broken i_value i_sum i_set i_rest i_costs H locs ls hf hP hD hS hl
    unfold f_HM_findCosts_61_b at hf
    refine lv_iload hx hb dX11_findCosts_61 (lv_at hl 6 rfl) ?_
    refine lv_bipush (v := Int32.ofInt 25) hx hb dX11_findCosts_63 (by decide) ?_
    refine xi_icmp_ge (tgt := 134) hx hb dX11_findCosts_65 (by decide) hf (fun hf => ?_) (fun hf => ?_)
    · refine xi_iinc hx hb dX11_findCosts_134 hl (k := 4) rfl (by decide) hf (fun v1 ls hl hf => ?_)
      have hl : lv_has ls 7 [(4, .int (Int32.ofInt v1)), (0, .ref q0), (1, .int (Int32.ofInt x1)), (2, .int (Int32.ofInt x2)), (3, .int (Int32.ofInt x3)), (5, .int (Int32.ofInt x5)), (6, .int (Int32.ofInt x6))] := hl
      refine lv_goto (tgt := 22) hx hb dX11_findCosts_137 (by decide) ?_
      exact ih22 _ _ _ _ _ _ _ _ _ _ _ _ _ _ hf hP hD hS (lv_sub hl [1, 2, 3, 4, 0] rfl)
    · refine lv_aload_n hx hb dX11_findCosts_68 rfl (lv_at hl 0 rfl) ?_
      refine va_get (D := (dC, dI)) (ci := 11) (v := .ref q21) (C := RX11) (T := TX11) (N := 53) hx hb hz zi_X11 hown hK hP 0 rfl rfl 40 (by decide) (hz _ zw_1205) (fun _ h9 => h9) rfl dX11_findCosts_69 ?_
      refine lv_iload_n hx hb dX11_findCosts_72 rfl (lv_at hl 2 rfl) ?_
      refine lv_iconst (v := Int32.ofInt 5) hx hb dX11_findCosts_73 rfl ?_
      refine xi_imul hx hb dX11_findCosts_74 hf (fun v2 hf => ?_)
      refine lv_iload_n hx hb dX11_findCosts_75 rfl (lv_at hl 3 rfl) ?_
      refine xi_iadd hx hb dX11_findCosts_76 hf (fun v3 hf => ?_)
      refine lv_bipush (v := Int32.ofInt 16) hx hb dX11_findCosts_77 (by decide) ?_
      refine xi_imul hx hb dX11_findCosts_79 hf (fun v4 hf => ?_)
      refine lv_iload hx hb dX11_findCosts_80 (lv_at hl 4 rfl) ?_
      refine xi_iadd hx hb dX11_findCosts_82 hf (fun v5 hf => ?_)
      refine lv_bipush (v := Int32.ofInt 25) hx hb dX11_findCosts_83 (by decide) ?_
      refine xi_imul hx hb dX11_findCosts_85 hf (fun v6 hf => ?_)
      refine lv_iload hx hb dX11_findCosts_86 (lv_at hl 6 rfl) ?_
      refine xi_iadd hx hb dX11_findCosts_88 hf (fun v7 hf => ?_)
      refine lv_iload hx hb dX11_findCosts_89 (lv_at hl 5 rfl) ?_
      refine xi_if_eq (tgt := 126) hx hb dX11_findCosts_91 (by decide) hf (fun hf => ?_) (fun hf => ?_)
      · refine lv_iconst (v := Int32.ofInt (-1)) hx hb dX11_findCosts_126 rfl ?_
        exact b_127 _ ih2 _ ih14 _ ih22 _ ih61 _ _ _ _ _ _ _ _ _ _ _ _ _ _ _ _ _ _ hf hP hD hS (lv_sub hl [0, 1, 2, 3, 4, 5, 6] rfl)
      · refine lv_aload_n hx hb dX11_findCosts_94 rfl (lv_at hl 0 rfl) ?_
        refine lv_iload_n hx hb dX11_findCosts_95 rfl (lv_at hl 2 rfl) ?_
        refine lv_aload_n hx hb dX11_findCosts_96 rfl (lv_at hl 0 rfl) ?_
        refine va_get (D := (dC, dI)) (ci := 11) (v := .ref q16) (C := RX11) (T := TX11) (N := 53) hx hb hz zi_X11 hown hK hP 0 rfl rfl 34 (by decide) (hz _ zw_1199) (fun _ h9 => h9) rfl dX11_findCosts_97 ?_
        refine lv_iload_n hx hb dX11_findCosts_100 rfl (lv_at hl 3 rfl) ?_
        refine xi_iald hx hb hK hP 4 0 rfl rfl dX11_findCosts_101 hf (fun v8 hf => ?_)
        refine lv_iload hx hb dX11_findCosts_102 (lv_at hl 4 rfl) ?_
        refine lv_iconst (v := Int32.ofInt 4) hx hb dX11_findCosts_104 rfl ?_
        refine xi_idiv hx hb dX11_findCosts_105 hf (fun v9 hf => ?_)
        refine lv_iload hx hb dX11_findCosts_106 (lv_at hl 4 rfl) ?_
        refine lv_iconst (v := Int32.ofInt 4) hx hb dX11_findCosts_108 rfl ?_
        refine xi_irem hx hb dX11_findCosts_109 hf (fun v10 hf => ?_)
        refine lv_iload hx hb dX11_findCosts_110 (lv_at hl 6 rfl) ?_
        refine lv_iconst (v := Int32.ofInt 5) hx hb dX11_findCosts_112 rfl ?_
        refine xi_idiv hx hb dX11_findCosts_113 hf (fun v11 hf => ?_)
        refine lv_iconst (v := Int32.ofInt 1) hx hb dX11_findCosts_114 rfl ?_
        refine xi_iadd hx hb dX11_findCosts_115 hf (fun v12 hf => ?_)
        refine lv_iload hx hb dX11_findCosts_116 (lv_at hl 6 rfl) ?_
        refine lv_iconst (v := Int32.ofInt 5) hx hb dX11_findCosts_118 rfl ?_
        refine xi_irem hx hb dX11_findCosts_119 hf (fun v13 hf => ?_)
        refine xe_d7 hf (fun v14 v15 v16 v17 v18 a19 a20 hg hf => ?_)
        have hC : ([0, 1, 2, 3] : List Nat).map (fun i => (wd_HM_findCosts cA q0 q1 q2 q3 q4 q5 q6 q7 q8 q9 q10 q11 q12 q13 q14 q15 q16 q17 q18 q19 q20 q21 q22 q23 q24 q25 q26 q27 q28 q29 q30 q31 u0 u1 u2 u3 u4 u5 u6 u7 u8 u9 u10 u11 u12 u13 u14 u15 u16 u17 i_row i_weights i_law i_broken i_value i_sum i_set i_rest i_costs)[i]?) = (wd_HM_tiring cA q0 q1 q2 q3 q4 q5 q6 q7 q8 q9 q10 q11 q12 q13 q14 q15 q16 q17 q18 q19 q20 q21 q22 q23 q24 q25 q26 q27 q28 q29 q30 q31 u0 u1 u2 u3 u4 u5 u6 u7 u8 u9 u10 u11 u12 u13 u14 u15 u16 u17 i_row i_law i_broken i_value i_sum i_set i_rest).map some := rfl
        refine xv_afterI (ws' := (wd_HM_findCosts cA q0 q1 q2 q3 q4 q5 q6 q7 q8 q9 q10 q11 q12 q13 q14 q15 q16 q17 q18 q19 q20 q21 q22 q23 q24 q25 q26 q27 q28 q29 q30 q31 u0 u1 u2 u3 u4 u5 u6 u7 u8 u9 u10 u11 u12 u13 u14 u15 u16 u17 i_row i_weights v15 v16 v17 v18 a19 a20 i_costs)) (isC := [0, 1, 2, 3]) (ps := [some 0, some 1, some 2, some 3, none, none]) (va_runV (As := [.int (Int32.ofInt x2), .int (Int32.ofInt v8), .int (Int32.ofInt v9), .int (Int32.ofInt v10), .int (Int32.ofInt v12), .int (Int32.ofInt v13)]) (rest := [.int (Int32.ofInt v7), .ref q21]) ⟨hx, hb, hml, hown, hts⟩ (c_HM_tiring l ev dC dI cA q0 q1 q2 q3 q4 q5 q6 q7 q8 q9 q10 q11 q12 q13 q14 q15 q16 q17 q18 q19 q20 q21 q22 q23 q24 q25 q26 q27 q28 q29 q30 q31 u0 u1 u2 u3 u4 u5 u6 u7 u8 u9 u10 u11 u12 u13 u14 u15 u16 u17 hg H.size) (cwV 6 hts (zgV zw_1561 zw_1563 zw_69 zw_115 zw_1564) rfl rfl rfl hd_HM_tiring ⟨Nat.le_of_ble_eq_true rfl, Nat.le_of_ble_eq_true rfl⟩) (xv_preV (T := TX11) (N := 53) hE hA hS hK hP hD (isC := [0, 1, 2, 3]) (by decide +kernel) hC (q0 := 0) (ci := 11) rfl rfl) rfl rfl hl.1 rfl (lv_room (Nat.le_of_ble_eq_true rfl)) dX11_findCosts_120 ⟨Nat.le_refl _, Nat.le_refl _⟩) hP hD hS hA (by decide +kernel) rfl hC rfl rfl (fun H locs hP hD hS => ?_)
        refine lv_goto (tgt := 127) hx hb dX11_findCosts_123 (by decide) ?_
        exact b_127 _ ih2 _ ih14 _ ih22 _ ih61 _ _ _ _ _ _ _ _ _ _ _ _ _ _ _ _ _ _ hf hP hD hS (lv_sub hl [0, 1, 2, 3, 4, 5, 6] rfl)
  have l_61 : ∀ (k2 : Int → Int → Int → Int → Int → Int → (Nat → Int) → (Nat → Int) → (Nat → Int) → Option (Int × Int × Int × Int × (Nat → Int) × (Nat → Int) × (Nat → Int))) (_ : ∀ (x1 : Int) (x2 : Int) (i_law : Int) (i_broken : Int) (i_value : Int) (i_sum : Int) (i_set : Nat → Int) (i_rest : Nat → Int) (i_costs : Nat → Int) (H : Heap) (locs : List Loc) (ls : Array Slot), k2 x1 x2 i_law i_broken i_value i_sum i_set i_rest i_costs = some out → va_P (dC, dI) vwCl (wd_HM_findCosts cA q0 q1 q2 q3 q4 q5 q6 q7 q8 q9 q10 q11 q12 q13 q14 q15 q16 q17 q18 q19 q20 q21 q22 q23 q24 q25 q26 q27 q28 q29 q30 q31 u0 u1 u2 u3 u4 u5 u6 u7 u8 u9 u10 u11 u12 u13 u14 u15 u16 u17 i_row i_weights i_law i_broken i_value i_sum i_set i_rest i_costs) H → va_D A (wd_HM_findCosts cA q0 q1 q2 q3 q4 q5 q6 q7 q8 q9 q10 q11 q12 q13 q14 q15 q16 q17 q18 q19 q20 q21 q22 q23 q24 q25 q26 q27 q28 q29 q30 q31 u0 u1 u2 u3 u4 u5 u6 u7 u8 u9 u10 u11 u12 u13 u14 u15 u16 u17 i_row i_weights i_law i_broken i_value i_sum i_set i_rest i_costs) → va_S A s.heap H locs → lv_has ls 7 [(0, .ref q0), (1, .int (Int32.ofInt x1)), (2, .int (Int32.ofInt x2))] → W p l e rm_HM_findCosts s m args below meth c H locs 0 0 Q (F0 m 2 ls [])), ∀ (k14 : Int → Int → Int → Int → Int → Int → Int → (Nat → Int) → (Nat → Int) → (Nat → Int) → Option (Int × Int × Int × Int × (Nat → Int) × (Nat → Int) × (Nat → Int))) (_ : ∀ (x1 : Int) (x2 : Int) (x3 : Int) (i_law : Int) (i_broken : Int) (i_value : Int) (i_sum : Int) (i_set : Nat → Int) (i_rest : Nat → Int) (i_costs : Nat → Int) (H : Heap) (locs : List Loc) (ls : Array Slot), k14 x1 x2 x3 i_law i_broken i_value i_sum i_set i_rest i_costs = some out → va_P (dC, dI) vwCl (wd_HM_findCosts cA q0 q1 q2 q3 q4 q5 q6 q7 q8 q9 q10 q11 q12 q13 q14 q15 q16 q17 q18 q19 q20 q21 q22 q23 q24 q25 q26 q27 q28 q29 q30 q31 u0 u1 u2 u3 u4 u5 u6 u7 u8 u9 u10 u11 u12 u13 u14 u15 u16 u17 i_row i_weights i_law i_broken i_value i_sum i_set i_rest i_costs) H → va_D A (wd_HM_findCosts cA q0 q1 q2 q3 q4 q5 q6 q7 q8 q9 q10 q11 q12 q13 q14 q15 q16 q17 q18 q19 q20 q21 q22 q23 q24 q25 q26 q27 q28 q29 q30 q31 u0 u1 u2 u3 u4 u5 u6 u7 u8 u9 u10 u11 u12 u13 u14 u15 u16 u17 i_row i_weights i_law i_broken i_value i_sum i_set i_rest i_costs) → va_S A s.heap H locs → lv_has ls 7 [(0, .ref q0), (1, .int (Int32.ofInt x1)), (2, .int (Int32.ofInt x2)), (3, .int (Int32.ofInt x3))] → W p l e rm_HM_findCosts s m args below meth c H locs 0 0 Q (F0 m 14 ls [])), ∀ (k22 : Int → Int → Int → Int → Int → Int → Int → Int → (Nat → Int) → (Nat → Int) → (Nat → Int) → Option (Int × Int × Int × Int × (Nat → Int) × (Nat → Int) × (Nat → Int))) (_ : ∀ (x1 : Int) (x2 : Int) (x3 : Int) (x4 : Int) (i_law : Int) (i_broken : Int) (i_value : Int) (i_sum : Int) (i_set : Nat → Int) (i_rest : Nat → Int) (i_costs : Nat → Int) (H : Heap) (locs : List Loc) (ls : Array Slot), k22 x1 x2 x3 x4 i_law i_broken i_value i_sum i_set i_rest i_costs = some out → va_P (dC, dI) vwCl (wd_HM_findCosts cA q0 q1 q2 q3 q4 q5 q6 q7 q8 q9 q10 q11 q12 q13 q14 q15 q16 q17 q18 q19 q20 q21 q22 q23 q24 q25 q26 q27 q28 q29 q30 q31 u0 u1 u2 u3 u4 u5 u6 u7 u8 u9 u10 u11 u12 u13 u14 u15 u16 u17 i_row i_weights i_law i_broken i_value i_sum i_set i_rest i_costs) H → va_D A (wd_HM_findCosts cA q0 q1 q2 q3 q4 q5 q6 q7 q8 q9 q10 q11 q12 q13 q14 q15 q16 q17 q18 q19 q20 q21 q22 q23 q24 q25 q26 q27 q28 q29 q30 q31 u0 u1 u2 u3 u4 u5 u6 u7 u8 u9 u10 u11 u12 u13 u14 u15 u16 u17 i_row i_weights i_law i_broken i_value i_sum i_set i_rest i_costs) → va_S A s.heap H locs → lv_has ls 7 [(0, .ref q0), (1, .int (Int32.ofInt x1)), (2, .int (Int32.ofInt x2)), (3, .int (Int32.ofInt x3)), (4, .int (Int32.ofInt x4))] → W p l e rm_HM_findCosts s m args below meth c H locs 0 0 Q (F0 m 22 ls [])), ∀ (n : Nat), ∀ (x1 : Int) (x2 : Int) (x3 : Int) (x4 : Int) (x5 : Int) (x6 : Int) (i_law : Int) (i_broken : Int) (i_value : Int) (i_sum : Int) (i_set : Nat → Int) (i_rest : Nat → Int) (i_costs : Nat → Int) (H : Heap) (locs : List Loc) (ls : Array Slot), f_HM_findCosts_61 i_row i_weights k2 k14 k22 n x1 x2 x3 x4 x5 x6 i_law i_broken i_value i_sum i_set i_rest i_costs = some out → va_P (dC, dI) vwCl (wd_HM_findCosts cA q0 q1 q2 q3 q4 q5 q6 q7 q8 q9 q10 q11 q12 q13 q14 q15 q16 q17 q18 q19 q20 q21 q22 q23 q24 q25 q26 q27 q28 q29 q30 q31 u0 u1 u2 u3 u4 u5 u6 u7 u8 u9 u10 u11 u12 u13 u14 u15 u16 u17 i_row i_weights i_law i_broken i_value i_sum i_set i_rest i_costs) H → va_D A (wd_HM_findCosts cA q0 q1 q2 q3 q4 q5 q6 q7 q8 q9 q10 q11 q12 q13 q14 q15 q16 q17 q18 q19 q20 q21 q22 q23 q24 q25 q26 q27 q28 q29 q30 q31 u0 u1 u2 u3 u4 u5 u6 u7 u8 u9 u10 u11 u12 u13 u14 u15 u16 u17 i_row i_weights i_law i_broken i_value i_sum i_set i_rest i_costs) → va_S A s.heap H locs → lv_has ls 7 [(0, .ref q0), (1, .int (Int32.ofInt x1)), (2, .int (Int32.ofInt x2)), (3, .int (Int32.ofInt x3)), (4, .int (Int32.ofInt x4)), (5, .int (Int32.ofInt x5)), (6, .int (Int32.ofInt x6))] → W p l e rm_HM_findCosts s m args below meth c H locs 0 0 Q (F0 m 61 ls []) := by
    intro k2 ih2 k14 ih14 k22 ih22 n
    induction n with
    | zero => intro x1 x2 x3 x4 x5 x6 i_law i_broken i_value i_sum i_set i_rest i_costs H locs ls hf hP hD hS hl; exact nomatch hf
    | succ n ih => intro x1 x2 x3 x4 x5 x6 i_law i_broken i_value i_sum i_set i_rest i_costs H locs ls hf hP hD hS hl; exact b_61 k2 ih2 k14 ih14 k22 ih22 (f_HM_findCosts_61 i_row i_weights k2 k14 k22 n) ih x1 x2 x3 x4 x5 x6 i_law i_broken i_value i_sum i_set i_rest i_costs H locs ls hf hP hD hS hl
  have b_56 : ∀ (k2 : Int → Int → Int → Int → Int → Int → (Nat → Int) → (Nat → Int) → (Nat → Int) → Option (Int × Int × Int × Int × (Nat → Int) × (Nat → Int) × (Nat → Int))) (_ : ∀ (x1 : Int) (x2 : Int) (i_law : Int) (i_broken : Int) (i_value : Int) (i_sum : Int) (i_set : Nat → Int) (i_rest : Nat → Int) (i_costs : Nat → Int) (H : Heap) (locs : List Loc) (ls : Array Slot), k2 x1 x2 i_law i_broken i_value i_sum i_set i_rest i_costs = some out → va_P (dC, dI) vwCl (wd_HM_findCosts cA q0 q1 q2 q3 q4 q5 q6 q7 q8 q9 q10 q11 q12 q13 q14 q15 q16 q17 q18 q19 q20 q21 q22 q23 q24 q25 q26 q27 q28 q29 q30 q31 u0 u1 u2 u3 u4 u5 u6 u7 u8 u9 u10 u11 u12 u13 u14 u15 u16 u17 i_row i_weights i_law i_broken i_value i_sum i_set i_rest i_costs) H → va_D A (wd_HM_findCosts cA q0 q1 q2 q3 q4 q5 q6 q7 q8 q9 q10 q11 q12 q13 q14 q15 q16 q17 q18 q19 q20 q21 q22 q23 q24 q25 q26 q27 q28 q29 q30 q31 u0 u1 u2 u3 u4 u5 u6 u7 u8 u9 u10 u11 u12 u13 u14 u15 u16 u17 i_row i_weights i_law i_broken i_value i_sum i_set i_rest i_costs) → va_S A s.heap H locs → lv_has ls 7 [(0, .ref q0), (1, .int (Int32.ofInt x1)), (2, .int (Int32.ofInt x2))] → W p l e rm_HM_findCosts s m args below meth c H locs 0 0 Q (F0 m 2 ls [])), ∀ (k14 : Int → Int → Int → Int → Int → Int → Int → (Nat → Int) → (Nat → Int) → (Nat → Int) → Option (Int × Int × Int × Int × (Nat → Int) × (Nat → Int) × (Nat → Int))) (_ : ∀ (x1 : Int) (x2 : Int) (x3 : Int) (i_law : Int) (i_broken : Int) (i_value : Int) (i_sum : Int) (i_set : Nat → Int) (i_rest : Nat → Int) (i_costs : Nat → Int) (H : Heap) (locs : List Loc) (ls : Array Slot), k14 x1 x2 x3 i_law i_broken i_value i_sum i_set i_rest i_costs = some out → va_P (dC, dI) vwCl (wd_HM_findCosts cA q0 q1 q2 q3 q4 q5 q6 q7 q8 q9 q10 q11 q12 q13 q14 q15 q16 q17 q18 q19 q20 q21 q22 q23 q24 q25 q26 q27 q28 q29 q30 q31 u0 u1 u2 u3 u4 u5 u6 u7 u8 u9 u10 u11 u12 u13 u14 u15 u16 u17 i_row i_weights i_law i_broken i_value i_sum i_set i_rest i_costs) H → va_D A (wd_HM_findCosts cA q0 q1 q2 q3 q4 q5 q6 q7 q8 q9 q10 q11 q12 q13 q14 q15 q16 q17 q18 q19 q20 q21 q22 q23 q24 q25 q26 q27 q28 q29 q30 q31 u0 u1 u2 u3 u4 u5 u6 u7 u8 u9 u10 u11 u12 u13 u14 u15 u16 u17 i_row i_weights i_law i_broken i_value i_sum i_set i_rest i_costs) → va_S A s.heap H locs → lv_has ls 7 [(0, .ref q0), (1, .int (Int32.ofInt x1)), (2, .int (Int32.ofInt x2)), (3, .int (Int32.ofInt x3))] → W p l e rm_HM_findCosts s m args below meth c H locs 0 0 Q (F0 m 14 ls [])), ∀ (k22 : Int → Int → Int → Int → Int → Int → Int → Int → (Nat → Int) → (Nat → Int) → (Nat → Int) → Option (Int × Int × Int × Int × (Nat → Int) × (Nat → Int) × (Nat → Int))) (_ : ∀ (x1 : Int) (x2 : Int) (x3 : Int) (x4 : Int) (i_law : Int) (i_broken : Int) (i_value : Int) (i_sum : Int) (i_set : Nat → Int) (i_rest : Nat → Int) (i_costs : Nat → Int) (H : Heap) (locs : List Loc) (ls : Array Slot), k22 x1 x2 x3 x4 i_law i_broken i_value i_sum i_set i_rest i_costs = some out → va_P (dC, dI) vwCl (wd_HM_findCosts cA q0 q1 q2 q3 q4 q5 q6 q7 q8 q9 q10 q11 q12 q13 q14 q15 q16 q17 q18 q19 q20 q21 q22 q23 q24 q25 q26 q27 q28 q29 q30 q31 u0 u1 u2 u3 u4 u5 u6 u7 u8 u9 u10 u11 u12 u13 u14 u15 u16 u17 i_row i_weights i_law i_broken i_value i_sum i_set i_rest i_costs) H → va_D A (wd_HM_findCosts cA q0 q1 q2 q3 q4 q5 q6 q7 q8 q9 q10 q11 q12 q13 q14 q15 q16 q17 q18 q19 q20 q21 q22 q23 q24 q25 q26 q27 q28 q29 q30 q31 u0 u1 u2 u3 u4 u5 u6 u7 u8 u9 u10 u11 u12 u13 u14 u15 u16 u17 i_row i_weights i_law i_broken i_value i_sum i_set i_rest i_costs) → va_S A s.heap H locs → lv_has ls 7 [(0, .ref q0), (1, .int (Int32.ofInt x1)), (2, .int (Int32.ofInt x2)), (3, .int (Int32.ofInt x3)), (4, .int (Int32.ofInt x4))] → W p l e rm_HM_findCosts s m args below meth c H locs 0 0 Q (F0 m 22 ls [])), ∀ (x1 : Int) (x2 : Int) (x3 : Int) (x4 : Int) (s0 : Int) (i_law : Int) (i_broken : Int) (i_value : Int) (i_sum : Int) (i_set : Nat → Int) (i_rest : Nat → Int) (i_costs : Nat → Int) (H : Heap) (locs : List Loc) (ls : Array Slot), f_HM_findCosts_56 i_row i_weights k2 k14 k22 x1 x2 x3 x4 s0 i_law i_broken i_value i_sum i_set i_rest i_costs = some out → va_P (dC, dI) vwCl (wd_HM_findCosts cA q0 q1 q2 q3 q4 q5 q6 q7 q8 q9 q10 q11 q12 q13 q14 q15 q16 q17 q18 q19 q20 q21 q22 q23 q24 q25 q26 q27 q28 q29 q30 q31 u0 u1 u2 u3 u4 u5 u6 u7 u8 u9 u10 u11 u12 u13 u14 u15 u16 u17 i_row i_weights i_law i_broken i_value i_sum i_set i_rest i_costs) H → va_D A (wd_HM_findCosts cA q0 q1 q2 q3 q4 q5 q6 q7 q8 q9 q10 q11 q12 q13 q14 q15 q16 q17 q18 q19 q20 q21 q22 q23 q24 q25 q26 q27 q28 q29 q30 q31 u0 u1 u2 u3 u4 u5 u6 u7 u8 u9 u10 u11 u12 u13 u14 u15 u16 u17 i_row i_weights i_law i_broken i_value i_sum i_set i_rest i_costs) → va_S A s.heap H locs → lv_has ls 7 [(0, .ref q0), (1, .int (Int32.ofInt x1)), (2, .int (Int32.ofInt x2)), (3, .int (Int32.ofInt x3)), (4, .int (Int32.ofInt x4))] → W p l e rm_HM_findCosts s m args below meth c H locs 0 0 Q (F0 m 56 ls [.int (Int32.ofInt s0)]) := by
    intro k2 ih2 k14 ih14 k22 ih22 x1 x2 x3 x4 s0 i_law i_broken i_value i_sum i_set i_rest i_costs H locs ls hf hP hD hS hl
    unfold f_HM_findCosts_56 at hf
    refine lv_istore (lv' := [(5, .int (Int32.ofInt s0)), (0, .ref q0), (1, .int (Int32.ofInt x1)), (2, .int (Int32.ofInt x2)), (3, .int (Int32.ofInt x3)), (4, .int (Int32.ofInt x4))]) hx hb dX11_findCosts_56 hl (by decide) rfl (fun ls hl => ?_)
    refine lv_iconst (v := Int32.ofInt 0) hx hb dX11_findCosts_58 rfl ?_
    refine lv_istore (lv' := [(6, .int (Int32.ofInt 0)), (5, .int (Int32.ofInt s0)), (0, .ref q0), (1, .int (Int32.ofInt x1)), (2, .int (Int32.ofInt x2)), (3, .int (Int32.ofInt x3)), (4, .int (Int32.ofInt x4))]) hx hb dX11_findCosts_59 hl (by decide) rfl (fun ls hl => ?_)
    exact l_61 _ ih2 _ ih14 _ ih22 _ _ _ _ _ _ _ _ _ _ _ _ _ _ _ _ _ hf hP hD hS (lv_sub hl [2, 3, 4, 5, 6, 1, 0] rfl)
  have b_55 : ∀ (k2 : Int → Int → Int → Int → Int → Int → (Nat → Int) → (Nat → Int) → (Nat → Int) → Option (Int × Int × Int × Int × (Nat → Int) × (Nat → Int) × (Nat → Int))) (_ : ∀ (x1 : Int) (x2 : Int) (i_law : Int) (i_broken : Int) (i_value : Int) (i_sum : Int) (i_set : Nat → Int) (i_rest : Nat → Int) (i_costs : Nat → Int) (H : Heap) (locs : List Loc) (ls : Array Slot), k2 x1 x2 i_law i_broken i_value i_sum i_set i_rest i_costs = some out → va_P (dC, dI) vwCl (wd_HM_findCosts cA q0 q1 q2 q3 q4 q5 q6 q7 q8 q9 q10 q11 q12 q13 q14 q15 q16 q17 q18 q19 q20 q21 q22 q23 q24 q25 q26 q27 q28 q29 q30 q31 u0 u1 u2 u3 u4 u5 u6 u7 u8 u9 u10 u11 u12 u13 u14 u15 u16 u17 i_row i_weights i_law i_broken i_value i_sum i_set i_rest i_costs) H → va_D A (wd_HM_findCosts cA q0 q1 q2 q3 q4 q5 q6 q7 q8 q9 q10 q11 q12 q13 q14 q15 q16 q17 q18 q19 q20 q21 q22 q23 q24 q25 q26 q27 q28 q29 q30 q31 u0 u1 u2 u3 u4 u5 u6 u7 u8 u9 u10 u11 u12 u13 u14 u15 u16 u17 i_row i_weights i_law i_broken i_value i_sum i_set i_rest i_costs) → va_S A s.heap H locs → lv_has ls 7 [(0, .ref q0), (1, .int (Int32.ofInt x1)), (2, .int (Int32.ofInt x2))] → W p l e rm_HM_findCosts s m args below meth c H locs 0 0 Q (F0 m 2 ls [])), ∀ (k14 : Int → Int → Int → Int → Int → Int → Int → (Nat → Int) → (Nat → Int) → (Nat → Int) → Option (Int × Int × Int × Int × (Nat → Int) × (Nat → Int) × (Nat → Int))) (_ : ∀ (x1 : Int) (x2 : Int) (x3 : Int) (i_law : Int) (i_broken : Int) (i_value : Int) (i_sum : Int) (i_set : Nat → Int) (i_rest : Nat → Int) (i_costs : Nat → Int) (H : Heap) (locs : List Loc) (ls : Array Slot), k14 x1 x2 x3 i_law i_broken i_value i_sum i_set i_rest i_costs = some out → va_P (dC, dI) vwCl (wd_HM_findCosts cA q0 q1 q2 q3 q4 q5 q6 q7 q8 q9 q10 q11 q12 q13 q14 q15 q16 q17 q18 q19 q20 q21 q22 q23 q24 q25 q26 q27 q28 q29 q30 q31 u0 u1 u2 u3 u4 u5 u6 u7 u8 u9 u10 u11 u12 u13 u14 u15 u16 u17 i_row i_weights i_law i_broken i_value i_sum i_set i_rest i_costs) H → va_D A (wd_HM_findCosts cA q0 q1 q2 q3 q4 q5 q6 q7 q8 q9 q10 q11 q12 q13 q14 q15 q16 q17 q18 q19 q20 q21 q22 q23 q24 q25 q26 q27 q28 q29 q30 q31 u0 u1 u2 u3 u4 u5 u6 u7 u8 u9 u10 u11 u12 u13 u14 u15 u16 u17 i_row i_weights i_law i_broken i_value i_sum i_set i_rest i_costs) → va_S A s.heap H locs → lv_has ls 7 [(0, .ref q0), (1, .int (Int32.ofInt x1)), (2, .int (Int32.ofInt x2)), (3, .int (Int32.ofInt x3))] → W p l e rm_HM_findCosts s m args below meth c H locs 0 0 Q (F0 m 14 ls [])), ∀ (k22 : Int → Int → Int → Int → Int → Int → Int → Int → (Nat → Int) → (Nat → Int) → (Nat → Int) → Option (Int × Int × Int × Int × (Nat → Int) × (Nat → Int) × (Nat → Int))) (_ : ∀ (x1 : Int) (x2 : Int) (x3 : Int) (x4 : Int) (i_law : Int) (i_broken : Int) (i_value : Int) (i_sum : Int) (i_set : Nat → Int) (i_rest : Nat → Int) (i_costs : Nat → Int) (H : Heap) (locs : List Loc) (ls : Array Slot), k22 x1 x2 x3 x4 i_law i_broken i_value i_sum i_set i_rest i_costs = some out → va_P (dC, dI) vwCl (wd_HM_findCosts cA q0 q1 q2 q3 q4 q5 q6 q7 q8 q9 q10 q11 q12 q13 q14 q15 q16 q17 q18 q19 q20 q21 q22 q23 q24 q25 q26 q27 q28 q29 q30 q31 u0 u1 u2 u3 u4 u5 u6 u7 u8 u9 u10 u11 u12 u13 u14 u15 u16 u17 i_row i_weights i_law i_broken i_value i_sum i_set i_rest i_costs) H → va_D A (wd_HM_findCosts cA q0 q1 q2 q3 q4 q5 q6 q7 q8 q9 q10 q11 q12 q13 q14 q15 q16 q17 q18 q19 q20 q21 q22 q23 q24 q25 q26 q27 q28 q29 q30 q31 u0 u1 u2 u3 u4 u5 u6 u7 u8 u9 u10 u11 u12 u13 u14 u15 u16 u17 i_row i_weights i_law i_broken i_value i_sum i_set i_rest i_costs) → va_S A s.heap H locs → lv_has ls 7 [(0, .ref q0), (1, .int (Int32.ofInt x1)), (2, .int (Int32.ofInt x2)), (3, .int (Int32.ofInt x3)), (4, .int (Int32.ofInt x4))] → W p l e rm_HM_findCosts s m args below meth c H locs 0 0 Q (F0 m 22 ls [])), ∀ (x1 : Int) (x2 : Int) (x3 : Int) (x4 : Int) (i_law : Int) (i_broken : Int) (i_value : Int) (i_sum : Int) (i_set : Nat → Int) (i_rest : Nat → Int) (i_costs : Nat → Int) (H : Heap) (locs : List Loc) (ls : Array Slot), f_HM_findCosts_55 i_row i_weights k2 k14 k22 x1 x2 x3 x4 i_law i_broken i_value i_sum i_set i_rest i_costs = some out → va_P (dC, dI) vwCl (wd_HM_findCosts cA q0 q1 q2 q3 q4 q5 q6 q7 q8 q9 q10 q11 q12 q13 q14 q15 q16 q17 q18 q19 q20 q21 q22 q23 q24 q25 q26 q27 q28 q29 q30 q31 u0 u1 u2 u3 u4 u5 u6 u7 u8 u9 u10 u11 u12 u13 u14 u15 u16 u17 i_row i_weights i_law i_broken i_value i_sum i_set i_rest i_costs) H → va_D A (wd_HM_findCosts cA q0 q1 q2 q3 q4 q5 q6 q7 q8 q9 q10 q11 q12 q13 q14 q15 q16 q17 q18 q19 q20 q21 q22 q23 q24 q25 q26 q27 q28 q29 q30 q31 u0 u1 u2 u3 u4 u5 u6 u7 u8 u9 u10 u11 u12 u13 u14 u15 u16 u17 i_row i_weights i_law i_broken i_value i_sum i_set i_rest i_costs) → va_S A s.heap H locs → lv_has ls 7 [(0, .ref q0), (1, .int (Int32.ofInt x1)), (2, .int (Int32.ofInt x2)), (3, .int (Int32.ofInt x3)), (4, .int (Int32.ofInt x4))] → W p l e rm_HM_findCosts s m args below meth c H locs 0 0 Q (F0 m 55 ls []) := by
    intro k2 ih2 k14 ih14 k22 ih22 x1 x2 x3 x4 i_law i_broken i_value i_sum i_set i_rest i_costs H locs ls hf hP hD hS hl
    unfold f_HM_findCosts_55 at hf
    refine lv_iconst (v := Int32.ofInt 0) hx hb dX11_findCosts_55 rfl ?_
    exact b_56 _ ih2 _ ih14 _ ih22 _ _ _ _ _ _ _ _ _ _ _ _ _ _ _ hf hP hD hS (lv_sub hl [0, 1, 2, 3, 4] rfl)
  have b_22 : ∀ (k2 : Int → Int → Int → Int → Int → Int → (Nat → Int) → (Nat → Int) → (Nat → Int) → Option (Int × Int × Int × Int × (Nat → Int) × (Nat → Int) × (Nat → Int))) (_ : ∀ (x1 : Int) (x2 : Int) (i_law : Int) (i_broken : Int) (i_value : Int) (i_sum : Int) (i_set : Nat → Int) (i_rest : Nat → Int) (i_costs : Nat → Int) (H : Heap) (locs : List Loc) (ls : Array Slot), k2 x1 x2 i_law i_broken i_value i_sum i_set i_rest i_costs = some out → va_P (dC, dI) vwCl (wd_HM_findCosts cA q0 q1 q2 q3 q4 q5 q6 q7 q8 q9 q10 q11 q12 q13 q14 q15 q16 q17 q18 q19 q20 q21 q22 q23 q24 q25 q26 q27 q28 q29 q30 q31 u0 u1 u2 u3 u4 u5 u6 u7 u8 u9 u10 u11 u12 u13 u14 u15 u16 u17 i_row i_weights i_law i_broken i_value i_sum i_set i_rest i_costs) H → va_D A (wd_HM_findCosts cA q0 q1 q2 q3 q4 q5 q6 q7 q8 q9 q10 q11 q12 q13 q14 q15 q16 q17 q18 q19 q20 q21 q22 q23 q24 q25 q26 q27 q28 q29 q30 q31 u0 u1 u2 u3 u4 u5 u6 u7 u8 u9 u10 u11 u12 u13 u14 u15 u16 u17 i_row i_weights i_law i_broken i_value i_sum i_set i_rest i_costs) → va_S A s.heap H locs → lv_has ls 7 [(0, .ref q0), (1, .int (Int32.ofInt x1)), (2, .int (Int32.ofInt x2))] → W p l e rm_HM_findCosts s m args below meth c H locs 0 0 Q (F0 m 2 ls [])), ∀ (k14 : Int → Int → Int → Int → Int → Int → Int → (Nat → Int) → (Nat → Int) → (Nat → Int) → Option (Int × Int × Int × Int × (Nat → Int) × (Nat → Int) × (Nat → Int))) (_ : ∀ (x1 : Int) (x2 : Int) (x3 : Int) (i_law : Int) (i_broken : Int) (i_value : Int) (i_sum : Int) (i_set : Nat → Int) (i_rest : Nat → Int) (i_costs : Nat → Int) (H : Heap) (locs : List Loc) (ls : Array Slot), k14 x1 x2 x3 i_law i_broken i_value i_sum i_set i_rest i_costs = some out → va_P (dC, dI) vwCl (wd_HM_findCosts cA q0 q1 q2 q3 q4 q5 q6 q7 q8 q9 q10 q11 q12 q13 q14 q15 q16 q17 q18 q19 q20 q21 q22 q23 q24 q25 q26 q27 q28 q29 q30 q31 u0 u1 u2 u3 u4 u5 u6 u7 u8 u9 u10 u11 u12 u13 u14 u15 u16 u17 i_row i_weights i_law i_broken i_value i_sum i_set i_rest i_costs) H → va_D A (wd_HM_findCosts cA q0 q1 q2 q3 q4 q5 q6 q7 q8 q9 q10 q11 q12 q13 q14 q15 q16 q17 q18 q19 q20 q21 q22 q23 q24 q25 q26 q27 q28 q29 q30 q31 u0 u1 u2 u3 u4 u5 u6 u7 u8 u9 u10 u11 u12 u13 u14 u15 u16 u17 i_row i_weights i_law i_broken i_value i_sum i_set i_rest i_costs) → va_S A s.heap H locs → lv_has ls 7 [(0, .ref q0), (1, .int (Int32.ofInt x1)), (2, .int (Int32.ofInt x2)), (3, .int (Int32.ofInt x3))] → W p l e rm_HM_findCosts s m args below meth c H locs 0 0 Q (F0 m 14 ls [])), ∀ (k22 : Int → Int → Int → Int → Int → Int → Int → Int → (Nat → Int) → (Nat → Int) → (Nat → Int) → Option (Int × Int × Int × Int × (Nat → Int) × (Nat → Int) × (Nat → Int))) (_ : ∀ (x1 : Int) (x2 : Int) (x3 : Int) (x4 : Int) (i_law : Int) (i_broken : Int) (i_value : Int) (i_sum : Int) (i_set : Nat → Int) (i_rest : Nat → Int) (i_costs : Nat → Int) (H : Heap) (locs : List Loc) (ls : Array Slot), k22 x1 x2 x3 x4 i_law i_broken i_value i_sum i_set i_rest i_costs = some out → va_P (dC, dI) vwCl (wd_HM_findCosts cA q0 q1 q2 q3 q4 q5 q6 q7 q8 q9 q10 q11 q12 q13 q14 q15 q16 q17 q18 q19 q20 q21 q22 q23 q24 q25 q26 q27 q28 q29 q30 q31 u0 u1 u2 u3 u4 u5 u6 u7 u8 u9 u10 u11 u12 u13 u14 u15 u16 u17 i_row i_weights i_law i_broken i_value i_sum i_set i_rest i_costs) H → va_D A (wd_HM_findCosts cA q0 q1 q2 q3 q4 q5 q6 q7 q8 q9 q10 q11 q12 q13 q14 q15 q16 q17 q18 q19 q20 q21 q22 q23 q24 q25 q26 q27 q28 q29 q30 q31 u0 u1 u2 u3 u4 u5 u6 u7 u8 u9 u10 u11 u12 u13 u14 u15 u16 u17 i_row i_weights i_law i_broken i_value i_sum i_set i_rest i_costs) → va_S A s.heap H locs → lv_has ls 7 [(0, .ref q0), (1, .int (Int32.ofInt x1)), (2, .int (Int32.ofInt x2)), (3, .int (Int32.ofInt x3)), (4, .int (Int32.ofInt x4))] → W p l e rm_HM_findCosts s m args below meth c H locs 0 0 Q (F0 m 22 ls [])), ∀ (x1 : Int) (x2 : Int) (x3 : Int) (x4 : Int) (i_law : Int) (i_broken : Int) (i_value : Int) (i_sum : Int) (i_set : Nat → Int) (i_rest : Nat → Int) (i_costs : Nat → Int) (H : Heap) (locs : List Loc) (ls : Array Slot), f_HM_findCosts_22_b i_row i_weights k2 k14 k22 x1 x2 x3 x4 i_law i_broken i_value i_sum i_set i_rest i_costs = some out → va_P (dC, dI) vwCl (wd_HM_findCosts cA q0 q1 q2 q3 q4 q5 q6 q7 q8 q9 q10 q11 q12 q13 q14 q15 q16 q17 q18 q19 q20 q21 q22 q23 q24 q25 q26 q27 q28 q29 q30 q31 u0 u1 u2 u3 u4 u5 u6 u7 u8 u9 u10 u11 u12 u13 u14 u15 u16 u17 i_row i_weights i_law i_broken i_value i_sum i_set i_rest i_costs) H → va_D A (wd_HM_findCosts cA q0 q1 q2 q3 q4 q5 q6 q7 q8 q9 q10 q11 q12 q13 q14 q15 q16 q17 q18 q19 q20 q21 q22 q23 q24 q25 q26 q27 q28 q29 q30 q31 u0 u1 u2 u3 u4 u5 u6 u7 u8 u9 u10 u11 u12 u13 u14 u15 u16 u17 i_row i_weights i_law i_broken i_value i_sum i_set i_rest i_costs) → va_S A s.heap H locs → lv_has ls 7 [(0, .ref q0), (1, .int (Int32.ofInt x1)), (2, .int (Int32.ofInt x2)), (3, .int (Int32.ofInt x3)), (4, .int (Int32.ofInt x4))] → W p l e rm_HM_findCosts s m args below meth c H locs 0 0 Q (F0 m 22 ls []) := by
    intro k2 ih2 k14 ih14 k22 ih22 x1 x2 x3 x4 i_law i_broken i_value i_sum i_set i_rest i_costs H locs ls hf hP hD hS hl
    unfold f_HM_findCosts_22_b at hf
    refine lv_iload hx hb dX11_findCosts_22 (lv_at hl 4 rfl) ?_
    refine lv_bipush (v := Int32.ofInt 16) hx hb dX11_findCosts_24 (by decide) ?_
    refine xi_icmp_ge (tgt := 140) hx hb dX11_findCosts_26 (by decide) hf (fun hf => ?_) (fun hf => ?_)
    · refine xi_iinc hx hb dX11_findCosts_140 hl (k := 3) rfl (by decide) hf (fun v1 ls hl hf => ?_)
      have hl : lv_has ls 7 [(3, .int (Int32.ofInt v1)), (0, .ref q0), (1, .int (Int32.ofInt x1)), (2, .int (Int32.ofInt x2)), (4, .int (Int32.ofInt x4))] := hl
      refine lv_goto (tgt := 14) hx hb dX11_findCosts_143 (by decide) ?_
      exact ih14 _ _ _ _ _ _ _ _ _ _ _ _ _ hf hP hD hS (lv_sub hl [1, 2, 3, 0] rfl)
    · refine lv_iload hx hb dX11_findCosts_29 (lv_at hl 4 rfl) ?_
      refine lv_iconst (v := Int32.ofInt 4) hx hb dX11_findCosts_31 rfl ?_
      refine xi_idiv hx hb dX11_findCosts_32 hf (fun v2 hf => ?_)
      refine lv_aload_n hx hb dX11_findCosts_33 rfl (lv_at hl 0 rfl) ?_
      refine xe_d1 hf (fun v3 hg hf => ?_)
      have hC : ([0, 1] : List Nat).map (fun i => (wd_HM_findCosts cA q0 q1 q2 q3 q4 q5 q6 q7 q8 q9 q10 q11 q12 q13 q14 q15 q16 q17 q18 q19 q20 q21 q22 q23 q24 q25 q26 q27 q28 q29 q30 q31 u0 u1 u2 u3 u4 u5 u6 u7 u8 u9 u10 u11 u12 u13 u14 u15 u16 u17 i_row i_weights i_law i_broken i_value i_sum i_set i_rest i_costs)[i]?) = (wd_HM_columns cA q0 q1 q2 q3 q4 q5 q6 q7 q8 q9 q10 q11 q12 q13 q14 q15 q16 q17 q18 q19 q20 q21 q22 q23 q24 q25 q26 q27 q28 q29 q30 q31 u0 u1 u2 u3 u4 u5 u6 u7 u8 u9 u10 u11 u12 u13 u14 i_law i_broken i_value i_sum u15 u16 u17 i_row).map some := rfl
      refine xv_afterI (ws' := (wd_HM_findCosts cA q0 q1 q2 q3 q4 q5 q6 q7 q8 q9 q10 q11 q12 q13 q14 q15 q16 q17 q18 q19 q20 q21 q22 q23 q24 q25 q26 q27 q28 q29 q30 q31 u0 u1 u2 u3 u4 u5 u6 u7 u8 u9 u10 u11 u12 u13 u14 u15 u16 u17 i_row i_weights i_law i_broken i_value i_sum i_set i_rest i_costs)) (isC := [0, 1]) (ps := [some 0, some 1, none, none, none, none]) (va_runV (As := []) (rest := [.int (Int32.ofInt v2)]) ⟨hx, hb, hml, hown, hts⟩ (c_HM_columns l ev dC dI cA q0 q1 q2 q3 q4 q5 q6 q7 q8 q9 q10 q11 q12 q13 q14 q15 q16 q17 q18 q19 q20 q21 q22 q23 q24 q25 q26 q27 q28 q29 q30 q31 u0 u1 u2 u3 u4 u5 u6 u7 u8 u9 u10 u11 u12 u13 u14 i_law i_broken i_value i_sum u15 u16 u17 hg H.size) (cwV 0 hts (zgV zw_1344 zw_1346 zw_41 zw_115 zw_1347) rfl rfl rfl hd_HM_columns ⟨Nat.le_of_ble_eq_true rfl, Nat.le_of_ble_eq_true rfl⟩) (xv_preV (T := TX11) (N := 53) hE hA hS hK hP hD (isC := [0, 1]) (by decide +kernel) hC (q0 := 0) (ci := 11) rfl rfl) rfl rfl hl.1 rfl (lv_room (Nat.le_of_ble_eq_true rfl)) dX11_findCosts_34 ⟨Nat.le_refl _, Nat.le_refl _⟩) hP hD hS hA (by decide +kernel) rfl hC rfl rfl (fun H locs hP hD hS => ?_)
      refine xi_icmp_ge (tgt := 55) hx hb dX11_findCosts_37 (by decide) hf (fun hf => ?_) (fun hf => ?_)
      · exact b_55 _ ih2 _ ih14 _ ih22 _ _ _ _ _ _ _ _ _ _ _ _ _ _ hf hP hD hS (lv_sub hl [0, 1, 2, 3, 4] rfl)
      · refine lv_iload hx hb dX11_findCosts_40 (lv_at hl 4 rfl) ?_
        refine lv_iconst (v := Int32.ofInt 4) hx hb dX11_findCosts_42 rfl ?_
        refine xi_irem hx hb dX11_findCosts_43 hf (fun v4 hf => ?_)
        refine lv_aload_n hx hb dX11_findCosts_44 rfl (lv_at hl 0 rfl) ?_
        refine xe_d1 hf (fun v5 hg hf => ?_)
        have hC : ([0, 1] : List Nat).map (fun i => (wd_HM_findCosts cA q0 q1 q2 q3 q4 q5 q6 q7 q8 q9 q10 q11 q12 q13 q14 q15 q16 q17 q18 q19 q20 q21 q22 q23 q24 q25 q26 q27 q28 q29 q30 q31 u0 u1 u2 u3 u4 u5 u6 u7 u8 u9 u10 u11 u12 u13 u14 u15 u16 u17 i_row i_weights i_law i_broken i_value i_sum i_set i_rest i_costs)[i]?) = (wd_HM_columns cA q0 q1 q2 q3 q4 q5 q6 q7 q8 q9 q10 q11 q12 q13 q14 q15 q16 q17 q18 q19 q20 q21 q22 q23 q24 q25 q26 q27 q28 q29 q30 q31 u0 u1 u2 u3 u4 u5 u6 u7 u8 u9 u10 u11 u12 u13 u14 i_law i_broken i_value i_sum u15 u16 u17 i_row).map some := rfl
        refine xv_afterI (ws' := (wd_HM_findCosts cA q0 q1 q2 q3 q4 q5 q6 q7 q8 q9 q10 q11 q12 q13 q14 q15 q16 q17 q18 q19 q20 q21 q22 q23 q24 q25 q26 q27 q28 q29 q30 q31 u0 u1 u2 u3 u4 u5 u6 u7 u8 u9 u10 u11 u12 u13 u14 u15 u16 u17 i_row i_weights i_law i_broken i_value i_sum i_set i_rest i_costs)) (isC := [0, 1]) (ps := [some 0, some 1, none, none, none, none]) (va_runV (As := []) (rest := [.int (Int32.ofInt v4)]) ⟨hx, hb, hml, hown, hts⟩ (c_HM_columns l ev dC dI cA q0 q1 q2 q3 q4 q5 q6 q7 q8 q9 q10 q11 q12 q13 q14 q15 q16 q17 q18 q19 q20 q21 q22 q23 q24 q25 q26 q27 q28 q29 q30 q31 u0 u1 u2 u3 u4 u5 u6 u7 u8 u9 u10 u11 u12 u13 u14 i_law i_broken i_value i_sum u15 u16 u17 hg H.size) (cwV 0 hts (zgV zw_1344 zw_1346 zw_41 zw_115 zw_1347) rfl rfl rfl hd_HM_columns ⟨Nat.le_of_ble_eq_true rfl, Nat.le_of_ble_eq_true rfl⟩) (xv_preV (T := TX11) (N := 53) hE hA hS hK hP hD (isC := [0, 1]) (by decide +kernel) hC (q0 := 0) (ci := 11) rfl rfl) rfl rfl hl.1 rfl (lv_room (Nat.le_of_ble_eq_true rfl)) dX11_findCosts_45 ⟨Nat.le_refl _, Nat.le_refl _⟩) hP hD hS hA (by decide +kernel) rfl hC rfl rfl (fun H locs hP hD hS => ?_)
        refine xi_icmp_ge (tgt := 55) hx hb dX11_findCosts_48 (by decide) hf (fun hf => ?_) (fun hf => ?_)
        · exact b_55 _ ih2 _ ih14 _ ih22 _ _ _ _ _ _ _ _ _ _ _ _ _ _ hf hP hD hS (lv_sub hl [0, 1, 2, 3, 4] rfl)
        · refine lv_iconst (v := Int32.ofInt 1) hx hb dX11_findCosts_51 rfl ?_
          refine lv_goto (tgt := 56) hx hb dX11_findCosts_52 (by decide) ?_
          exact b_56 _ ih2 _ ih14 _ ih22 _ _ _ _ _ _ _ _ _ _ _ _ _ _ _ hf hP hD hS (lv_sub hl [0, 1, 2, 3, 4] rfl)
  have l_22 : ∀ (k2 : Int → Int → Int → Int → Int → Int → (Nat → Int) → (Nat → Int) → (Nat → Int) → Option (Int × Int × Int × Int × (Nat → Int) × (Nat → Int) × (Nat → Int))) (_ : ∀ (x1 : Int) (x2 : Int) (i_law : Int) (i_broken : Int) (i_value : Int) (i_sum : Int) (i_set : Nat → Int) (i_rest : Nat → Int) (i_costs : Nat → Int) (H : Heap) (locs : List Loc) (ls : Array Slot), k2 x1 x2 i_law i_broken i_value i_sum i_set i_rest i_costs = some out → va_P (dC, dI) vwCl (wd_HM_findCosts cA q0 q1 q2 q3 q4 q5 q6 q7 q8 q9 q10 q11 q12 q13 q14 q15 q16 q17 q18 q19 q20 q21 q22 q23 q24 q25 q26 q27 q28 q29 q30 q31 u0 u1 u2 u3 u4 u5 u6 u7 u8 u9 u10 u11 u12 u13 u14 u15 u16 u17 i_row i_weights i_law i_broken i_value i_sum i_set i_rest i_costs) H → va_D A (wd_HM_findCosts cA q0 q1 q2 q3 q4 q5 q6 q7 q8 q9 q10 q11 q12 q13 q14 q15 q16 q17 q18 q19 q20 q21 q22 q23 q24 q25 q26 q27 q28 q29 q30 q31 u0 u1 u2 u3 u4 u5 u6 u7 u8 u9 u10 u11 u12 u13 u14 u15 u16 u17 i_row i_weights i_law i_broken i_value i_sum i_set i_rest i_costs) → va_S A s.heap H locs → lv_has ls 7 [(0, .ref q0), (1, .int (Int32.ofInt x1)), (2, .int (Int32.ofInt x2))] → W p l e rm_HM_findCosts s m args below meth c H locs 0 0 Q (F0 m 2 ls [])), ∀ (k14 : Int → Int → Int → Int → Int → Int → Int → (Nat → Int) → (Nat → Int) → (Nat → Int) → Option (Int × Int × Int × Int × (Nat → Int) × (Nat → Int) × (Nat → Int))) (_ : ∀ (x1 : Int) (x2 : Int) (x3 : Int) (i_law : Int) (i_broken : Int) (i_value : Int) (i_sum : Int) (i_set : Nat → Int) (i_rest : Nat → Int) (i_costs : Nat → Int) (H : Heap) (locs : List Loc) (ls : Array Slot), k14 x1 x2 x3 i_law i_broken i_value i_sum i_set i_rest i_costs = some out → va_P (dC, dI) vwCl (wd_HM_findCosts cA q0 q1 q2 q3 q4 q5 q6 q7 q8 q9 q10 q11 q12 q13 q14 q15 q16 q17 q18 q19 q20 q21 q22 q23 q24 q25 q26 q27 q28 q29 q30 q31 u0 u1 u2 u3 u4 u5 u6 u7 u8 u9 u10 u11 u12 u13 u14 u15 u16 u17 i_row i_weights i_law i_broken i_value i_sum i_set i_rest i_costs) H → va_D A (wd_HM_findCosts cA q0 q1 q2 q3 q4 q5 q6 q7 q8 q9 q10 q11 q12 q13 q14 q15 q16 q17 q18 q19 q20 q21 q22 q23 q24 q25 q26 q27 q28 q29 q30 q31 u0 u1 u2 u3 u4 u5 u6 u7 u8 u9 u10 u11 u12 u13 u14 u15 u16 u17 i_row i_weights i_law i_broken i_value i_sum i_set i_rest i_costs) → va_S A s.heap H locs → lv_has ls 7 [(0, .ref q0), (1, .int (Int32.ofInt x1)), (2, .int (Int32.ofInt x2)), (3, .int (Int32.ofInt x3))] → W p l e rm_HM_findCosts s m args below meth c H locs 0 0 Q (F0 m 14 ls [])), ∀ (n : Nat), ∀ (x1 : Int) (x2 : Int) (x3 : Int) (x4 : Int) (i_law : Int) (i_broken : Int) (i_value : Int) (i_sum : Int) (i_set : Nat → Int) (i_rest : Nat → Int) (i_costs : Nat → Int) (H : Heap) (locs : List Loc) (ls : Array Slot), f_HM_findCosts_22 i_row i_weights k2 k14 n x1 x2 x3 x4 i_law i_broken i_value i_sum i_set i_rest i_costs = some out → va_P (dC, dI) vwCl (wd_HM_findCosts cA q0 q1 q2 q3 q4 q5 q6 q7 q8 q9 q10 q11 q12 q13 q14 q15 q16 q17 q18 q19 q20 q21 q22 q23 q24 q25 q26 q27 q28 q29 q30 q31 u0 u1 u2 u3 u4 u5 u6 u7 u8 u9 u10 u11 u12 u13 u14 u15 u16 u17 i_row i_weights i_law i_broken i_value i_sum i_set i_rest i_costs) H → va_D A (wd_HM_findCosts cA q0 q1 q2 q3 q4 q5 q6 q7 q8 q9 q10 q11 q12 q13 q14 q15 q16 q17 q18 q19 q20 q21 q22 q23 q24 q25 q26 q27 q28 q29 q30 q31 u0 u1 u2 u3 u4 u5 u6 u7 u8 u9 u10 u11 u12 u13 u14 u15 u16 u17 i_row i_weights i_law i_broken i_value i_sum i_set i_rest i_costs) → va_S A s.heap H locs → lv_has ls 7 [(0, .ref q0), (1, .int (Int32.ofInt x1)), (2, .int (Int32.ofInt x2)), (3, .int (Int32.ofInt x3)), (4, .int (Int32.ofInt x4))] → W p l e rm_HM_findCosts s m args below meth c H locs 0 0 Q (F0 m 22 ls []) := by
    intro k2 ih2 k14 ih14 n
    induction n with
    | zero => intro x1 x2 x3 x4 i_law i_broken i_value i_sum i_set i_rest i_costs H locs ls hf hP hD hS hl; exact nomatch hf
    | succ n ih => intro x1 x2 x3 x4 i_law i_broken i_value i_sum i_set i_rest i_costs H locs ls hf hP hD hS hl; exact b_22 k2 ih2 k14 ih14 (f_HM_findCosts_22 i_row i_weights k2 k14 n) ih x1 x2 x3 x4 i_law i_broken i_value i_sum i_set i_rest i_costs H locs ls hf hP hD hS hl
  have b_14 : ∀ (k2 : Int → Int → Int → Int → Int → Int → (Nat → Int) → (Nat → Int) → (Nat → Int) → Option (Int × Int × Int × Int × (Nat → Int) × (Nat → Int) × (Nat → Int))) (_ : ∀ (x1 : Int) (x2 : Int) (i_law : Int) (i_broken : Int) (i_value : Int) (i_sum : Int) (i_set : Nat → Int) (i_rest : Nat → Int) (i_costs : Nat → Int) (H : Heap) (locs : List Loc) (ls : Array Slot), k2 x1 x2 i_law i_broken i_value i_sum i_set i_rest i_costs = some out → va_P (dC, dI) vwCl (wd_HM_findCosts cA q0 q1 q2 q3 q4 q5 q6 q7 q8 q9 q10 q11 q12 q13 q14 q15 q16 q17 q18 q19 q20 q21 q22 q23 q24 q25 q26 q27 q28 q29 q30 q31 u0 u1 u2 u3 u4 u5 u6 u7 u8 u9 u10 u11 u12 u13 u14 u15 u16 u17 i_row i_weights i_law i_broken i_value i_sum i_set i_rest i_costs) H → va_D A (wd_HM_findCosts cA q0 q1 q2 q3 q4 q5 q6 q7 q8 q9 q10 q11 q12 q13 q14 q15 q16 q17 q18 q19 q20 q21 q22 q23 q24 q25 q26 q27 q28 q29 q30 q31 u0 u1 u2 u3 u4 u5 u6 u7 u8 u9 u10 u11 u12 u13 u14 u15 u16 u17 i_row i_weights i_law i_broken i_value i_sum i_set i_rest i_costs) → va_S A s.heap H locs → lv_has ls 7 [(0, .ref q0), (1, .int (Int32.ofInt x1)), (2, .int (Int32.ofInt x2))] → W p l e rm_HM_findCosts s m args below meth c H locs 0 0 Q (F0 m 2 ls [])), ∀ (k14 : Int → Int → Int → Int → Int → Int → Int → (Nat → Int) → (Nat → Int) → (Nat → Int) → Option (Int × Int × Int × Int × (Nat → Int) × (Nat → Int) × (Nat → Int))) (_ : ∀ (x1 : Int) (x2 : Int) (x3 : Int) (i_law : Int) (i_broken : Int) (i_value : Int) (i_sum : Int) (i_set : Nat → Int) (i_rest : Nat → Int) (i_costs : Nat → Int) (H : Heap) (locs : List Loc) (ls : Array Slot), k14 x1 x2 x3 i_law i_broken i_value i_sum i_set i_rest i_costs = some out → va_P (dC, dI) vwCl (wd_HM_findCosts cA q0 q1 q2 q3 q4 q5 q6 q7 q8 q9 q10 q11 q12 q13 q14 q15 q16 q17 q18 q19 q20 q21 q22 q23 q24 q25 q26 q27 q28 q29 q30 q31 u0 u1 u2 u3 u4 u5 u6 u7 u8 u9 u10 u11 u12 u13 u14 u15 u16 u17 i_row i_weights i_law i_broken i_value i_sum i_set i_rest i_costs) H → va_D A (wd_HM_findCosts cA q0 q1 q2 q3 q4 q5 q6 q7 q8 q9 q10 q11 q12 q13 q14 q15 q16 q17 q18 q19 q20 q21 q22 q23 q24 q25 q26 q27 q28 q29 q30 q31 u0 u1 u2 u3 u4 u5 u6 u7 u8 u9 u10 u11 u12 u13 u14 u15 u16 u17 i_row i_weights i_law i_broken i_value i_sum i_set i_rest i_costs) → va_S A s.heap H locs → lv_has ls 7 [(0, .ref q0), (1, .int (Int32.ofInt x1)), (2, .int (Int32.ofInt x2)), (3, .int (Int32.ofInt x3))] → W p l e rm_HM_findCosts s m args below meth c H locs 0 0 Q (F0 m 14 ls [])), ∀ (x1 : Int) (x2 : Int) (x3 : Int) (i_law : Int) (i_broken : Int) (i_value : Int) (i_sum : Int) (i_set : Nat → Int) (i_rest : Nat → Int) (i_costs : Nat → Int) (H : Heap) (locs : List Loc) (ls : Array Slot), f_HM_findCosts_14_b i_row i_weights k2 k14 x1 x2 x3 i_law i_broken i_value i_sum i_set i_rest i_costs = some out → va_P (dC, dI) vwCl (wd_HM_findCosts cA q0 q1 q2 q3 q4 q5 q6 q7 q8 q9 q10 q11 q12 q13 q14 q15 q16 q17 q18 q19 q20 q21 q22 q23 q24 q25 q26 q27 q28 q29 q30 q31 u0 u1 u2 u3 u4 u5 u6 u7 u8 u9 u10 u11 u12 u13 u14 u15 u16 u17 i_row i_weights i_law i_broken i_value i_sum i_set i_rest i_costs) H → va_D A (wd_HM_findCosts cA q0 q1 q2 q3 q4 q5 q6 q7 q8 q9 q10 q11 q12 q13 q14 q15 q16 q17 q18 q19 q20 q21 q22 q23 q24 q25 q26 q27 q28 q29 q30 q31 u0 u1 u2 u3 u4 u5 u6 u7 u8 u9 u10 u11 u12 u13 u14 u15 u16 u17 i_row i_weights i_law i_broken i_value i_sum i_set i_rest i_costs) → va_S A s.heap H locs → lv_has ls 7 [(0, .ref q0), (1, .int (Int32.ofInt x1)), (2, .int (Int32.ofInt x2)), (3, .int (Int32.ofInt x3))] → W p l e rm_HM_findCosts s m args below meth c H locs 0 0 Q (F0 m 14 ls []) := by
    intro k2 ih2 k14 ih14 x1 x2 x3 i_law i_broken i_value i_sum i_set i_rest i_costs H locs ls hf hP hD hS hl
    unfold f_HM_findCosts_14_b at hf
    refine lv_iload_n hx hb dX11_findCosts_14 rfl (lv_at hl 3 rfl) ?_
    refine lv_iload_n hx hb dX11_findCosts_15 rfl (lv_at hl 1 rfl) ?_
    refine xi_icmp_ge (tgt := 146) hx hb dX11_findCosts_16 (by decide) hf (fun hf => ?_) (fun hf => ?_)
    · refine xi_iinc hx hb dX11_findCosts_146 hl (k := 2) rfl (by decide) hf (fun v1 ls hl hf => ?_)
      have hl : lv_has ls 7 [(2, .int (Int32.ofInt v1)), (0, .ref q0), (1, .int (Int32.ofInt x1)), (3, .int (Int32.ofInt x3))] := hl
      refine lv_goto (tgt := 2) hx hb dX11_findCosts_149 (by decide) ?_
      exact ih2 _ _ _ _ _ _ _ _ _ _ _ _ hf hP hD hS (lv_sub hl [1, 2, 0] rfl)
    · refine lv_iconst (v := Int32.ofInt 0) hx hb dX11_findCosts_19 rfl ?_
      refine lv_istore (lv' := [(4, .int (Int32.ofInt 0)), (0, .ref q0), (1, .int (Int32.ofInt x1)), (2, .int (Int32.ofInt x2)), (3, .int (Int32.ofInt x3))]) hx hb dX11_findCosts_20 hl (by decide) rfl (fun ls hl => ?_)
      exact l_22 _ ih2 _ ih14 _ _ _ _ _ _ _ _ _ _ _ _ _ _ _ hf hP hD hS (lv_sub hl [1, 2, 3, 4, 0] rfl)
  have l_14 : ∀ (k2 : Int → Int → Int → Int → Int → Int → (Nat → Int) → (Nat → Int) → (Nat → Int) → Option (Int × Int × Int × Int × (Nat → Int) × (Nat → Int) × (Nat → Int))) (_ : ∀ (x1 : Int) (x2 : Int) (i_law : Int) (i_broken : Int) (i_value : Int) (i_sum : Int) (i_set : Nat → Int) (i_rest : Nat → Int) (i_costs : Nat → Int) (H : Heap) (locs : List Loc) (ls : Array Slot), k2 x1 x2 i_law i_broken i_value i_sum i_set i_rest i_costs = some out → va_P (dC, dI) vwCl (wd_HM_findCosts cA q0 q1 q2 q3 q4 q5 q6 q7 q8 q9 q10 q11 q12 q13 q14 q15 q16 q17 q18 q19 q20 q21 q22 q23 q24 q25 q26 q27 q28 q29 q30 q31 u0 u1 u2 u3 u4 u5 u6 u7 u8 u9 u10 u11 u12 u13 u14 u15 u16 u17 i_row i_weights i_law i_broken i_value i_sum i_set i_rest i_costs) H → va_D A (wd_HM_findCosts cA q0 q1 q2 q3 q4 q5 q6 q7 q8 q9 q10 q11 q12 q13 q14 q15 q16 q17 q18 q19 q20 q21 q22 q23 q24 q25 q26 q27 q28 q29 q30 q31 u0 u1 u2 u3 u4 u5 u6 u7 u8 u9 u10 u11 u12 u13 u14 u15 u16 u17 i_row i_weights i_law i_broken i_value i_sum i_set i_rest i_costs) → va_S A s.heap H locs → lv_has ls 7 [(0, .ref q0), (1, .int (Int32.ofInt x1)), (2, .int (Int32.ofInt x2))] → W p l e rm_HM_findCosts s m args below meth c H locs 0 0 Q (F0 m 2 ls [])), ∀ (n : Nat), ∀ (x1 : Int) (x2 : Int) (x3 : Int) (i_law : Int) (i_broken : Int) (i_value : Int) (i_sum : Int) (i_set : Nat → Int) (i_rest : Nat → Int) (i_costs : Nat → Int) (H : Heap) (locs : List Loc) (ls : Array Slot), f_HM_findCosts_14 i_row i_weights k2 n x1 x2 x3 i_law i_broken i_value i_sum i_set i_rest i_costs = some out → va_P (dC, dI) vwCl (wd_HM_findCosts cA q0 q1 q2 q3 q4 q5 q6 q7 q8 q9 q10 q11 q12 q13 q14 q15 q16 q17 q18 q19 q20 q21 q22 q23 q24 q25 q26 q27 q28 q29 q30 q31 u0 u1 u2 u3 u4 u5 u6 u7 u8 u9 u10 u11 u12 u13 u14 u15 u16 u17 i_row i_weights i_law i_broken i_value i_sum i_set i_rest i_costs) H → va_D A (wd_HM_findCosts cA q0 q1 q2 q3 q4 q5 q6 q7 q8 q9 q10 q11 q12 q13 q14 q15 q16 q17 q18 q19 q20 q21 q22 q23 q24 q25 q26 q27 q28 q29 q30 q31 u0 u1 u2 u3 u4 u5 u6 u7 u8 u9 u10 u11 u12 u13 u14 u15 u16 u17 i_row i_weights i_law i_broken i_value i_sum i_set i_rest i_costs) → va_S A s.heap H locs → lv_has ls 7 [(0, .ref q0), (1, .int (Int32.ofInt x1)), (2, .int (Int32.ofInt x2)), (3, .int (Int32.ofInt x3))] → W p l e rm_HM_findCosts s m args below meth c H locs 0 0 Q (F0 m 14 ls []) := by
    intro k2 ih2 n
    induction n with
    | zero => intro x1 x2 x3 i_law i_broken i_value i_sum i_set i_rest i_costs H locs ls hf hP hD hS hl; exact nomatch hf
    | succ n ih => intro x1 x2 x3 i_law i_broken i_value i_sum i_set i_rest i_costs H locs ls hf hP hD hS hl; exact b_14 k2 ih2 (f_HM_findCosts_14 i_row i_weights k2 n) ih x1 x2 x3 i_law i_broken i_value i_sum i_set i_rest i_costs H locs ls hf hP hD hS hl
  have b_2 : ∀ (k2 : Int → Int → Int → Int → Int → Int → (Nat → Int) → (Nat → Int) → (Nat → Int) → Option (Int × Int × Int × Int × (Nat → Int) × (Nat → Int) × (Nat → Int))) (_ : ∀ (x1 : Int) (x2 : Int) (i_law : Int) (i_broken : Int) (i_value : Int) (i_sum : Int) (i_set : Nat → Int) (i_rest : Nat → Int) (i_costs : Nat → Int) (H : Heap) (locs : List Loc) (ls : Array Slot), k2 x1 x2 i_law i_broken i_value i_sum i_set i_rest i_costs = some out → va_P (dC, dI) vwCl (wd_HM_findCosts cA q0 q1 q2 q3 q4 q5 q6 q7 q8 q9 q10 q11 q12 q13 q14 q15 q16 q17 q18 q19 q20 q21 q22 q23 q24 q25 q26 q27 q28 q29 q30 q31 u0 u1 u2 u3 u4 u5 u6 u7 u8 u9 u10 u11 u12 u13 u14 u15 u16 u17 i_row i_weights i_law i_broken i_value i_sum i_set i_rest i_costs) H → va_D A (wd_HM_findCosts cA q0 q1 q2 q3 q4 q5 q6 q7 q8 q9 q10 q11 q12 q13 q14 q15 q16 q17 q18 q19 q20 q21 q22 q23 q24 q25 q26 q27 q28 q29 q30 q31 u0 u1 u2 u3 u4 u5 u6 u7 u8 u9 u10 u11 u12 u13 u14 u15 u16 u17 i_row i_weights i_law i_broken i_value i_sum i_set i_rest i_costs) → va_S A s.heap H locs → lv_has ls 7 [(0, .ref q0), (1, .int (Int32.ofInt x1)), (2, .int (Int32.ofInt x2))] → W p l e rm_HM_findCosts s m args below meth c H locs 0 0 Q (F0 m 2 ls [])), ∀ (x1 : Int) (x2 : Int) (i_law : Int) (i_broken : Int) (i_value : Int) (i_sum : Int) (i_set : Nat → Int) (i_rest : Nat → Int) (i_costs : Nat → Int) (H : Heap) (locs : List Loc) (ls : Array Slot), f_HM_findCosts_2_b i_row i_weights k2 x1 x2 i_law i_broken i_value i_sum i_set i_rest i_costs = some out → va_P (dC, dI) vwCl (wd_HM_findCosts cA q0 q1 q2 q3 q4 q5 q6 q7 q8 q9 q10 q11 q12 q13 q14 q15 q16 q17 q18 q19 q20 q21 q22 q23 q24 q25 q26 q27 q28 q29 q30 q31 u0 u1 u2 u3 u4 u5 u6 u7 u8 u9 u10 u11 u12 u13 u14 u15 u16 u17 i_row i_weights i_law i_broken i_value i_sum i_set i_rest i_costs) H → va_D A (wd_HM_findCosts cA q0 q1 q2 q3 q4 q5 q6 q7 q8 q9 q10 q11 q12 q13 q14 q15 q16 q17 q18 q19 q20 q21 q22 q23 q24 q25 q26 q27 q28 q29 q30 q31 u0 u1 u2 u3 u4 u5 u6 u7 u8 u9 u10 u11 u12 u13 u14 u15 u16 u17 i_row i_weights i_law i_broken i_value i_sum i_set i_rest i_costs) → va_S A s.heap H locs → lv_has ls 7 [(0, .ref q0), (1, .int (Int32.ofInt x1)), (2, .int (Int32.ofInt x2))] → W p l e rm_HM_findCosts s m args below meth c H locs 0 0 Q (F0 m 2 ls []) := by
    intro k2 ih2 x1 x2 i_law i_broken i_value i_sum i_set i_rest i_costs H locs ls hf hP hD hS hl
    unfold f_HM_findCosts_2_b at hf
    refine lv_iload_n hx hb dX11_findCosts_2 rfl (lv_at hl 2 rfl) ?_
    refine lv_aload_n hx hb dX11_findCosts_3 rfl (lv_at hl 0 rfl) ?_
    refine va_get (D := (dC, dI)) (ci := 11) (v := .ref q2) (C := RX11) (T := TX11) (N := 53) hx hb hz zi_X11 hown hK hP 0 rfl rfl 3 (by decide) (hz _ zw_1168) (fun _ h9 => h9) rfl dX11_findCosts_4 ?_
    refine lv_iconst (v := Int32.ofInt 1) hx hb dX11_findCosts_7 rfl ?_
    refine xi_iald hx hb hK hP 1 0 rfl rfl dX11_findCosts_8 hf (fun v1 hf => ?_)
    refine xi_icmp_ge (tgt := 152) hx hb dX11_findCosts_9 (by decide) hf (fun hf => ?_) (fun hf => ?_)
    · obtain rfl := Option.some.inj hf
      exact hret _ _ _ _ dX11_findCosts_152 hP hD hS
    · refine lv_iconst (v := Int32.ofInt 0) hx hb dX11_findCosts_12 rfl ?_
      refine lv_istore_n (lv' := [(3, .int (Int32.ofInt 0)), (0, .ref q0), (1, .int (Int32.ofInt x1)), (2, .int (Int32.ofInt x2))]) hx hb dX11_findCosts_13 rfl hl (by decide) rfl (fun ls hl => ?_)
      exact l_14 _ ih2 _ _ _ _ _ _ _ _ _ _ _ _ _ _ hf hP hD hS (lv_sub hl [1, 2, 3, 0] rfl)
  have l_2 : ∀ (n : Nat), ∀ (x1 : Int) (x2 : Int) (i_law : Int) (i_broken : Int) (i_value : Int) (i_sum : Int) (i_set : Nat → Int) (i_rest : Nat → Int) (i_costs : Nat → Int) (H : Heap) (locs : List Loc) (ls : Array Slot), f_HM_findCosts_2 i_row i_weights n x1 x2 i_law i_broken i_value i_sum i_set i_rest i_costs = some out → va_P (dC, dI) vwCl (wd_HM_findCosts cA q0 q1 q2 q3 q4 q5 q6 q7 q8 q9 q10 q11 q12 q13 q14 q15 q16 q17 q18 q19 q20 q21 q22 q23 q24 q25 q26 q27 q28 q29 q30 q31 u0 u1 u2 u3 u4 u5 u6 u7 u8 u9 u10 u11 u12 u13 u14 u15 u16 u17 i_row i_weights i_law i_broken i_value i_sum i_set i_rest i_costs) H → va_D A (wd_HM_findCosts cA q0 q1 q2 q3 q4 q5 q6 q7 q8 q9 q10 q11 q12 q13 q14 q15 q16 q17 q18 q19 q20 q21 q22 q23 q24 q25 q26 q27 q28 q29 q30 q31 u0 u1 u2 u3 u4 u5 u6 u7 u8 u9 u10 u11 u12 u13 u14 u15 u16 u17 i_row i_weights i_law i_broken i_value i_sum i_set i_rest i_costs) → va_S A s.heap H locs → lv_has ls 7 [(0, .ref q0), (1, .int (Int32.ofInt x1)), (2, .int (Int32.ofInt x2))] → W p l e rm_HM_findCosts s m args below meth c H locs 0 0 Q (F0 m 2 ls []) := by
    intro n
    induction n with
    | zero => intro x1 x2 i_law i_broken i_value i_sum i_set i_rest i_costs H locs ls hf hP hD hS hl; exact nomatch hf
    | succ n ih => intro x1 x2 i_law i_broken i_value i_sum i_set i_rest i_costs H locs ls hf hP hD hS hl; exact b_2 (f_HM_findCosts_2 i_row i_weights n) ih x1 x2 i_law i_broken i_value i_sum i_set i_rest i_costs H locs ls hf hP hD hS hl
  unfold f_HM_findCosts at hf
  refine lv_iconst (v := Int32.ofInt 0) hx hb dX11_findCosts_0 rfl ?_
  refine lv_istore_n (lv' := [(2, .int (Int32.ofInt 0)), (0, .ref q0), (1, .int (Int32.ofInt x1))]) hx hb dX11_findCosts_1 rfl hl (by decide) rfl (fun ls hl => ?_)
  exact l_2  _ _ _ _ _ _ _ _ _ _ _ _ _ hf hP hD hS (lv_sub hl [1, 2, 0] rfl)
theorem dX11_isMove_0 : decode cX11_isMove 0 = .ok (.iload_n 1, 1) := by decide +kernel
theorem dX11_isMove_1 : decode cX11_isMove 1 = .ok (.iconst 4, 1) := by decide +kernel
theorem dX11_isMove_2 : decode cX11_isMove 2 = .ok (.idiv, 1) := by decide +kernel
theorem dX11_isMove_3 : decode cX11_isMove 3 = .ok (.istore_n 3, 1) := by decide +kernel
theorem dX11_isMove_4 : decode cX11_isMove 4 = .ok (.iload_n 1, 1) := by decide +kernel
theorem dX11_isMove_5 : decode cX11_isMove 5 = .ok (.iconst 4, 1) := by decide +kernel
theorem dX11_isMove_6 : decode cX11_isMove 6 = .ok (.irem, 1) := by decide +kernel
theorem dX11_isMove_7 : decode cX11_isMove 7 = .ok (.istore 4, 2) := by decide +kernel
theorem dX11_isMove_9 : decode cX11_isMove 9 = .ok (.iload_n 3, 1) := by decide +kernel
theorem dX11_isMove_10 : decode cX11_isMove 10 = .ok (.iload 4, 2) := by decide +kernel
theorem dX11_isMove_12 : decode cX11_isMove 12 = .ok (.if_icmp .eq 29, 3) := by decide +kernel
theorem dX11_isMove_15 : decode cX11_isMove 15 = .ok (.iload_n 3, 1) := by decide +kernel
theorem dX11_isMove_16 : decode cX11_isMove 16 = .ok (.aload_n 0, 1) := by decide +kernel
theorem dX11_isMove_17 : decode cX11_isMove 17 = .ok (.invokevirtual 140, 3) := by decide +kernel
theorem dX11_isMove_20 : decode cX11_isMove 20 = .ok (.if_icmp .ge 21, 3) := by decide +kernel
theorem dX11_isMove_23 : decode cX11_isMove 23 = .ok (.iload 4, 2) := by decide +kernel
theorem dX11_isMove_25 : decode cX11_isMove 25 = .ok (.aload_n 0, 1) := by decide +kernel
theorem dX11_isMove_26 : decode cX11_isMove 26 = .ok (.invokevirtual 140, 3) := by decide +kernel
theorem dX11_isMove_29 : decode cX11_isMove 29 = .ok (.if_icmp .ge 12, 3) := by decide +kernel
theorem dX11_isMove_32 : decode cX11_isMove 32 = .ok (.aload_n 0, 1) := by decide +kernel
theorem dX11_isMove_33 : decode cX11_isMove 33 = .ok (.getfield 99, 3) := by decide +kernel
theorem dX11_isMove_36 : decode cX11_isMove 36 = .ok (.iload_n 3, 1) := by decide +kernel
theorem dX11_isMove_37 : decode cX11_isMove 37 = .ok (.iaload, 1) := by decide +kernel
theorem dX11_isMove_38 : decode cX11_isMove 38 = .ok (.ifCond .ne 5, 3) := by decide +kernel
theorem dX11_isMove_41 : decode cX11_isMove 41 = .ok (.iconst 0, 1) := by decide +kernel
theorem dX11_isMove_42 : decode cX11_isMove 42 = .ok (.ireturn, 1) := by decide +kernel
theorem dX11_isMove_43 : decode cX11_isMove 43 = .ok (.iconst 0, 1) := by decide +kernel
theorem dX11_isMove_44 : decode cX11_isMove 44 = .ok (.istore 5, 2) := by decide +kernel
theorem dX11_isMove_46 : decode cX11_isMove 46 = .ok (.iconst 0, 1) := by decide +kernel
theorem dX11_isMove_47 : decode cX11_isMove 47 = .ok (.istore 6, 2) := by decide +kernel
theorem dX11_isMove_49 : decode cX11_isMove 49 = .ok (.iload 6, 2) := by decide +kernel
theorem dX11_isMove_51 : decode cX11_isMove 51 = .ok (.aload_n 0, 1) := by decide +kernel
theorem dX11_isMove_52 : decode cX11_isMove 52 = .ok (.getfield 13, 3) := by decide +kernel
theorem dX11_isMove_55 : decode cX11_isMove 55 = .ok (.iconst 1, 1) := by decide +kernel
theorem dX11_isMove_56 : decode cX11_isMove 56 = .ok (.iaload, 1) := by decide +kernel
theorem dX11_isMove_57 : decode cX11_isMove 57 = .ok (.if_icmp .ge 66, 3) := by decide +kernel
theorem dX11_isMove_60 : decode cX11_isMove 60 = .ok (.iload 5, 2) := by decide +kernel
theorem dX11_isMove_62 : decode cX11_isMove 62 = .ok (.ifCond .ne 48, 3) := by decide +kernel
theorem dX11_isMove_65 : decode cX11_isMove 65 = .ok (.iload_n 2, 1) := by decide +kernel
theorem dX11_isMove_66 : decode cX11_isMove 66 = .ok (.iconst (-1), 1) := by decide +kernel
theorem dX11_isMove_67 : decode cX11_isMove 67 = .ok (.if_icmp .eq 9, 3) := by decide +kernel
theorem dX11_isMove_70 : decode cX11_isMove 70 = .ok (.iload_n 2, 1) := by decide +kernel
theorem dX11_isMove_71 : decode cX11_isMove 71 = .ok (.iload 6, 2) := by decide +kernel
theorem dX11_isMove_73 : decode cX11_isMove 73 = .ok (.if_icmp .ne 41, 3) := by decide +kernel
theorem dX11_isMove_76 : decode cX11_isMove 76 = .ok (.aload_n 0, 1) := by decide +kernel
theorem dX11_isMove_77 : decode cX11_isMove 77 = .ok (.getfield 93, 3) := by decide +kernel
theorem dX11_isMove_80 : decode cX11_isMove 80 = .ok (.aload_n 0, 1) := by decide +kernel
theorem dX11_isMove_81 : decode cX11_isMove 81 = .ok (.iload 6, 2) := by decide +kernel
theorem dX11_isMove_83 : decode cX11_isMove 83 = .ok (.aload_n 0, 1) := by decide +kernel
theorem dX11_isMove_84 : decode cX11_isMove 84 = .ok (.iload_n 3, 1) := by decide +kernel
theorem dX11_isMove_85 : decode cX11_isMove 85 = .ok (.invokevirtual 415, 3) := by decide +kernel
theorem dX11_isMove_88 : decode cX11_isMove 88 = .ok (.iload_n 1, 1) := by decide +kernel
theorem dX11_isMove_89 : decode cX11_isMove 89 = .ok (.aload_n 0, 1) := by decide +kernel
theorem dX11_isMove_90 : decode cX11_isMove 90 = .ok (.getfield 99, 3) := by decide +kernel
theorem dX11_isMove_93 : decode cX11_isMove 93 = .ok (.iload_n 3, 1) := by decide +kernel
theorem dX11_isMove_94 : decode cX11_isMove 94 = .ok (.iaload, 1) := by decide +kernel
theorem dX11_isMove_95 : decode cX11_isMove 95 = .ok (.aload_n 0, 1) := by decide +kernel
theorem dX11_isMove_96 : decode cX11_isMove 96 = .ok (.getfield 99, 3) := by decide +kernel
theorem dX11_isMove_99 : decode cX11_isMove 99 = .ok (.iload 4, 2) := by decide +kernel
theorem dX11_isMove_101 : decode cX11_isMove 101 = .ok (.iaload, 1) := by decide +kernel
theorem dX11_isMove_102 : decode cX11_isMove 102 = .ok (.invokevirtual 418, 3) := by decide +kernel
theorem dX11_isMove_105 : decode cX11_isMove 105 = .ok (.iaload, 1) := by decide +kernel
theorem dX11_isMove_106 : decode cX11_isMove 106 = .ok (.iconst (-1), 1) := by decide +kernel
theorem dX11_isMove_107 : decode cX11_isMove 107 = .ok (.if_icmp .eq 7, 3) := by decide +kernel
theorem dX11_isMove_110 : decode cX11_isMove 110 = .ok (.iconst 1, 1) := by decide +kernel
theorem dX11_isMove_111 : decode cX11_isMove 111 = .ok (.goto 4, 3) := by decide +kernel
theorem dX11_isMove_114 : decode cX11_isMove 114 = .ok (.iconst 0, 1) := by decide +kernel
theorem dX11_isMove_115 : decode cX11_isMove 115 = .ok (.istore 5, 2) := by decide +kernel
theorem dX11_isMove_117 : decode cX11_isMove 117 = .ok (.iinc 6 1, 3) := by decide +kernel
theorem dX11_isMove_120 : decode cX11_isMove 120 = .ok (.goto (-71), 3) := by decide +kernel
theorem dX11_isMove_123 : decode cX11_isMove 123 = .ok (.iload 5, 2) := by decide +kernel
theorem dX11_isMove_125 : decode cX11_isMove 125 = .ok (.ireturn, 1) := by decide +kernel
theorem zw_1685 : (Jvm.Cond.code ({ cls := "HillSchoolModel", name := "isMove", desc := "(II)Z" } : Jvm.MethodName) prog_13_method_90_code (7 : Nat) (Option.some Jvm.ClassFile.FieldType.boolean)) ∈ zall := zmemG (zmj_7 142 rfl) rfl
abbrev w_HM_isMove : List Cond := .code yX11_isMove cX11_isMove 7 (some .boolean) :: zall
abbrev rm_HM_isMove : Room := { frames := 1, cells := 0, slots := 0, locals := 25 }
theorem hd_HM_isMove : yX11_isMove.cls = "HillSchoolModel" ∧ yX11_isMove.cls ≠ "java/lang/invoke/MethodHandle" ∧ yX11_isMove.cls ≠ "java/lang/invoke/VarHandle" ∧ (parseMethodDescriptor yX11_isMove.desc).map (fun d => d.parameters.length) = some 2 := by decide +kernel
def wd_HM_isMove (cA : Nat → ClassId) (q0 q1 q2 q3 q4 q5 q6 q7 q8 q9 q10 q11 q12 q13 q14 q15 q16 q17 q18 q19 q20 q21 q22 q23 q24 q25 q26 q27 q28 q29 q30 q31 : Nat) (u0 u1 u2 u3 u4 u5 u6 u7 u8 u9 u10 u11 u12 u13 u14 u15 u16 u17 u18 u19 u20 u21 : Int) (i_row : Nat → Int) (i_costs : Nat → Int) (i_small : Nat → Int) (i_tall : Nat → Int)  : va_W := [(q0, .inr (11, [.int (Int32.ofInt u0), .int (Int32.ofInt u1), .ref q1, .ref q2, .ref q3, .ref q4, .int (Int32.ofInt u2), .ref q5, .int (Int32.ofInt u3), .int (Int32.ofInt u4), .int (Int32.ofInt u5), .int (Int32.ofInt u6), .long (Int64.ofInt u7), .int (Int32.ofInt u8), .int (Int32.ofInt u9), .int (Int32.ofInt u10), .ref q6, .int (Int32.ofInt u11), .ref q7, .ref q8, .int (Int32.ofInt u12), .ref q9, .ref q10, .int (Int32.ofInt u13), .int (Int32.ofInt u14), .ref q11, .int (Int32.ofInt u15), .ref q12, .ref q13, .int (Int32.ofInt u16), .long (Int64.ofInt u17), .long (Int64.ofInt u18), .ref q14, .ref q15, .ref q16, .ref q17, .ref q18, .int (Int32.ofInt u19), .ref q19, .ref q20, .ref q21, .ref q22, .ref q23, .ref q24, .ref q25, .ref q26, .ref q27, .ref q28, .ref q29, .ref q30, .long (Int64.ofInt u20), .ref q31, .int (Int32.ofInt u21)])), (q2, .inl (cA 0, 5580, .inl (za i_row))), (q21, .inl (cA 0, 12000, .inl (za i_costs))), (q22, .inl (cA 0, 20, .inl (za i_small))), (q23, .inl (cA 0, 4, .inl (za i_tall)))]
def wf_HM_isMove (cA : Nat → ClassId) (q0 q1 q2 q3 q4 q5 q6 q7 q8 q9 q10 q11 q12 q13 q14 q15 q16 q17 q18 q19 q20 q21 q22 q23 q24 q25 q26 q27 q28 q29 q30 q31 : Nat) (u0 u1 u2 u3 u4 u5 u6 u7 u8 u9 u10 u11 u12 u13 u14 u15 u16 u17 u18 u19 u20 u21 : Int) (i_row : Nat → Int) (i_costs : Nat → Int) (i_small : Nat → Int) (i_tall : Nat → Int) (o : Int) : va_W := wd_HM_isMove cA q0 q1 q2 q3 q4 q5 q6 q7 q8 q9 q10 q11 q12 q13 q14 q15 q16 q17 q18 q19 q20 q21 q22 q23 q24 q25 q26 q27 q28 q29 q30 q31 u0 u1 u2 u3 u4 u5 u6 u7 u8 u9 u10 u11 u12 u13 u14 u15 u16 u17 u18 u19 u20 u21 i_row i_costs i_small i_tall
def f_HM_isMove_115 (i_row : Nat → Int) (i_costs : Nat → Int) (i_small : Nat → Int) (i_tall : Nat → Int) (k49 : Int → Int → Int → Int → Int → Int → Option (Int)) (x1 : Int) (x2 : Int) (x3 : Int) (x4 : Int) (x6 : Int) (s0 : Int) : Option (Int) :=
  zn (x6 + 1) fun v1 =>
  k49 x1 x2 x3 x4 s0 v1
def f_HM_isMove_110 (i_row : Nat → Int) (i_costs : Nat → Int) (i_small : Nat → Int) (i_tall : Nat → Int) (k49 : Int → Int → Int → Int → Int → Int → Option (Int)) (x1 : Int) (x2 : Int) (x3 : Int) (x4 : Int) (x6 : Int) : Option (Int) :=
  f_HM_isMove_115 i_row i_costs i_small i_tall k49 x1 x2 x3 x4 x6 1
def f_HM_isMove_114 (i_row : Nat → Int) (i_costs : Nat → Int) (i_small : Nat → Int) (i_tall : Nat → Int) (k49 : Int → Int → Int → Int → Int → Int → Option (Int)) (x1 : Int) (x2 : Int) (x3 : Int) (x4 : Int) (x6 : Int) : Option (Int) :=
  f_HM_isMove_115 i_row i_costs i_small i_tall k49 x1 x2 x3 x4 x6 0
def f_HM_isMove_76 (i_row : Nat → Int) (i_costs : Nat → Int) (i_small : Nat → Int) (i_tall : Nat → Int) (k49 : Int → Int → Int → Int → Int → Int → Option (Int)) (x1 : Int) (x2 : Int) (x3 : Int) (x4 : Int) (x6 : Int) : Option (Int) :=
  zd1 (f_HM_smallTop x3 i_small i_tall) fun v1 =>
  zg 4 i_tall x3 fun v2 =>
  zg 4 i_tall x4 fun v3 =>
  zd1 (f_HM_costAt x6 v1 x1 v2 v3) fun v4 =>
  zg 12000 i_costs v4 fun v5 =>
  if zi_w v5 = zi_w (-1) then
    f_HM_isMove_114 i_row i_costs i_small i_tall k49 x1 x2 x3 x4 x6
  else
    f_HM_isMove_110 i_row i_costs i_small i_tall k49 x1 x2 x3 x4 x6
def f_HM_isMove_49_b (i_row : Nat → Int) (i_costs : Nat → Int) (i_small : Nat → Int) (i_tall : Nat → Int) (k49 : Int → Int → Int → Int → Int → Int → Option (Int)) (x1 : Int) (x2 : Int) (x3 : Int) (x4 : Int) (x5 : Int) (x6 : Int) : Option (Int) :=
  zg 5580 i_row 1 fun v1 =>
  if zi_w v1 ≤ zi_w x6 then
    if ¬ (zi_w x5 = 0 ∨ zi_w x5 = 1) then none else
    some x5
  else
    if zi_w x5 ≠ 0 then
      f_HM_isMove_110 i_row i_costs i_small i_tall k49 x1 x2 x3 x4 x6
    else
      if zi_w x2 = zi_w (-1) then
        f_HM_isMove_76 i_row i_costs i_small i_tall k49 x1 x2 x3 x4 x6
      else
        if zi_w x2 ≠ zi_w x6 then
          f_HM_isMove_114 i_row i_costs i_small i_tall k49 x1 x2 x3 x4 x6
        else
          f_HM_isMove_76 i_row i_costs i_small i_tall k49 x1 x2 x3 x4 x6
def f_HM_isMove_49 (i_row : Nat → Int) (i_costs : Nat → Int) (i_small : Nat → Int) (i_tall : Nat → Int) : Nat → Int → Int → Int → Int → Int → Int → Option (Int)
  | 0 => fun _ _ _ _ _ _ => none
  | n + 1 => fun y0 y1 y2 y3 y4 y5 => f_HM_isMove_49_b i_row i_costs i_small i_tall (f_HM_isMove_49 i_row i_costs i_small i_tall n) y0 y1 y2 y3 y4 y5
def f_HM_isMove (x1 : Int) (x2 : Int) (i_row : Nat → Int) (i_costs : Nat → Int) (i_small : Nat → Int) (i_tall : Nat → Int) : Option (Int) :=
  if zi_w 4 = 0 then none else zn (zi_div x1 4) fun v1 =>
  if zi_w 4 = 0 then none else zn (zi_rem x1 4) fun v2 =>
  if zi_w v1 = zi_w v2 then
    some 0
  else
    zd1 (f_HM_columns i_row) fun v3 =>
    if zi_w v3 ≤ zi_w v1 then
      some 0
    else
      zd1 (f_HM_columns i_row) fun v4 =>
      if zi_w v4 ≤ zi_w v2 then
        some 0
      else
        zg 4 i_tall v1 fun v5 =>
        if zi_w v5 ≠ 0 then
          f_HM_isMove_49 i_row i_costs i_small i_tall zfu x1 x2 v1 v2 0 0
        else
          some 0
set_option maxHeartbeats 4000000 in
set_option maxRecDepth 100000 in
theorem c_HM_isMove (l : Launch) (ev : zEv) (dC : Nat → ClassId) (dI : Nat → Nat → Nat) (cA : Nat → ClassId) (q0 q1 q2 q3 q4 q5 q6 q7 q8 q9 q10 q11 q12 q13 q14 q15 q16 q17 q18 q19 q20 q21 q22 q23 q24 q25 q26 q27 q28 q29 q30 q31 : Nat) (u0 u1 u2 u3 u4 u5 u6 u7 u8 u9 u10 u11 u12 u13 u14 u15 u16 u17 u18 u19 u20 u21 : Int) {x1 x2 : Int} {i_row : Nat → Int} {i_costs : Nat → Int} {i_small : Nat → Int} {i_tall : Nat → Int} {out : Int} (hf : f_HM_isMove x1 x2 i_row i_costs i_small i_tall = some out) : xc_I l ev (dC, dI) vwCl (tyl cA) yX11_isMove w_HM_isMove rm_HM_isMove [.ref q0, .int (Int32.ofInt x1), .int (Int32.ofInt x2)] (wd_HM_isMove cA q0 q1 q2 q3 q4 q5 q6 q7 q8 q9 q10 q11 q12 q13 q14 q15 q16 q17 q18 q19 q20 q21 q22 q23 q24 q25 q26 q27 q28 q29 q30 q31 u0 u1 u2 u3 u4 u5 u6 u7 u8 u9 u10 u11 u12 u13 u14 u15 u16 u17 u18 u19 u20 u21 i_row i_costs i_small i_tall) (wf_HM_isMove cA q0 q1 q2 q3 q4 q5 q6 q7 q8 q9 q10 q11 q12 q13 q14 q15 q16 q17 q18 q19 q20 q21 q22 q23 q24 q25 q26 q27 q28 q29 q30 q31 u0 u1 u2 u3 u4 u5 u6 u7 u8 u9 u10 u11 u12 u13 u14 u15 u16 u17 u18 u19 u20 u21 i_row i_costs i_small i_tall out) out := by
  refine xv_startI (cc := cX11_isMove) (maxL := 7) (rt := .boolean) (by decide +kernel) rfl (Nat.le_of_ble_eq_true rfl) ?_
  intro p e s m args below meth c A Q H ls hx hb hml hts hown hK hA hP hD hS hl hE hret
  have hown : s.vm.findClass "HillSchoolModel" = some m.cls := hown
  have hz : ∀ w ∈ zall, w.before args s = true := fun w h => hts w (List.mem_cons_of_mem _ h)
  have hl : lv_has ls 7 [(0, .ref q0), (1, .int (Int32.ofInt x1)), (2, .int (Int32.ofInt x2))] := hl
  have b_115 : ∀ (k49 : Int → Int → Int → Int → Int → Int → Option (Int)) (_ : ∀ (x1 : Int) (x2 : Int) (x3 : Int) (x4 : Int) (x5 : Int) (x6 : Int) (H : Heap) (locs : List Loc) (ls : Array Slot), k49 x1 x2 x3 x4 x5 x6 = some out → va_P (dC, dI) vwCl (wd_HM_isMove cA q0 q1 q2 q3 q4 q5 q6 q7 q8 q9 q10 q11 q12 q13 q14 q15 q16 q17 q18 q19 q20 q21 q22 q23 q24 q25 q26 q27 q28 q29 q30 q31 u0 u1 u2 u3 u4 u5 u6 u7 u8 u9 u10 u11 u12 u13 u14 u15 u16 u17 u18 u19 u20 u21 i_row i_costs i_small i_tall) H → va_D A (wd_HM_isMove cA q0 q1 q2 q3 q4 q5 q6 q7 q8 q9 q10 q11 q12 q13 q14 q15 q16 q17 q18 q19 q20 q21 q22 q23 q24 q25 q26 q27 q28 q29 q30 q31 u0 u1 u2 u3 u4 u5 u6 u7 u8 u9 u10 u11 u12 u13 u14 u15 u16 u17 u18 u19 u20 u21 i_row i_costs i_small i_tall) → va_S A s.heap H locs → lv_has ls 7 [(0, .ref q0), (1, .int (Int32.ofInt x1)), (2, .int (Int32.ofInt x2)), (3, .int (Int32.ofInt x3)), (4, .int (Int32.ofInt x4)), (5, .int (Int32.ofInt x5)), (6, .int (Int32.ofInt x6))] → W p l e rm_HM_isMove s m args below meth c H locs 0 0 Q (F0 m 49 ls [])), ∀ (x1 : Int) (x2 : Int) (x3 : Int) (x4 : Int) (x6 : Int) (s0 : Int) (H : Heap) (locs : List Loc) (ls : Array Slot), f_HM_isMove_115 i_row i_costs i_small i_tall k49 x1 x2 x3 x4 x6 s0 = some out → va_P (dC, dI) vwCl (wd_HM_isMove cA q0 q1 q2 q3 q4 q5 q6 q7 q8 q9 q10 q11 q12 q13 q14 q15 q16 q17 q18 q19 q20 q21 q22 q23 q24 q25 q26 q27 q28 q29 q30 q31 u0 u1 u2 u3 u4 u5 u6 u7 u8 u9 u10 u11 u12 u13 u14 u15 u16 u17 u18 u19 u20 u21 i_row i_costs i_small i_tall) H → va_D A (wd_HM_isMove cA q0 q1 q2 q3 q4 q5 q6 q7 q8 q9 q10 q11 q12 q13 q14 q15 q16 q17 q18 q19 q20 q21 q22 q23 q24 q25 q26 q27 q28 q29 q30 q31 u0 u1 u2 u3 u4 u5 u6 u7 u8 u9 u10 u11 u12 u13 u14 u15 u16 u17 u18 u19 u20 u21 i_row i_costs i_small i_tall) → va_S A s.heap H locs → lv_has ls 7 [(0, .ref q0), (1, .int (Int32.ofInt x1)), (2, .int (Int32.ofInt x2)), (3, .int (Int32.ofInt x3)), (4, .int (Int32.ofInt x4)), (6, .int (Int32.ofInt x6))] → W p l e rm_HM_isMove s m args below meth c H locs 0 0 Q (F0 m 115 ls [.int (Int32.ofInt s0)]) := by
    intro k49 ih49 x1 x2 x3 x4 x6 s0 H locs ls hf hP hD hS hl
    unfold f_HM_isMove_115 at hf
    refine lv_istore (lv' := [(5, .int (Int32.ofInt s0)), (0, .ref q0), (1, .int (Int32.ofInt x1)), (2, .int (Int32.ofInt x2)), (3, .int (Int32.ofInt x3)), (4, .int (Int32.ofInt x4)), (6, .int (Int32.ofInt x6))]) hx hb dX11_isMove_115 hl (by decide) rfl (fun ls hl => ?_)
    refine xi_iinc hx hb dX11_isMove_117 hl (k := 6) rfl (by decide) hf (fun v1 ls hl hf => ?_)
    have hl : lv_has ls 7 [(6, .int (Int32.ofInt v1)), (5, .int (Int32.ofInt s0)), (0, .ref q0), (1, .int (Int32.ofInt x1)), (2, .int (Int32.ofInt x2)), (3, .int (Int32.ofInt x3)), (4, .int (Int32.ofInt x4))] := hl
    refine lv_goto (tgt := 49) hx hb dX11_isMove_120 (by decide) ?_
    exact ih49 _ _ _ _ _ _ _ _ _ hf hP hD hS (lv_sub hl [2, 3, 4, 5, 6, 1, 0] rfl)
  have b_110 : ∀ (k49 : Int → Int → Int → Int → Int → Int → Option (Int)) (_ : ∀ (x1 : Int) (x2 : Int) (x3 : Int) (x4 : Int) (x5 : Int) (x6 : Int) (H : Heap) (locs : List Loc) (ls : Array Slot), k49 x1 x2 x3 x4 x5 x6 = some out → va_P (dC, dI) vwCl (wd_HM_isMove cA q0 q1 q2 q3 q4 q5 q6 q7 q8 q9 q10 q11 q12 q13 q14 q15 q16 q17 q18 q19 q20 q21 q22 q23 q24 q25 q26 q27 q28 q29 q30 q31 u0 u1 u2 u3 u4 u5 u6 u7 u8 u9 u10 u11 u12 u13 u14 u15 u16 u17 u18 u19 u20 u21 i_row i_costs i_small i_tall) H → va_D A (wd_HM_isMove cA q0 q1 q2 q3 q4 q5 q6 q7 q8 q9 q10 q11 q12 q13 q14 q15 q16 q17 q18 q19 q20 q21 q22 q23 q24 q25 q26 q27 q28 q29 q30 q31 u0 u1 u2 u3 u4 u5 u6 u7 u8 u9 u10 u11 u12 u13 u14 u15 u16 u17 u18 u19 u20 u21 i_row i_costs i_small i_tall) → va_S A s.heap H locs → lv_has ls 7 [(0, .ref q0), (1, .int (Int32.ofInt x1)), (2, .int (Int32.ofInt x2)), (3, .int (Int32.ofInt x3)), (4, .int (Int32.ofInt x4)), (5, .int (Int32.ofInt x5)), (6, .int (Int32.ofInt x6))] → W p l e rm_HM_isMove s m args below meth c H locs 0 0 Q (F0 m 49 ls [])), ∀ (x1 : Int) (x2 : Int) (x3 : Int) (x4 : Int) (x6 : Int) (H : Heap) (locs : List Loc) (ls : Array Slot), f_HM_isMove_110 i_row i_costs i_small i_tall k49 x1 x2 x3 x4 x6 = some out → va_P (dC, dI) vwCl (wd_HM_isMove cA q0 q1 q2 q3 q4 q5 q6 q7 q8 q9 q10 q11 q12 q13 q14 q15 q16 q17 q18 q19 q20 q21 q22 q23 q24 q25 q26 q27 q28 q29 q30 q31 u0 u1 u2 u3 u4 u5 u6 u7 u8 u9 u10 u11 u12 u13 u14 u15 u16 u17 u18 u19 u20 u21 i_row i_costs i_small i_tall) H → va_D A (wd_HM_isMove cA q0 q1 q2 q3 q4 q5 q6 q7 q8 q9 q10 q11 q12 q13 q14 q15 q16 q17 q18 q19 q20 q21 q22 q23 q24 q25 q26 q27 q28 q29 q30 q31 u0 u1 u2 u3 u4 u5 u6 u7 u8 u9 u10 u11 u12 u13 u14 u15 u16 u17 u18 u19 u20 u21 i_row i_costs i_small i_tall) → va_S A s.heap H locs → lv_has ls 7 [(0, .ref q0), (1, .int (Int32.ofInt x1)), (2, .int (Int32.ofInt x2)), (3, .int (Int32.ofInt x3)), (4, .int (Int32.ofInt x4)), (6, .int (Int32.ofInt x6))] → W p l e rm_HM_isMove s m args below meth c H locs 0 0 Q (F0 m 110 ls []) := by
    intro k49 ih49 x1 x2 x3 x4 x6 H locs ls hf hP hD hS hl
    unfold f_HM_isMove_110 at hf
    refine lv_iconst (v := Int32.ofInt 1) hx hb dX11_isMove_110 rfl ?_
    refine lv_goto (tgt := 115) hx hb dX11_isMove_111 (by decide) ?_
    exact b_115 _ ih49 _ _ _ _ _ _ _ _ _ hf hP hD hS (lv_sub hl [0, 1, 2, 3, 4, 5] rfl)
  have b_114 : ∀ (k49 : Int → Int → Int → Int → Int → Int → Option (Int)) (_ : ∀ (x1 : Int) (x2 : Int) (x3 : Int) (x4 : Int) (x5 : Int) (x6 : Int) (H : Heap) (locs : List Loc) (ls : Array Slot), k49 x1 x2 x3 x4 x5 x6 = some out → va_P (dC, dI) vwCl (wd_HM_isMove cA q0 q1 q2 q3 q4 q5 q6 q7 q8 q9 q10 q11 q12 q13 q14 q15 q16 q17 q18 q19 q20 q21 q22 q23 q24 q25 q26 q27 q28 q29 q30 q31 u0 u1 u2 u3 u4 u5 u6 u7 u8 u9 u10 u11 u12 u13 u14 u15 u16 u17 u18 u19 u20 u21 i_row i_costs i_small i_tall) H → va_D A (wd_HM_isMove cA q0 q1 q2 q3 q4 q5 q6 q7 q8 q9 q10 q11 q12 q13 q14 q15 q16 q17 q18 q19 q20 q21 q22 q23 q24 q25 q26 q27 q28 q29 q30 q31 u0 u1 u2 u3 u4 u5 u6 u7 u8 u9 u10 u11 u12 u13 u14 u15 u16 u17 u18 u19 u20 u21 i_row i_costs i_small i_tall) → va_S A s.heap H locs → lv_has ls 7 [(0, .ref q0), (1, .int (Int32.ofInt x1)), (2, .int (Int32.ofInt x2)), (3, .int (Int32.ofInt x3)), (4, .int (Int32.ofInt x4)), (5, .int (Int32.ofInt x5)), (6, .int (Int32.ofInt x6))] → W p l e rm_HM_isMove s m args below meth c H locs 0 0 Q (F0 m 49 ls [])), ∀ (x1 : Int) (x2 : Int) (x3 : Int) (x4 : Int) (x6 : Int) (H : Heap) (locs : List Loc) (ls : Array Slot), f_HM_isMove_114 i_row i_costs i_small i_tall k49 x1 x2 x3 x4 x6 = some out → va_P (dC, dI) vwCl (wd_HM_isMove cA q0 q1 q2 q3 q4 q5 q6 q7 q8 q9 q10 q11 q12 q13 q14 q15 q16 q17 q18 q19 q20 q21 q22 q23 q24 q25 q26 q27 q28 q29 q30 q31 u0 u1 u2 u3 u4 u5 u6 u7 u8 u9 u10 u11 u12 u13 u14 u15 u16 u17 u18 u19 u20 u21 i_row i_costs i_small i_tall) H → va_D A (wd_HM_isMove cA q0 q1 q2 q3 q4 q5 q6 q7 q8 q9 q10 q11 q12 q13 q14 q15 q16 q17 q18 q19 q20 q21 q22 q23 q24 q25 q26 q27 q28 q29 q30 q31 u0 u1 u2 u3 u4 u5 u6 u7 u8 u9 u10 u11 u12 u13 u14 u15 u16 u17 u18 u19 u20 u21 i_row i_costs i_small i_tall) → va_S A s.heap H locs → lv_has ls 7 [(0, .ref q0), (1, .int (Int32.ofInt x1)), (2, .int (Int32.ofInt x2)), (3, .int (Int32.ofInt x3)), (4, .int (Int32.ofInt x4)), (6, .int (Int32.ofInt x6))] → W p l e rm_HM_isMove s m args below meth c H locs 0 0 Q (F0 m 114 ls []) := by
    intro k49 ih49 x1 x2 x3 x4 x6 H locs ls hf hP hD hS hl
    unfold f_HM_isMove_114 at hf
    refine lv_iconst (v := Int32.ofInt 0) hx hb dX11_isMove_114 rfl ?_
    exact b_115 _ ih49 _ _ _ _ _ _ _ _ _ hf hP hD hS (lv_sub hl [0, 1, 2, 3, 4, 5] rfl)
  have b_76 : ∀ (k49 : Int → Int → Int → Int → Int → Int → Option (Int)) (_ : ∀ (x1 : Int) (x2 : Int) (x3 : Int) (x4 : Int) (x5 : Int) (x6 : Int) (H : Heap) (locs : List Loc) (ls : Array Slot), k49 x1 x2 x3 x4 x5 x6 = some out → va_P (dC, dI) vwCl (wd_HM_isMove cA q0 q1 q2 q3 q4 q5 q6 q7 q8 q9 q10 q11 q12 q13 q14 q15 q16 q17 q18 q19 q20 q21 q22 q23 q24 q25 q26 q27 q28 q29 q30 q31 u0 u1 u2 u3 u4 u5 u6 u7 u8 u9 u10 u11 u12 u13 u14 u15 u16 u17 u18 u19 u20 u21 i_row i_costs i_small i_tall) H → va_D A (wd_HM_isMove cA q0 q1 q2 q3 q4 q5 q6 q7 q8 q9 q10 q11 q12 q13 q14 q15 q16 q17 q18 q19 q20 q21 q22 q23 q24 q25 q26 q27 q28 q29 q30 q31 u0 u1 u2 u3 u4 u5 u6 u7 u8 u9 u10 u11 u12 u13 u14 u15 u16 u17 u18 u19 u20 u21 i_row i_costs i_small i_tall) → va_S A s.heap H locs → lv_has ls 7 [(0, .ref q0), (1, .int (Int32.ofInt x1)), (2, .int (Int32.ofInt x2)), (3, .int (Int32.ofInt x3)), (4, .int (Int32.ofInt x4)), (5, .int (Int32.ofInt x5)), (6, .int (Int32.ofInt x6))] → W p l e rm_HM_isMove s m args below meth c H locs 0 0 Q (F0 m 49 ls [])), ∀ (x1 : Int) (x2 : Int) (x3 : Int) (x4 : Int) (x6 : Int) (H : Heap) (locs : List Loc) (ls : Array Slot), f_HM_isMove_76 i_row i_costs i_small i_tall k49 x1 x2 x3 x4 x6 = some out → va_P (dC, dI) vwCl (wd_HM_isMove cA q0 q1 q2 q3 q4 q5 q6 q7 q8 q9 q10 q11 q12 q13 q14 q15 q16 q17 q18 q19 q20 q21 q22 q23 q24 q25 q26 q27 q28 q29 q30 q31 u0 u1 u2 u3 u4 u5 u6 u7 u8 u9 u10 u11 u12 u13 u14 u15 u16 u17 u18 u19 u20 u21 i_row i_costs i_small i_tall) H → va_D A (wd_HM_isMove cA q0 q1 q2 q3 q4 q5 q6 q7 q8 q9 q10 q11 q12 q13 q14 q15 q16 q17 q18 q19 q20 q21 q22 q23 q24 q25 q26 q27 q28 q29 q30 q31 u0 u1 u2 u3 u4 u5 u6 u7 u8 u9 u10 u11 u12 u13 u14 u15 u16 u17 u18 u19 u20 u21 i_row i_costs i_small i_tall) → va_S A s.heap H locs → lv_has ls 7 [(0, .ref q0), (1, .int (Int32.ofInt x1)), (2, .int (Int32.ofInt x2)), (3, .int (Int32.ofInt x3)), (4, .int (Int32.ofInt x4)), (6, .int (Int32.ofInt x6))] → W p l e rm_HM_isMove s m args below meth c H locs 0 0 Q (F0 m 76 ls []) := by
    intro k49 ih49 x1 x2 x3 x4 x6 H locs ls hf hP hD hS hl
    unfold f_HM_isMove_76 at hf
    refine lv_aload_n hx hb dX11_isMove_76 rfl (lv_at hl 0 rfl) ?_
    refine va_get (D := (dC, dI)) (ci := 11) (v := .ref q21) (C := RX11) (T := TX11) (N := 53) hx hb hz zi_X11 hown hK hP 0 rfl rfl 40 (by decide) (hz _ zw_1205) (fun _ h9 => h9) rfl dX11_isMove_77 ?_
    refine lv_aload_n hx hb dX11_isMove_80 rfl (lv_at hl 0 rfl) ?_
    refine lv_iload hx hb dX11_isMove_81 (lv_at hl 5 rfl) ?_
    refine lv_aload_n hx hb dX11_isMove_83 rfl (lv_at hl 0 rfl) ?_
    refine lv_iload_n hx hb dX11_isMove_84 rfl (lv_at hl 3 rfl) ?_
    refine xe_d1 hf (fun v1 hg hf => ?_)
    have hC : ([0, 3, 4] : List Nat).map (fun i => (wd_HM_isMove cA q0 q1 q2 q3 q4 q5 q6 q7 q8 q9 q10 q11 q12 q13 q14 q15 q16 q17 q18 q19 q20 q21 q22 q23 q24 q25 q26 q27 q28 q29 q30 q31 u0 u1 u2 u3 u4 u5 u6 u7 u8 u9 u10 u11 u12 u13 u14 u15 u16 u17 u18 u19 u20 u21 i_row i_costs i_small i_tall)[i]?) = (wd_HM_smallTop cA q0 q1 q2 q3 q4 q5 q6 q7 q8 q9 q10 q11 q12 q13 q14 q15 q16 q17 q18 q19 q20 q21 q22 q23 q24 q25 q26 q27 q28 q29 q30 q31 u0 u1 u2 u3 u4 u5 u6 u7 u8 u9 u10 u11 u12 u13 u14 u15 u16 u17 u18 u19 u20 u21 i_small i_tall).map some := rfl
    refine xv_afterI (ws' := (wd_HM_isMove cA q0 q1 q2 q3 q4 q5 q6 q7 q8 q9 q10 q11 q12 q13 q14 q15 q16 q17 q18 q19 q20 q21 q22 q23 q24 q25 q26 q27 q28 q29 q30 q31 u0 u1 u2 u3 u4 u5 u6 u7 u8 u9 u10 u11 u12 u13 u14 u15 u16 u17 u18 u19 u20 u21 i_row i_costs i_small i_tall)) (isC := [0, 3, 4]) (ps := [some 0, none, none, some 1, some 2]) (va_runV (As := [.int (Int32.ofInt x3)]) (rest := [.int (Int32.ofInt x6), .ref q0, .ref q21]) ⟨hx, hb, hml, hown, hts⟩ (c_HM_smallTop l ev dC dI cA q0 q1 q2 q3 q4 q5 q6 q7 q8 q9 q10 q11 q12 q13 q14 q15 q16 q17 q18 q19 q20 q21 q22 q23 q24 q25 q26 q27 q28 q29 q30 q31 u0 u1 u2 u3 u4 u5 u6 u7 u8 u9 u10 u11 u12 u13 u14 u15 u16 u17 u18 u19 u20 u21 hg H.size) (cwV 1 hts (zgV zw_1686 zw_1688 zw_90 zw_115 zw_1689) rfl rfl rfl hd_HM_smallTop ⟨Nat.le_of_ble_eq_true rfl, Nat.le_of_ble_eq_true rfl⟩) (xv_preV (T := TX11) (N := 53) hE hA hS hK hP hD (isC := [0, 3, 4]) (by decide +kernel) hC (q0 := 0) (ci := 11) rfl rfl) rfl rfl hl.1 rfl (lv_room (Nat.le_of_ble_eq_true rfl)) dX11_isMove_85 ⟨Nat.le_refl _, Nat.le_refl _⟩) hP hD hS hA (by decide +kernel) rfl hC rfl rfl (fun H locs hP hD hS => ?_)
    refine lv_iload_n hx hb dX11_isMove_88 rfl (lv_at hl 1 rfl) ?_
    refine lv_aload_n hx hb dX11_isMove_89 rfl (lv_at hl 0 rfl) ?_
    refine va_get (D := (dC, dI)) (ci := 11) (v := .ref q23) (C := RX11) (T := TX11) (N := 53) hx hb hz zi_X11 hown hK hP 0 rfl rfl 42 (by decide) (hz _ zw_1207) (fun _ h9 => h9) rfl dX11_isMove_90 ?_
    refine lv_iload_n hx hb dX11_isMove_93 rfl (lv_at hl 3 rfl) ?_
    refine xi_iald hx hb hK hP 4 0 rfl rfl dX11_isMove_94 hf (fun v2 hf => ?_)
    refine lv_aload_n hx hb dX11_isMove_95 rfl (lv_at hl 0 rfl) ?_
    refine va_get (D := (dC, dI)) (ci := 11) (v := .ref q23) (C := RX11) (T := TX11) (N := 53) hx hb hz zi_X11 hown hK hP 0 rfl rfl 42 (by decide) (hz _ zw_1207) (fun _ h9 => h9) rfl dX11_isMove_96 ?_
    refine lv_iload hx hb dX11_isMove_99 (lv_at hl 4 rfl) ?_
    refine xi_iald hx hb hK hP 4 0 rfl rfl dX11_isMove_101 hf (fun v3 hf => ?_)
    refine xe_d1 hf (fun v4 hg hf => ?_)
    have hC : ([] : List Nat).map (fun i => (wd_HM_isMove cA q0 q1 q2 q3 q4 q5 q6 q7 q8 q9 q10 q11 q12 q13 q14 q15 q16 q17 q18 q19 q20 q21 q22 q23 q24 q25 q26 q27 q28 q29 q30 q31 u0 u1 u2 u3 u4 u5 u6 u7 u8 u9 u10 u11 u12 u13 u14 u15 u16 u17 u18 u19 u20 u21 i_row i_costs i_small i_tall)[i]?) = (wd_HM_costAt cA q0).map some := rfl
    refine xv_afterI (ws' := (wd_HM_isMove cA q0 q1 q2 q3 q4 q5 q6 q7 q8 q9 q10 q11 q12 q13 q14 q15 q16 q17 q18 q19 q20 q21 q22 q23 q24 q25 q26 q27 q28 q29 q30 q31 u0 u1 u2 u3 u4 u5 u6 u7 u8 u9 u10 u11 u12 u13 u14 u15 u16 u17 u18 u19 u20 u21 i_row i_costs i_small i_tall)) (isC := []) (ps := [none, none, none, none, none]) (va_runV (As := [.int (Int32.ofInt x6), .int (Int32.ofInt v1), .int (Int32.ofInt x1), .int (Int32.ofInt v2), .int (Int32.ofInt v3)]) (rest := [.ref q21]) ⟨hx, hb, hml, hown, hts⟩ (c_HM_costAt l ev dC dI cA q0 hg H.size) (cwV 5 hts (zgV zw_1690 zw_1692 zw_91 zw_115 zw_1693) rfl rfl rfl hd_HM_costAt ⟨Nat.le_of_ble_eq_true rfl, Nat.le_of_ble_eq_true rfl⟩) (xv_preV (T := TX11) (N := 53) hE hA hS hK hP hD (isC := []) (by decide +kernel) hC (q0 := 0) (ci := 11) rfl rfl) rfl rfl hl.1 rfl (lv_room (Nat.le_of_ble_eq_true rfl)) dX11_isMove_102 ⟨Nat.le_refl _, Nat.le_refl _⟩) hP hD hS hA (by decide +kernel) rfl hC rfl rfl (fun H locs hP hD hS => ?_)
    refine xi_iald hx hb hK hP 2 0 rfl rfl dX11_isMove_105 hf (fun v5 hf => ?_)
    refine lv_iconst (v := Int32.ofInt (-1)) hx hb dX11_isMove_106 rfl ?_
    refine xi_icmp_eq (tgt := 114) hx hb dX11_isMove_107 (by decide) hf (fun hf => ?_) (fun hf => ?_)
    · exact b_114 _ ih49 _ _ _ _ _ _ _ _ hf hP hD hS (lv_sub hl [0, 1, 2, 3, 4, 5] rfl)
    · exact b_110 _ ih49 _ _ _ _ _ _ _ _ hf hP hD hS (lv_sub hl [0, 1, 2, 3, 4, 5] rfl)
  have b_49 : ∀ (k49 : Int → Int → Int → Int → Int → Int → Option (Int)) (_ : ∀ (x1 : Int) (x2 : Int) (x3 : Int) (x4 : Int) (x5 : Int) (x6 : Int) (H : Heap) (locs : List Loc) (ls : Array Slot), k49 x1 x2 x3 x4 x5 x6 = some out → va_P (dC, dI) vwCl (wd_HM_isMove cA q0 q1 q2 q3 q4 q5 q6 q7 q8 q9 q10 q11 q12 q13 q14 q15 q16 q17 q18 q19 q20 q21 q22 q23 q24 q25 q26 q27 q28 q29 q30 q31 u0 u1 u2 u3 u4 u5 u6 u7 u8 u9 u10 u11 u12 u13 u14 u15 u16 u17 u18 u19 u20 u21 i_row i_costs i_small i_tall) H → va_D A (wd_HM_isMove cA q0 q1 q2 q3 q4 q5 q6 q7 q8 q9 q10 q11 q12 q13 q14 q15 q16 q17 q18 q19 q20 q21 q22 q23 q24 q25 q26 q27 q28 q29 q30 q31 u0 u1 u2 u3 u4 u5 u6 u7 u8 u9 u10 u11 u12 u13 u14 u15 u16 u17 u18 u19 u20 u21 i_row i_costs i_small i_tall) → va_S A s.heap H locs → lv_has ls 7 [(0, .ref q0), (1, .int (Int32.ofInt x1)), (2, .int (Int32.ofInt x2)), (3, .int (Int32.ofInt x3)), (4, .int (Int32.ofInt x4)), (5, .int (Int32.ofInt x5)), (6, .int (Int32.ofInt x6))] → W p l e rm_HM_isMove s m args below meth c H locs 0 0 Q (F0 m 49 ls [])), ∀ (x1 : Int) (x2 : Int) (x3 : Int) (x4 : Int) (x5 : Int) (x6 : Int) (H : Heap) (locs : List Loc) (ls : Array Slot), f_HM_isMove_49_b i_row i_costs i_small i_tall k49 x1 x2 x3 x4 x5 x6 = some out → va_P (dC, dI) vwCl (wd_HM_isMove cA q0 q1 q2 q3 q4 q5 q6 q7 q8 q9 q10 q11 q12 q13 q14 q15 q16 q17 q18 q19 q20 q21 q22 q23 q24 q25 q26 q27 q28 q29 q30 q31 u0 u1 u2 u3 u4 u5 u6 u7 u8 u9 u10 u11 u12 u13 u14 u15 u16 u17 u18 u19 u20 u21 i_row i_costs i_small i_tall) H → va_D A (wd_HM_isMove cA q0 q1 q2 q3 q4 q5 q6 q7 q8 q9 q10 q11 q12 q13 q14 q15 q16 q17 q18 q19 q20 q21 q22 q23 q24 q25 q26 q27 q28 q29 q30 q31 u0 u1 u2 u3 u4 u5 u6 u7 u8 u9 u10 u11 u12 u13 u14 u15 u16 u17 u18 u19 u20 u21 i_row i_costs i_small i_tall) → va_S A s.heap H locs → lv_has ls 7 [(0, .ref q0), (1, .int (Int32.ofInt x1)), (2, .int (Int32.ofInt x2)), (3, .int (Int32.ofInt x3)), (4, .int (Int32.ofInt x4)), (5, .int (Int32.ofInt x5)), (6, .int (Int32.ofInt x6))] → W p l e rm_HM_isMove s m args below meth c H locs 0 0 Q (F0 m 49 ls []) := by
    intro k49 ih49 x1 x2 x3 x4 x5 x6 H locs ls hf hP hD hS hl
    unfold f_HM_isMove_49_b at hf
    refine lv_iload hx hb dX11_isMove_49 (lv_at hl 6 rfl) ?_
    refine lv_aload_n hx hb dX11_isMove_51 rfl (lv_at hl 0 rfl) ?_
    refine va_get (D := (dC, dI)) (ci := 11) (v := .ref q2) (C := RX11) (T := TX11) (N := 53) hx hb hz zi_X11 hown hK hP 0 rfl rfl 3 (by decide) (hz _ zw_1168) (fun _ h9 => h9) rfl dX11_isMove_52 ?_
    refine lv_iconst (v := Int32.ofInt 1) hx hb dX11_isMove_55 rfl ?_
    refine xi_iald hx hb hK hP 1 0 rfl rfl dX11_isMove_56 hf (fun v1 hf => ?_)
    refine xi_icmp_ge (tgt := 123) hx hb dX11_isMove_57 (by decide) hf (fun hf => ?_) (fun hf => ?_)
    · refine lv_iload hx hb dX11_isMove_123 (lv_at hl 5 rfl) ?_
      obtain ⟨hzb, hf⟩ := xz_q hf
      obtain rfl := Option.some.inj hf
      exact hret _ _ _ _ (zz_bool hzb) dX11_isMove_125 hP hD hS
    · refine lv_iload hx hb dX11_isMove_60 (lv_at hl 5 rfl) ?_
      refine xi_if_ne (tgt := 110) hx hb dX11_isMove_62 (by decide) hf (fun hf => ?_) (fun hf => ?_)
      · exact b_110 _ ih49 _ _ _ _ _ _ _ _ hf hP hD hS (lv_sub hl [0, 1, 2, 3, 4, 6] rfl)
      · refine lv_iload_n hx hb dX11_isMove_65 rfl (lv_at hl 2 rfl) ?_
        refine lv_iconst (v := Int32.ofInt (-1)) hx hb dX11_isMove_66 rfl ?_
        refine xi_icmp_eq (tgt := 76) hx hb dX11_isMove_67 (by decide) hf (fun hf => ?_) (fun hf => ?_)
        · exact b_76 _ ih49 _ _ _ _ _ _ _ _ hf hP hD hS (lv_sub hl [0, 1, 2, 3, 4, 6] rfl)
        · refine lv_iload_n hx hb dX11_isMove_70 rfl (lv_at hl 2 rfl) ?_
          refine lv_iload hx hb dX11_isMove_71 (lv_at hl 6 rfl) ?_
          refine xi_icmp_ne (tgt := 114) hx hb dX11_isMove_73 (by decide) hf (fun hf => ?_) (fun hf => ?_)
          · exact b_114 _ ih49 _ _ _ _ _ _ _ _ hf hP hD hS (lv_sub hl [0, 1, 2, 3, 4, 6] rfl)
          · exact b_76 _ ih49 _ _ _ _ _ _ _ _ hf hP hD hS (lv_sub hl [0, 1, 2, 3, 4, 6] rfl)
  have l_49 : ∀ (n : Nat), ∀ (x1 : Int) (x2 : Int) (x3 : Int) (x4 : Int) (x5 : Int) (x6 : Int) (H : Heap) (locs : List Loc) (ls : Array Slot), f_HM_isMove_49 i_row i_costs i_small i_tall n x1 x2 x3 x4 x5 x6 = some out → va_P (dC, dI) vwCl (wd_HM_isMove cA q0 q1 q2 q3 q4 q5 q6 q7 q8 q9 q10 q11 q12 q13 q14 q15 q16 q17 q18 q19 q20 q21 q22 q23 q24 q25 q26 q27 q28 q29 q30 q31 u0 u1 u2 u3 u4 u5 u6 u7 u8 u9 u10 u11 u12 u13 u14 u15 u16 u17 u18 u19 u20 u21 i_row i_costs i_small i_tall) H → va_D A (wd_HM_isMove cA q0 q1 q2 q3 q4 q5 q6 q7 q8 q9 q10 q11 q12 q13 q14 q15 q16 q17 q18 q19 q20 q21 q22 q23 q24 q25 q26 q27 q28 q29 q30 q31 u0 u1 u2 u3 u4 u5 u6 u7 u8 u9 u10 u11 u12 u13 u14 u15 u16 u17 u18 u19 u20 u21 i_row i_costs i_small i_tall) → va_S A s.heap H locs → lv_has ls 7 [(0, .ref q0), (1, .int (Int32.ofInt x1)), (2, .int (Int32.ofInt x2)), (3, .int (Int32.ofInt x3)), (4, .int (Int32.ofInt x4)), (5, .int (Int32.ofInt x5)), (6, .int (Int32.ofInt x6))] → W p l e rm_HM_isMove s m args below meth c H locs 0 0 Q (F0 m 49 ls []) := by
    intro n
    induction n with
    | zero => intro x1 x2 x3 x4 x5 x6 H locs ls hf hP hD hS hl; exact nomatch hf
    | succ n ih => intro x1 x2 x3 x4 x5 x6 H locs ls hf hP hD hS hl; exact b_49 (f_HM_isMove_49 i_row i_costs i_small i_tall n) ih x1 x2 x3 x4 x5 x6 H locs ls hf hP hD hS hl
  unfold f_HM_isMove at hf
  refine lv_iload_n hx hb dX11_isMove_0 rfl (lv_at hl 1 rfl) ?_
  refine lv_iconst (v := Int32.ofInt 4) hx hb dX11_isMove_1 rfl ?_
  refine xi_idiv hx hb dX11_isMove_2 hf (fun v1 hf => ?_)
  refine lv_istore_n (lv' := [(3, .int (Int32.ofInt v1)), (0, .ref q0), (1, .int (Int32.ofInt x1)), (2, .int (Int32.ofInt x2))]) hx hb dX11_isMove_3 rfl hl (by decide) rfl (fun ls hl => ?_)
  refine lv_iload_n hx hb dX11_isMove_4 rfl (lv_at hl 2 rfl) ?_
  refine lv_iconst (v := Int32.ofInt 4) hx hb dX11_isMove_5 rfl ?_
  refine xi_irem hx hb dX11_isMove_6 hf (fun v2 hf => ?_)
  refine lv_istore (lv' := [(4, .int (Int32.ofInt v2)), (3, .int (Int32.ofInt v1)), (0, .ref q0), (1, .int (Int32.ofInt x1)), (2, .int (Int32.ofInt x2))]) hx hb dX11_isMove_7 hl (by decide) rfl (fun ls hl => ?_)
  refine lv_iload_n hx hb dX11_isMove_9 rfl (lv_at hl 1 rfl) ?_
  refine lv_iload hx hb dX11_isMove_10 (lv_at hl 0 rfl) ?_
  refine xi_icmp_eq (tgt := 41) hx hb dX11_isMove_12 (by decide) hf (fun hf => ?_) (fun hf => ?_)
  · refine lv_iconst (v := Int32.ofInt 0) hx hb dX11_isMove_41 rfl ?_
    obtain rfl := Option.some.inj hf
    exact hret _ _ _ _ zz_b0 dX11_isMove_42 hP hD hS
  · refine lv_iload_n hx hb dX11_isMove_15 rfl (lv_at hl 1 rfl) ?_
    refine lv_aload_n hx hb dX11_isMove_16 rfl (lv_at hl 2 rfl) ?_
    refine xe_d1 hf (fun v3 hg hf => ?_)
    have hC : ([0, 1] : List Nat).map (fun i => (wd_HM_isMove cA q0 q1 q2 q3 q4 q5 q6 q7 q8 q9 q10 q11 q12 q13 q14 q15 q16 q17 q18 q19 q20 q21 q22 q23 q24 q25 q26 q27 q28 q29 q30 q31 u0 u1 u2 u3 u4 u5 u6 u7 u8 u9 u10 u11 u12 u13 u14 u15 u16 u17 u18 u19 u20 u21 i_row i_costs i_small i_tall)[i]?) = (wd_HM_columns cA q0 q1 q2 q3 q4 q5 q6 q7 q8 q9 q10 q11 q12 q13 q14 q15 q16 q17 q18 q19 q20 q21 q22 q23 q24 q25 q26 q27 q28 q29 q30 q31 u0 u1 u2 u3 u4 u5 u6 u7 u8 u9 u10 u11 u12 u13 u14 u15 u16 u17 u18 u19 u20 u21 i_row).map some := rfl
    refine xv_afterI (ws' := (wd_HM_isMove cA q0 q1 q2 q3 q4 q5 q6 q7 q8 q9 q10 q11 q12 q13 q14 q15 q16 q17 q18 q19 q20 q21 q22 q23 q24 q25 q26 q27 q28 q29 q30 q31 u0 u1 u2 u3 u4 u5 u6 u7 u8 u9 u10 u11 u12 u13 u14 u15 u16 u17 u18 u19 u20 u21 i_row i_costs i_small i_tall)) (isC := [0, 1]) (ps := [some 0, some 1, none, none, none]) (va_runV (As := []) (rest := [.int (Int32.ofInt v1)]) ⟨hx, hb, hml, hown, hts⟩ (c_HM_columns l ev dC dI cA q0 q1 q2 q3 q4 q5 q6 q7 q8 q9 q10 q11 q12 q13 q14 q15 q16 q17 q18 q19 q20 q21 q22 q23 q24 q25 q26 q27 q28 q29 q30 q31 u0 u1 u2 u3 u4 u5 u6 u7 u8 u9 u10 u11 u12 u13 u14 u15 u16 u17 u18 u19 u20 u21 hg H.size) (cwV 0 hts (zgV zw_1344 zw_1346 zw_41 zw_115 zw_1347) rfl rfl rfl hd_HM_columns ⟨Nat.le_of_ble_eq_true rfl, Nat.le_of_ble_eq_true rfl⟩) (xv_preV (T := TX11) (N := 53) hE hA hS hK hP hD (isC := [0, 1]) (by decide +kernel) hC (q0 := 0) (ci := 11) rfl rfl) rfl rfl hl.1 rfl (lv_room (Nat.le_of_ble_eq_true rfl)) dX11_isMove_17 ⟨Nat.le_refl _, Nat.le_refl _⟩) hP hD hS hA (by decide +kernel) rfl hC rfl rfl (fun H locs hP hD hS => ?_)
    refine xi_icmp_ge (tgt := 41) hx hb dX11_isMove_20 (by decide) hf (fun hf => ?_) (fun hf => ?_)
    · refine lv_iconst (v := Int32.ofInt 0) hx hb dX11_isMove_41 rfl ?_
      obtain rfl := Option.some.inj hf
      exact hret _ _ _ _ zz_b0 dX11_isMove_42 hP hD hS
    · refine lv_iload hx hb dX11_isMove_23 (lv_at hl 0 rfl) ?_
      refine lv_aload_n hx hb dX11_isMove_25 rfl (lv_at hl 2 rfl) ?_
      refine xe_d1 hf (fun v4 hg hf => ?_)
      have hC : ([0, 1] : List Nat).map (fun i => (wd_HM_isMove cA q0 q1 q2 q3 q4 q5 q6 q7 q8 q9 q10 q11 q12 q13 q14 q15 q16 q17 q18 q19 q20 q21 q22 q23 q24 q25 q26 q27 q28 q29 q30 q31 u0 u1 u2 u3 u4 u5 u6 u7 u8 u9 u10 u11 u12 u13 u14 u15 u16 u17 u18 u19 u20 u21 i_row i_costs i_small i_tall)[i]?) = (wd_HM_columns cA q0 q1 q2 q3 q4 q5 q6 q7 q8 q9 q10 q11 q12 q13 q14 q15 q16 q17 q18 q19 q20 q21 q22 q23 q24 q25 q26 q27 q28 q29 q30 q31 u0 u1 u2 u3 u4 u5 u6 u7 u8 u9 u10 u11 u12 u13 u14 u15 u16 u17 u18 u19 u20 u21 i_row).map some := rfl
      refine xv_afterI (ws' := (wd_HM_isMove cA q0 q1 q2 q3 q4 q5 q6 q7 q8 q9 q10 q11 q12 q13 q14 q15 q16 q17 q18 q19 q20 q21 q22 q23 q24 q25 q26 q27 q28 q29 q30 q31 u0 u1 u2 u3 u4 u5 u6 u7 u8 u9 u10 u11 u12 u13 u14 u15 u16 u17 u18 u19 u20 u21 i_row i_costs i_small i_tall)) (isC := [0, 1]) (ps := [some 0, some 1, none, none, none]) (va_runV (As := []) (rest := [.int (Int32.ofInt v2)]) ⟨hx, hb, hml, hown, hts⟩ (c_HM_columns l ev dC dI cA q0 q1 q2 q3 q4 q5 q6 q7 q8 q9 q10 q11 q12 q13 q14 q15 q16 q17 q18 q19 q20 q21 q22 q23 q24 q25 q26 q27 q28 q29 q30 q31 u0 u1 u2 u3 u4 u5 u6 u7 u8 u9 u10 u11 u12 u13 u14 u15 u16 u17 u18 u19 u20 u21 hg H.size) (cwV 0 hts (zgV zw_1344 zw_1346 zw_41 zw_115 zw_1347) rfl rfl rfl hd_HM_columns ⟨Nat.le_of_ble_eq_true rfl, Nat.le_of_ble_eq_true rfl⟩) (xv_preV (T := TX11) (N := 53) hE hA hS hK hP hD (isC := [0, 1]) (by decide +kernel) hC (q0 := 0) (ci := 11) rfl rfl) rfl rfl hl.1 rfl (lv_room (Nat.le_of_ble_eq_true rfl)) dX11_isMove_26 ⟨Nat.le_refl _, Nat.le_refl _⟩) hP hD hS hA (by decide +kernel) rfl hC rfl rfl (fun H locs hP hD hS => ?_)
      refine xi_icmp_ge (tgt := 41) hx hb dX11_isMove_29 (by decide) hf (fun hf => ?_) (fun hf => ?_)
      · refine lv_iconst (v := Int32.ofInt 0) hx hb dX11_isMove_41 rfl ?_
        obtain rfl := Option.some.inj hf
        exact hret _ _ _ _ zz_b0 dX11_isMove_42 hP hD hS
      · refine lv_aload_n hx hb dX11_isMove_32 rfl (lv_at hl 2 rfl) ?_
        refine va_get (D := (dC, dI)) (ci := 11) (v := .ref q23) (C := RX11) (T := TX11) (N := 53) hx hb hz zi_X11 hown hK hP 0 rfl rfl 42 (by decide) (hz _ zw_1207) (fun _ h9 => h9) rfl dX11_isMove_33 ?_
        refine lv_iload_n hx hb dX11_isMove_36 rfl (lv_at hl 1 rfl) ?_
        refine xi_iald hx hb hK hP 4 0 rfl rfl dX11_isMove_37 hf (fun v5 hf => ?_)
        refine xi_if_ne (tgt := 43) hx hb dX11_isMove_38 (by decide) hf (fun hf => ?_) (fun hf => ?_)
        · refine lv_iconst (v := Int32.ofInt 0) hx hb dX11_isMove_43 rfl ?_
          refine lv_istore (lv' := [(5, .int (Int32.ofInt 0)), (4, .int (Int32.ofInt v2)), (3, .int (Int32.ofInt v1)), (0, .ref q0), (1, .int (Int32.ofInt x1)), (2, .int (Int32.ofInt x2))]) hx hb dX11_isMove_44 hl (by decide) rfl (fun ls hl => ?_)
          refine lv_iconst (v := Int32.ofInt 0) hx hb dX11_isMove_46 rfl ?_
          refine lv_istore (lv' := [(6, .int (Int32.ofInt 0)), (5, .int (Int32.ofInt 0)), (4, .int (Int32.ofInt v2)), (3, .int (Int32.ofInt v1)), (0, .ref q0), (1, .int (Int32.ofInt x1)), (2, .int (Int32.ofInt x2))]) hx hb dX11_isMove_47 hl (by decide) rfl (fun ls hl => ?_)
          exact l_49  _ _ _ _ _ _ _ _ _ _ hf hP hD hS (lv_sub hl [4, 5, 6, 3, 2, 1, 0] rfl)
        · refine lv_iconst (v := Int32.ofInt 0) hx hb dX11_isMove_41 rfl ?_
          obtain rfl := Option.some.inj hf
          exact hret _ _ _ _ zz_b0 dX11_isMove_42 hP hD hS
theorem dX11_moved_0 : decode cX11_moved 0 = .ok (.iload_n 1, 1) := by decide +kernel
theorem dX11_moved_1 : decode cX11_moved 1 = .ok (.iconst 4, 1) := by decide +kernel
theorem dX11_moved_2 : decode cX11_moved 2 = .ok (.idiv, 1) := by decide +kernel
theorem dX11_moved_3 : decode cX11_moved 3 = .ok (.istore_n 2, 1) := by decide +kernel
theorem dX11_moved_4 : decode cX11_moved 4 = .ok (.iload_n 1, 1) := by decide +kernel
theorem dX11_moved_5 : decode cX11_moved 5 = .ok (.iconst 4, 1) := by decide +kernel
theorem dX11_moved_6 : decode cX11_moved 6 = .ok (.irem, 1) := by decide +kernel
theorem dX11_moved_7 : decode cX11_moved 7 = .ok (.istore_n 3, 1) := by decide +kernel
theorem dX11_moved_8 : decode cX11_moved 8 = .ok (.aload_n 0, 1) := by decide +kernel
theorem dX11_moved_9 : decode cX11_moved 9 = .ok (.iload_n 2, 1) := by decide +kernel
theorem dX11_moved_10 : decode cX11_moved 10 = .ok (.invokevirtual 415, 3) := by decide +kernel
theorem dX11_moved_13 : decode cX11_moved 13 = .ok (.istore 4, 2) := by decide +kernel
theorem dX11_moved_15 : decode cX11_moved 15 = .ok (.aload_n 0, 1) := by decide +kernel
theorem dX11_moved_16 : decode cX11_moved 16 = .ok (.getfield 99, 3) := by decide +kernel
theorem dX11_moved_19 : decode cX11_moved 19 = .ok (.iload_n 2, 1) := by decide +kernel
theorem dX11_moved_20 : decode cX11_moved 20 = .ok (.dup2, 1) := by decide +kernel
theorem dX11_moved_21 : decode cX11_moved 21 = .ok (.iaload, 1) := by decide +kernel
theorem dX11_moved_22 : decode cX11_moved 22 = .ok (.iconst 1, 1) := by decide +kernel
theorem dX11_moved_23 : decode cX11_moved 23 = .ok (.isub, 1) := by decide +kernel
theorem dX11_moved_24 : decode cX11_moved 24 = .ok (.iastore, 1) := by decide +kernel
theorem dX11_moved_25 : decode cX11_moved 25 = .ok (.aload_n 0, 1) := by decide +kernel
theorem dX11_moved_26 : decode cX11_moved 26 = .ok (.getfield 96, 3) := by decide +kernel
theorem dX11_moved_29 : decode cX11_moved 29 = .ok (.iconst 5, 1) := by decide +kernel
theorem dX11_moved_30 : decode cX11_moved 30 = .ok (.iload_n 3, 1) := by decide +kernel
theorem dX11_moved_31 : decode cX11_moved 31 = .ok (.imul, 1) := by decide +kernel
theorem dX11_moved_32 : decode cX11_moved 32 = .ok (.aload_n 0, 1) := by decide +kernel
theorem dX11_moved_33 : decode cX11_moved 33 = .ok (.getfield 99, 3) := by decide +kernel
theorem dX11_moved_36 : decode cX11_moved 36 = .ok (.iload_n 3, 1) := by decide +kernel
theorem dX11_moved_37 : decode cX11_moved 37 = .ok (.iaload, 1) := by decide +kernel
theorem dX11_moved_38 : decode cX11_moved 38 = .ok (.iadd, 1) := by decide +kernel
theorem dX11_moved_39 : decode cX11_moved 39 = .ok (.iload 4, 2) := by decide +kernel
theorem dX11_moved_41 : decode cX11_moved 41 = .ok (.iastore, 1) := by decide +kernel
theorem dX11_moved_42 : decode cX11_moved 42 = .ok (.aload_n 0, 1) := by decide +kernel
theorem dX11_moved_43 : decode cX11_moved 43 = .ok (.getfield 99, 3) := by decide +kernel
theorem dX11_moved_46 : decode cX11_moved 46 = .ok (.iload_n 3, 1) := by decide +kernel
theorem dX11_moved_47 : decode cX11_moved 47 = .ok (.dup2, 1) := by decide +kernel
theorem dX11_moved_48 : decode cX11_moved 48 = .ok (.iaload, 1) := by decide +kernel
theorem dX11_moved_49 : decode cX11_moved 49 = .ok (.iconst 1, 1) := by decide +kernel
theorem dX11_moved_50 : decode cX11_moved 50 = .ok (.iadd, 1) := by decide +kernel
theorem dX11_moved_51 : decode cX11_moved 51 = .ok (.iastore, 1) := by decide +kernel
theorem dX11_moved_52 : decode cX11_moved 52 = .ok (.aload_n 0, 1) := by decide +kernel
theorem dX11_moved_53 : decode cX11_moved 53 = .ok (.aload_n 0, 1) := by decide +kernel
theorem dX11_moved_54 : decode cX11_moved 54 = .ok (.invokevirtual 400, 3) := by decide +kernel
theorem dX11_moved_57 : decode cX11_moved 57 = .ok (.invokevirtual 403, 3) := by decide +kernel
theorem dX11_moved_60 : decode cX11_moved 60 = .ok (.ireturn, 1) := by decide +kernel
theorem zw_85 : (Jvm.Cond.selects "HillSchoolModel" ({ cls := "HillSchoolModel", name := "codeOfSmall", desc := "()I" } : Jvm.MethodName) ({ cls := "HillSchoolModel", name := "codeOfSmall", desc := "()I" } : Jvm.MethodName)) ∈ zall := zmemG (zmj_0 85 rfl) rfl
theorem zw_86 : (Jvm.Cond.selects "HillSchoolModel" ({ cls := "HillSchoolModel", name := "numberOf", desc := "(I)I" } : Jvm.MethodName) ({ cls := "HillSchoolModel", name := "numberOf", desc := "(I)I" } : Jvm.MethodName)) ∈ zall := zmemG (zmj_0 86 rfl) rfl
theorem zw_1666 : (Jvm.Cond.methodLink "HillSchoolModel" (400 : Nat) ({ cls := "HillSchoolModel", name := "codeOfSmall", desc := "()I" } : Jvm.MethodName)) ∈ zall := zmemG (zmj_7 123 rfl) rfl
theorem zw_1668 : (Jvm.Cond.instanceMethod ({ cls := "HillSchoolModel", name := "codeOfSmall", desc := "()I" } : Jvm.MethodName)) ∈ zall := zmemG (zmj_7 125 rfl) rfl
theorem zw_1670 : (Jvm.Cond.methodLink "HillSchoolModel" (403 : Nat) ({ cls := "HillSchoolModel", name := "numberOf", desc := "(I)I" } : Jvm.MethodName)) ∈ zall := zmemG (zmj_7 127 rfl) rfl
theorem zw_1672 : (Jvm.Cond.instanceMethod ({ cls := "HillSchoolModel", name := "numberOf", desc := "(I)I" } : Jvm.MethodName)) ∈ zall := zmemG (zmj_7 129 rfl) rfl
theorem zw_1697 : (Jvm.Cond.code ({ cls := "HillSchoolModel", name := "moved", desc := "(I)I" } : Jvm.MethodName) prog_13_method_91_code (5 : Nat) (Option.some Jvm.ClassFile.FieldType.int)) ∈ zall := zmemG (zmj_7 154 rfl) rfl
abbrev w_HM_moved : List Cond := .code yX11_moved cX11_moved 5 (some .int) :: zall
abbrev rm_HM_moved : Room := { frames := 2, cells := 0, slots := 0, locals := 44 }
theorem hd_HM_moved : yX11_moved.cls = "HillSchoolModel" ∧ yX11_moved.cls ≠ "java/lang/invoke/MethodHandle" ∧ yX11_moved.cls ≠ "java/lang/invoke/VarHandle" ∧ (parseMethodDescriptor yX11_moved.desc).map (fun d => d.parameters.length) = some 1 := by decide +kernel
def wd_HM_moved (cA : Nat → ClassId) (q0 q1 q2 q3 q4 q5 q6 q7 q8 q9 q10 q11 q12 q13 q14 q15 q16 q17 q18 q19 q20 q21 q22 q23 q24 q25 q26 q27 q28 q29 q30 q31 : Nat) (u0 u1 u2 u3 u4 u5 u6 u7 u8 u9 u10 u11 u12 u13 u14 u15 u16 u17 u18 u19 u20 : Int)  (i_nStates : Int) (i_states : Nat → Int) (i_table : Nat → Int) (i_small : Nat → Int) (i_tall : Nat → Int) : va_W := [(q0, .inr (11, [.int (Int32.ofInt u0), .int (Int32.ofInt u1), .ref q1, .ref q2, .ref q3, .ref q4, .int (Int32.ofInt u2), .ref q5, .int (Int32.ofInt u3), .int (Int32.ofInt u4), .int (Int32.ofInt u5), .int (Int32.ofInt u6), .long (Int64.ofInt u7), .int (Int32.ofInt u8), .int (Int32.ofInt u9), .int (Int32.ofInt u10), .ref q6, .int (Int32.ofInt u11), .ref q7, .ref q8, .int (Int32.ofInt u12), .ref q9, .ref q10, .int (Int32.ofInt u13), .int (Int32.ofInt u14), .ref q11, .int (Int32.ofInt u15), .ref q12, .ref q13, .int (Int32.ofInt u16), .long (Int64.ofInt u17), .long (Int64.ofInt u18), .ref q14, .ref q15, .ref q16, .ref q17, .ref q18, .int (Int32.ofInt i_nStates), .ref q19, .ref q20, .ref q21, .ref q22, .ref q23, .ref q24, .ref q25, .ref q26, .ref q27, .ref q28, .ref q29, .ref q30, .long (Int64.ofInt u19), .ref q31, .int (Int32.ofInt u20)])), (q17, .inl (cA 0, 6720, .inl (za i_states))), (q18, .inl (cA 0, 16384, .inl (za i_table))), (q22, .inl (cA 0, 20, .inl (za i_small))), (q23, .inl (cA 0, 4, .inl (za i_tall)))]
def wf_HM_moved (cA : Nat → ClassId) (q0 q1 q2 q3 q4 q5 q6 q7 q8 q9 q10 q11 q12 q13 q14 q15 q16 q17 q18 q19 q20 q21 q22 q23 q24 q25 q26 q27 q28 q29 q30 q31 : Nat) (u0 u1 u2 u3 u4 u5 u6 u7 u8 u9 u10 u11 u12 u13 u14 u15 u16 u17 u18 u19 u20 : Int)  (o : Int × Int × (Nat → Int) × (Nat → Int) × (Nat → Int) × (Nat → Int)) : va_W := wd_HM_moved cA q0 q1 q2 q3 q4 q5 q6 q7 q8 q9 q10 q11 q12 q13 q14 q15 q16 q17 q18 q19 q20 q21 q22 q23 q24 q25 q26 q27 q28 q29 q30 q31 u0 u1 u2 u3 u4 u5 u6 u7 u8 u9 u10 u11 u12 u13 u14 u15 u16 u17 u18 u19 u20 o.2.1 o.2.2.1 o.2.2.2.1 o.2.2.2.2.1 o.2.2.2.2.2
def f_HM_moved (x1 : Int) (i_nStates : Int) (i_states : Nat → Int) (i_table : Nat → Int) (i_small : Nat → Int) (i_tall : Nat → Int) : Option (Int × Int × (Nat → Int) × (Nat → Int) × (Nat → Int) × (Nat → Int)) :=
  if zi_w 4 = 0 then none else zn (zi_div x1 4) fun v1 =>
  if zi_w 4 = 0 then none else zn (zi_rem x1 4) fun v2 =>
  zd1 (f_HM_smallTop v1 i_small i_tall) fun v3 =>
  zg 4 i_tall v1 fun v4 =>
  zn (v4 - 1) fun v5 =>
  zs 4 i_tall v1 v5 fun a6 =>
  zn (5 * v2) fun v7 =>
  zg 4 a6 v2 fun v8 =>
  zn (v7 + v8) fun v9 =>
  zs 20 i_small v9 v3 fun a10 =>
  zg 4 a6 v2 fun v11 =>
  zn (v11 + 1) fun v12 =>
  zs 4 a6 v2 v12 fun a13 =>
  zd1 (f_HM_codeOfSmall a10 a13) fun v14 =>
  zd4 (f_HM_numberOf v14 i_nStates i_states i_table) fun v15 v16 a17 a18 =>
  some (v15, v16, a17, a18, a10, a13)
set_option maxHeartbeats 4000000 in
set_option maxRecDepth 100000 in
theorem c_HM_moved (l : Launch) (ev : zEv) (dC : Nat → ClassId) (dI : Nat → Nat → Nat) (cA : Nat → ClassId) (q0 q1 q2 q3 q4 q5 q6 q7 q8 q9 q10 q11 q12 q13 q14 q15 q16 q17 q18 q19 q20 q21 q22 q23 q24 q25 q26 q27 q28 q29 q30 q31 : Nat) (u0 u1 u2 u3 u4 u5 u6 u7 u8 u9 u10 u11 u12 u13 u14 u15 u16 u17 u18 u19 u20 : Int) {x1 : Int} {i_nStates : Int} {i_states : Nat → Int} {i_table : Nat → Int} {i_small : Nat → Int} {i_tall : Nat → Int} {out : Int × Int × (Nat → Int) × (Nat → Int) × (Nat → Int) × (Nat → Int)} (hf : f_HM_moved x1 i_nStates i_states i_table i_small i_tall = some out) : xc_I l ev (dC, dI) vwCl (tyl cA) yX11_moved w_HM_moved rm_HM_moved [.ref q0, .int (Int32.ofInt x1)] (wd_HM_moved cA q0 q1 q2 q3 q4 q5 q6 q7 q8 q9 q10 q11 q12 q13 q14 q15 q16 q17 q18 q19 q20 q21 q22 q23 q24 q25 q26 q27 q28 q29 q30 q31 u0 u1 u2 u3 u4 u5 u6 u7 u8 u9 u10 u11 u12 u13 u14 u15 u16 u17 u18 u19 u20 i_nStates i_states i_table i_small i_tall) (wf_HM_moved cA q0 q1 q2 q3 q4 q5 q6 q7 q8 q9 q10 q11 q12 q13 q14 q15 q16 q17 q18 q19 q20 q21 q22 q23 q24 q25 q26 q27 q28 q29 q30 q31 u0 u1 u2 u3 u4 u5 u6 u7 u8 u9 u10 u11 u12 u13 u14 u15 u16 u17 u18 u19 u20 out) out.1 := by
  refine xv_startI (cc := cX11_moved) (maxL := 5) (rt := .int) (by decide +kernel) rfl (Nat.le_of_ble_eq_true rfl) ?_
  intro p e s m args below meth c A Q H ls hx hb hml hts hown hK hA hP hD hS hl hE hret
  have hown : s.vm.findClass "HillSchoolModel" = some m.cls := hown
  have hz : ∀ w ∈ zall, w.before args s = true := fun w h => hts w (List.mem_cons_of_mem _ h)
  have hl : lv_has ls 5 [(0, .ref q0), (1, .int (Int32.ofInt x1))] := hl
  unfold f_HM_moved at hf
  refine lv_iload_n hx hb dX11_moved_0 rfl (lv_at hl 1 rfl) ?_
  refine lv_iconst (v := Int32.ofInt 4) hx hb dX11_moved_1 rfl ?_
  refine xi_idiv hx hb dX11_moved_2 hf (fun v1 hf => ?_)
  refine lv_istore_n (lv' := [(2, .int (Int32.ofInt v1)), (0, .ref q0), (1, .int (Int32.ofInt x1))]) hx hb dX11_moved_3 rfl hl (by decide) rfl (fun ls hl => ?_)
  refine lv_iload_n hx hb dX11_moved_4 rfl (lv_at hl 2 rfl) ?_
  refine lv_iconst (v := Int32.ofInt 4) hx hb dX11_moved_5 rfl ?_
  refine xi_irem hx hb dX11_moved_6 hf (fun v2 hf => ?_)
  refine lv_istore_n (lv' := [(3, .int (Int32.ofInt v2)), (2, .int (Int32.ofInt v1)), (0, .ref q0), (1, .int (Int32.ofInt x1))]) hx hb dX11_moved_7 rfl hl (by decide) rfl (fun ls hl => ?_)
  refine lv_aload_n hx hb dX11_moved_8 rfl (lv_at hl 2 rfl) ?_
  refine lv_iload_n hx hb dX11_moved_9 rfl (lv_at hl 1 rfl) ?_
  refine xe_d1 hf (fun v3 hg hf => ?_)
  have hC : ([0, 3, 4] : List Nat).map (fun i => (wd_HM_moved cA q0 q1 q2 q3 q4 q5 q6 q7 q8 q9 q10 q11 q12 q13 q14 q15 q16 q17 q18 q19 q20 q21 q22 q23 q24 q25 q26 q27 q28 q29 q30 q31 u0 u1 u2 u3 u4 u5 u6 u7 u8 u9 u10 u11 u12 u13 u14 u15 u16 u17 u18 u19 u20 i_nStates i_states i_table i_small i_tall)[i]?) = (wd_HM_smallTop cA q0 q1 q2 q3 q4 q5 q6 q7 q8 q9 q10 q11 q12 q13 q14 q15 q16 q17 q18 q19 q20 q21 q22 q23 q24 q25 q26 q27 q28 q29 q30 q31 u0 u1 u2 u3 u4 u5 u6 u7 u8 u9 u10 u11 u12 u13 u14 u15 u16 u17 u18 i_nStates u19 u20 i_small i_tall).map some := rfl
  refine xv_afterI (ws' := (wd_HM_moved cA q0 q1 q2 q3 q4 q5 q6 q7 q8 q9 q10 q11 q12 q13 q14 q15 q16 q17 q18 q19 q20 q21 q22 q23 q24 q25 q26 q27 q28 q29 q30 q31 u0 u1 u2 u3 u4 u5 u6 u7 u8 u9 u10 u11 u12 u13 u14 u15 u16 u17 u18 u19 u20 i_nStates i_states i_table i_small i_tall)) (isC := [0, 3, 4]) (ps := [some 0, none, none, some 1, some 2]) (va_runV (As := [.int (Int32.ofInt v1)]) (rest := []) ⟨hx, hb, hml, hown, hts⟩ (c_HM_smallTop l ev dC dI cA q0 q1 q2 q3 q4 q5 q6 q7 q8 q9 q10 q11 q12 q13 q14 q15 q16 q17 q18 q19 q20 q21 q22 q23 q24 q25 q26 q27 q28 q29 q30 q31 u0 u1 u2 u3 u4 u5 u6 u7 u8 u9 u10 u11 u12 u13 u14 u15 u16 u17 u18 i_nStates u19 u20 hg H.size) (cwV 1 hts (zgV zw_1686 zw_1688 zw_90 zw_115 zw_1689) rfl rfl rfl hd_HM_smallTop ⟨Nat.le_of_ble_eq_true rfl, Nat.le_of_ble_eq_true rfl⟩) (xv_preV (T := TX11) (N := 53) hE hA hS hK hP hD (isC := [0, 3, 4]) (by decide +kernel) hC (q0 := 0) (ci := 11) rfl rfl) rfl rfl hl.1 rfl (lv_room (Nat.le_of_ble_eq_true rfl)) dX11_moved_10 ⟨Nat.le_refl _, Nat.le_refl _⟩) hP hD hS hA (by decide +kernel) rfl hC rfl rfl (fun H locs hP hD hS => ?_)
  refine lv_istore (lv' := [(4, .int (Int32.ofInt v3)), (3, .int (Int32.ofInt v2)), (2, .int (Int32.ofInt v1)), (0, .ref q0), (1, .int (Int32.ofInt x1))]) hx hb dX11_moved_13 hl (by decide) rfl (fun ls hl => ?_)
  refine lv_aload_n hx hb dX11_moved_15 rfl (lv_at hl 3 rfl) ?_
  refine va_get (D := (dC, dI)) (ci := 11) (v := .ref q23) (C := RX11) (T := TX11) (N := 53) hx hb hz zi_X11 hown hK hP 0 rfl rfl 42 (by decide) (hz _ zw_1207) (fun _ h9 => h9) rfl dX11_moved_16 ?_
  refine lv_iload_n hx hb dX11_moved_19 rfl (lv_at hl 2 rfl) ?_
  refine lv_dup2_11 hx hb dX11_moved_20 rfl rfl ?_
  refine xi_iald hx hb hK hP 4 0 rfl rfl dX11_moved_21 hf (fun v4 hf => ?_)
  refine lv_iconst (v := Int32.ofInt 1) hx hb dX11_moved_22 rfl ?_
  refine xi_isub hx hb dX11_moved_23 hf (fun v5 hf => ?_)
  refine xi_iast hx hb hK hP hD hS 4 0 rfl rfl dX11_moved_24 hf (fun a6 H locs hP hD hS hf => ?_)
  have hP : va_P (dC, dI) vwCl (wd_HM_moved cA q0 q1 q2 q3 q4 q5 q6 q7 q8 q9 q10 q11 q12 q13 q14 q15 q16 q17 q18 q19 q20 q21 q22 q23 q24 q25 q26 q27 q28 q29 q30 q31 u0 u1 u2 u3 u4 u5 u6 u7 u8 u9 u10 u11 u12 u13 u14 u15 u16 u17 u18 u19 u20 i_nStates i_states i_table i_small a6) H := hP
  have hD : va_D A (wd_HM_moved cA q0 q1 q2 q3 q4 q5 q6 q7 q8 q9 q10 q11 q12 q13 q14 q15 q16 q17 q18 q19 q20 q21 q22 q23 q24 q25 q26 q27 q28 q29 q30 q31 u0 u1 u2 u3 u4 u5 u6 u7 u8 u9 u10 u11 u12 u13 u14 u15 u16 u17 u18 u19 u20 i_nStates i_states i_table i_small a6) := hD
  refine lv_aload_n hx hb dX11_moved_25 rfl (lv_at hl 3 rfl) ?_
  refine va_get (D := (dC, dI)) (ci := 11) (v := .ref q22) (C := RX11) (T := TX11) (N := 53) hx hb hz zi_X11 hown hK hP 0 rfl rfl 41 (by decide) (hz _ zw_1206) (fun _ h9 => h9) rfl dX11_moved_26 ?_
  refine lv_iconst (v := Int32.ofInt 5) hx hb dX11_moved_29 rfl ?_
  refine lv_iload_n hx hb dX11_moved_30 rfl (lv_at hl 1 rfl) ?_
  refine xi_imul hx hb dX11_moved_31 hf (fun v7 hf => ?_)
  refine lv_aload_n hx hb dX11_moved_32 rfl (lv_at hl 3 rfl) ?_
  refine va_get (D := (dC, dI)) (ci := 11) (v := .ref q23) (C := RX11) (T := TX11) (N := 53) hx hb hz zi_X11 hown hK hP 0 rfl rfl 42 (by decide) (hz _ zw_1207) (fun _ h9 => h9) rfl dX11_moved_33 ?_
  refine lv_iload_n hx hb dX11_moved_36 rfl (lv_at hl 1 rfl) ?_
  refine xi_iald hx hb hK hP 4 0 rfl rfl dX11_moved_37 hf (fun v8 hf => ?_)
  refine xi_iadd hx hb dX11_moved_38 hf (fun v9 hf => ?_)
  refine lv_iload hx hb dX11_moved_39 (lv_at hl 0 rfl) ?_
  refine xi_iast hx hb hK hP hD hS 3 0 rfl rfl dX11_moved_41 hf (fun a10 H locs hP hD hS hf => ?_)
  have hP : va_P (dC, dI) vwCl (wd_HM_moved cA q0 q1 q2 q3 q4 q5 q6 q7 q8 q9 q10 q11 q12 q13 q14 q15 q16 q17 q18 q19 q20 q21 q22 q23 q24 q25 q26 q27 q28 q29 q30 q31 u0 u1 u2 u3 u4 u5 u6 u7 u8 u9 u10 u11 u12 u13 u14 u15 u16 u17 u18 u19 u20 i_nStates i_states i_table a10 a6) H := hP
  have hD : va_D A (wd_HM_moved cA q0 q1 q2 q3 q4 q5 q6 q7 q8 q9 q10 q11 q12 q13 q14 q15 q16 q17 q18 q19 q20 q21 q22 q23 q24 q25 q26 q27 q28 q29 q30 q31 u0 u1 u2 u3 u4 u5 u6 u7 u8 u9 u10 u11 u12 u13 u14 u15 u16 u17 u18 u19 u20 i_nStates i_states i_table a10 a6) := hD
  refine lv_aload_n hx hb dX11_moved_42 rfl (lv_at hl 3 rfl) ?_
  refine va_get (D := (dC, dI)) (ci := 11) (v := .ref q23) (C := RX11) (T := TX11) (N := 53) hx hb hz zi_X11 hown hK hP 0 rfl rfl 42 (by decide) (hz _ zw_1207) (fun _ h9 => h9) rfl dX11_moved_43 ?_
  refine lv_iload_n hx hb dX11_moved_46 rfl (lv_at hl 1 rfl) ?_
  refine lv_dup2_11 hx hb dX11_moved_47 rfl rfl ?_
  refine xi_iald hx hb hK hP 4 0 rfl rfl dX11_moved_48 hf (fun v11 hf => ?_)
  refine lv_iconst (v := Int32.ofInt 1) hx hb dX11_moved_49 rfl ?_
  refine xi_iadd hx hb dX11_moved_50 hf (fun v12 hf => ?_)
  refine xi_iast hx hb hK hP hD hS 4 0 rfl rfl dX11_moved_51 hf (fun a13 H locs hP hD hS hf => ?_)
  have hP : va_P (dC, dI) vwCl (wd_HM_moved cA q0 q1 q2 q3 q4 q5 q6 q7 q8 q9 q10 q11 q12 q13 q14 q15 q16 q17 q18 q19 q20 q21 q22 q23 q24 q25 q26 q27 q28 q29 q30 q31 u0 u1 u2 u3 u4 u5 u6 u7 u8 u9 u10 u11 u12 u13 u14 u15 u16 u17 u18 u19 u20 i_nStates i_states i_table a10 a13) H := hP
  have hD : va_D A (wd_HM_moved cA q0 q1 q2 q3 q4 q5 q6 q7 q8 q9 q10 q11 q12 q13 q14 q15 q16 q17 q18 q19 q20 q21 q22 q23 q24 q25 q26 q27 q28 q29 q30 q31 u0 u1 u2 u3 u4 u5 u6 u7 u8 u9 u10 u11 u12 u13 u14 u15 u16 u17 u18 u19 u20 i_nStates i_states i_table a10 a13) := hD
  refine lv_aload_n hx hb dX11_moved_52 rfl (lv_at hl 3 rfl) ?_
  refine lv_aload_n hx hb dX11_moved_53 rfl (lv_at hl 3 rfl) ?_
  refine xe_d1 hf (fun v14 hg hf => ?_)
  have hC : ([0, 3, 4] : List Nat).map (fun i => (wd_HM_moved cA q0 q1 q2 q3 q4 q5 q6 q7 q8 q9 q10 q11 q12 q13 q14 q15 q16 q17 q18 q19 q20 q21 q22 q23 q24 q25 q26 q27 q28 q29 q30 q31 u0 u1 u2 u3 u4 u5 u6 u7 u8 u9 u10 u11 u12 u13 u14 u15 u16 u17 u18 u19 u20 i_nStates i_states i_table a10 a13)[i]?) = (wd_HM_codeOfSmall cA q0 q1 q2 q3 q4 q5 q6 q7 q8 q9 q10 q11 q12 q13 q14 q15 q16 q17 q18 q19 q20 q21 q22 q23 q24 q25 q26 q27 q28 q29 q30 q31 u0 u1 u2 u3 u4 u5 u6 u7 u8 u9 u10 u11 u12 u13 u14 u15 u16 u17 u18 i_nStates u19 u20 a10 a13).map some := rfl
  refine xv_afterI (ws' := (wd_HM_moved cA q0 q1 q2 q3 q4 q5 q6 q7 q8 q9 q10 q11 q12 q13 q14 q15 q16 q17 q18 q19 q20 q21 q22 q23 q24 q25 q26 q27 q28 q29 q30 q31 u0 u1 u2 u3 u4 u5 u6 u7 u8 u9 u10 u11 u12 u13 u14 u15 u16 u17 u18 u19 u20 i_nStates i_states i_table a10 a13)) (isC := [0, 3, 4]) (ps := [some 0, none, none, some 1, some 2]) (va_runV (As := []) (rest := [.ref q0]) ⟨hx, hb, hml, hown, hts⟩ (c_HM_codeOfSmall l ev dC dI cA q0 q1 q2 q3 q4 q5 q6 q7 q8 q9 q10 q11 q12 q13 q14 q15 q16 q17 q18 q19 q20 q21 q22 q23 q24 q25 q26 q27 q28 q29 q30 q31 u0 u1 u2 u3 u4 u5 u6 u7 u8 u9 u10 u11 u12 u13 u14 u15 u16 u17 u18 i_nStates u19 u20 hg H.size) (cwV 0 hts (zgV zw_1666 zw_1668 zw_85 zw_115 zw_1669) rfl rfl rfl hd_HM_codeOfSmall ⟨Nat.le_of_ble_eq_true rfl, Nat.le_of_ble_eq_true rfl⟩) (xv_preV (T := TX11) (N := 53) hE hA hS hK hP hD (isC := [0, 3, 4]) (by decide +kernel) hC (q0 := 0) (ci := 11) rfl rfl) rfl rfl hl.1 rfl (lv_room (Nat.le_of_ble_eq_true rfl)) dX11_moved_54 ⟨Nat.le_refl _, Nat.le_refl _⟩) hP hD hS hA (by decide +kernel) rfl hC rfl rfl (fun H locs hP hD hS => ?_)
  refine xe_d4 hf (fun v15 v16 a17 a18 hg hf => ?_)
  have hC : ([0, 1, 2] : List Nat).map (fun i => (wd_HM_moved cA q0 q1 q2 q3 q4 q5 q6 q7 q8 q9 q10 q11 q12 q13 q14 q15 q16 q17 q18 q19 q20 q21 q22 q23 q24 q25 q26 q27 q28 q29 q30 q31 u0 u1 u2 u3 u4 u5 u6 u7 u8 u9 u10 u11 u12 u13 u14 u15 u16 u17 u18 u19 u20 i_nStates i_states i_table a10 a13)[i]?) = (wd_HM_numberOf cA q0 q1 q2 q3 q4 q5 q6 q7 q8 q9 q10 q11 q12 q13 q14 q15 q16 q17 q18 q19 q20 q21 q22 q23 q24 q25 q26 q27 q28 q29 q30 q31 u0 u1 u2 u3 u4 u5 u6 u7 u8 u9 u10 u11 u12 u13 u14 u15 u16 u17 u18 u19 u20 i_nStates i_states i_table).map some := rfl
  refine xv_afterI (ws' := (wd_HM_moved cA q0 q1 q2 q3 q4 q5 q6 q7 q8 q9 q10 q11 q12 q13 q14 q15 q16 q17 q18 q19 q20 q21 q22 q23 q24 q25 q26 q27 q28 q29 q30 q31 u0 u1 u2 u3 u4 u5 u6 u7 u8 u9 u10 u11 u12 u13 u14 u15 u16 u17 u18 u19 u20 v16 a17 a18 a10 a13)) (isC := [0, 1, 2]) (ps := [some 0, some 1, some 2, none, none]) (va_runV (As := [.int (Int32.ofInt v14)]) (rest := []) ⟨hx, hb, hml, hown, hts⟩ (c_HM_numberOf l ev dC dI cA q0 q1 q2 q3 q4 q5 q6 q7 q8 q9 q10 q11 q12 q13 q14 q15 q16 q17 q18 q19 q20 q21 q22 q23 q24 q25 q26 q27 q28 q29 q30 q31 u0 u1 u2 u3 u4 u5 u6 u7 u8 u9 u10 u11 u12 u13 u14 u15 u16 u17 u18 u19 u20 hg H.size) (cwV 1 hts (zgV zw_1670 zw_1672 zw_86 zw_115 zw_1673) rfl rfl rfl hd_HM_numberOf ⟨Nat.le_of_ble_eq_true rfl, Nat.le_of_ble_eq_true rfl⟩) (xv_preV (T := TX11) (N := 53) hE hA hS hK hP hD (isC := [0, 1, 2]) (by decide +kernel) hC (q0 := 0) (ci := 11) rfl rfl) rfl rfl hl.1 rfl (lv_room (Nat.le_of_ble_eq_true rfl)) dX11_moved_57 ⟨Nat.le_refl _, Nat.le_refl _⟩) hP hD hS hA (by decide +kernel) rfl hC rfl rfl (fun H locs hP hD hS => ?_)
  obtain rfl := Option.some.inj hf
  exact hret _ _ _ _ rfl dX11_moved_60 hP hD hS
theorem dX11_findStates_0 : decode cX11_findStates 0 = .ok (.iconst 0, 1) := by decide +kernel
theorem dX11_findStates_1 : decode cX11_findStates 1 = .ok (.istore_n 2, 1) := by decide +kernel
theorem dX11_findStates_2 : decode cX11_findStates 2 = .ok (.iload_n 2, 1) := by decide +kernel
theorem dX11_findStates_3 : decode cX11_findStates 3 = .ok (.sipush 16384, 3) := by decide +kernel
theorem dX11_findStates_6 : decode cX11_findStates 6 = .ok (.if_icmp .ge 16, 3) := by decide +kernel
theorem dX11_findStates_9 : decode cX11_findStates 9 = .ok (.aload_n 0, 1) := by decide +kernel
theorem dX11_findStates_10 : decode cX11_findStates 10 = .ok (.getfield 83, 3) := by decide +kernel
theorem dX11_findStates_13 : decode cX11_findStates 13 = .ok (.iload_n 2, 1) := by decide +kernel
theorem dX11_findStates_14 : decode cX11_findStates 14 = .ok (.iconst (-1), 1) := by decide +kernel
theorem dX11_findStates_15 : decode cX11_findStates 15 = .ok (.iastore, 1) := by decide +kernel
theorem dX11_findStates_16 : decode cX11_findStates 16 = .ok (.iinc 2 1, 3) := by decide +kernel
theorem dX11_findStates_19 : decode cX11_findStates 19 = .ok (.goto (-17), 3) := by decide +kernel
theorem dX11_findStates_22 : decode cX11_findStates 22 = .ok (.aload_n 0, 1) := by decide +kernel
theorem dX11_findStates_23 : decode cX11_findStates 23 = .ok (.iconst 0, 1) := by decide +kernel
theorem dX11_findStates_24 : decode cX11_findStates 24 = .ok (.putfield 394, 3) := by decide +kernel
theorem dX11_findStates_27 : decode cX11_findStates 27 = .ok (.iconst 0, 1) := by decide +kernel
theorem dX11_findStates_28 : decode cX11_findStates 28 = .ok (.istore_n 2, 1) := by decide +kernel
theorem dX11_findStates_29 : decode cX11_findStates 29 = .ok (.iconst 0, 1) := by decide +kernel
theorem dX11_findStates_30 : decode cX11_findStates 30 = .ok (.istore_n 3, 1) := by decide +kernel
theorem dX11_findStates_31 : decode cX11_findStates 31 = .ok (.iload_n 3, 1) := by decide +kernel
theorem dX11_findStates_32 : decode cX11_findStates 32 = .ok (.iconst 4, 1) := by decide +kernel
theorem dX11_findStates_33 : decode cX11_findStates 33 = .ok (.if_icmp .ge 92, 3) := by decide +kernel
theorem dX11_findStates_36 : decode cX11_findStates 36 = .ok (.aload_n 0, 1) := by decide +kernel
theorem dX11_findStates_37 : decode cX11_findStates 37 = .ok (.getfield 99, 3) := by decide +kernel
theorem dX11_findStates_40 : decode cX11_findStates 40 = .ok (.iload_n 3, 1) := by decide +kernel
theorem dX11_findStates_41 : decode cX11_findStates 41 = .ok (.iload_n 3, 1) := by decide +kernel
theorem dX11_findStates_42 : decode cX11_findStates 42 = .ok (.aload_n 0, 1) := by decide +kernel
theorem dX11_findStates_43 : decode cX11_findStates 43 = .ok (.invokevirtual 140, 3) := by decide +kernel
theorem dX11_findStates_46 : decode cX11_findStates 46 = .ok (.if_icmp .ge 15, 3) := by decide +kernel
theorem dX11_findStates_49 : decode cX11_findStates 49 = .ok (.aload_n 0, 1) := by decide +kernel
theorem dX11_findStates_50 : decode cX11_findStates 50 = .ok (.getfield 13, 3) := by decide +kernel
theorem dX11_findStates_53 : decode cX11_findStates 53 = .ok (.bipush 9, 2) := by decide +kernel
theorem dX11_findStates_55 : decode cX11_findStates 55 = .ok (.iload_n 3, 1) := by decide +kernel
theorem dX11_findStates_56 : decode cX11_findStates 56 = .ok (.iadd, 1) := by decide +kernel
theorem dX11_findStates_57 : decode cX11_findStates 57 = .ok (.iaload, 1) := by decide +kernel
theorem dX11_findStates_58 : decode cX11_findStates 58 = .ok (.goto 4, 3) := by decide +kernel
theorem dX11_findStates_61 : decode cX11_findStates 61 = .ok (.iconst 0, 1) := by decide +kernel
theorem dX11_findStates_62 : decode cX11_findStates 62 = .ok (.iastore, 1) := by decide +kernel
theorem dX11_findStates_63 : decode cX11_findStates 63 = .ok (.iconst 0, 1) := by decide +kernel
theorem dX11_findStates_64 : decode cX11_findStates 64 = .ok (.istore 4, 2) := by decide +kernel
theorem dX11_findStates_66 : decode cX11_findStates 66 = .ok (.iload 4, 2) := by decide +kernel
theorem dX11_findStates_68 : decode cX11_findStates 68 = .ok (.aload_n 0, 1) := by decide +kernel
theorem dX11_findStates_69 : decode cX11_findStates 69 = .ok (.getfield 99, 3) := by decide +kernel
theorem dX11_findStates_72 : decode cX11_findStates 72 = .ok (.iload_n 3, 1) := by decide +kernel
theorem dX11_findStates_73 : decode cX11_findStates 73 = .ok (.iaload, 1) := by decide +kernel
theorem dX11_findStates_74 : decode cX11_findStates 74 = .ok (.if_icmp .ge 45, 3) := by decide +kernel
theorem dX11_findStates_77 : decode cX11_findStates 77 = .ok (.aload_n 0, 1) := by decide +kernel
theorem dX11_findStates_78 : decode cX11_findStates 78 = .ok (.getfield 77, 3) := by decide +kernel
theorem dX11_findStates_81 : decode cX11_findStates 81 = .ok (.iload_n 2, 1) := by decide +kernel
theorem dX11_findStates_82 : decode cX11_findStates 82 = .ok (.aload_n 0, 1) := by decide +kernel
theorem dX11_findStates_83 : decode cX11_findStates 83 = .ok (.getfield 13, 3) := by decide +kernel
theorem dX11_findStates_86 : decode cX11_findStates 86 = .ok (.bipush 21, 2) := by decide +kernel
theorem dX11_findStates_88 : decode cX11_findStates 88 = .ok (.bipush 10, 2) := by decide +kernel
theorem dX11_findStates_90 : decode cX11_findStates 90 = .ok (.iload_n 3, 1) := by decide +kernel
theorem dX11_findStates_91 : decode cX11_findStates 91 = .ok (.imul, 1) := by decide +kernel
theorem dX11_findStates_92 : decode cX11_findStates 92 = .ok (.iadd, 1) := by decide +kernel
theorem dX11_findStates_93 : decode cX11_findStates 93 = .ok (.iload 4, 2) := by decide +kernel
theorem dX11_findStates_95 : decode cX11_findStates 95 = .ok (.iadd, 1) := by decide +kernel
theorem dX11_findStates_96 : decode cX11_findStates 96 = .ok (.iaload, 1) := by decide +kernel
theorem dX11_findStates_97 : decode cX11_findStates 97 = .ok (.iastore, 1) := by decide +kernel
theorem dX11_findStates_98 : decode cX11_findStates 98 = .ok (.aload_n 0, 1) := by decide +kernel
theorem dX11_findStates_99 : decode cX11_findStates 99 = .ok (.getfield 96, 3) := by decide +kernel
theorem dX11_findStates_102 : decode cX11_findStates 102 = .ok (.iconst 5, 1) := by decide +kernel
theorem dX11_findStates_103 : decode cX11_findStates 103 = .ok (.iload_n 3, 1) := by decide +kernel
theorem dX11_findStates_104 : decode cX11_findStates 104 = .ok (.imul, 1) := by decide +kernel
theorem dX11_findStates_105 : decode cX11_findStates 105 = .ok (.iload 4, 2) := by decide +kernel
theorem dX11_findStates_107 : decode cX11_findStates 107 = .ok (.iadd, 1) := by decide +kernel
theorem dX11_findStates_108 : decode cX11_findStates 108 = .ok (.iload_n 2, 1) := by decide +kernel
theorem dX11_findStates_109 : decode cX11_findStates 109 = .ok (.iastore, 1) := by decide +kernel
theorem dX11_findStates_110 : decode cX11_findStates 110 = .ok (.iinc 2 1, 3) := by decide +kernel
theorem dX11_findStates_113 : decode cX11_findStates 113 = .ok (.iinc 4 1, 3) := by decide +kernel
theorem dX11_findStates_116 : decode cX11_findStates 116 = .ok (.goto (-50), 3) := by decide +kernel
theorem dX11_findStates_119 : decode cX11_findStates 119 = .ok (.iinc 3 1, 3) := by decide +kernel
theorem dX11_findStates_122 : decode cX11_findStates 122 = .ok (.goto (-91), 3) := by decide +kernel
theorem dX11_findStates_125 : decode cX11_findStates 125 = .ok (.aload_n 0, 1) := by decide +kernel
theorem dX11_findStates_126 : decode cX11_findStates 126 = .ok (.iload_n 1, 1) := by decide +kernel
theorem dX11_findStates_127 : decode cX11_findStates 127 = .ok (.invokevirtual 397, 3) := by decide +kernel
theorem dX11_findStates_130 : decode cX11_findStates 130 = .ok (.aload_n 0, 1) := by decide +kernel
theorem dX11_findStates_131 : decode cX11_findStates 131 = .ok (.aload_n 0, 1) := by decide +kernel
theorem dX11_findStates_132 : decode cX11_findStates 132 = .ok (.invokevirtual 400, 3) := by decide +kernel
theorem dX11_findStates_135 : decode cX11_findStates 135 = .ok (.invokevirtual 403, 3) := by decide +kernel
theorem dX11_findStates_138 : decode cX11_findStates 138 = .ok (.pop, 1) := by decide +kernel
theorem dX11_findStates_139 : decode cX11_findStates 139 = .ok (.iconst 0, 1) := by decide +kernel
theorem dX11_findStates_140 : decode cX11_findStates 140 = .ok (.istore_n 3, 1) := by decide +kernel
theorem dX11_findStates_141 : decode cX11_findStates 141 = .ok (.iload_n 3, 1) := by decide +kernel
theorem dX11_findStates_142 : decode cX11_findStates 142 = .ok (.aload_n 0, 1) := by decide +kernel
theorem dX11_findStates_143 : decode cX11_findStates 143 = .ok (.getfield 394, 3) := by decide +kernel
theorem dX11_findStates_146 : decode cX11_findStates 146 = .ok (.if_icmp .ge 68, 3) := by decide +kernel
theorem dX11_findStates_149 : decode cX11_findStates 149 = .ok (.iconst 0, 1) := by decide +kernel
theorem dX11_findStates_150 : decode cX11_findStates 150 = .ok (.istore 4, 2) := by decide +kernel
theorem dX11_findStates_152 : decode cX11_findStates 152 = .ok (.iload 4, 2) := by decide +kernel
theorem dX11_findStates_154 : decode cX11_findStates 154 = .ok (.bipush 16, 2) := by decide +kernel
theorem dX11_findStates_156 : decode cX11_findStates 156 = .ok (.if_icmp .ge 52, 3) := by decide +kernel
theorem dX11_findStates_159 : decode cX11_findStates 159 = .ok (.aload_n 0, 1) := by decide +kernel
theorem dX11_findStates_160 : decode cX11_findStates 160 = .ok (.aload_n 0, 1) := by decide +kernel
theorem dX11_findStates_161 : decode cX11_findStates 161 = .ok (.getfield 80, 3) := by decide +kernel
theorem dX11_findStates_164 : decode cX11_findStates 164 = .ok (.iload_n 3, 1) := by decide +kernel
theorem dX11_findStates_165 : decode cX11_findStates 165 = .ok (.iaload, 1) := by decide +kernel
theorem dX11_findStates_166 : decode cX11_findStates 166 = .ok (.iload_n 1, 1) := by decide +kernel
theorem dX11_findStates_167 : decode cX11_findStates 167 = .ok (.invokevirtual 406, 3) := by decide +kernel
theorem dX11_findStates_170 : decode cX11_findStates 170 = .ok (.aload_n 0, 1) := by decide +kernel
theorem dX11_findStates_171 : decode cX11_findStates 171 = .ok (.getfield 87, 3) := by decide +kernel
theorem dX11_findStates_174 : decode cX11_findStates 174 = .ok (.bipush 16, 2) := by decide +kernel
theorem dX11_findStates_176 : decode cX11_findStates 176 = .ok (.iload_n 3, 1) := by decide +kernel
theorem dX11_findStates_177 : decode cX11_findStates 177 = .ok (.imul, 1) := by decide +kernel
theorem dX11_findStates_178 : decode cX11_findStates 178 = .ok (.iload 4, 2) := by decide +kernel
theorem dX11_findStates_180 : decode cX11_findStates 180 = .ok (.iadd, 1) := by decide +kernel
theorem dX11_findStates_181 : decode cX11_findStates 181 = .ok (.aload_n 0, 1) := by decide +kernel
theorem dX11_findStates_182 : decode cX11_findStates 182 = .ok (.iload 4, 2) := by decide +kernel
theorem dX11_findStates_184 : decode cX11_findStates 184 = .ok (.iconst (-1), 1) := by decide +kernel
theorem dX11_findStates_185 : decode cX11_findStates 185 = .ok (.invokevirtual 409, 3) := by decide +kernel
theorem dX11_findStates_188 : decode cX11_findStates 188 = .ok (.ifCond .eq 12, 3) := by decide +kernel
theorem dX11_findStates_191 : decode cX11_findStates 191 = .ok (.aload_n 0, 1) := by decide +kernel
theorem dX11_findStates_192 : decode cX11_findStates 192 = .ok (.iload 4, 2) := by decide +kernel
theorem dX11_findStates_194 : decode cX11_findStates 194 = .ok (.invokevirtual 412, 3) := by decide +kernel
theorem dX11_findStates_197 : decode cX11_findStates 197 = .ok (.goto 4, 3) := by decide +kernel
theorem dX11_findStates_200 : decode cX11_findStates 200 = .ok (.iconst (-1), 1) := by decide +kernel
theorem dX11_findStates_201 : decode cX11_findStates 201 = .ok (.iastore, 1) := by decide +kernel
theorem dX11_findStates_202 : decode cX11_findStates 202 = .ok (.iinc 4 1, 3) := by decide +kernel
theorem dX11_findStates_205 : decode cX11_findStates 205 = .ok (.goto (-53), 3) := by decide +kernel
theorem dX11_findStates_208 : decode cX11_findStates 208 = .ok (.iinc 3 1, 3) := by decide +kernel
theorem dX11_findStates_211 : decode cX11_findStates 211 = .ok (.goto (-70), 3) := by decide +kernel
theorem dX11_findStates_214 : decode cX11_findStates 214 = .ok (.return_, 1) := by decide +kernel
theorem zw_84 : (Jvm.Cond.selects "HillSchoolModel" ({ cls := "HillSchoolModel", name := "findCosts", desc := "(I)V" } : Jvm.MethodName) ({ cls := "HillSchoolModel", name := "findCosts", desc := "(I)V" } : Jvm.MethodName)) ∈ zall := zmemG (zmj_0 84 rfl) rfl
theorem zw_89 : (Jvm.Cond.selects "HillSchoolModel" ({ cls := "HillSchoolModel", name := "isMove", desc := "(II)Z" } : Jvm.MethodName) ({ cls := "HillSchoolModel", name := "isMove", desc := "(II)Z" } : Jvm.MethodName)) ∈ zall := zmemG (zmj_0 89 rfl) rfl
theorem zw_92 : (Jvm.Cond.selects "HillSchoolModel" ({ cls := "HillSchoolModel", name := "moved", desc := "(I)I" } : Jvm.MethodName) ({ cls := "HillSchoolModel", name := "moved", desc := "(I)I" } : Jvm.MethodName)) ∈ zall := zmemG (zmj_0 92 rfl) rfl
theorem zw_1661 : (Jvm.Cond.code ({ cls := "HillSchoolModel", name := "findStates", desc := "(I)V" } : Jvm.MethodName) prog_13_method_88_code (5 : Nat) (Option.none : Option Jvm.ClassFile.FieldType)) ∈ zall := zmemG (zmj_7 118 rfl) rfl
theorem zw_1662 : (Jvm.Cond.methodLink "HillSchoolModel" (397 : Nat) ({ cls := "HillSchoolModel", name := "findCosts", desc := "(I)V" } : Jvm.MethodName)) ∈ zall := zmemG (zmj_7 119 rfl) rfl
theorem zw_1664 : (Jvm.Cond.instanceMethod ({ cls := "HillSchoolModel", name := "findCosts", desc := "(I)V" } : Jvm.MethodName)) ∈ zall := zmemG (zmj_7 121 rfl) rfl
theorem zw_1682 : (Jvm.Cond.methodLink "HillSchoolModel" (409 : Nat) ({ cls := "HillSchoolModel", name := "isMove", desc := "(II)Z" } : Jvm.MethodName)) ∈ zall := zmemG (zmj_7 139 rfl) rfl
theorem zw_1684 : (Jvm.Cond.instanceMethod ({ cls := "HillSchoolModel", name := "isMove", desc := "(II)Z" } : Jvm.MethodName)) ∈ zall := zmemG (zmj_7 141 rfl) rfl
theorem zw_1694 : (Jvm.Cond.methodLink "HillSchoolModel" (412 : Nat) ({ cls := "HillSchoolModel", name := "moved", desc := "(I)I" } : Jvm.MethodName)) ∈ zall := zmemG (zmj_7 151 rfl) rfl
theorem zw_1696 : (Jvm.Cond.instanceMethod ({ cls := "HillSchoolModel", name := "moved", desc := "(I)I" } : Jvm.MethodName)) ∈ zall := zmemG (zmj_7 153 rfl) rfl
abbrev w_HM_findStates : List Cond := .code yX11_findStates cX11_findStates 5 none :: zall
abbrev rm_HM_findStates : Room := { frames := 5, cells := 0, slots := 0, locals := 129 }
theorem hd_HM_findStates : yX11_findStates.cls = "HillSchoolModel" ∧ yX11_findStates.cls ≠ "java/lang/invoke/MethodHandle" ∧ yX11_findStates.cls ≠ "java/lang/invoke/VarHandle" ∧ (parseMethodDescriptor yX11_findStates.desc).map (fun d => d.parameters.length) = some 1 := by decide +kernel
def wd_HM_findStates (cA : Nat → ClassId) (q0 q1 q2 q3 q4 q5 q6 q7 q8 q9 q10 q11 q12 q13 q14 q15 q16 q17 q18 q19 q20 q21 q22 q23 q24 q25 q26 q27 q28 q29 q30 q31 : Nat) (u0 u1 u2 u3 u4 u5 u6 u7 u8 u9 u10 u11 u12 u13 u14 u15 u16 : Int) (i_row : Nat → Int) (i_law : Int) (i_broken : Int) (i_value : Int) (i_sum : Int) (i_nStates : Int) (i_set : Nat → Int) (i_rest : Nat → Int) (i_weights : Nat → Int) (i_states : Nat → Int) (i_table : Nat → Int) (i_nexts : Nat → Int) (i_costs : Nat → Int) (i_small : Nat → Int) (i_tall : Nat → Int) : va_W := [(q0, .inr (11, [.int (Int32.ofInt u0), .int (Int32.ofInt u1), .ref q1, .ref q2, .ref q3, .ref q4, .int (Int32.ofInt u2), .ref q5, .int (Int32.ofInt u3), .int (Int32.ofInt u4), .int (Int32.ofInt u5), .int (Int32.ofInt u6), .long (Int64.ofInt u7), .int (Int32.ofInt u8), .int (Int32.ofInt u9), .int (Int32.ofInt u10), .ref q6, .int (Int32.ofInt u11), .ref q7, .ref q8, .int (Int32.ofInt u12), .ref q9, .ref q10, .int (Int32.ofInt u13), .int (Int32.ofInt u14), .ref q11, .int (Int32.ofInt i_law), .ref q12, .ref q13, .int (Int32.ofInt i_broken), .long (Int64.ofInt i_value), .long (Int64.ofInt i_sum), .ref q14, .ref q15, .ref q16, .ref q17, .ref q18, .int (Int32.ofInt i_nStates), .ref q19, .ref q20, .ref q21, .ref q22, .ref q23, .ref q24, .ref q25, .ref q26, .ref q27, .ref q28, .ref q29, .ref q30, .long (Int64.ofInt u15), .ref q31, .int (Int32.ofInt u16)])), (q2, .inl (cA 0, 5580, .inl (za i_row))), (q12, .inl (cA 2, 13, .inr (.inl (zl i_set)))), (q13, .inl (cA 2, 400, .inr (.inl (zl i_rest)))), (q16, .inl (cA 0, 5, .inl (za i_weights))), (q17, .inl (cA 0, 6720, .inl (za i_states))), (q18, .inl (cA 0, 16384, .inl (za i_table))), (q19, .inl (cA 0, 107520, .inl (za i_nexts))), (q21, .inl (cA 0, 12000, .inl (za i_costs))), (q22, .inl (cA 0, 20, .inl (za i_small))), (q23, .inl (cA 0, 4, .inl (za i_tall)))]
def wf_HM_findStates (cA : Nat → ClassId) (q0 q1 q2 q3 q4 q5 q6 q7 q8 q9 q10 q11 q12 q13 q14 q15 q16 q17 q18 q19 q20 q21 q22 q23 q24 q25 q26 q27 q28 q29 q30 q31 : Nat) (u0 u1 u2 u3 u4 u5 u6 u7 u8 u9 u10 u11 u12 u13 u14 u15 u16 : Int) (i_row : Nat → Int) (o : Int × Int × Int × Int × Int × (Nat → Int) × (Nat → Int) × (Nat → Int) × (Nat → Int) × (Nat → Int) × (Nat → Int) × (Nat → Int) × (Nat → Int) × (Nat → Int)) : va_W := wd_HM_findStates cA q0 q1 q2 q3 q4 q5 q6 q7 q8 q9 q10 q11 q12 q13 q14 q15 q16 q17 q18 q19 q20 q21 q22 q23 q24 q25 q26 q27 q28 q29 q30 q31 u0 u1 u2 u3 u4 u5 u6 u7 u8 u9 u10 u11 u12 u13 u14 u15 u16 i_row o.1 o.2.1 o.2.2.1 o.2.2.2.1 o.2.2.2.2.1 o.2.2.2.2.2.1 o.2.2.2.2.2.2.1 o.2.2.2.2.2.2.2.1 o.2.2.2.2.2.2.2.2.1 o.2.2.2.2.2.2.2.2.2.1 o.2.2.2.2.2.2.2.2.2.2.1 o.2.2.2.2.2.2.2.2.2.2.2.1 o.2.2.2.2.2.2.2.2.2.2.2.2.1 o.2.2.2.2.2.2.2.2.2.2.2.2.2
def f_HM_findStates_201 (i_row : Nat → Int) (k141 : Int → Int → Int → Int → Int → Int → Int → (Nat → Int) → (Nat → Int) → (Nat → Int) → (Nat → Int) → (Nat → Int) → (Nat → Int) → (Nat → Int) → (Nat → Int) → (Nat → Int) → Option (Int × Int × Int × Int × Int × (Nat → Int) × (Nat → Int) × (Nat → Int) × (Nat → Int) × (Nat → Int) × (Nat → Int) × (Nat → Int) × (Nat → Int) × (Nat → Int))) (k152 : Int → Int → Int → Int → Int → Int → Int → Int → (Nat → Int) → (Nat → Int) → (Nat → Int) → (Nat → Int) → (Nat → Int) → (Nat → Int) → (Nat → Int) → (Nat → Int) → (Nat → Int) → Option (Int × Int × Int × Int × Int × (Nat → Int) × (Nat → Int) × (Nat → Int) × (Nat → Int) × (Nat → Int) × (Nat → Int) × (Nat → Int) × (Nat → Int) × (Nat → Int))) (x1 : Int) (x3 : Int) (x4 : Int) (s1 : Int) (s2 : Int) (i_law : Int) (i_broken : Int) (i_value : Int) (i_sum : Int) (i_nStates : Int) (i_set : Nat → Int) (i_rest : Nat → Int) (i_weights : Nat → Int) (i_states : Nat → Int) (i_table : Nat → Int) (i_nexts : Nat → Int) (i_costs : Nat → Int) (i_small : Nat → Int) (i_tall : Nat → Int) : Option (Int × Int × Int × Int × Int × (Nat → Int) × (Nat → Int) × (Nat → Int) × (Nat → Int) × (Nat → Int) × (Nat → Int) × (Nat → Int) × (Nat → Int) × (Nat → Int)) :=
  zs 107520 i_nexts s1 s2 fun a1 =>
  zn (x4 + 1) fun v2 =>
  k152 x1 x3 v2 i_law i_broken i_value i_sum i_nStates i_set i_rest i_weights i_states i_table a1 i_costs i_small i_tall
def f_HM_findStates_152_b (i_row : Nat → Int) (k141 : Int → Int → Int → Int → Int → Int → Int → (Nat → Int) → (Nat → Int) → (Nat → Int) → (Nat → Int) → (Nat → Int) → (Nat → Int) → (Nat → Int) → (Nat → Int) → (Nat → Int) → Option (Int × Int × Int × Int × Int × (Nat → Int) × (Nat → Int) × (Nat → Int) × (Nat → Int) × (Nat → Int) × (Nat → Int) × (Nat → Int) × (Nat → Int) × (Nat → Int))) (k152 : Int → Int → Int → Int → Int → Int → Int → Int → (Nat → Int) → (Nat → Int) → (Nat → Int) → (Nat → Int) → (Nat → Int) → (Nat → Int) → (Nat → Int) → (Nat → Int) → (Nat → Int) → Option (Int × Int × Int × Int × Int × (Nat → Int) × (Nat → Int) × (Nat → Int) × (Nat → Int) × (Nat → Int) × (Nat → Int) × (Nat → Int) × (Nat → Int) × (Nat → Int))) (x1 : Int) (x3 : Int) (x4 : Int) (i_law : Int) (i_broken : Int) (i_value : Int) (i_sum : Int) (i_nStates : Int) (i_set : Nat → Int) (i_rest : Nat → Int) (i_weights : Nat → Int) (i_states : Nat → Int) (i_table : Nat → Int) (i_nexts : Nat → Int) (i_costs : Nat → Int) (i_small : Nat → Int) (i_tall : Nat → Int) : Option (Int × Int × Int × Int × Int × (Nat → Int) × (Nat → Int) × (Nat → Int) × (Nat → Int) × (Nat → Int) × (Nat → Int) × (Nat → Int) × (Nat → Int) × (Nat → Int)) :=
  if zi_w 16 ≤ zi_w x4 then
    zn (x3 + 1) fun v1 =>
    k141 x1 v1 i_law i_broken i_value i_sum i_nStates i_set i_rest i_weights i_states i_table i_nexts i_costs i_small i_tall
  else
    zg 6720 i_states x3 fun v2 =>
    zd2 (f_HM_openSmall v2 x1 i_small i_tall) fun a3 a4 =>
    zn (16 * x3) fun v5 =>
    zn (v5 + x4) fun v6 =>
    zd1 (f_HM_isMove x4 (-1) i_row i_costs a3 a4) fun v7 =>
    if zi_w v7 = 0 then
      f_HM_findStates_201 i_row k141 k152 x1 x3 x4 v6 (-1) i_law i_broken i_value i_sum i_nStates i_set i_rest i_weights i_states i_table i_nexts i_costs a3 a4
    else
      zd6 (f_HM_moved x4 i_nStates i_states i_table a3 a4) fun v8 v9 a10 a11 a12 a13 =>
      f_HM_findStates_201 i_row k141 k152 x1 x3 x4 v6 v8 i_law i_broken i_value i_sum v9 i_set i_rest i_weights a10 a11 i_nexts i_costs a12 a13
def f_HM_findStates_152 (i_row : Nat → Int) (k141 : Int → Int → Int → Int → Int → Int → Int → (Nat → Int) → (Nat → Int) → (Nat → Int) → (Nat → Int) → (Nat → Int) → (Nat → Int) → (Nat → Int) → (Nat → Int) → (Nat → Int) → Option (Int × Int × Int × Int × Int × (Nat → Int) × (Nat → Int) × (Nat → Int) × (Nat → Int) × (Nat → Int) × (Nat → Int) × (Nat → Int) × (Nat → Int) × (Nat → Int))) : Nat → Int → Int → Int → Int → Int → Int → Int → Int → (Nat → Int) → (Nat → Int) → (Nat → Int) → (Nat → Int) → (Nat → Int) → (Nat → Int) → (Nat → Int) → (Nat → Int) → (Nat → Int) → Option (Int × Int × Int × Int × Int × (Nat → Int) × (Nat → Int) × (Nat → Int) × (Nat → Int) × (Nat → Int) × (Nat → Int) × (Nat → Int) × (Nat → Int) × (Nat → Int))
  | 0 => fun _ _ _ _ _ _ _ _ _ _ _ _ _ _ _ _ _ => none
  | n + 1 => fun y0 y1 y2 y3 y4 y5 y6 y7 y8 y9 y10 y11 y12 y13 y14 y15 y16 => f_HM_findStates_152_b i_row k141 (f_HM_findStates_152 i_row k141 n) y0 y1 y2 y3 y4 y5 y6 y7 y8 y9 y10 y11 y12 y13 y14 y15 y16
def f_HM_findStates_141_b (i_row : Nat → Int) (k141 : Int → Int → Int → Int → Int → Int → Int → (Nat → Int) → (Nat → Int) → (Nat → Int) → (Nat → Int) → (Nat → Int) → (Nat → Int) → (Nat → Int) → (Nat → Int) → (Nat → Int) → Option (Int × Int × Int × Int × Int × (Nat → Int) × (Nat → Int) × (Nat → Int) × (Nat → Int) × (Nat → Int) × (Nat → Int) × (Nat → Int) × (Nat → Int) × (Nat → Int))) (x1 : Int) (x3 : Int) (i_law : Int) (i_broken : Int) (i_value : Int) (i_sum : Int) (i_nStates : Int) (i_set : Nat → Int) (i_rest : Nat → Int) (i_weights : Nat → Int) (i_states : Nat → Int) (i_table : Nat → Int) (i_nexts : Nat → Int) (i_costs : Nat → Int) (i_small : Nat → Int) (i_tall : Nat → Int) : Option (Int × Int × Int × Int × Int × (Nat → Int) × (Nat → Int) × (Nat → Int) × (Nat → Int) × (Nat → Int) × (Nat → Int) × (Nat → Int) × (Nat → Int) × (Nat → Int)) :=
  if zi_w i_nStates ≤ zi_w x3 then
    some (i_law, i_broken, i_value, i_sum, i_nStates, i_set, i_rest, i_weights, i_states, i_table, i_nexts, i_costs, i_small, i_tall)
  else
    f_HM_findStates_152 i_row k141 zfu x1 x3 0 i_law i_broken i_value i_sum i_nStates i_set i_rest i_weights i_states i_table i_nexts i_costs i_small i_tall
def f_HM_findStates_141 (i_row : Nat → Int) : Nat → Int → Int → Int → Int → Int → Int → Int → (Nat → Int) → (Nat → Int) → (Nat → Int) → (Nat → Int) → (Nat → Int) → (Nat → Int) → (Nat → Int) → (Nat → Int) → (Nat → Int) → Option (Int × Int × Int × Int × Int × (Nat → Int) × (Nat → Int) × (Nat → Int) × (Nat → Int) × (Nat → Int) × (Nat → Int) × (Nat → Int) × (Nat → Int) × (Nat → Int))
  | 0 => fun _ _ _ _ _ _ _ _ _ _ _ _ _ _ _ _ => none
  | n + 1 => fun y0 y1 y2 y3 y4 y5 y6 y7 y8 y9 y10 y11 y12 y13 y14 y15 => f_HM_findStates_141_b i_row (f_HM_findStates_141 i_row n) y0 y1 y2 y3 y4 y5 y6 y7 y8 y9 y10 y11 y12 y13 y14 y15
def f_HM_findStates_66_b (i_row : Nat → Int) (k31 : Int → Int → Int → Int → Int → Int → Int → Int → (Nat → Int) → (Nat → Int) → (Nat → Int) → (Nat → Int) → (Nat → Int) → (Nat → Int) → (Nat → Int) → (Nat → Int) → (Nat → Int) → Option (Int × Int × Int × Int × Int × (Nat → Int) × (Nat → Int) × (Nat → Int) × (Nat → Int) × (Nat → Int) × (Nat → Int) × (Nat → Int) × (Nat → Int) × (Nat → Int))) (k66 : Int → Int → Int → Int → Int → Int → Int → Int → Int → (Nat → Int) → (Nat → Int) → (Nat → Int) → (Nat → Int) → (Nat → Int) → (Nat → Int) → (Nat → Int) → (Nat → Int) → (Nat → Int) → Option (Int × Int × Int × Int × Int × (Nat → Int) × (Nat → Int) × (Nat → Int) × (Nat → Int) × (Nat → Int) × (Nat → Int) × (Nat → Int) × (Nat → Int) × (Nat → Int))) (x1 : Int) (x2 : Int) (x3 : Int) (x4 : Int) (i_law : Int) (i_broken : Int) (i_value : Int) (i_sum : Int) (i_nStates : Int) (i_set : Nat → Int) (i_rest : Nat → Int) (i_weights : Nat → Int) (i_states : Nat → Int) (i_table : Nat → Int) (i_nexts : Nat → Int) (i_costs : Nat → Int) (i_small : Nat → Int) (i_tall : Nat → Int) : Option (Int × Int × Int × Int × Int × (Nat → Int) × (Nat → Int) × (Nat → Int) × (Nat → Int) × (Nat → Int) × (Nat → Int) × (Nat → Int) × (Nat → Int) × (Nat → Int)) :=
  zg 4 i_tall x3 fun v1 =>
  if zi_w v1 ≤ zi_w x4 then
    zn (x3 + 1) fun v2 =>
    k31 x1 x2 v2 i_law i_broken i_value i_sum i_nStates i_set i_rest i_weights i_states i_table i_nexts i_costs i_small i_tall
  else
    zn (10 * x3) fun v3 =>
    zn (21 + v3) fun v4 =>
    zn (v4 + x4) fun v5 =>
    zg 5580 i_row v5 fun v6 =>
    zs 5 i_weights x2 v6 fun a7 =>
    zn (5 * x3) fun v8 =>
    zn (v8 + x4) fun v9 =>
    zs 20 i_small v9 x2 fun a10 =>
    zn (x2 + 1) fun v11 =>
    zn (x4 + 1) fun v12 =>
    k66 x1 v11 x3 v12 i_law i_broken i_value i_sum i_nStates i_set i_rest a7 i_states i_table i_nexts i_costs a10 i_tall
def f_HM_findStates_66 (i_row : Nat → Int) (k31 : Int → Int → Int → Int → Int → Int → Int → Int → (Nat → Int) → (Nat → Int) → (Nat → Int) → (Nat → Int) → (Nat → Int) → (Nat → Int) → (Nat → Int) → (Nat → Int) → (Nat → Int) → Option (Int × Int × Int × Int × Int × (Nat → Int) × (Nat → Int) × (Nat → Int) × (Nat → Int) × (Nat → Int) × (Nat → Int) × (Nat → Int) × (Nat → Int) × (Nat → Int))) : Nat → Int → Int → Int → Int → Int → Int → Int → Int → Int → (Nat → Int) → (Nat → Int) → (Nat → Int) → (Nat → Int) → (Nat → Int) → (Nat → Int) → (Nat → Int) → (Nat → Int) → (Nat → Int) → Option (Int × Int × Int × Int × Int × (Nat → Int) × (Nat → Int) × (Nat → Int) × (Nat → Int) × (Nat → Int) × (Nat → Int) × (Nat → Int) × (Nat → Int) × (Nat → Int))
  | 0 => fun _ _ _ _ _ _ _ _ _ _ _ _ _ _ _ _ _ _ => none
  | n + 1 => fun y0 y1 y2 y3 y4 y5 y6 y7 y8 y9 y10 y11 y12 y13 y14 y15 y16 y17 => f_HM_findStates_66_b i_row k31 (f_HM_findStates_66 i_row k31 n) y0 y1 y2 y3 y4 y5 y6 y7 y8 y9 y10 y11 y12 y13 y14 y15 y16 y17
def f_HM_findStates_62 (i_row : Nat → Int) (k31 : Int → Int → Int → Int → Int → Int → Int → Int → (Nat → Int) → (Nat → Int) → (Nat → Int) → (Nat → Int) → (Nat → Int) → (Nat → Int) → (Nat → Int) → (Nat → Int) → (Nat → Int) → Option (Int × Int × Int × Int × Int × (Nat → Int) × (Nat → Int) × (Nat → Int) × (Nat → Int) × (Nat → Int) × (Nat → Int) × (Nat → Int) × (Nat → Int) × (Nat → Int))) (x1 : Int) (x2 : Int) (x3 : Int) (s1 : Int) (s2 : Int) (i_law : Int) (i_broken : Int) (i_value : Int) (i_sum : Int) (i_nStates : Int) (i_set : Nat → Int) (i_rest : Nat → Int) (i_weights : Nat → Int) (i_states : Nat → Int) (i_table : Nat → Int) (i_nexts : Nat → Int) (i_costs : Nat → Int) (i_small : Nat → Int) (i_tall : Nat → Int) : Option (Int × Int × Int × Int × Int × (Nat → Int) × (Nat → Int) × (Nat → Int) × (Nat → Int) × (Nat → Int) × (Nat → Int) × (Nat → Int) × (Nat → Int) × (Nat → Int)) :=
  zs 4 i_tall s1 s2 fun a1 =>
  f_HM_findStates_66 i_row k31 zfu x1 x2 x3 0 i_law i_broken i_value i_sum i_nStates i_set i_rest i_weights i_states i_table i_nexts i_costs i_small a1
def f_HM_findStates_31_b (i_row : Nat → Int) (k31 : Int → Int → Int → Int → Int → Int → Int → Int → (Nat → Int) → (Nat → Int) → (Nat → Int) → (Nat → Int) → (Nat → Int) → (Nat → Int) → (Nat → Int) → (Nat → Int) → (Nat → Int) → Option (Int × Int × Int × Int × Int × (Nat → Int) × (Nat → Int) × (Nat → Int) × (Nat → Int) × (Nat → Int) × (Nat → Int) × (Nat → Int) × (Nat → Int) × (Nat → Int))) (x1 : Int) (x2 : Int) (x3 : Int) (i_law : Int) (i_broken : Int) (i_value : Int) (i_sum : Int) (i_nStates : Int) (i_set : Nat → Int) (i_rest : Nat → Int) (i_weights : Nat → Int) (i_states : Nat → Int) (i_table : Nat → Int) (i_nexts : Nat → Int) (i_costs : Nat → Int) (i_small : Nat → Int) (i_tall : Nat → Int) : Option (Int × Int × Int × Int × Int × (Nat → Int) × (Nat → Int) × (Nat → Int) × (Nat → Int) × (Nat → Int) × (Nat → Int) × (Nat → Int) × (Nat → Int) × (Nat → Int)) :=
  if zi_w 4 ≤ zi_w x3 then
    zd7 (f_HM_findCosts x1 i_row i_weights i_law i_broken i_value i_sum i_set i_rest i_costs) fun v1 v2 v3 v4 a5 a6 a7 =>
    zd1 (f_HM_codeOfSmall i_small i_tall) fun v8 =>
    zd4 (f_HM_numberOf v8 i_nStates i_states i_table) fun v9 v10 a11 a12 =>
    f_HM_findStates_141 i_row zfu x1 0 v1 v2 v3 v4 v10 a5 a6 i_weights a11 a12 i_nexts a7 i_small i_tall
  else
    zd1 (f_HM_columns i_row) fun v13 =>
    if zi_w v13 ≤ zi_w x3 then
      f_HM_findStates_62 i_row k31 x1 x2 x3 x3 0 i_law i_broken i_value i_sum i_nStates i_set i_rest i_weights i_states i_table i_nexts i_costs i_small i_tall
    else
      zn (9 + x3) fun v14 =>
      zg 5580 i_row v14 fun v15 =>
      f_HM_findStates_62 i_row k31 x1 x2 x3 x3 v15 i_law i_broken i_value i_sum i_nStates i_set i_rest i_weights i_states i_table i_nexts i_costs i_small i_tall
def f_HM_findStates_31 (i_row : Nat → Int) : Nat → Int → Int → Int → Int → Int → Int → Int → Int → (Nat → Int) → (Nat → Int) → (Nat → Int) → (Nat → Int) → (Nat → Int) → (Nat → Int) → (Nat → Int) → (Nat → Int) → (Nat → Int) → Option (Int × Int × Int × Int × Int × (Nat → Int) × (Nat → Int) × (Nat → Int) × (Nat → Int) × (Nat → Int) × (Nat → Int) × (Nat → Int) × (Nat → Int) × (Nat → Int))
  | 0 => fun _ _ _ _ _ _ _ _ _ _ _ _ _ _ _ _ _ => none
  | n + 1 => fun y0 y1 y2 y3 y4 y5 y6 y7 y8 y9 y10 y11 y12 y13 y14 y15 y16 => f_HM_findStates_31_b i_row (f_HM_findStates_31 i_row n) y0 y1 y2 y3 y4 y5 y6 y7 y8 y9 y10 y11 y12 y13 y14 y15 y16
def f_HM_findStates_2_b (i_row : Nat → Int) (k2 : Int → Int → Int → Int → Int → Int → Int → (Nat → Int) → (Nat → Int) → (Nat → Int) → (Nat → Int) → (Nat → Int) → (Nat → Int) → (Nat → Int) → (Nat → Int) → (Nat → Int) → Option (Int × Int × Int × Int × Int × (Nat → Int) × (Nat → Int) × (Nat → Int) × (Nat → Int) × (Nat → Int) × (Nat → Int) × (Nat → Int) × (Nat → Int) × (Nat → Int))) (x1 : Int) (x2 : Int) (i_law : Int) (i_broken : Int) (i_value : Int) (i_sum : Int) (i_nStates : Int) (i_set : Nat → Int) (i_rest : Nat → Int) (i_weights : Nat → Int) (i_states : Nat → Int) (i_table : Nat → Int) (i_nexts : Nat → Int) (i_costs : Nat → Int) (i_small : Nat → Int) (i_tall : Nat → Int) : Option (Int × Int × Int × Int × Int × (Nat → Int) × (Nat → Int) × (Nat → Int) × (Nat → Int) × (Nat → Int) × (Nat → Int) × (Nat → Int) × (Nat → Int) × (Nat → Int)) :=
  if zi_w 16384 ≤ zi_w x2 then
    f_HM_findStates_31 i_row zfu x1 0 0 i_law i_broken i_value i_sum 0 i_set i_rest i_weights i_states i_table i_nexts i_costs i_small i_tall
  else
    zs 16384 i_table x2 (-1) fun a1 =>
    zn (x2 + 1) fun v2 =>
    k2 x1 v2 i_law i_broken i_value i_sum i_nStates i_set i_rest i_weights i_states a1 i_nexts i_costs i_small i_tall
def f_HM_findStates_2 (i_row : Nat → Int) : Nat → Int → Int → Int → Int → Int → Int → Int → (Nat → Int) → (Nat → Int) → (Nat → Int) → (Nat → Int) → (Nat → Int) → (Nat → Int) → (Nat → Int) → (Nat → Int) → (Nat → Int) → Option (Int × Int × Int × Int × Int × (Nat → Int) × (Nat → Int) × (Nat → Int) × (Nat → Int) × (Nat → Int) × (Nat → Int) × (Nat → Int) × (Nat → Int) × (Nat → Int))
  | 0 => fun _ _ _ _ _ _ _ _ _ _ _ _ _ _ _ _ => none
  | n + 1 => fun y0 y1 y2 y3 y4 y5 y6 y7 y8 y9 y10 y11 y12 y13 y14 y15 => f_HM_findStates_2_b i_row (f_HM_findStates_2 i_row n) y0 y1 y2 y3 y4 y5 y6 y7 y8 y9 y10 y11 y12 y13 y14 y15
def f_HM_findStates (x1 : Int) (i_row : Nat → Int) (i_law : Int) (i_broken : Int) (i_value : Int) (i_sum : Int) (i_nStates : Int) (i_set : Nat → Int) (i_rest : Nat → Int) (i_weights : Nat → Int) (i_states : Nat → Int) (i_table : Nat → Int) (i_nexts : Nat → Int) (i_costs : Nat → Int) (i_small : Nat → Int) (i_tall : Nat → Int) : Option (Int × Int × Int × Int × Int × (Nat → Int) × (Nat → Int) × (Nat → Int) × (Nat → Int) × (Nat → Int) × (Nat → Int) × (Nat → Int) × (Nat → Int) × (Nat → Int)) :=
  f_HM_findStates_2 i_row zfu x1 0 i_law i_broken i_value i_sum i_nStates i_set i_rest i_weights i_states i_table i_nexts i_costs i_small i_tall
set_option maxHeartbeats 4000000 in
set_option maxRecDepth 100000 in
theorem c_HM_findStates (l : Launch) (ev : zEv) (dC : Nat → ClassId) (dI : Nat → Nat → Nat) (cA : Nat → ClassId) (q0 q1 q2 q3 q4 q5 q6 q7 q8 q9 q10 q11 q12 q13 q14 q15 q16 q17 q18 q19 q20 q21 q22 q23 q24 q25 q26 q27 q28 q29 q30 q31 : Nat) (u0 u1 u2 u3 u4 u5 u6 u7 u8 u9 u10 u11 u12 u13 u14 u15 u16 : Int) {x1 : Int} {i_row : Nat → Int} {i_law : Int} {i_broken : Int} {i_value : Int} {i_sum : Int} {i_nStates : Int} {i_set : Nat → Int} {i_rest : Nat → Int} {i_weights : Nat → Int} {i_states : Nat → Int} {i_table : Nat → Int} {i_nexts : Nat → Int} {i_costs : Nat → Int} {i_small : Nat → Int} {i_tall : Nat → Int} {out : Int × Int × Int × Int × Int × (Nat → Int) × (Nat → Int) × (Nat → Int) × (Nat → Int) × (Nat → Int) × (Nat → Int) × (Nat → Int) × (Nat → Int) × (Nat → Int)} (hf : f_HM_findStates x1 i_row i_law i_broken i_value i_sum i_nStates i_set i_rest i_weights i_states i_table i_nexts i_costs i_small i_tall = some out) : xc_V l ev (dC, dI) vwCl (tyl cA) yX11_findStates w_HM_findStates rm_HM_findStates [.ref q0, .int (Int32.ofInt x1)] (wd_HM_findStates cA q0 q1 q2 q3 q4 q5 q6 q7 q8 q9 q10 q11 q12 q13 q14 q15 q16 q17 q18 q19 q20 q21 q22 q23 q24 q25 q26 q27 q28 q29 q30 q31 u0 u1 u2 u3 u4 u5 u6 u7 u8 u9 u10 u11 u12 u13 u14 u15 u16 i_row i_law i_broken i_value i_sum i_nStates i_set i_rest i_weights i_states i_table i_nexts i_costs i_small i_tall) (wf_HM_findStates cA q0 q1 q2 q3 q4 q5 q6 q7 q8 q9 q10 q11 q12 q13 q14 q15 q16 q17 q18 q19 q20 q21 q22 q23 q24 q25 q26 q27 q28 q29 q30 q31 u0 u1 u2 u3 u4 u5 u6 u7 u8 u9 u10 u11 u12 u13 u14 u15 u16 i_row out) := by
  refine xv_startV (cc := cX11_findStates) (maxL := 5) (by decide +kernel) rfl (Nat.le_of_ble_eq_true rfl) ?_
  intro p e s m args below meth c A Q H ls hx hb hml hts hown hK hA hP hD hS hl hE hret
  have hown : s.vm.findClass "HillSchoolModel" = some m.cls := hown
  have hz : ∀ w ∈ zall, w.before args s = true := fun w h => hts w (List.mem_cons_of_mem _ h)
  have hl : lv_has ls 5 [(0, .ref q0), (1, .int (Int32.ofInt x1))] := hl
  have b_201 : ∀ (k141 : Int → Int → Int → Int → Int → Int → Int → (Nat → Int) → (Nat → Int) → (Nat → Int) → (Nat → Int) → (Nat → Int) → (Nat → Int) → (Nat → Int) → (Nat → Int) → (Nat → Int) → Option (Int × Int × Int × Int × Int × (Nat → Int) × (Nat → Int) × (Nat → Int) × (Nat → Int) × (Nat → Int) × (Nat → Int) × (Nat → Int) × (Nat → Int) × (Nat → Int))) (_ : ∀ (x1 : Int) (x3 : Int) (i_law : Int) (i_broken : Int) (i_value : Int) (i_sum : Int) (i_nStates : Int) (i_set : Nat → Int) (i_rest : Nat → Int) (i_weights : Nat → Int) (i_states : Nat → Int) (i_table : Nat → Int) (i_nexts : Nat → Int) (i_costs : Nat → Int) (i_small : Nat → Int) (i_tall : Nat → Int) (H : Heap) (locs : List Loc) (ls : Array Slot), k141 x1 x3 i_law i_broken i_value i_sum i_nStates i_set i_rest i_weights i_states i_table i_nexts i_costs i_small i_tall = some out → va_P (dC, dI) vwCl (wd_HM_findStates cA q0 q1 q2 q3 q4 q5 q6 q7 q8 q9 q10 q11 q12 q13 q14 q15 q16 q17 q18 q19 q20 q21 q22 q23 q24 q25 q26 q27 q28 q29 q30 q31 u0 u1 u2 u3 u4 u5 u6 u7 u8 u9 u10 u11 u12 u13 u14 u15 u16 i_row i_law i_broken i_value i_sum i_nStates i_set i_rest i_weights i_states i_table i_nexts i_costs i_small i_tall) H → va_D A (wd_HM_findStates cA q0 q1 q2 q3 q4 q5 q6 q7 q8 q9 q10 q11 q12 q13 q14 q15 q16 q17 q18 q19 q20 q21 q22 q23 q24 q25 q26 q27 q28 q29 q30 q31 u0 u1 u2 u3 u4 u5 u6 u7 u8 u9 u10 u11 u12 u13 u14 u15 u16 i_row i_law i_broken i_value i_sum i_nStates i_set i_rest i_weights i_states i_table i_nexts i_costs i_small i_tall) → va_S A s.heap H locs → lv_has ls 5 [(0, .ref q0), (1, .int (Int32.ofInt x1)), (3, .int (Int32.ofInt x3))] → W p l e rm_HM_findStates s m args below meth c H locs 0 0 Q (F0 m 141 ls [])), ∀ (k152 : Int → Int → Int → Int → Int → Int → Int → Int → (Nat → Int) → (Nat → Int) → (Nat → Int) → (Nat → Int) → (Nat → Int) → (Nat → Int) → (Nat → Int) → (Nat → Int) → (Nat → Int) → Option (Int × Int × Int × Int × Int × (Nat → Int) × (Nat → Int) × (Nat → Int) × (Nat → Int) × (Nat → Int) × (Nat → Int) × (Nat → Int) × (Nat → Int) × (Nat → Int))) (_ : ∀ (x1 : Int) (x3 : Int) (x4 : Int) (i_law : Int) (i_broken : Int) (i_value : Int) (i_sum : Int) (i_nStates : Int) (i_set : Nat → Int) (i_rest : Nat → Int) (i_weights : Nat → Int) (i_states : Nat → Int) (i_table : Nat → Int) (i_nexts : Nat → Int) (i_costs : Nat → Int) (i_small : Nat → Int) (i_tall : Nat → Int) (H : Heap) (locs : List Loc) (ls : Array Slot), k152 x1 x3 x4 i_law i_broken i_value i_sum i_nStates i_set i_rest i_weights i_states i_table i_nexts i_costs i_small i_tall = some out → va_P (dC, dI) vwCl (wd_HM_findStates cA q0 q1 q2 q3 q4 q5 q6 q7 q8 q9 q10 q11 q12 q13 q14 q15 q16 q17 q18 q19 q20 q21 q22 q23 q24 q25 q26 q27 q28 q29 q30 q31 u0 u1 u2 u3 u4 u5 u6 u7 u8 u9 u10 u11 u12 u13 u14 u15 u16 i_row i_law i_broken i_value i_sum i_nStates i_set i_rest i_weights i_states i_table i_nexts i_costs i_small i_tall) H → va_D A (wd_HM_findStates cA q0 q1 q2 q3 q4 q5 q6 q7 q8 q9 q10 q11 q12 q13 q14 q15 q16 q17 q18 q19 q20 q21 q22 q23 q24 q25 q26 q27 q28 q29 q30 q31 u0 u1 u2 u3 u4 u5 u6 u7 u8 u9 u10 u11 u12 u13 u14 u15 u16 i_row i_law i_broken i_value i_sum i_nStates i_set i_rest i_weights i_states i_table i_nexts i_costs i_small i_tall) → va_S A s.heap H locs → lv_has ls 5 [(0, .ref q0), (1, .int (Int32.ofInt x1)), (3, .int (Int32.ofInt x3)), (4, .int (Int32.ofInt x4))] → W p l e rm_HM_findStates s m args below meth c H locs 0 0 Q (F0 m 152 ls [])), ∀ (x1 : Int) (x3 : Int) (x4 : Int) (s1 : Int) (s2 : Int) (i_law : Int) (i_broken : Int) (i_value : Int) (i_sum : Int) (i_nStates : Int) (i_set : Nat → Int) (i_rest : Nat → Int) (i_weights : Nat → Int) (i_states : Nat → Int) (i_table : Nat → Int) (i_nexts : Nat → Int) (i_costs : Nat → Int) (i_small : Nat → Int) (i_tall : Nat → Int) (H : Heap) (locs : List Loc) (ls : Array Slot), f_HM_findStates_201 i_row k141 k152 x1 x3 x4 s1 s2 i_law i_broken i_value i_sum i_nStates i_set i_rest i_weights i_states i_table i_nexts i_costs i_small i_tall = some out → va_P (dC, dI) vwCl (wd_HM_findStates cA q0 q1 q2 q3 q4 q5 q6 q7 q8 q9 q10 q11 q12 q13 q14 q15 q16 q17 q18 q19 q20 q21 q22 q23 q24 q25 q26 q27 q28 q29 q30 q31 u0 u1 u2 u3 u4 u5 u6 u7 u8 u9 u10 u11 u12 u13 u14 u15 u16 i_row i_law i_broken i_value i_sum i_nStates i_set i_rest i_weights i_states i_table i_nexts i_costs i_small i_tall) H → va_D A (wd_HM_findStates cA q0 q1 q2 q3 q4 q5 q6 q7 q8 q9 q10 q11 q12 q13 q14 q15 q16 q17 q18 q19 q20 q21 q22 q23 q24 q25 q26 q27 q28 q29 q30 q31 u0 u1 u2 u3 u4 u5 u6 u7 u8 u9 u10 u11 u12 u13 u14 u15 u16 i_row i_law i_broken i_value i_sum i_nStates i_set i_rest i_weights i_states i_table i_nexts i_costs i_small i_tall) → va_S A s.heap H locs → lv_has ls 5 [(0, .ref q0), (1, .int (Int32.ofInt x1)), (3, .int (Int32.ofInt x3)), (4, .int (Int32.ofInt x4))] → W p l e rm_HM_findStates s m args below meth c H locs 0 0 Q (F0 m 201 ls [.int (Int32.ofInt s2), .int (Int32.ofInt s1), .ref q19]) := by
    intro k141 ih141 k152 ih152 x1 x3 x4 s1 s2 i_law i_broken i_value i_sum i_nStates i_set i_rest i_weights i_states i_table i_nexts i_costs i_small i_tall H locs ls hf hP hD hS hl
    unfold f_HM_findStates_201 at hf
    refine xi_iast hx hb hK hP hD hS 7 0 rfl rfl dX11_findStates_201 hf (fun a1 H locs hP hD hS hf => ?_)
    have hP : va_P (dC, dI) vwCl (wd_HM_findStates cA q0 q1 q2 q3 q4 q5 q6 q7 q8 q9 q10 q11 q12 q13 q14 q15 q16 q17 q18 q19 q20 q21 q22 q23 q24 q25 q26 q27 q28 q29 q30 q31 u0 u1 u2 u3 u4 u5 u6 u7 u8 u9 u10 u11 u12 u13 u14 u15 u16 i_row i_law i_broken i_value i_sum i_nStates i_set i_rest i_weights i_states i_table a1 i_costs i_small i_tall) H := hP
    have hD : va_D A (wd_HM_findStates cA q0 q1 q2 q3 q4 q5 q6 q7 q8 q9 q10 q11 q12 q13 q14 q15 q16 q17 q18 q19 q20 q21 q22 q23 q24 q25 q26 q27 q28 q29 q30 q31 u0 u1 u2 u3 u4 u5 u6 u7 u8 u9 u10 u11 u12 u13 u14 u15 u16 i_row i_law i_broken i_value i_sum i_nStates i_set i_rest i_weights i_states i_table a1 i_costs i_small i_tall) := hD
    refine xi_iinc hx hb dX11_findStates_202 hl (k := 3) rfl (by decide) hf (fun v2 ls hl hf => ?_)
    have hl : lv_has ls 5 [(4, .int (Int32.ofInt v2)), (0, .ref q0), (1, .int (Int32.ofInt x1)), (3, .int (Int32.ofInt x3))] := hl
    refine lv_goto (tgt := 152) hx hb dX11_findStates_205 (by decide) ?_
    exact ih152 _ _ _ _ _ _ _ _ _ _ _ _ _ _ _ _ _ _ _ _ hf hP hD hS (lv_sub hl [1, 2, 3, 0] rfl)
  have b_152 : ∀ (k141 : Int → Int → Int → Int → Int → Int → Int → (Nat → Int) → (Nat → Int) → (Nat → Int) → (Nat → Int) → (Nat → Int) → (Nat → Int) → (Nat → Int) → (Nat → Int) → (Nat → Int) → Option (Int × Int × Int × Int × Int × (Nat → Int) × (Nat → Int) × (Nat → Int) × (Nat → Int) × (Nat → Int) × (Nat → Int) × (Nat → Int) × (Nat → Int) × (Nat → Int))) (_ : ∀ (x1 : Int) (x3 : Int) (i_law : Int) (i_broken : Int) (i_value : Int) (i_sum : Int) (i_nStates : Int) (i_set : Nat → Int) (i_rest : Nat → Int) (i_weights : Nat → Int) (i_states : Nat → Int) (i_table : Nat → Int) (i_nexts : Nat → Int) (i_costs : Nat → Int) (i_small : Nat → Int) (i_tall : Nat → Int) (H : Heap) (locs : List Loc) (ls : Array Slot), k141 x1 x3 i_law i_broken i_value i_sum i_nStates i_set i_rest i_weights i_states i_table i_nexts i_costs i_small i_tall = some out → va_P (dC, dI) vwCl (wd_HM_findStates cA q0 q1 q2 q3 q4 q5 q6 q7 q8 q9 q10 q11 q12 q13 q14 q15 q16 q17 q18 q19 q20 q21 q22 q23 q24 q25 q26 q27 q28 q29 q30 q31 u0 u1 u2 u3 u4 u5 u6 u7 u8 u9 u10 u11 u12 u13 u14 u15 u16 i_row i_law i_broken i_value i_sum i_nStates i_set i_rest i_weights i_states i_table i_nexts i_costs i_small i_tall) H → va_D A (wd_HM_findStates cA q0 q1 q2 q3 q4 q5 q6 q7 q8 q9 q10 q11 q12 q13 q14 q15 q16 q17 q18 q19 q20 q21 q22 q23 q24 q25 q26 q27 q28 q29 q30 q31 u0 u1 u2 u3 u4 u5 u6 u7 u8 u9 u10 u11 u12 u13 u14 u15 u16 i_row i_law i_broken i_value i_sum i_nStates i_set i_rest i_weights i_states i_table i_nexts i_costs i_small i_tall) → va_S A s.heap H locs → lv_has ls 5 [(0, .ref q0), (1, .int (Int32.ofInt x1)), (3, .int (Int32.ofInt x3))] → W p l e rm_HM_findStates s m args below meth c H locs 0 0 Q (F0 m 141 ls [])), ∀ (k152 : Int → Int → Int → Int → Int → Int → Int → Int → (Nat → Int) → (Nat → Int) → (Nat → Int) → (Nat → Int) → (Nat → Int) → (Nat → Int) → (Nat → Int) → (Nat → Int) → (Nat → Int) → Option (Int × Int × Int × Int × Int × (Nat → Int) × (Nat → Int) × (Nat → Int) × (Nat → Int) × (Nat → Int) × (Nat → Int) × (Nat → Int) × (Nat → Int) × (Nat → Int))) (_ : ∀ (x1 : Int) (x3 : Int) (x4 : Int) (i_law : Int) (i_broken : Int) (i_value : Int) (i_sum : Int) (i_nStates : Int) (i_set : Nat → Int) (i_rest : Nat → Int) (i_weights : Nat → Int) (i_states : Nat → Int) (i_table : Nat → Int) (i_nexts : Nat → Int) (i_costs : Nat → Int) (i_small : Nat → Int) (i_tall : Nat → Int) (H : Heap) (locs : List Loc) (ls : Array Slot), k152 x1 x3 x4 i_law i_broken i_value i_sum i_nStates i_set i_rest i_weights i_states i_table i_nexts i_costs i_small i_tall = some out → va_P (dC, dI) vwCl (wd_HM_findStates cA q0 q1 q2 q3 q4 q5 q6 q7 q8 q9 q10 q11 q12 q13 q14 q15 q16 q17 q18 q19 q20 q21 q22 q23 q24 q25 q26 q27 q28 q29 q30 q31 u0 u1 u2 u3 u4 u5 u6 u7 u8 u9 u10 u11 u12 u13 u14 u15 u16 i_row i_law i_broken i_value i_sum i_nStates i_set i_rest i_weights i_states i_table i_nexts i_costs i_small i_tall) H → va_D A (wd_HM_findStates cA q0 q1 q2 q3 q4 q5 q6 q7 q8 q9 q10 q11 q12 q13 q14 q15 q16 q17 q18 q19 q20 q21 q22 q23 q24 q25 q26 q27 q28 q29 q30 q31 u0 u1 u2 u3 u4 u5 u6 u7 u8 u9 u10 u11 u12 u13 u14 u15 u16 i_row i_law i_broken i_value i_sum i_nStates i_set i_rest i_weights i_states i_table i_nexts i_costs i_small i_tall) → va_S A s.heap H locs → lv_has ls 5 [(0, .ref q0), (1, .int (Int32.ofInt x1)), (3, .int (Int32.ofInt x3)), (4, .int (Int32.ofInt x4))] → W p l e rm_HM_findStates s m args below meth c H locs 0 0 Q (F0 m 152 ls [])), ∀ (x1 : Int) (x3 : Int) (x4 : Int) (i_law : Int) (i_broken : Int) (i_value : Int) (i_sum : Int) (i_nStates : Int) (i_set : Nat → Int) (i_rest : Nat → Int) (i_weights : Nat → Int) (i_states : Nat → Int) (i_table : Nat → Int) (i_nexts : Nat → Int) (i_costs : Nat → Int) (i_small : Nat → Int) (i_tall : Nat → Int) (H : Heap) (locs : List Loc) (ls : Array Slot), f_HM_findStates_152_b i_row k141 k152 x1 x3 x4 i_law i_broken i_value i_sum i_nStates i_set i_rest i_weights i_states i_table i_nexts i_costs i_small i_tall = some out → va_P (dC, dI) vwCl (wd_HM_findStates cA q0 q1 q2 q3 q4 q5 q6 q7 q8 q9 q10 q11 q12 q13 q14 q15 q16 q17 q18 q19 q20 q21 q22 q23 q24 q25 q26 q27 q28 q29 q30 q31 u0 u1 u2 u3 u4 u5 u6 u7 u8 u9 u10 u11 u12 u13 u14 u15 u16 i_row i_law i_broken i_value i_sum i_nStates i_set i_rest i_weights i_states i_table i_nexts i_costs i_small i_tall) H → va_D A (wd_HM_findStates cA q0 q1 q2 q3 q4 q5 q6 q7 q8 q9 q10 q11 q12 q13 q14 q15 q16 q17 q18 q19 q20 q21 q22 q23 q24 q25 q26 q27 q28 q29 q30 q31 u0 u1 u2 u3 u4 u5 u6 u7 u8 u9 u10 u11 u12 u13 u14 u15 u16 i_row i_law i_broken i_value i_sum i_nStates i_set i_rest i_weights i_states i_table i_nexts i_costs i_small i_tall) → va_S A s.heap H locs → lv_has ls 5 [(0, .ref q0), (1, .int (Int32.ofInt x1)), (3, .int (Int32.ofInt x3)), (4, .int (Int32.ofInt x4))] → W p l e rm_HM_findStates s m args below meth c H locs 0 0 Q (F0 m 152 ls []) := by
    intro k141 ih141 k152 ih152 x1 x3 x4 i_law i_broken i_value i_sum i_nStates i_set i_rest i_weights i_states i_table i_nexts i_costs i_small i_tall H locs ls hf hP hD hS hl
    unfold f_HM_findStates_152_b at hf
    refine lv_iload hx hb dX11_findStates_152 (lv_at hl 3 rfl) ?_
    refine lv_bipush (v := Int32.ofInt 16) hx hb dX11_findStates_154 (by decide) ?_
    refine xi_icmp_ge (tgt := 208) hx hb dX11_findStates_156 (by decide) hf (fun hf => ?_) (fun hf => ?_)
    · refine xi_iinc hx hb dX11_findStates_208 hl (k := 2) rfl (by decide) hf (fun v1 ls hl hf => ?_)
      have hl : lv_has ls 5 [(3, .int (Int32.ofInt v1)), (0, .ref q0), (1, .int (Int32.ofInt x1)), (4, .int (Int32.ofInt x4))] := hl
      refine lv_goto (tgt := 141) hx hb dX11_findStates_211 (by decide) ?_
      exact ih141 _ _ _ _ _ _ _ _ _ _ _ _ _ _ _ _ _ _ _ hf hP hD hS (lv_sub hl [1, 2, 0] rfl)
    · refine lv_aload_n hx hb dX11_findStates_159 rfl (lv_at hl 0 rfl) ?_
      refine lv_aload_n hx hb dX11_findStates_160 rfl (lv_at hl 0 rfl) ?_
      refine va_get (D := (dC, dI)) (ci := 11) (v := .ref q17) (C := RX11) (T := TX11) (N := 53) hx hb hz zi_X11 hown hK hP 0 rfl rfl 35 (by decide) (hz _ zw_1200) (fun _ h9 => h9) rfl dX11_findStates_161 ?_
      refine lv_iload_n hx hb dX11_findStates_164 rfl (lv_at hl 2 rfl) ?_
      refine xi_iald hx hb hK hP 5 0 rfl rfl dX11_findStates_165 hf (fun v2 hf => ?_)
      refine lv_iload_n hx hb dX11_findStates_166 rfl (lv_at hl 1 rfl) ?_
      refine xe_d2 hf (fun a3 a4 hg hf => ?_)
      have hC : ([0, 9, 10] : List Nat).map (fun i => (wd_HM_findStates cA q0 q1 q2 q3 q4 q5 q6 q7 q8 q9 q10 q11 q12 q13 q14 q15 q16 q17 q18 q19 q20 q21 q22 q23 q24 q25 q26 q27 q28 q29 q30 q31 u0 u1 u2 u3 u4 u5 u6 u7 u8 u9 u10 u11 u12 u13 u14 u15 u16 i_row i_law i_broken i_value i_sum i_nStates i_set i_rest i_weights i_states i_table i_nexts i_costs i_small i_tall)[i]?) = (wd_HM_openSmall cA q0 q1 q2 q3 q4 q5 q6 q7 q8 q9 q10 q11 q12 q13 q14 q15 q16 q17 q18 q19 q20 q21 q22 q23 q24 q25 q26 q27 q28 q29 q30 q31 u0 u1 u2 u3 u4 u5 u6 u7 u8 u9 u10 u11 u12 u13 u14 i_law i_broken i_value i_sum i_nStates u15 u16 i_small i_tall).map some := rfl
      refine xv_afterV (ws' := (wd_HM_findStates cA q0 q1 q2 q3 q4 q5 q6 q7 q8 q9 q10 q11 q12 q13 q14 q15 q16 q17 q18 q19 q20 q21 q22 q23 q24 q25 q26 q27 q28 q29 q30 q31 u0 u1 u2 u3 u4 u5 u6 u7 u8 u9 u10 u11 u12 u13 u14 u15 u16 i_row i_law i_broken i_value i_sum i_nStates i_set i_rest i_weights i_states i_table i_nexts i_costs a3 a4)) (isC := [0, 9, 10]) (ps := [some 0, none, none, none, none, none, none, none, none, some 1, some 2]) (va_runV (As := [.int (Int32.ofInt v2), .int (Int32.ofInt x1)]) (rest := []) ⟨hx, hb, hml, hown, hts⟩ (c_HM_openSmall l ev dC dI cA q0 q1 q2 q3 q4 q5 q6 q7 q8 q9 q10 q11 q12 q13 q14 q15 q16 q17 q18 q19 q20 q21 q22 q23 q24 q25 q26 q27 q28 q29 q30 q31 u0 u1 u2 u3 u4 u5 u6 u7 u8 u9 u10 u11 u12 u13 u14 i_law i_broken i_value i_sum i_nStates u15 u16 hg H.size) (cwV 2 hts (zgV zw_1678 zw_1680 zw_88 zw_115 zw_1681) rfl rfl rfl hd_HM_openSmall ⟨Nat.le_of_ble_eq_true rfl, Nat.le_of_ble_eq_true rfl⟩) (xv_preV (T := TX11) (N := 53) hE hA hS hK hP hD (isC := [0, 9, 10]) (by decide +kernel) hC (q0 := 0) (ci := 11) rfl rfl) rfl rfl hl.1 rfl (lv_room (Nat.le_of_ble_eq_true rfl)) dX11_findStates_167 ⟨Nat.le_refl _, Nat.le_refl _⟩) hP hD hS hA (by decide +kernel) rfl hC rfl rfl (fun H locs hP hD hS => ?_)
      refine lv_aload_n hx hb dX11_findStates_170 rfl (lv_at hl 0 rfl) ?_
      refine va_get (D := (dC, dI)) (ci := 11) (v := .ref q19) (C := RX11) (T := TX11) (N := 53) hx hb hz zi_X11 hown hK hP 0 rfl rfl 38 (by decide) (hz _ zw_1203) (fun _ h9 => h9) rfl dX11_findStates_171 ?_
      refine lv_bipush (v := Int32.ofInt 16) hx hb dX11_findStates_174 (by decide) ?_
      refine lv_iload_n hx hb dX11_findStates_176 rfl (lv_at hl 2 rfl) ?_
      refine xi_imul hx hb dX11_findStates_177 hf (fun v5 hf => ?_)
      refine lv_iload hx hb dX11_findStates_178 (lv_at hl 3 rfl) ?_
      refine xi_iadd hx hb dX11_findStates_180 hf (fun v6 hf => ?_)
      refine lv_aload_n hx hb dX11_findStates_181 rfl (lv_at hl 0 rfl) ?_
      refine lv_iload hx hb dX11_findStates_182 (lv_at hl 3 rfl) ?_
      refine lv_iconst (v := Int32.ofInt (-1)) hx hb dX11_findStates_184 rfl ?_
      refine xe_d1 hf (fun v7 hg hf => ?_)
      have hC : ([0, 1, 8, 9, 10] : List Nat).map (fun i => (wd_HM_findStates cA q0 q1 q2 q3 q4 q5 q6 q7 q8 q9 q10 q11 q12 q13 q14 q15 q16 q17 q18 q19 q20 q21 q22 q23 q24 q25 q26 q27 q28 q29 q30 q31 u0 u1 u2 u3 u4 u5 u6 u7 u8 u9 u10 u11 u12 u13 u14 u15 u16 i_row i_law i_broken i_value i_sum i_nStates i_set i_rest i_weights i_states i_table i_nexts i_costs a3 a4)[i]?) = (wd_HM_isMove cA q0 q1 q2 q3 q4 q5 q6 q7 q8 q9 q10 q11 q12 q13 q14 q15 q16 q17 q18 q19 q20 q21 q22 q23 q24 q25 q26 q27 q28 q29 q30 q31 u0 u1 u2 u3 u4 u5 u6 u7 u8 u9 u10 u11 u12 u13 u14 i_law i_broken i_value i_sum i_nStates u15 u16 i_row i_costs a3 a4).map some := rfl
      refine xv_afterI (ws' := (wd_HM_findStates cA q0 q1 q2 q3 q4 q5 q6 q7 q8 q9 q10 q11 q12 q13 q14 q15 q16 q17 q18 q19 q20 q21 q22 q23 q24 q25 q26 q27 q28 q29 q30 q31 u0 u1 u2 u3 u4 u5 u6 u7 u8 u9 u10 u11 u12 u13 u14 u15 u16 i_row i_law i_broken i_value i_sum i_nStates i_set i_rest i_weights i_states i_table i_nexts i_costs a3 a4)) (isC := [0, 1, 8, 9, 10]) (ps := [some 0, some 1, none, none, none, none, none, none, some 2, some 3, some 4]) (va_runV (As := [.int (Int32.ofInt x4), .int (Int32.ofInt (-1))]) (rest := [.int (Int32.ofInt v6), .ref q19]) ⟨hx, hb, hml, hown, hts⟩ (c_HM_isMove l ev dC dI cA q0 q1 q2 q3 q4 q5 q6 q7 q8 q9 q10 q11 q12 q13 q14 q15 q16 q17 q18 q19 q20 q21 q22 q23 q24 q25 q26 q27 q28 q29 q30 q31 u0 u1 u2 u3 u4 u5 u6 u7 u8 u9 u10 u11 u12 u13 u14 i_law i_broken i_value i_sum i_nStates u15 u16 hg H.size) (cwV 2 hts (zgV zw_1682 zw_1684 zw_89 zw_115 zw_1685) rfl rfl rfl hd_HM_isMove ⟨Nat.le_of_ble_eq_true rfl, Nat.le_of_ble_eq_true rfl⟩) (xv_preV (T := TX11) (N := 53) hE hA hS hK hP hD (isC := [0, 1, 8, 9, 10]) (by decide +kernel) hC (q0 := 0) (ci := 11) rfl rfl) rfl rfl hl.1 rfl (lv_room (Nat.le_of_ble_eq_true rfl)) dX11_findStates_185 ⟨Nat.le_refl _, Nat.le_refl _⟩) hP hD hS hA (by decide +kernel) rfl hC rfl rfl (fun H locs hP hD hS => ?_)
      refine xi_if_eq (tgt := 200) hx hb dX11_findStates_188 (by decide) hf (fun hf => ?_) (fun hf => ?_)
      · refine lv_iconst (v := Int32.ofInt (-1)) hx hb dX11_findStates_200 rfl ?_
        exact b_201 _ ih141 _ ih152 _ _ _ _ _ _ _ _ _ _ _ _ _ _ _ _ _ _ _ _ _ _ hf hP hD hS (lv_sub hl [0, 1, 2, 3] rfl)
      · refine lv_aload_n hx hb dX11_findStates_191 rfl (lv_at hl 0 rfl) ?_
        refine lv_iload hx hb dX11_findStates_192 (lv_at hl 3 rfl) ?_
        refine xe_d6 hf (fun v8 v9 a10 a11 a12 a13 hg hf => ?_)
        have hC : ([0, 5, 6, 9, 10] : List Nat).map (fun i => (wd_HM_findStates cA q0 q1 q2 q3 q4 q5 q6 q7 q8 q9 q10 q11 q12 q13 q14 q15 q16 q17 q18 q19 q20 q21 q22 q23 q24 q25 q26 q27 q28 q29 q30 q31 u0 u1 u2 u3 u4 u5 u6 u7 u8 u9 u10 u11 u12 u13 u14 u15 u16 i_row i_law i_broken i_value i_sum i_nStates i_set i_rest i_weights i_states i_table i_nexts i_costs a3 a4)[i]?) = (wd_HM_moved cA q0 q1 q2 q3 q4 q5 q6 q7 q8 q9 q10 q11 q12 q13 q14 q15 q16 q17 q18 q19 q20 q21 q22 q23 q24 q25 q26 q27 q28 q29 q30 q31 u0 u1 u2 u3 u4 u5 u6 u7 u8 u9 u10 u11 u12 u13 u14 i_law i_broken i_value i_sum u15 u16 i_nStates i_states i_table a3 a4).map some := rfl
        refine xv_afterI (ws' := (wd_HM_findStates cA q0 q1 q2 q3 q4 q5 q6 q7 q8 q9 q10 q11 q12 q13 q14 q15 q16 q17 q18 q19 q20 q21 q22 q23 q24 q25 q26 q27 q28 q29 q30 q31 u0 u1 u2 u3 u4 u5 u6 u7 u8 u9 u10 u11 u12 u13 u14 u15 u16 i_row i_law i_broken i_value i_sum v9 i_set i_rest i_weights a10 a11 i_nexts i_costs a12 a13)) (isC := [0, 5, 6, 9, 10]) (ps := [some 0, none, none, none, none, some 1, some 2, none, none, some 3, some 4]) (va_runV (As := [.int (Int32.ofInt x4)]) (rest := [.int (Int32.ofInt v6), .ref q19]) ⟨hx, hb, hml, hown, hts⟩ (c_HM_moved l ev dC dI cA q0 q1 q2 q3 q4 q5 q6 q7 q8 q9 q10 q11 q12 q13 q14 q15 q16 q17 q18 q19 q20 q21 q22 q23 q24 q25 q26 q27 q28 q29 q30 q31 u0 u1 u2 u3 u4 u5 u6 u7 u8 u9 u10 u11 u12 u13 u14 i_law i_broken i_value i_sum u15 u16 hg H.size) (cwV 1 hts (zgV zw_1694 zw_1696 zw_92 zw_115 zw_1697) rfl rfl rfl hd_HM_moved ⟨Nat.le_of_ble_eq_true rfl, Nat.le_of_ble_eq_true rfl⟩) (xv_preV (T := TX11) (N := 53) hE hA hS hK hP hD (isC := [0, 5, 6, 9, 10]) (by decide +kernel) hC (q0 := 0) (ci := 11) rfl rfl) rfl rfl hl.1 rfl (lv_room (Nat.le_of_ble_eq_true rfl)) dX11_findStates_194 ⟨Nat.le_refl _, Nat.le_refl _⟩) hP hD hS hA (by decide +kernel) rfl hC rfl rfl (fun H locs hP hD hS => ?_)
        refine lv_goto (tgt := 201) hx hb dX11_findStates_197 (by decide) ?_
        exact b_201 _ ih141 _ ih152 _ _ _ _ _ _ _ _ _ _ _ _ _ _ _ _ _ _ _ _ _ _ hf hP hD hS (lv_sub hl [0, 1, 2, 3] rfl)
  have l_152 : ∀ (k141 : Int → Int → Int → Int → Int → Int → Int → (Nat → Int) → (Nat → Int) → (Nat → Int) → (Nat → Int) → (Nat → Int) → (Nat → Int) → (Nat → Int) → (Nat → Int) → (Nat → Int) → Option (Int × Int × Int × Int × Int × (Nat → Int) × (Nat → Int) × (Nat → Int) × (Nat → Int) × (Nat → Int) × (Nat → Int) × (Nat → Int) × (Nat → Int) × (Nat → Int))) (_ : ∀ (x1 : Int) (x3 : Int) (i_law : Int) (i_broken : Int) (i_value : Int) (i_sum : Int) (i_nStates : Int) (i_set : Nat → Int) (i_rest : Nat → Int) (i_weights : Nat → Int) (i_states : Nat → Int) (i_table : Nat → Int) (i_nexts : Nat → Int) (i_costs : Nat → Int) (i_small : Nat → Int) (i_tall : Nat → Int) (H : Heap) (locs : List Loc) (ls : Array Slot), k141 x1 x3 i_law i_broken i_value i_sum i_nStates i_set i_rest i_weights i_states i_table i_nexts i_costs i_small i_tall = some out → va_P (dC, dI) vwCl (wd_HM_findStates cA q0 q1 q2 q3 q4 q5 q6 q7 q8 q9 q10 q11 q12 q13 q14 q15 q16 q17 q18 q19 q20 q21 q22 q23 q24 q25 q26 q27 q28 q29 q30 q31 u0 u1 u2 u3 u4 u5 u6 u7 u8 u9 u10 u11 u12 u13 u14 u15 u16 i_row i_law i_broken i_value i_sum i_nStates i_set i_rest i_weights i_states i_table i_nexts i_costs i_small i_tall) H → va_D A (wd_HM_findStates cA q0 q1 q2 q3 q4 q5 q6 q7 q8 q9 q10 q11 q12 q13 q14 q15 q16 q17 q18 q19 q20 q21 q22 q23 q24 q25 q26 q27 q28 q29 q30 q31 u0 u1 u2 u3 u4 u5 u6 u7 u8 u9 u10 u11 u12 u13 u14 u15 u16 i_row i_law i_broken i_value i_sum i_nStates i_set i_rest i_weights i_states i_table i_nexts i_costs i_small i_tall) → va_S A s.heap H locs → lv_has ls 5 [(0, .ref q0), (1, .int (Int32.ofInt x1)), (3, .int (Int32.ofInt x3))] → W p l e rm_HM_findStates s m args below meth c H locs 0 0 Q (F0 m 141 ls [])), ∀ (n : Nat), ∀ (x1 : Int) (x3 : Int) (x4 : Int) (i_law : Int) (i_broken : Int) (i_value : Int) (i_sum : Int) (i_nStates : Int) (i_set : Nat → Int) (i_rest : Nat → Int) (i_weights : Nat → Int) (i_states : Nat → Int) (i_table : Nat → Int) (i_nexts : Nat → Int) (i_costs : Nat → Int) (i_small : Nat → Int) (i_tall : Nat → Int) (H : Heap) (locs : List Loc) (ls : Array Slot), f_HM_findStates_152 i_row k141 n x1 x3 x4 i_law i_broken i_value i_sum i_nStates i_set i_rest i_weights i_states i_table i_nexts i_costs i_small i_tall = some out → va_P (dC, dI) vwCl (wd_HM_findStates cA q0 q1 q2 q3 q4 q5 q6 q7 q8 q9 q10 q11 q12 q13 q14 q15 q16 q17 q18 q19 q20 q21 q22 q23 q24 q25 q26 q27 q28 q29 q30 q31 u0 u1 u2 u3 u4 u5 u6 u7 u8 u9 u10 u11 u12 u13 u14 u15 u16 i_row i_law i_broken i_value i_sum i_nStates i_set i_rest i_weights i_states i_table i_nexts i_costs i_small i_tall) H → va_D A (wd_HM_findStates cA q0 q1 q2 q3 q4 q5 q6 q7 q8 q9 q10 q11 q12 q13 q14 q15 q16 q17 q18 q19 q20 q21 q22 q23 q24 q25 q26 q27 q28 q29 q30 q31 u0 u1 u2 u3 u4 u5 u6 u7 u8 u9 u10 u11 u12 u13 u14 u15 u16 i_row i_law i_broken i_value i_sum i_nStates i_set i_rest i_weights i_states i_table i_nexts i_costs i_small i_tall) → va_S A s.heap H locs → lv_has ls 5 [(0, .ref q0), (1, .int (Int32.ofInt x1)), (3, .int (Int32.ofInt x3)), (4, .int (Int32.ofInt x4))] → W p l e rm_HM_findStates s m args below meth c H locs 0 0 Q (F0 m 152 ls []) := by
    intro k141 ih141 n
    induction n with
    | zero => intro x1 x3 x4 i_law i_broken i_value i_sum i_nStates i_set i_rest i_weights i_states i_table i_nexts i_costs i_small i_tall H locs ls hf hP hD hS hl; exact nomatch hf
    | succ n ih => intro x1 x3 x4 i_law i_broken i_value i_sum i_nStates i_set i_rest i_weights i_states i_table i_nexts i_costs i_small i_tall H locs ls hf hP hD hS hl; exact b_152 k141 ih141 (f_HM_findStates_152 i_row k141 n) ih x1 x3 x4 i_law i_broken i_value i_sum i_nStates i_set i_rest i_weights i_states i_table i_nexts i_costs i_small i_tall H locs ls hf hP hD hS hl
  have b_141 : ∀ (k141 : Int → Int → Int → Int → Int → Int → Int → (Nat → Int) → (Nat → Int) → (Nat → Int) → (Nat → Int) → (Nat → Int) → (Nat → Int) → (Nat → Int) → (Nat → Int) → (Nat → Int) → Option (Int × Int × Int × Int × Int × (Nat → Int) × (Nat → Int) × (Nat → Int) × (Nat → Int) × (Nat → Int) × (Nat → Int) × (Nat → Int) × (Nat → Int) × (Nat → Int))) (_ : ∀ (x1 : Int) (x3 : Int) (i_law : Int) (i_broken : Int) (i_value : Int) (i_sum : Int) (i_nStates : Int) (i_set : Nat → Int) (i_rest : Nat → Int) (i_weights : Nat → Int) (i_states : Nat → Int) (i_table : Nat → Int) (i_nexts : Nat → Int) (i_costs : Nat → Int) (i_small : Nat → Int) (i_tall : Nat → Int) (H : Heap) (locs : List Loc) (ls : Array Slot), k141 x1 x3 i_law i_broken i_value i_sum i_nStates i_set i_rest i_weights i_states i_table i_nexts i_costs i_small i_tall = some out → va_P (dC, dI) vwCl (wd_HM_findStates cA q0 q1 q2 q3 q4 q5 q6 q7 q8 q9 q10 q11 q12 q13 q14 q15 q16 q17 q18 q19 q20 q21 q22 q23 q24 q25 q26 q27 q28 q29 q30 q31 u0 u1 u2 u3 u4 u5 u6 u7 u8 u9 u10 u11 u12 u13 u14 u15 u16 i_row i_law i_broken i_value i_sum i_nStates i_set i_rest i_weights i_states i_table i_nexts i_costs i_small i_tall) H → va_D A (wd_HM_findStates cA q0 q1 q2 q3 q4 q5 q6 q7 q8 q9 q10 q11 q12 q13 q14 q15 q16 q17 q18 q19 q20 q21 q22 q23 q24 q25 q26 q27 q28 q29 q30 q31 u0 u1 u2 u3 u4 u5 u6 u7 u8 u9 u10 u11 u12 u13 u14 u15 u16 i_row i_law i_broken i_value i_sum i_nStates i_set i_rest i_weights i_states i_table i_nexts i_costs i_small i_tall) → va_S A s.heap H locs → lv_has ls 5 [(0, .ref q0), (1, .int (Int32.ofInt x1)), (3, .int (Int32.ofInt x3))] → W p l e rm_HM_findStates s m args below meth c H locs 0 0 Q (F0 m 141 ls [])), ∀ (x1 : Int) (x3 : Int) (i_law : Int) (i_broken : Int) (i_value : Int) (i_sum : Int) (i_nStates : Int) (i_set : Nat → Int) (i_rest : Nat → Int) (i_weights : Nat → Int) (i_states : Nat → Int) (i_table : Nat → Int) (i_nexts : Nat → Int) (i_costs : Nat → Int) (i_small : Nat → Int) (i_tall : Nat → Int) (H : Heap) (locs : List Loc) (ls : Array Slot), f_HM_findStates_141_b i_row k141 x1 x3 i_law i_broken i_value i_sum i_nStates i_set i_rest i_weights i_states i_table i_nexts i_costs i_small i_tall = some out → va_P (dC, dI) vwCl (wd_HM_findStates cA q0 q1 q2 q3 q4 q5 q6 q7 q8 q9 q10 q11 q12 q13 q14 q15 q16 q17 q18 q19 q20 q21 q22 q23 q24 q25 q26 q27 q28 q29 q30 q31 u0 u1 u2 u3 u4 u5 u6 u7 u8 u9 u10 u11 u12 u13 u14 u15 u16 i_row i_law i_broken i_value i_sum i_nStates i_set i_rest i_weights i_states i_table i_nexts i_costs i_small i_tall) H → va_D A (wd_HM_findStates cA q0 q1 q2 q3 q4 q5 q6 q7 q8 q9 q10 q11 q12 q13 q14 q15 q16 q17 q18 q19 q20 q21 q22 q23 q24 q25 q26 q27 q28 q29 q30 q31 u0 u1 u2 u3 u4 u5 u6 u7 u8 u9 u10 u11 u12 u13 u14 u15 u16 i_row i_law i_broken i_value i_sum i_nStates i_set i_rest i_weights i_states i_table i_nexts i_costs i_small i_tall) → va_S A s.heap H locs → lv_has ls 5 [(0, .ref q0), (1, .int (Int32.ofInt x1)), (3, .int (Int32.ofInt x3))] → W p l e rm_HM_findStates s m args below meth c H locs 0 0 Q (F0 m 141 ls []) := by
    intro k141 ih141 x1 x3 i_law i_broken i_value i_sum i_nStates i_set i_rest i_weights i_states i_table i_nexts i_costs i_small i_tall H locs ls hf hP hD hS hl
    unfold f_HM_findStates_141_b at hf
    refine lv_iload_n hx hb dX11_findStates_141 rfl (lv_at hl 2 rfl) ?_
    refine lv_aload_n hx hb dX11_findStates_142 rfl (lv_at hl 0 rfl) ?_
    refine va_get (D := (dC, dI)) (ci := 11) (v := .int (Int32.ofInt i_nStates)) (C := RX11) (T := TX11) (N := 53) hx hb hz zi_X11 hown hK hP 0 rfl rfl 37 (by decide) (hz _ zw_1202) (fun _ h9 => h9) rfl dX11_findStates_143 ?_
    refine xi_icmp_ge (tgt := 214) hx hb dX11_findStates_146 (by decide) hf (fun hf => ?_) (fun hf => ?_)
    · obtain rfl := Option.some.inj hf
      exact hret _ _ _ _ dX11_findStates_214 hP hD hS
    · refine lv_iconst (v := Int32.ofInt 0) hx hb dX11_findStates_149 rfl ?_
      refine lv_istore (lv' := [(4, .int (Int32.ofInt 0)), (0, .ref q0), (1, .int (Int32.ofInt x1)), (3, .int (Int32.ofInt x3))]) hx hb dX11_findStates_150 hl (by decide) rfl (fun ls hl => ?_)
      exact l_152 _ ih141 _ _ _ _ _ _ _ _ _ _ _ _ _ _ _ _ _ _ _ _ _ hf hP hD hS (lv_sub hl [1, 2, 3, 0] rfl)
  have l_141 : ∀ (n : Nat), ∀ (x1 : Int) (x3 : Int) (i_law : Int) (i_broken : Int) (i_value : Int) (i_sum : Int) (i_nStates : Int) (i_set : Nat → Int) (i_rest : Nat → Int) (i_weights : Nat → Int) (i_states : Nat → Int) (i_table : Nat → Int) (i_nexts : Nat → Int) (i_costs : Nat → Int) (i_small : Nat → Int) (i_tall : Nat → Int) (H : Heap) (locs : List Loc) (ls : Array Slot), f_HM_findStates_141 i_row n x1 x3 i_law i_broken i_value i_sum i_nStates i_set i_rest i_weights i_states i_table i_nexts i_costs i_small i_tall = some out → va_P (dC, dI) vwCl (wd_HM_findStates cA q0 q1 q2 q3 q4 q5 q6 q7 q8 q9 q10 q11 q12 q13 q14 q15 q16 q17 q18 q19 q20 q21 q22 q23 q24 q25 q26 q27 q28 q29 q30 q31 u0 u1 u2 u3 u4 u5 u6 u7 u8 u9 u10 u11 u12 u13 u14 u15 u16 i_row i_law i_broken i_value i_sum i_nStates i_set i_rest i_weights i_states i_table i_nexts i_costs i_small i_tall) H → va_D A (wd_HM_findStates cA q0 q1 q2 q3 q4 q5 q6 q7 q8 q9 q10 q11 q12 q13 q14 q15 q16 q17 q18 q19 q20 q21 q22 q23 q24 q25 q26 q27 q28 q29 q30 q31 u0 u1 u2 u3 u4 u5 u6 u7 u8 u9 u10 u11 u12 u13 u14 u15 u16 i_row i_law i_broken i_value i_sum i_nStates i_set i_rest i_weights i_states i_table i_nexts i_costs i_small i_tall) → va_S A s.heap H locs → lv_has ls 5 [(0, .ref q0), (1, .int (Int32.ofInt x1)), (3, .int (Int32.ofInt x3))] → W p l e rm_HM_findStates s m args below meth c H locs 0 0 Q (F0 m 141 ls []) := by
    intro n
    induction n with
    | zero => intro x1 x3 i_law i_broken i_value i_sum i_nStates i_set i_rest i_weights i_states i_table i_nexts i_costs i_small i_tall H locs ls hf hP hD hS hl; exact nomatch hf
    | succ n ih => intro x1 x3 i_law i_broken i_value i_sum i_nStates i_set i_rest i_weights i_states i_table i_nexts i_costs i_small i_tall H locs ls hf hP hD hS hl; exact b_141 (f_HM_findStates_141 i_row n) ih x1 x3 i_law i_broken i_value i_sum i_nStates i_set i_rest i_weights i_states i_table i_nexts i_costs i_small i_tall H locs ls hf hP hD hS hl
  have b_66 : ∀ (k31 : Int → Int → Int → Int → Int → Int → Int → Int → (Nat → Int) → (Nat → Int) → (Nat → Int) → (Nat → Int) → (Nat → Int) → (Nat → Int) → (Nat → Int) → (Nat → Int) → (Nat → Int) → Option (Int × Int × Int × Int × Int × (Nat → Int) × (Nat → Int) × (Nat → Int) × (Nat → Int) × (Nat → Int) × (Nat → Int) × (Nat → Int) × (Nat → Int) × (Nat → Int))) (_ : ∀ (x1 : Int) (x2 : Int) (x3 : Int) (i_law : Int) (i_broken : Int) (i_value : Int) (i_sum : Int) (i_nStates : Int) (i_set : Nat → Int) (i_rest : Nat → Int) (i_weights : Nat → Int) (i_states : Nat → Int) (i_table : Nat → Int) (i_nexts : Nat → Int) (i_costs : Nat → Int) (i_small : Nat → Int) (i_tall : Nat → Int) (H : Heap) (locs : List Loc) (ls : Array Slot), k31 x1 x2 x3 i_law i_broken i_value i_sum i_nStates i_set i_rest i_weights i_states i_table i_nexts i_costs i_small i_tall = some out → va_P (dC, dI) vwCl (wd_HM_findStates cA q0 q1 q2 q3 q4 q5 q6 q7 q8 q9 q10 q11 q12 q13 q14 q15 q16 q17 q18 q19 q20 q21 q22 q23 q24 q25 q26 q27 q28 q29 q30 q31 u0 u1 u2 u3 u4 u5 u6 u7 u8 u9 u10 u11 u12 u13 u14 u15 u16 i_row i_law i_broken i_value i_sum i_nStates i_set i_rest i_weights i_states i_table i_nexts i_costs i_small i_tall) H → va_D A (wd_HM_findStates cA q0 q1 q2 q3 q4 q5 q6 q7 q8 q9 q10 q11 q12 q13 q14 q15 q16 q17 q18 q19 q20 q21 q22 q23 q24 q25 q26 q27 q28 q29 q30 q31 u0 u1 u2 u3 u4 u5 u6 u7 u8 u9 u10 u11 u12 u13 u14 u15 u16 i_row i_law i_broken i_value i_sum i_nStates i_set i_rest i_weights i_states i_table i_nexts i_costs i_small i_tall) → va_S A s.heap H locs → lv_has ls 5 [(0, .ref q0), (1, .int (Int32.ofInt x1)), (2, .int (Int32.ofInt x2)), (3, .int (Int32.ofInt x3))] → W p l e rm_HM_findStates s m args below meth c H locs 0 0 Q (F0 m 31 ls [])), ∀ (k66 : Int → Int → Int → Int → Int → Int → Int → Int → Int → (Nat → Int) → (Nat → Int) → (Nat → Int) → (Nat → Int) → (Nat → Int) → (Nat → Int) → (Nat → Int) → (Nat → Int) → (Nat → Int) → Option (Int × Int × Int × Int × Int × (Nat → Int) × (Nat → Int) × (Nat → Int) × (Nat → Int) × (Nat → Int) × (Nat → Int) × (Nat → Int) × (Nat → Int) × (Nat → Int))) (_ : ∀ (x1 : Int) (x2 : Int) (x3 : Int) (x4 : Int) (i_law : Int) (i_broken : Int) (i_value : Int) (i_sum : Int) (i_nStates : Int) (i_set : Nat → Int) (i_rest : Nat → Int) (i_weights : Nat → Int) (i_states : Nat → Int) (i_table : Nat → Int) (i_nexts : Nat → Int) (i_costs : Nat → Int) (i_small : Nat → Int) (i_tall : Nat → Int) (H : Heap) (locs : List Loc) (ls : Array Slot), k66 x1 x2 x3 x4 i_law i_broken i_value i_sum i_nStates i_set i_rest i_weights i_states i_table i_nexts i_costs i_small i_tall = some out → va_P (dC, dI) vwCl (wd_HM_findStates cA q0 q1 q2 q3 q4 q5 q6 q7 q8 q9 q10 q11 q12 q13 q14 q15 q16 q17 q18 q19 q20 q21 q22 q23 q24 q25 q26 q27 q28 q29 q30 q31 u0 u1 u2 u3 u4 u5 u6 u7 u8 u9 u10 u11 u12 u13 u14 u15 u16 i_row i_law i_broken i_value i_sum i_nStates i_set i_rest i_weights i_states i_table i_nexts i_costs i_small i_tall) H → va_D A (wd_HM_findStates cA q0 q1 q2 q3 q4 q5 q6 q7 q8 q9 q10 q11 q12 q13 q14 q15 q16 q17 q18 q19 q20 q21 q22 q23 q24 q25 q26 q27 q28 q29 q30 q31 u0 u1 u2 u3 u4 u5 u6 u7 u8 u9 u10 u11 u12 u13 u14 u15 u16 i_row i_law i_broken i_value i_sum i_nStates i_set i_rest i_weights i_states i_table i_nexts i_costs i_small i_tall) → va_S A s.heap H locs → lv_has ls 5 [(0, .ref q0), (1, .int (Int32.ofInt x1)), (2, .int (Int32.ofInt x2)), (3, .int (Int32.ofInt x3)), (4, .int (Int32.ofInt x4))] → W p l e rm_HM_findStates s m args below meth c H locs 0 0 Q (F0 m 66 ls [])), ∀ (x1 : Int) (x2 : Int) (x3 : Int) (x4 : Int) (i_law : Int) (i_broken : Int) (i_value : Int) (i_sum : Int) (i_nStates : Int) (i_set : Nat → Int) (i_rest : Nat → Int) (i_weights : Nat → Int) (i_states : Nat → Int) (i_table : Nat → Int) (i_nexts : Nat → Int) (i_costs : Nat → Int) (i_small : Nat → Int) (i_tall : Nat → Int) (H : Heap) (locs : List Loc) (ls : Array Slot), f_HM_findStates_66_b i_row k31 k66 x1 x2 x3 x4 i_law i_broken i_value i_sum i_nStates i_set i_rest i_weights i_states i_table i_nexts i_costs i_small i_tall = some out → va_P (dC, dI) vwCl (wd_HM_findStates cA q0 q1 q2 q3 q4 q5 q6 q7 q8 q9 q10 q11 q12 q13 q14 q15 q16 q17 q18 q19 q20 q21 q22 q23 q24 q25 q26 q27 q28 q29 q30 q31 u0 u1 u2 u3 u4 u5 u6 u7 u8 u9 u10 u11 u12 u13 u14 u15 u16 i_row i_law i_broken i_value i_sum i_nStates i_set i_rest i_weights i_states i_table i_nexts i_costs i_small i_tall) H → va_D A (wd_HM_findStates cA q0 q1 q2 q3 q4 q5 q6 q7 q8 q9 q10 q11 q12 q13 q14 q15 q16 q17 q18 q19 q20 q21 q22 q23 q24 q25 q26 q27 q28 q29 q30 q31 u0 u1 u2 u3 u4 u5 u6 u7 u8 u9 u10 u11 u12 u13 u14 u15 u16 i_row i_law i_broken i_value i_sum i_nStates i_set i_rest i_weights i_states i_table i_nexts i_costs i_small i_tall) → va_S A s.heap H locs → lv_has ls 5 [(0, .ref q0), (1, .int (Int32.ofInt x1)), (2, .int (Int32.ofInt x2)), (3, .int (Int32.ofInt x3)), (4, .int (Int32.ofInt x4))] → W p l e rm_HM_findStates s m args below meth c H locs 0 0 Q (F0 m 66 ls []) := by
    intro k31 ih31 k66 ih66 x1 x2 x3 x4 i_law i_broken i_value i_sum i_nStates i_set i_rest i_weights i_states i_table i_nexts i_costs i_small i_tall H locs ls hf hP hD hS hl
    unfold f_HM_findStates_66_b at hf
    refine lv_iload hx hb dX11_findStates_66 (lv_at hl 4 rfl) ?_
    refine lv_aload_n hx hb dX11_findStates_68 rfl (lv_at hl 0 rfl) ?_
    refine va_get (D := (dC, dI)) (ci := 11) (v := .ref q23) (C := RX11) (T := TX11) (N := 53) hx hb hz zi_X11 hown hK hP 0 rfl rfl 42 (by decide) (hz _ zw_1207) (fun _ h9 => h9) rfl dX11_findStates_69 ?_
    refine lv_iload_n hx hb dX11_findStates_72 rfl (lv_at hl 3 rfl) ?_
    refine xi_iald hx hb hK hP 10 0 rfl rfl dX11_findStates_73 hf (fun v1 hf => ?_)
    refine xi_icmp_ge (tgt := 119) hx hb dX11_findStates_74 (by decide) hf (fun hf => ?_) (fun hf => ?_)
    · refine xi_iinc hx hb dX11_findStates_119 hl (k := 3) rfl (by decide) hf (fun v2 ls hl hf => ?_)
      have hl : lv_has ls 5 [(3, .int (Int32.ofInt v2)), (0, .ref q0), (1, .int (Int32.ofInt x1)), (2, .int (Int32.ofInt x2)), (4, .int (Int32.ofInt x4))] := hl
      refine lv_goto (tgt := 31) hx hb dX11_findStates_122 (by decide) ?_
      exact ih31 _ _ _ _ _ _ _ _ _ _ _ _ _ _ _ _ _ _ _ _ hf hP hD hS (lv_sub hl [1, 2, 3, 0] rfl)
    · refine lv_aload_n hx hb dX11_findStates_77 rfl (lv_at hl 0 rfl) ?_
      refine va_get (D := (dC, dI)) (ci := 11) (v := .ref q16) (C := RX11) (T := TX11) (N := 53) hx hb hz zi_X11 hown hK hP 0 rfl rfl 34 (by decide) (hz _ zw_1199) (fun _ h9 => h9) rfl dX11_findStates_78 ?_
      refine lv_iload_n hx hb dX11_findStates_81 rfl (lv_at hl 2 rfl) ?_
      refine lv_aload_n hx hb dX11_findStates_82 rfl (lv_at hl 0 rfl) ?_
      refine va_get (D := (dC, dI)) (ci := 11) (v := .ref q2) (C := RX11) (T := TX11) (N := 53) hx hb hz zi_X11 hown hK hP 0 rfl rfl 3 (by decide) (hz _ zw_1168) (fun _ h9 => h9) rfl dX11_findStates_83 ?_
      refine lv_bipush (v := Int32.ofInt 21) hx hb dX11_findStates_86 (by decide) ?_
      refine lv_bipush (v := Int32.ofInt 10) hx hb dX11_findStates_88 (by decide) ?_
      refine lv_iload_n hx hb dX11_findStates_90 rfl (lv_at hl 3 rfl) ?_
      refine xi_imul hx hb dX11_findStates_91 hf (fun v3 hf => ?_)
      refine xi_iadd hx hb dX11_findStates_92 hf (fun v4 hf => ?_)
      refine lv_iload hx hb dX11_findStates_93 (lv_at hl 4 rfl) ?_
      refine xi_iadd hx hb dX11_findStates_95 hf (fun v5 hf => ?_)
      refine xi_iald hx hb hK hP 1 0 rfl rfl dX11_findStates_96 hf (fun v6 hf => ?_)
      refine xi_iast hx hb hK hP hD hS 4 0 rfl rfl dX11_findStates_97 hf (fun a7 H locs hP hD hS hf => ?_)
      have hP : va_P (dC, dI) vwCl (wd_HM_findStates cA q0 q1 q2 q3 q4 q5 q6 q7 q8 q9 q10 q11 q12 q13 q14 q15 q16 q17 q18 q19 q20 q21 q22 q23 q24 q25 q26 q27 q28 q29 q30 q31 u0 u1 u2 u3 u4 u5 u6 u7 u8 u9 u10 u11 u12 u13 u14 u15 u16 i_row i_law i_broken i_value i_sum i_nStates i_set i_rest a7 i_states i_table i_nexts i_costs i_small i_tall) H := hP
      have hD : va_D A (wd_HM_findStates cA q0 q1 q2 q3 q4 q5 q6 q7 q8 q9 q10 q11 q12 q13 q14 q15 q16 q17 q18 q19 q20 q21 q22 q23 q24 q25 q26 q27 q28 q29 q30 q31 u0 u1 u2 u3 u4 u5 u6 u7 u8 u9 u10 u11 u12 u13 u14 u15 u16 i_row i_law i_broken i_value i_sum i_nStates i_set i_rest a7 i_states i_table i_nexts i_costs i_small i_tall) := hD
      refine lv_aload_n hx hb dX11_findStates_98 rfl (lv_at hl 0 rfl) ?_
      refine va_get (D := (dC, dI)) (ci := 11) (v := .ref q22) (C := RX11) (T := TX11) (N := 53) hx hb hz zi_X11 hown hK hP 0 rfl rfl 41 (by decide) (hz _ zw_1206) (fun _ h9 => h9) rfl dX11_findStates_99 ?_
      refine lv_iconst (v := Int32.ofInt 5) hx hb dX11_findStates_102 rfl ?_
      refine lv_iload_n hx hb dX11_findStates_103 rfl (lv_at hl 3 rfl) ?_
      refine xi_imul hx hb dX11_findStates_104 hf (fun v8 hf => ?_)
      refine lv_iload hx hb dX11_findStates_105 (lv_at hl 4 rfl) ?_
      refine xi_iadd hx hb dX11_findStates_107 hf (fun v9 hf => ?_)
      refine lv_iload_n hx hb dX11_findStates_108 rfl (lv_at hl 2 rfl) ?_
      refine xi_iast hx hb hK hP hD hS 9 0 rfl rfl dX11_findStates_109 hf (fun a10 H locs hP hD hS hf => ?_)
      have hP : va_P (dC, dI) vwCl (wd_HM_findStates cA q0 q1 q2 q3 q4 q5 q6 q7 q8 q9 q10 q11 q12 q13 q14 q15 q16 q17 q18 q19 q20 q21 q22 q23 q24 q25 q26 q27 q28 q29 q30 q31 u0 u1 u2 u3 u4 u5 u6 u7 u8 u9 u10 u11 u12 u13 u14 u15 u16 i_row i_law i_broken i_value i_sum i_nStates i_set i_rest a7 i_states i_table i_nexts i_costs a10 i_tall) H := hP
      have hD : va_D A (wd_HM_findStates cA q0 q1 q2 q3 q4 q5 q6 q7 q8 q9 q10 q11 q12 q13 q14 q15 q16 q17 q18 q19 q20 q21 q22 q23 q24 q25 q26 q27 q28 q29 q30 q31 u0 u1 u2 u3 u4 u5 u6 u7 u8 u9 u10 u11 u12 u13 u14 u15 u16 i_row i_law i_broken i_value i_sum i_nStates i_set i_rest a7 i_states i_table i_nexts i_costs a10 i_tall) := hD
      refine xi_iinc hx hb dX11_findStates_110 hl (k := 2) rfl (by decide) hf (fun v11 ls hl hf => ?_)
      have hl : lv_has ls 5 [(2, .int (Int32.ofInt v11)), (0, .ref q0), (1, .int (Int32.ofInt x1)), (3, .int (Int32.ofInt x3)), (4, .int (Int32.ofInt x4))] := hl
      refine xi_iinc hx hb dX11_findStates_113 hl (k := 4) rfl (by decide) hf (fun v12 ls hl hf => ?_)
      have hl : lv_has ls 5 [(4, .int (Int32.ofInt v12)), (2, .int (Int32.ofInt v11)), (0, .ref q0), (1, .int (Int32.ofInt x1)), (3, .int (Int32.ofInt x3))] := hl
      refine lv_goto (tgt := 66) hx hb dX11_findStates_116 (by decide) ?_
      exact ih66 _ _ _ _ _ _ _ _ _ _ _ _ _ _ _ _ _ _ _ _ _ hf hP hD hS (lv_sub hl [2, 3, 1, 4, 0] rfl)
  have l_66 : ∀ (k31 : Int → Int → Int → Int → Int → Int → Int → Int → (Nat → Int) → (Nat → Int) → (Nat → Int) → (Nat → Int) → (Nat → Int) → (Nat → Int) → (Nat → Int) → (Nat → Int) → (Nat → Int) → Option (Int × Int × Int × Int × Int × (Nat → Int) × (Nat → Int) × (Nat → Int) × (Nat → Int) × (Nat → Int) × (Nat → Int) × (Nat → Int) × (Nat → Int) × (Nat → Int))) (_ : ∀ (x1 : Int) (x2 : Int) (x3 : Int) (i_law : Int) (i_broken : Int) (i_value : Int) (i_sum : Int) (i_nStates : Int) (i_set : Nat → Int) (i_rest : Nat → Int) (i_weights : Nat → Int) (i_states : Nat → Int) (i_table : Nat → Int) (i_nexts : Nat → Int) (i_costs : Nat → Int) (i_small : Nat → Int) (i_tall : Nat → Int) (H : Heap) (locs : List Loc) (ls : Array Slot), k31 x1 x2 x3 i_law i_broken i_value i_sum i_nStates i_set i_rest i_weights i_states i_table i_nexts i_costs i_small i_tall = some out → va_P (dC, dI) vwCl (wd_HM_findStates cA q0 q1 q2 q3 q4 q5 q6 q7 q8 q9 q10 q11 q12 q13 q14 q15 q16 q17 q18 q19 q20 q21 q22 q23 q24 q25 q26 q27 q28 q29 q30 q31 u0 u1 u2 u3 u4 u5 u6 u7 u8 u9 u10 u11 u12 u13 u14 u15 u16 i_row i_law i_broken i_value i_sum i_nStates i_set i_rest i_weights i_states i_table i_nexts i_costs i_small i_tall) H → va_D A (wd_HM_findStates cA q0 q1 q2 q3 q4 q5 q6 q7 q8 q9 q10 q11 q12 q13 q14 q15 q16 q17 q18 q19 q20 q21 q22 q23 q24 q25 q26 q27 q28 q29 q30 q31 u0 u1 u2 u3 u4 u5 u6 u7 u8 u9 u10 u11 u12 u13 u14 u15 u16 i_row i_law i_broken i_value i_sum i_nStates i_set i_rest i_weights i_states i_table i_nexts i_costs i_small i_tall) → va_S A s.heap H locs → lv_has ls 5 [(0, .ref q0), (1, .int (Int32.ofInt x1)), (2, .int (Int32.ofInt x2)), (3, .int (Int32.ofInt x3))] → W p l e rm_HM_findStates s m args below meth c H locs 0 0 Q (F0 m 31 ls [])), ∀ (n : Nat), ∀ (x1 : Int) (x2 : Int) (x3 : Int) (x4 : Int) (i_law : Int) (i_broken : Int) (i_value : Int) (i_sum : Int) (i_nStates : Int) (i_set : Nat → Int) (i_rest : Nat → Int) (i_weights : Nat → Int) (i_states : Nat → Int) (i_table : Nat → Int) (i_nexts : Nat → Int) (i_costs : Nat → Int) (i_small : Nat → Int) (i_tall : Nat → Int) (H : Heap) (locs : List Loc) (ls : Array Slot), f_HM_findStates_66 i_row k31 n x1 x2 x3 x4 i_law i_broken i_value i_sum i_nStates i_set i_rest i_weights i_states i_table i_nexts i_costs i_small i_tall = some out → va_P (dC, dI) vwCl (wd_HM_findStates cA q0 q1 q2 q3 q4 q5 q6 q7 q8 q9 q10 q11 q12 q13 q14 q15 q16 q17 q18 q19 q20 q21 q22 q23 q24 q25 q26 q27 q28 q29 q30 q31 u0 u1 u2 u3 u4 u5 u6 u7 u8 u9 u10 u11 u12 u13 u14 u15 u16 i_row i_law i_broken i_value i_sum i_nStates i_set i_rest i_weights i_states i_table i_nexts i_costs i_small i_tall) H → va_D A (wd_HM_findStates cA q0 q1 q2 q3 q4 q5 q6 q7 q8 q9 q10 q11 q12 q13 q14 q15 q16 q17 q18 q19 q20 q21 q22 q23 q24 q25 q26 q27 q28 q29 q30 q31 u0 u1 u2 u3 u4 u5 u6 u7 u8 u9 u10 u11 u12 u13 u14 u15 u16 i_row i_law i_broken i_value i_sum i_nStates i_set i_rest i_weights i_states i_table i_nexts i_costs i_small i_tall) → va_S A s.heap H locs → lv_has ls 5 [(0, .ref q0), (1, .int (Int32.ofInt x1)), (2, .int (Int32.ofInt x2)), (3, .int (Int32.ofInt x3)), (4, .int (Int32.ofInt x4))] → W p l e rm_HM_findStates s m args below meth c H locs 0 0 Q (F0 m 66 ls []) := by
    intro k31 ih31 n
    induction n with
    | zero => intro x1 x2 x3 x4 i_law i_broken i_value i_sum i_nStates i_set i_rest i_weights i_states i_table i_nexts i_costs i_small i_tall H locs ls hf hP hD hS hl; exact nomatch hf
    | succ n ih => intro x1 x2 x3 x4 i_law i_broken i_value i_sum i_nStates i_set i_rest i_weights i_states i_table i_nexts i_costs i_small i_tall H locs ls hf hP hD hS hl; exact b_66 k31 ih31 (f_HM_findStates_66 i_row k31 n) ih x1 x2 x3 x4 i_law i_broken i_value i_sum i_nStates i_set i_rest i_weights i_states i_table i_nexts i_costs i_small i_tall H locs ls hf hP hD hS hl
  have b_62 : ∀ (k31 : Int → Int → Int → Int → Int → Int → Int → Int → (Nat → Int) → (Nat → Int) → (Nat → Int) → (Nat → Int) → (Nat → Int) → (Nat → Int) → (Nat → Int) → (Nat → Int) → (Nat → Int) → Option (Int × Int × Int × Int × Int × (Nat → Int) × (Nat → Int) × (Nat → Int) × (Nat → Int) × (Nat → Int) × (Nat → Int) × (Nat → Int) × (Nat → Int) × (Nat → Int))) (_ : ∀ (x1 : Int) (x2 : Int) (x3 : Int) (i_law : Int) (i_broken : Int) (i_value : Int) (i_sum : Int) (i_nStates : Int) (i_set : Nat → Int) (i_rest : Nat → Int) (i_weights : Nat → Int) (i_states : Nat → Int) (i_table : Nat → Int) (i_nexts : Nat → Int) (i_costs : Nat → Int) (i_small : Nat → Int) (i_tall : Nat → Int) (H : Heap) (locs : List Loc) (ls : Array Slot), k31 x1 x2 x3 i_law i_broken i_value i_sum i_nStates i_set i_rest i_weights i_states i_table i_nexts i_costs i_small i_tall = some out → va_P (dC, dI) vwCl (wd_HM_findStates cA q0 q1 q2 q3 q4 q5 q6 q7 q8 q9 q10 q11 q12 q13 q14 q15 q16 q17 q18 q19 q20 q21 q22 q23 q24 q25 q26 q27 q28 q29 q30 q31 u0 u1 u2 u3 u4 u5 u6 u7 u8 u9 u10 u11 u12 u13 u14 u15 u16 i_row i_law i_broken i_value i_sum i_nStates i_set i_rest i_weights i_states i_table i_nexts i_costs i_small i_tall) H → va_D A (wd_HM_findStates cA q0 q1 q2 q3 q4 q5 q6 q7 q8 q9 q10 q11 q12 q13 q14 q15 q16 q17 q18 q19 q20 q21 q22 q23 q24 q25 q26 q27 q28 q29 q30 q31 u0 u1 u2 u3 u4 u5 u6 u7 u8 u9 u10 u11 u12 u13 u14 u15 u16 i_row i_law i_broken i_value i_sum i_nStates i_set i_rest i_weights i_states i_table i_nexts i_costs i_small i_tall) → va_S A s.heap H locs → lv_has ls 5 [(0, .ref q0), (1, .int (Int32.ofInt x1)), (2, .int (Int32.ofInt x2)), (3, .int (Int32.ofInt x3))] → W p l e rm_HM_findStates s m args below meth c H locs 0 0 Q (F0 m 31 ls [])), ∀ (x1 : Int) (x2 : Int) (x3 : Int) (s1 : Int) (s2 : Int) (i_law : Int) (i_broken : Int) (i_value : Int) (i_sum : Int) (i_nStates : Int) (i_set : Nat → Int) (i_rest : Nat → Int) (i_weights : Nat → Int) (i_states : Nat → Int) (i_table : Nat → Int) (i_nexts : Nat → Int) (i_costs : Nat → Int) (i_small : Nat → Int) (i_tall : Nat → Int) (H : Heap) (locs : List Loc) (ls : Array Slot), f_HM_findStates_62 i_row k31 x1 x2 x3 s1 s2 i_law i_broken i_value i_sum i_nStates i_set i_rest i_weights i_states i_table i_nexts i_costs i_small i_tall = some out → va_P (dC, dI) vwCl (wd_HM_findStates cA q0 q1 q2 q3 q4 q5 q6 q7 q8 q9 q10 q11 q12 q13 q14 q15 q16 q17 q18 q19 q20 q21 q22 q23 q24 q25 q26 q27 q28 q29 q30 q31 u0 u1 u2 u3 u4 u5 u6 u7 u8 u9 u10 u11 u12 u13 u14 u15 u16 i_row i_law i_broken i_value i_sum i_nStates i_set i_rest i_weights i_states i_table i_nexts i_costs i_small i_tall) H → va_D A (wd_HM_findStates cA q0 q1 q2 q3 q4 q5 q6 q7 q8 q9 q10 q11 q12 q13 q14 q15 q16 q17 q18 q19 q20 q21 q22 q23 q24 q25 q26 q27 q28 q29 q30 q31 u0 u1 u2 u3 u4 u5 u6 u7 u8 u9 u10 u11 u12 u13 u14 u15 u16 i_row i_law i_broken i_value i_sum i_nStates i_set i_rest i_weights i_states i_table i_nexts i_costs i_small i_tall) → va_S A s.heap H locs → lv_has ls 5 [(0, .ref q0), (1, .int (Int32.ofInt x1)), (2, .int (Int32.ofInt x2)), (3, .int (Int32.ofInt x3))] → W p l e rm_HM_findStates s m args below meth c H locs 0 0 Q (F0 m 62 ls [.int (Int32.ofInt s2), .int (Int32.ofInt s1), .ref q23]) := by
    intro k31 ih31 x1 x2 x3 s1 s2 i_law i_broken i_value i_sum i_nStates i_set i_rest i_weights i_states i_table i_nexts i_costs i_small i_tall H locs ls hf hP hD hS hl
    unfold f_HM_findStates_62 at hf
    refine xi_iast hx hb hK hP hD hS 10 0 rfl rfl dX11_findStates_62 hf (fun a1 H locs hP hD hS hf => ?_)
    have hP : va_P (dC, dI) vwCl (wd_HM_findStates cA q0 q1 q2 q3 q4 q5 q6 q7 q8 q9 q10 q11 q12 q13 q14 q15 q16 q17 q18 q19 q20 q21 q22 q23 q24 q25 q26 q27 q28 q29 q30 q31 u0 u1 u2 u3 u4 u5 u6 u7 u8 u9 u10 u11 u12 u13 u14 u15 u16 i_row i_law i_broken i_value i_sum i_nStates i_set i_rest i_weights i_states i_table i_nexts i_costs i_small a1) H := hP
    have hD : va_D A (wd_HM_findStates cA q0 q1 q2 q3 q4 q5 q6 q7 q8 q9 q10 q11 q12 q13 q14 q15 q16 q17 q18 q19 q20 q21 q22 q23 q24 q25 q26 q27 q28 q29 q30 q31 u0 u1 u2 u3 u4 u5 u6 u7 u8 u9 u10 u11 u12 u13 u14 u15 u16 i_row i_law i_broken i_value i_sum i_nStates i_set i_rest i_weights i_states i_table i_nexts i_costs i_small a1) := hD
    refine lv_iconst (v := Int32.ofInt 0) hx hb dX11_findStates_63 rfl ?_
    refine lv_istore (lv' := [(4, .int (Int32.ofInt 0)), (0, .ref q0), (1, .int (Int32.ofInt x1)), (2, .int (Int32.ofInt x2)), (3, .int (Int32.ofInt x3))]) hx hb dX11_findStates_64 hl (by decide) rfl (fun ls hl => ?_)
    exact l_66 _ ih31 _ _ _ _ _ _ _ _ _ _ _ _ _ _ _ _ _ _ _ _ _ _ hf hP hD hS (lv_sub hl [1, 2, 3, 4, 0] rfl)
  have b_31 : ∀ (k31 : Int → Int → Int → Int → Int → Int → Int → Int → (Nat → Int) → (Nat → Int) → (Nat → Int) → (Nat → Int) → (Nat → Int) → (Nat → Int) → (Nat → Int) → (Nat → Int) → (Nat → Int) → Option (Int × Int × Int × Int × Int × (Nat → Int) × (Nat → Int) × (Nat → Int) × (Nat → Int) × (Nat → Int) × (Nat → Int) × (Nat → Int) × (Nat → Int) × (Nat → Int))) (_ : ∀ (x1 : Int) (x2 : Int) (x3 : Int) (i_law : Int) (i_broken : Int) (i_value : Int) (i_sum : Int) (i_nStates : Int) (i_set : Nat → Int) (i_rest : Nat → Int) (i_weights : Nat → Int) (i_states : Nat → Int) (i_table : Nat → Int) (i_nexts : Nat → Int) (i_costs : Nat → Int) (i_small : Nat → Int) (i_tall : Nat → Int) (H : Heap) (locs : List Loc) (ls : Array Slot), k31 x1 x2 x3 i_law i_broken i_value i_sum i_nStates i_set i_rest i_weights i_states i_table i_nexts i_costs i_small i_tall = some out → va_P (dC, dI) vwCl (wd_HM_findStates cA q0 q1 q2 q3 q4 q5 q6 q7 q8 q9 q10 q11 q12 q13 q14 q15 q16 q17 q18 q19 q20 q21 q22 q23 q24 q25 q26 q27 q28 q29 q30 q31 u0 u1 u2 u3 u4 u5 u6 u7 u8 u9 u10 u11 u12 u13 u14 u15 u16 i_row i_law i_broken i_value i_sum i_nStates i_set i_rest i_weights i_states i_table i_nexts i_costs i_small i_tall) H → va_D A (wd_HM_findStates cA q0 q1 q2 q3 q4 q5 q6 q7 q8 q9 q10 q11 q12 q13 q14 q15 q16 q17 q18 q19 q20 q21 q22 q23 q24 q25 q26 q27 q28 q29 q30 q31 u0 u1 u2 u3 u4 u5 u6 u7 u8 u9 u10 u11 u12 u13 u14 u15 u16 i_row i_law i_broken i_value i_sum i_nStates i_set i_rest i_weights i_states i_table i_nexts i_costs i_small i_tall) → va_S A s.heap H locs → lv_has ls 5 [(0, .ref q0), (1, .int (Int32.ofInt x1)), (2, .int (Int32.ofInt x2)), (3, .int (Int32.ofInt x3))] → W p l e rm_HM_findStates s m args below meth c H locs 0 0 Q (F0 m 31 ls [])), ∀ (x1 : Int) (x2 : Int) (x3 : Int) (i_law : Int) (i_broken : Int) (i_value : Int) (i_sum : Int) (i_nStates : Int) (i_set : Nat → Int) (i_rest : Nat → Int) (i_weights : Nat → Int) (i_states : Nat → Int) (i_table : Nat → Int) (i_nexts : Nat → Int) (i_costs : Nat → Int) (i_small : Nat → Int) (i_tall : Nat → Int) (H : Heap) (locs : List Loc) (ls : Array Slot), f_HM_findStates_31_b i_row k31 x1 x2 x3 i_law i_broken i_value i_sum i_nStates i_set i_rest i_weights i_states i_table i_nexts i_costs i_small i_tall = some out → va_P (dC, dI) vwCl (wd_HM_findStates cA q0 q1 q2 q3 q4 q5 q6 q7 q8 q9 q10 q11 q12 q13 q14 q15 q16 q17 q18 q19 q20 q21 q22 q23 q24 q25 q26 q27 q28 q29 q30 q31 u0 u1 u2 u3 u4 u5 u6 u7 u8 u9 u10 u11 u12 u13 u14 u15 u16 i_row i_law i_broken i_value i_sum i_nStates i_set i_rest i_weights i_states i_table i_nexts i_costs i_small i_tall) H → va_D A (wd_HM_findStates cA q0 q1 q2 q3 q4 q5 q6 q7 q8 q9 q10 q11 q12 q13 q14 q15 q16 q17 q18 q19 q20 q21 q22 q23 q24 q25 q26 q27 q28 q29 q30 q31 u0 u1 u2 u3 u4 u5 u6 u7 u8 u9 u10 u11 u12 u13 u14 u15 u16 i_row i_law i_broken i_value i_sum i_nStates i_set i_rest i_weights i_states i_table i_nexts i_costs i_small i_tall) → va_S A s.heap H locs → lv_has ls 5 [(0, .ref q0), (1, .int (Int32.ofInt x1)), (2, .int (Int32.ofInt x2)), (3, .int (Int32.ofInt x3))] → W p l e rm_HM_findStates s m args below meth c H locs 0 0 Q (F0 m 31 ls []) := by
    intro k31 ih31 x1 x2 x3 i_law i_broken i_value i_sum i_nStates i_set i_rest i_weights i_states i_table i_nexts i_costs i_small i_tall H locs ls hf hP hD hS hl
    unfold f_HM_findStates_31_b at hf
    refine lv_iload_n hx hb dX11_findStates_31 rfl (lv_at hl 3 rfl) ?_
    refine lv_iconst (v := Int32.ofInt 4) hx hb dX11_findStates_32 rfl ?_
    refine xi_icmp_ge (tgt := 125) hx hb dX11_findStates_33 (by decide) hf (fun hf => ?_) (fun hf => ?_)
    · refine lv_aload_n hx hb dX11_findStates_125 rfl (lv_at hl 0 rfl) ?_
      refine lv_iload_n hx hb dX11_findStates_126 rfl (lv_at hl 1 rfl) ?_
      refine xe_d7 hf (fun v1 v2 v3 v4 a5 a6 a7 hg hf => ?_)
      have hC : ([0, 1, 2, 3, 4, 8] : List Nat).map (fun i => (wd_HM_findStates cA q0 q1 q2 q3 q4 q5 q6 q7 q8 q9 q10 q11 q12 q13 q14 q15 q16 q17 q18 q19 q20 q21 q22 q23 q24 q25 q26 q27 q28 q29 q30 q31 u0 u1 u2 u3 u4 u5 u6 u7 u8 u9 u10 u11 u12 u13 u14 u15 u16 i_row i_law i_broken i_value i_sum i_nStates i_set i_rest i_weights i_states i_table i_nexts i_costs i_small i_tall)[i]?) = (wd_HM_findCosts cA q0 q1 q2 q3 q4 q5 q6 q7 q8 q9 q10 q11 q12 q13 q14 q15 q16 q17 q18 q19 q20 q21 q22 q23 q24 q25 q26 q27 q28 q29 q30 q31 u0 u1 u2 u3 u4 u5 u6 u7 u8 u9 u10 u11 u12 u13 u14 i_nStates u15 u16 i_row i_weights i_law i_broken i_value i_sum i_set i_rest i_costs).map some := rfl
      refine xv_afterV (ws' := (wd_HM_findStates cA q0 q1 q2 q3 q4 q5 q6 q7 q8 q9 q10 q11 q12 q13 q14 q15 q16 q17 q18 q19 q20 q21 q22 q23 q24 q25 q26 q27 q28 q29 q30 q31 u0 u1 u2 u3 u4 u5 u6 u7 u8 u9 u10 u11 u12 u13 u14 u15 u16 i_row v1 v2 v3 v4 i_nStates a5 a6 i_weights i_states i_table i_nexts a7 i_small i_tall)) (isC := [0, 1, 2, 3, 4, 8]) (ps := [some 0, some 1, some 2, some 3, some 4, none, none, none, some 5, none, none]) (va_runV (As := [.int (Int32.ofInt x1)]) (rest := []) ⟨hx, hb, hml, hown, hts⟩ (c_HM_findCosts l ev dC dI cA q0 q1 q2 q3 q4 q5 q6 q7 q8 q9 q10 q11 q12 q13 q14 q15 q16 q17 q18 q19 q20 q21 q22 q23 q24 q25 q26 q27 q28 q29 q30 q31 u0 u1 u2 u3 u4 u5 u6 u7 u8 u9 u10 u11 u12 u13 u14 i_nStates u15 u16 hg H.size) (cwV 1 hts (zgV zw_1662 zw_1664 zw_84 zw_115 zw_1665) rfl rfl rfl hd_HM_findCosts ⟨Nat.le_of_ble_eq_true rfl, Nat.le_of_ble_eq_true rfl⟩) (xv_preV (T := TX11) (N := 53) hE hA hS hK hP hD (isC := [0, 1, 2, 3, 4, 8]) (by decide +kernel) hC (q0 := 0) (ci := 11) rfl rfl) rfl rfl hl.1 rfl (lv_room (Nat.le_of_ble_eq_true rfl)) dX11_findStates_127 ⟨Nat.le_refl _, Nat.le_refl _⟩) hP hD hS hA (by decide +kernel) rfl hC rfl rfl (fun H locs hP hD hS => ?_)
      refine lv_aload_n hx hb dX11_findStates_130 rfl (lv_at hl 0 rfl) ?_
      refine lv_aload_n hx hb dX11_findStates_131 rfl (lv_at hl 0 rfl) ?_
      refine xe_d1 hf (fun v8 hg hf => ?_)
      have hC : ([0, 9, 10] : List Nat).map (fun i => (wd_HM_findStates cA q0 q1 q2 q3 q4 q5 q6 q7 q8 q9 q10 q11 q12 q13 q14 q15 q16 q17 q18 q19 q20 q21 q22 q23 q24 q25 q26 q27 q28 q29 q30 q31 u0 u1 u2 u3 u4 u5 u6 u7 u8 u9 u10 u11 u12 u13 u14 u15 u16 i_row v1 v2 v3 v4 i_nStates a5 a6 i_weights i_states i_table i_nexts a7 i_small i_tall)[i]?) = (wd_HM_codeOfSmall cA q0 q1 q2 q3 q4 q5 q6 q7 q8 q9 q10 q11 q12 q13 q14 q15 q16 q17 q18 q19 q20 q21 q22 q23 q24 q25 q26 q27 q28 q29 q30 q31 u0 u1 u2 u3 u4 u5 u6 u7 u8 u9 u10 u11 u12 u13 u14 v1 v2 v3 v4 i_nStates u15 u16 i_small i_tall).map some := rfl
      refine xv_afterI (ws' := (wd_HM_findStates cA q0 q1 q2 q3 q4 q5 q6 q7 q8 q9 q10 q11 q12 q13 q14 q15 q16 q17 q18 q19 q20 q21 q22 q23 q24 q25 q26 q27 q28 q29 q30 q31 u0 u1 u2 u3 u4 u5 u6 u7 u8 u9 u10 u11 u12 u13 u14 u15 u16 i_row v1 v2 v3 v4 i_nStates a5 a6 i_weights i_states i_table i_nexts a7 i_small i_tall)) (isC := [0, 9, 10]) (ps := [some 0, none, none, none, none, none, none, none, none, some 1, some 2]) (va_runV (As := []) (rest := [.ref q0]) ⟨hx, hb, hml, hown, hts⟩ (c_HM_codeOfSmall l ev dC dI cA q0 q1 q2 q3 q4 q5 q6 q7 q8 q9 q10 q11 q12 q13 q14 q15 q16 q17 q18 q19 q20 q21 q22 q23 q24 q25 q26 q27 q28 q29 q30 q31 u0 u1 u2 u3 u4 u5 u6 u7 u8 u9 u10 u11 u12 u13 u14 v1 v2 v3 v4 i_nStates u15 u16 hg H.size) (cwV 0 hts (zgV zw_1666 zw_1668 zw_85 zw_115 zw_1669) rfl rfl rfl hd_HM_codeOfSmall ⟨Nat.le_of_ble_eq_true rfl, Nat.le_of_ble_eq_true rfl⟩) (xv_preV (T := TX11) (N := 53) hE hA hS hK hP hD (isC := [0, 9, 10]) (by decide +kernel) hC (q0 := 0) (ci := 11) rfl rfl) rfl rfl hl.1 rfl (lv_room (Nat.le_of_ble_eq_true rfl)) dX11_findStates_132 ⟨Nat.le_refl _, Nat.le_refl _⟩) hP hD hS hA (by decide +kernel) rfl hC rfl rfl (fun H locs hP hD hS => ?_)
      refine xe_d4 hf (fun v9 v10 a11 a12 hg hf => ?_)
      have hC : ([0, 5, 6] : List Nat).map (fun i => (wd_HM_findStates cA q0 q1 q2 q3 q4 q5 q6 q7 q8 q9 q10 q11 q12 q13 q14 q15 q16 q17 q18 q19 q20 q21 q22 q23 q24 q25 q26 q27 q28 q29 q30 q31 u0 u1 u2 u3 u4 u5 u6 u7 u8 u9 u10 u11 u12 u13 u14 u15 u16 i_row v1 v2 v3 v4 i_nStates a5 a6 i_weights i_states i_table i_nexts a7 i_small i_tall)[i]?) = (wd_HM_numberOf cA q0 q1 q2 q3 q4 q5 q6 q7 q8 q9 q10 q11 q12 q13 q14 q15 q16 q17 q18 q19 q20 q21 q22 q23 q24 q25 q26 q27 q28 q29 q30 q31 u0 u1 u2 u3 u4 u5 u6 u7 u8 u9 u10 u11 u12 u13 u14 v1 v2 v3 v4 u15 u16 i_nStates i_states i_table).map some := rfl
      refine xv_afterI (ws' := (wd_HM_findStates cA q0 q1 q2 q3 q4 q5 q6 q7 q8 q9 q10 q11 q12 q13 q14 q15 q16 q17 q18 q19 q20 q21 q22 q23 q24 q25 q26 q27 q28 q29 q30 q31 u0 u1 u2 u3 u4 u5 u6 u7 u8 u9 u10 u11 u12 u13 u14 u15 u16 i_row v1 v2 v3 v4 v10 a5 a6 i_weights a11 a12 i_nexts a7 i_small i_tall)) (isC := [0, 5, 6]) (ps := [some 0, none, none, none, none, some 1, some 2, none, none, none, none]) (va_runV (As := [.int (Int32.ofInt v8)]) (rest := []) ⟨hx, hb, hml, hown, hts⟩ (c_HM_numberOf l ev dC dI cA q0 q1 q2 q3 q4 q5 q6 q7 q8 q9 q10 q11 q12 q13 q14 q15 q16 q17 q18 q19 q20 q21 q22 q23 q24 q25 q26 q27 q28 q29 q30 q31 u0 u1 u2 u3 u4 u5 u6 u7 u8 u9 u10 u11 u12 u13 u14 v1 v2 v3 v4 u15 u16 hg H.size) (cwV 1 hts (zgV zw_1670 zw_1672 zw_86 zw_115 zw_1673) rfl rfl rfl hd_HM_numberOf ⟨Nat.le_of_ble_eq_true rfl, Nat.le_of_ble_eq_true rfl⟩) (xv_preV (T := TX11) (N := 53) hE hA hS hK hP hD (isC := [0, 5, 6]) (by decide +kernel) hC (q0 := 0) (ci := 11) rfl rfl) rfl rfl hl.1 rfl (lv_room (Nat.le_of_ble_eq_true rfl)) dX11_findStates_135 ⟨Nat.le_refl _, Nat.le_refl _⟩) hP hD hS hA (by decide +kernel) rfl hC rfl rfl (fun H locs hP hD hS => ?_)
      refine lv_pop hx hb dX11_findStates_138 rfl ?_
      refine lv_iconst (v := Int32.ofInt 0) hx hb dX11_findStates_139 rfl ?_
      refine lv_istore_n (lv' := [(3, .int (Int32.ofInt 0)), (0, .ref q0), (1, .int (Int32.ofInt x1)), (2, .int (Int32.ofInt x2))]) hx hb dX11_findStates_140 rfl hl (by decide) rfl (fun ls hl => ?_)
      exact l_141  _ _ _ _ _ _ _ _ _ _ _ _ _ _ _ _ _ _ _ _ hf hP hD hS (lv_sub hl [1, 2, 0] rfl)
    · refine lv_aload_n hx hb dX11_findStates_36 rfl (lv_at hl 0 rfl) ?_
      refine va_get (D := (dC, dI)) (ci := 11) (v := .ref q23) (C := RX11) (T := TX11) (N := 53) hx hb hz zi_X11 hown hK hP 0 rfl rfl 42 (by decide) (hz _ zw_1207) (fun _ h9 => h9) rfl dX11_findStates_37 ?_
      refine lv_iload_n hx hb dX11_findStates_40 rfl (lv_at hl 3 rfl) ?_
      refine lv_iload_n hx hb dX11_findStates_41 rfl (lv_at hl 3 rfl) ?_
      refine lv_aload_n hx hb dX11_findStates_42 rfl (lv_at hl 0 rfl) ?_
      refine xe_d1 hf (fun v13 hg hf => ?_)
      have hC : ([0, 1] : List Nat).map (fun i => (wd_HM_findStates cA q0 q1 q2 q3 q4 q5 q6 q7 q8 q9 q10 q11 q12 q13 q14 q15 q16 q17 q18 q19 q20 q21 q22 q23 q24 q25 q26 q27 q28 q29 q30 q31 u0 u1 u2 u3 u4 u5 u6 u7 u8 u9 u10 u11 u12 u13 u14 u15 u16 i_row i_law i_broken i_value i_sum i_nStates i_set i_rest i_weights i_states i_table i_nexts i_costs i_small i_tall)[i]?) = (wd_HM_columns cA q0 q1 q2 q3 q4 q5 q6 q7 q8 q9 q10 q11 q12 q13 q14 q15 q16 q17 q18 q19 q20 q21 q22 q23 q24 q25 q26 q27 q28 q29 q30 q31 u0 u1 u2 u3 u4 u5 u6 u7 u8 u9 u10 u11 u12 u13 u14 i_law i_broken i_value i_sum i_nStates u15 u16 i_row).map some := rfl
      refine xv_afterI (ws' := (wd_HM_findStates cA q0 q1 q2 q3 q4 q5 q6 q7 q8 q9 q10 q11 q12 q13 q14 q15 q16 q17 q18 q19 q20 q21 q22 q23 q24 q25 q26 q27 q28 q29 q30 q31 u0 u1 u2 u3 u4 u5 u6 u7 u8 u9 u10 u11 u12 u13 u14 u15 u16 i_row i_law i_broken i_value i_sum i_nStates i_set i_rest i_weights i_states i_table i_nexts i_costs i_small i_tall)) (isC := [0, 1]) (ps := [some 0, some 1, none, none, none, none, none, none, none, none, none]) (va_runV (As := []) (rest := [.int (Int32.ofInt x3), .int (Int32.ofInt x3), .ref q23]) ⟨hx, hb, hml, hown, hts⟩ (c_HM_columns l ev dC dI cA q0 q1 q2 q3 q4 q5 q6 q7 q8 q9 q10 q11 q12 q13 q14 q15 q16 q17 q18 q19 q20 q21 q22 q23 q24 q25 q26 q27 q28 q29 q30 q31 u0 u1 u2 u3 u4 u5 u6 u7 u8 u9 u10 u11 u12 u13 u14 i_law i_broken i_value i_sum i_nStates u15 u16 hg H.size) (cwV 0 hts (zgV zw_1344 zw_1346 zw_41 zw_115 zw_1347) rfl rfl rfl hd_HM_columns ⟨Nat.le_of_ble_eq_true rfl, Nat.le_of_ble_eq_true rfl⟩) (xv_preV (T := TX11) (N := 53) hE hA hS hK hP hD (isC := [0, 1]) (by decide +kernel) hC (q0 := 0) (ci := 11) rfl rfl) rfl rfl hl.1 rfl (lv_room (Nat.le_of_ble_eq_true rfl)) dX11_findStates_43 ⟨Nat.le_refl _, Nat.le_refl _⟩) hP hD hS hA (by decide +kernel) rfl hC rfl rfl (fun H locs hP hD hS => ?_)
      refine xi_icmp_ge (tgt := 61) hx hb dX11_findStates_46 (by decide) hf (fun hf => ?_) (fun hf => ?_)
      · refine lv_iconst (v := Int32.ofInt 0) hx hb dX11_findStates_61 rfl ?_
        exact b_62 _ ih31 _ _ _ _ _ _ _ _ _ _ _ _ _ _ _ _ _ _ _ _ _ _ hf hP hD hS (lv_sub hl [0, 1, 2, 3] rfl)
      · refine lv_aload_n hx hb dX11_findStates_49 rfl (lv_at hl 0 rfl) ?_
        refine va_get (D := (dC, dI)) (ci := 11) (v := .ref q2) (C := RX11) (T := TX11) (N := 53) hx hb hz zi_X11 hown hK hP 0 rfl rfl 3 (by decide) (hz _ zw_1168) (fun _ h9 => h9) rfl dX11_findStates_50 ?_
        refine lv_bipush (v := Int32.ofInt 9) hx hb dX11_findStates_53 (by decide) ?_
        refine lv_iload_n hx hb dX11_findStates_55 rfl (lv_at hl 3 rfl) ?_
        refine xi_iadd hx hb dX11_findStates_56 hf (fun v14 hf => ?_)
        refine xi_iald hx hb hK hP 1 0 rfl rfl dX11_findStates_57 hf (fun v15 hf => ?_)
        refine lv_goto (tgt := 62) hx hb dX11_findStates_58 (by decide) ?_
        exact b_62 _ ih31 _ _ _ _ _ _ _ _ _ _ _ _ _ _ _ _ _ _ _ _ _ _ hf hP hD hS (lv_sub hl [0, 1, 2, 3] rfl)
  have l_31 : ∀ (n : Nat), ∀ (x1 : Int) (x2 : Int) (x3 : Int) (i_law : Int) (i_broken : Int) (i_value : Int) (i_sum : Int) (i_nStates : Int) (i_set : Nat → Int) (i_rest : Nat → Int) (i_weights : Nat → Int) (i_states : Nat → Int) (i_table : Nat → Int) (i_nexts : Nat → Int) (i_costs : Nat → Int) (i_small : Nat → Int) (i_tall : Nat → Int) (H : Heap) (locs : List Loc) (ls : Array Slot), f_HM_findStates_31 i_row n x1 x2 x3 i_law i_broken i_value i_sum i_nStates i_set i_rest i_weights i_states i_table i_nexts i_costs i_small i_tall = some out → va_P (dC, dI) vwCl (wd_HM_findStates cA q0 q1 q2 q3 q4 q5 q6 q7 q8 q9 q10 q11 q12 q13 q14 q15 q16 q17 q18 q19 q20 q21 q22 q23 q24 q25 q26 q27 q28 q29 q30 q31 u0 u1 u2 u3 u4 u5 u6 u7 u8 u9 u10 u11 u12 u13 u14 u15 u16 i_row i_law i_broken i_value i_sum i_nStates i_set i_rest i_weights i_states i_table i_nexts i_costs i_small i_tall) H → va_D A (wd_HM_findStates cA q0 q1 q2 q3 q4 q5 q6 q7 q8 q9 q10 q11 q12 q13 q14 q15 q16 q17 q18 q19 q20 q21 q22 q23 q24 q25 q26 q27 q28 q29 q30 q31 u0 u1 u2 u3 u4 u5 u6 u7 u8 u9 u10 u11 u12 u13 u14 u15 u16 i_row i_law i_broken i_value i_sum i_nStates i_set i_rest i_weights i_states i_table i_nexts i_costs i_small i_tall) → va_S A s.heap H locs → lv_has ls 5 [(0, .ref q0), (1, .int (Int32.ofInt x1)), (2, .int (Int32.ofInt x2)), (3, .int (Int32.ofInt x3))] → W p l e rm_HM_findStates s m args below meth c H locs 0 0 Q (F0 m 31 ls []) := by
    intro n
    induction n with
    | zero => intro x1 x2 x3 i_law i_broken i_value i_sum i_nStates i_set i_rest i_weights i_states i_table i_nexts i_costs i_small i_tall H locs ls hf hP hD hS hl; exact nomatch hf
    | succ n ih => intro x1 x2 x3 i_law i_broken i_value i_sum i_nStates i_set i_rest i_weights i_states i_table i_nexts i_costs i_small i_tall H locs ls hf hP hD hS hl; exact b_31 (f_HM_findStates_31 i_row n) ih x1 x2 x3 i_law i_broken i_value i_sum i_nStates i_set i_rest i_weights i_states i_table i_nexts i_costs i_small i_tall H locs ls hf hP hD hS hl
  have b_2 : ∀ (k2 : Int → Int → Int → Int → Int → Int → Int → (Nat → Int) → (Nat → Int) → (Nat → Int) → (Nat → Int) → (Nat → Int) → (Nat → Int) → (Nat → Int) → (Nat → Int) → (Nat → Int) → Option (Int × Int × Int × Int × Int × (Nat → Int) × (Nat → Int) × (Nat → Int) × (Nat → Int) × (Nat → Int) × (Nat → Int) × (Nat → Int) × (Nat → Int) × (Nat → Int))) (_ : ∀ (x1 : Int) (x2 : Int) (i_law : Int) (i_broken : Int) (i_value : Int) (i_sum : Int) (i_nStates : Int) (i_set : Nat → Int) (i_rest : Nat → Int) (i_weights : Nat → Int) (i_states : Nat → Int) (i_table : Nat → Int) (i_nexts : Nat → Int) (i_costs : Nat → Int) (i_small : Nat → Int) (i_tall : Nat → Int) (H : Heap) (locs : List Loc) (ls : Array Slot), k2 x1 x2 i_law i_broken i_value i_sum i_nStates i_set i_rest i_weights i_states i_table i_nexts i_costs i_small i_tall = some out → va_P (dC, dI) vwCl (wd_HM_findStates cA q0 q1 q2 q3 q4 q5 q6 q7 q8 q9 q10 q11 q12 q13 q14 q15 q16 q17 q18 q19 q20 q21 q22 q23 q24 q25 q26 q27 q28 q29 q30 q31 u0 u1 u2 u3 u4 u5 u6 u7 u8 u9 u10 u11 u12 u13 u14 u15 u16 i_row i_law i_broken i_value i_sum i_nStates i_set i_rest i_weights i_states i_table i_nexts i_costs i_small i_tall) H → va_D A (wd_HM_findStates cA q0 q1 q2 q3 q4 q5 q6 q7 q8 q9 q10 q11 q12 q13 q14 q15 q16 q17 q18 q19 q20 q21 q22 q23 q24 q25 q26 q27 q28 q29 q30 q31 u0 u1 u2 u3 u4 u5 u6 u7 u8 u9 u10 u11 u12 u13 u14 u15 u16 i_row i_law i_broken i_value i_sum i_nStates i_set i_rest i_weights i_states i_table i_nexts i_costs i_small i_tall) → va_S A s.heap H locs → lv_has ls 5 [(0, .ref q0), (1, .int (Int32.ofInt x1)), (2, .int (Int32.ofInt x2))] → W p l e rm_HM_findStates s m args below meth c H locs 0 0 Q (F0 m 2 ls [])), ∀ (x1 : Int) (x2 : Int) (i_law : Int) (i_broken : Int) (i_value : Int) (i_sum : Int) (i_nStates : Int) (i_set : Nat → Int) (i_rest : Nat → Int) (i_weights : Nat → Int) (i_states : Nat → Int) (i_table : Nat → Int) (i_nexts : Nat → Int) (i_costs : Nat → Int) (i_small : Nat → Int) (i_tall : Nat → Int) (H : Heap) (locs : List Loc) (ls : Array Slot), f_HM_findStates_2_b i_row k2 x1 x2 i_law i_broken i_value i_sum i_nStates i_set i_rest i_weights i_states i_table i_nexts i_costs i_small i_tall = some out → va_P (dC, dI) vwCl (wd_HM_findStates cA q0 q1 q2 q3 q4 q5 q6 q7 q8 q9 q10 q11 q12 q13 q14 q15 q16 q17 q18 q19 q20 q21 q22 q23 q24 q25 q26 q27 q28 q29 q30 q31 u0 u1 u2 u3 u4 u5 u6 u7 u8 u9 u10 u11 u12 u13 u14 u15 u16 i_row i_law i_broken i_value i_sum i_nStates i_set i_rest i_weights i_states i_table i_nexts i_costs i_small i_tall) H → va_D A (wd_HM_findStates cA q0 q1 q2 q3 q4 q5 q6 q7 q8 q9 q10 q11 q12 q13 q14 q15 q16 q17 q18 q19 q20 q21 q22 q23 q24 q25 q26 q27 q28 q29 q30 q31 u0 u1 u2 u3 u4 u5 u6 u7 u8 u9 u10 u11 u12 u13 u14 u15 u16 i_row i_law i_broken i_value i_sum i_nStates i_set i_rest i_weights i_states i_table i_nexts i_costs i_small i_tall) → va_S A s.heap H locs → lv_has ls 5 [(0, .ref q0), (1, .int (Int32.ofInt x1)), (2, .int (Int32.ofInt x2))] → W p l e rm_HM_findStates s m args below meth c H locs 0 0 Q (F0 m 2 ls []) := by
    intro k2 ih2 x1 x2 i_law i_broken i_value i_sum i_nStates i_set i_rest i_weights i_states i_table i_nexts i_costs i_small i_tall H locs ls hf hP hD hS hl
    unfold f_HM_findStates_2_b at hf
    refine lv_iload_n hx hb dX11_findStates_2 rfl (lv_at hl 2 rfl) ?_
    refine lv_sipush (v := Int32.ofInt 16384) hx hb dX11_findStates_3 (by decide) ?_
    refine xi_icmp_ge (tgt := 22) hx hb dX11_findStates_6 (by decide) hf (fun hf => ?_) (fun hf => ?_)
    · refine lv_aload_n hx hb dX11_findStates_22 rfl (lv_at hl 0 rfl) ?_
      refine lv_iconst (v := Int32.ofInt 0) hx hb dX11_findStates_23 rfl ?_
      refine va_put (D := (dC, dI)) (ci := 11) (v := .int (Int32.ofInt 0)) (ty := .int) (C := RX11) (T := TX11) (N := 53) hx hb hz zi_X11 tyX11 tyX11_ok nmX11 hown hK hP hD hS 0 rfl rfl 37 (by decide) (hz _ zw_1202) (fun _ h9 => h9) rfl (by decide +kernel) rfl rfl (Nat.le_of_ble_eq_true rfl) dX11_findStates_24 (fun H locs hP hD hS => ?_)
      have hP : va_P (dC, dI) vwCl (wd_HM_findStates cA q0 q1 q2 q3 q4 q5 q6 q7 q8 q9 q10 q11 q12 q13 q14 q15 q16 q17 q18 q19 q20 q21 q22 q23 q24 q25 q26 q27 q28 q29 q30 q31 u0 u1 u2 u3 u4 u5 u6 u7 u8 u9 u10 u11 u12 u13 u14 u15 u16 i_row i_law i_broken i_value i_sum 0 i_set i_rest i_weights i_states i_table i_nexts i_costs i_small i_tall) H := hP
      have hD : va_D A (wd_HM_findStates cA q0 q1 q2 q3 q4 q5 q6 q7 q8 q9 q10 q11 q12 q13 q14 q15 q16 q17 q18 q19 q20 q21 q22 q23 q24 q25 q26 q27 q28 q29 q30 q31 u0 u1 u2 u3 u4 u5 u6 u7 u8 u9 u10 u11 u12 u13 u14 u15 u16 i_row i_law i_broken i_value i_sum 0 i_set i_rest i_weights i_states i_table i_nexts i_costs i_small i_tall) := hD
      refine lv_iconst (v := Int32.ofInt 0) hx hb dX11_findStates_27 rfl ?_
      refine lv_istore_n (lv' := [(2, .int (Int32.ofInt 0)), (0, .ref q0), (1, .int (Int32.ofInt x1))]) hx hb dX11_findStates_28 rfl hl (by decide) rfl (fun ls hl => ?_)
      refine lv_iconst (v := Int32.ofInt 0) hx hb dX11_findStates_29 rfl ?_
      refine lv_istore_n (lv' := [(3, .int (Int32.ofInt 0)), (2, .int (Int32.ofInt 0)), (0, .ref q0), (1, .int (Int32.ofInt x1))]) hx hb dX11_findStates_30 rfl hl (by decide) rfl (fun ls hl => ?_)
      exact l_31  _ _ _ _ _ _ _ _ _ _ _ _ _ _ _ _ _ _ _ _ _ hf hP hD hS (lv_sub hl [2, 3, 1, 0] rfl)
    · refine lv_aload_n hx hb dX11_findStates_9 rfl (lv_at hl 0 rfl) ?_
      refine va_get (D := (dC, dI)) (ci := 11) (v := .ref q18) (C := RX11) (T := TX11) (N := 53) hx hb hz zi_X11 hown hK hP 0 rfl rfl 36 (by decide) (hz _ zw_1201) (fun _ h9 => h9) rfl dX11_findStates_10 ?_
      refine lv_iload_n hx hb dX11_findStates_13 rfl (lv_at hl 2 rfl) ?_
      refine lv_iconst (v := Int32.ofInt (-1)) hx hb dX11_findStates_14 rfl ?_
      refine xi_iast hx hb hK hP hD hS 6 0 rfl rfl dX11_findStates_15 hf (fun a1 H locs hP hD hS hf => ?_)
      have hP : va_P (dC, dI) vwCl (wd_HM_findStates cA q0 q1 q2 q3 q4 q5 q6 q7 q8 q9 q10 q11 q12 q13 q14 q15 q16 q17 q18 q19 q20 q21 q22 q23 q24 q25 q26 q27 q28 q29 q30 q31 u0 u1 u2 u3 u4 u5 u6 u7 u8 u9 u10 u11 u12 u13 u14 u15 u16 i_row i_law i_broken i_value i_sum i_nStates i_set i_rest i_weights i_states a1 i_nexts i_costs i_small i_tall) H := hP
      have hD : va_D A (wd_HM_findStates cA q0 q1 q2 q3 q4 q5 q6 q7 q8 q9 q10 q11 q12 q13 q14 q15 q16 q17 q18 q19 q20 q21 q22 q23 q24 q25 q26 q27 q28 q29 q30 q31 u0 u1 u2 u3 u4 u5 u6 u7 u8 u9 u10 u11 u12 u13 u14 u15 u16 i_row i_law i_broken i_value i_sum i_nStates i_set i_rest i_weights i_states a1 i_nexts i_costs i_small i_tall) := hD
      refine xi_iinc hx hb dX11_findStates_16 hl (k := 2) rfl (by decide) hf (fun v2 ls hl hf => ?_)
      have hl : lv_has ls 5 [(2, .int (Int32.ofInt v2)), (0, .ref q0), (1, .int (Int32.ofInt x1))] := hl
      refine lv_goto (tgt := 2) hx hb dX11_findStates_19 (by decide) ?_
      exact ih2 _ _ _ _ _ _ _ _ _ _ _ _ _ _ _ _ _ _ _ hf hP hD hS (lv_sub hl [1, 2, 0] rfl)
  have l_2 : ∀ (n : Nat), ∀ (x1 : Int) (x2 : Int) (i_law : Int) (i_broken : Int) (i_value : Int) (i_sum : Int) (i_nStates : Int) (i_set : Nat → Int) (i_rest : Nat → Int) (i_weights : Nat → Int) (i_states : Nat → Int) (i_table : Nat → Int) (i_nexts : Nat → Int) (i_costs : Nat → Int) (i_small : Nat → Int) (i_tall : Nat → Int) (H : Heap) (locs : List Loc) (ls : Array Slot), f_HM_findStates_2 i_row n x1 x2 i_law i_broken i_value i_sum i_nStates i_set i_rest i_weights i_states i_table i_nexts i_costs i_small i_tall = some out → va_P (dC, dI) vwCl (wd_HM_findStates cA q0 q1 q2 q3 q4 q5 q6 q7 q8 q9 q10 q11 q12 q13 q14 q15 q16 q17 q18 q19 q20 q21 q22 q23 q24 q25 q26 q27 q28 q29 q30 q31 u0 u1 u2 u3 u4 u5 u6 u7 u8 u9 u10 u11 u12 u13 u14 u15 u16 i_row i_law i_broken i_value i_sum i_nStates i_set i_rest i_weights i_states i_table i_nexts i_costs i_small i_tall) H → va_D A (wd_HM_findStates cA q0 q1 q2 q3 q4 q5 q6 q7 q8 q9 q10 q11 q12 q13 q14 q15 q16 q17 q18 q19 q20 q21 q22 q23 q24 q25 q26 q27 q28 q29 q30 q31 u0 u1 u2 u3 u4 u5 u6 u7 u8 u9 u10 u11 u12 u13 u14 u15 u16 i_row i_law i_broken i_value i_sum i_nStates i_set i_rest i_weights i_states i_table i_nexts i_costs i_small i_tall) → va_S A s.heap H locs → lv_has ls 5 [(0, .ref q0), (1, .int (Int32.ofInt x1)), (2, .int (Int32.ofInt x2))] → W p l e rm_HM_findStates s m args below meth c H locs 0 0 Q (F0 m 2 ls []) := by
    intro n
    induction n with
    | zero => intro x1 x2 i_law i_broken i_value i_sum i_nStates i_set i_rest i_weights i_states i_table i_nexts i_costs i_small i_tall H locs ls hf hP hD hS hl; exact nomatch hf
    | succ n ih => intro x1 x2 i_law i_broken i_value i_sum i_nStates i_set i_rest i_weights i_states i_table i_nexts i_costs i_small i_tall H locs ls hf hP hD hS hl; exact b_2 (f_HM_findStates_2 i_row n) ih x1 x2 i_law i_broken i_value i_sum i_nStates i_set i_rest i_weights i_states i_table i_nexts i_costs i_small i_tall H locs ls hf hP hD hS hl
  unfold f_HM_findStates at hf
  refine lv_iconst (v := Int32.ofInt 0) hx hb dX11_findStates_0 rfl ?_
  refine lv_istore_n (lv' := [(2, .int (Int32.ofInt 0)), (0, .ref q0), (1, .int (Int32.ofInt x1))]) hx hb dX11_findStates_1 rfl hl (by decide) rfl (fun ls hl => ?_)
  exact l_2  _ _ _ _ _ _ _ _ _ _ _ _ _ _ _ _ _ _ _ _ hf hP hD hS (lv_sub hl [1, 2, 0] rfl)
