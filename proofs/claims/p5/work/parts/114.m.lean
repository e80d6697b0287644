theorem dX11_isCompared_0 : decode cX11_isCompared 0 = .ok (.aload_n 0, 1) := by decide +kernel
theorem dX11_isCompared_1 : decode cX11_isCompared 1 = .ok (.getfield 227, 3) := by decide +kernel
theorem dX11_isCompared_4 : decode cX11_isCompared 4 = .ok (.iconst 1, 1) := by decide +kernel
theorem dX11_isCompared_5 : decode cX11_isCompared 5 = .ok (.isub, 1) := by decide +kernel
theorem dX11_isCompared_6 : decode cX11_isCompared 6 = .ok (.istore_n 1, 1) := by decide +kernel
theorem dX11_isCompared_7 : decode cX11_isCompared 7 = .ok (.iload_n 1, 1) := by decide +kernel
theorem dX11_isCompared_8 : decode cX11_isCompared 8 = .ok (.ifCond .lt 28, 3) := by decide +kernel
theorem dX11_isCompared_11 : decode cX11_isCompared 11 = .ok (.aload_n 0, 1) := by decide +kernel
theorem dX11_isCompared_12 : decode cX11_isCompared 12 = .ok (.getfield 39, 3) := by decide +kernel
theorem dX11_isCompared_15 : decode cX11_isCompared 15 = .ok (.iload_n 1, 1) := by decide +kernel
theorem dX11_isCompared_16 : decode cX11_isCompared 16 = .ok (.iaload, 1) := by decide +kernel
theorem dX11_isCompared_17 : decode cX11_isCompared 17 = .ok (.i2l, 1) := by decide +kernel
theorem dX11_isCompared_18 : decode cX11_isCompared 18 = .ok (.ldc2_w 237, 3) := by decide +kernel
theorem dX11_isCompared_21 : decode cX11_isCompared 21 = .ok (.ldc2_w 239, 3) := by decide +kernel
theorem dX11_isCompared_24 : decode cX11_isCompared 24 = .ok (.invokestatic 132, 3) := by decide +kernel
theorem dX11_isCompared_27 : decode cX11_isCompared 27 = .ok (.ifCond .eq 9, 3) := by decide +kernel
theorem dX11_isCompared_30 : decode cX11_isCompared 30 = .ok (.iinc 1 (-1), 3) := by decide +kernel
theorem dX11_isCompared_33 : decode cX11_isCompared 33 = .ok (.goto (-26), 3) := by decide +kernel
theorem dX11_isCompared_36 : decode cX11_isCompared 36 = .ok (.iload_n 1, 1) := by decide +kernel
theorem dX11_isCompared_37 : decode cX11_isCompared 37 = .ok (.ifCond .lt 26, 3) := by decide +kernel
theorem dX11_isCompared_40 : decode cX11_isCompared 40 = .ok (.aload_n 0, 1) := by decide +kernel
theorem dX11_isCompared_41 : decode cX11_isCompared 41 = .ok (.getfield 39, 3) := by decide +kernel
theorem dX11_isCompared_44 : decode cX11_isCompared 44 = .ok (.iload_n 1, 1) := by decide +kernel
theorem dX11_isCompared_45 : decode cX11_isCompared 45 = .ok (.iaload, 1) := by decide +kernel
theorem dX11_isCompared_46 : decode cX11_isCompared 46 = .ok (.i2l, 1) := by decide +kernel
theorem dX11_isCompared_47 : decode cX11_isCompared 47 = .ok (.ldc2_w 241, 3) := by decide +kernel
theorem dX11_isCompared_50 : decode cX11_isCompared 50 = .ok (.ldc2_w 243, 3) := by decide +kernel
theorem dX11_isCompared_53 : decode cX11_isCompared 53 = .ok (.invokestatic 132, 3) := by decide +kernel
theorem dX11_isCompared_56 : decode cX11_isCompared 56 = .ok (.ifCond .eq 7, 3) := by decide +kernel
theorem dX11_isCompared_59 : decode cX11_isCompared 59 = .ok (.iconst 1, 1) := by decide +kernel
theorem dX11_isCompared_60 : decode cX11_isCompared 60 = .ok (.goto 4, 3) := by decide +kernel
theorem dX11_isCompared_63 : decode cX11_isCompared 63 = .ok (.iconst 0, 1) := by decide +kernel
theorem dX11_isCompared_64 : decode cX11_isCompared 64 = .ok (.ireturn, 1) := by decide +kernel
theorem zw_1525 : (Jvm.Cond.code ({ cls := "HillSchoolModel", name := "isCompared", desc := "()Z" } : Jvm.MethodName) prog_13_method_44_code (2 : Nat) (Option.some Jvm.ClassFile.FieldType.boolean)) ∈ zall := zmemG (zmj_6 222 rfl) rfl
theorem zw_1526 : (Jvm.Cond.constantLong "HillSchoolModel" (237 : Nat) (20 : Int64)) ∈ zall := zmemG (zmj_6 223 rfl) rfl
theorem zw_1527 : (Jvm.Cond.constantLong "HillSchoolModel" (239 : Nat) (23 : Int64)) ∈ zall := zmemG (zmj_6 224 rfl) rfl
theorem zw_1528 : (Jvm.Cond.constantLong "HillSchoolModel" (241 : Nat) (24 : Int64)) ∈ zall := zmemG (zmj_6 225 rfl) rfl
theorem zw_1529 : (Jvm.Cond.constantLong "HillSchoolModel" (243 : Nat) (26 : Int64)) ∈ zall := zmemG (zmj_6 226 rfl) rfl
abbrev w_HM_isCompared : List Cond := .code yX11_isCompared cX11_isCompared 2 (some .boolean) :: zall
abbrev rm_HM_isCompared : Room := { frames := 1, cells := 0, slots := 0, locals := 25 }
theorem hd_HM_isCompared : yX11_isCompared.cls = "HillSchoolModel" ∧ yX11_isCompared.cls ≠ "java/lang/invoke/MethodHandle" ∧ yX11_isCompared.cls ≠ "java/lang/invoke/VarHandle" ∧ (parseMethodDescriptor yX11_isCompared.desc).map (fun d => d.parameters.length) = some 0 := by decide +kernel
def wd_HM_isCompared (cA : Nat → ClassId) (q0 q1 q2 q3 q4 q5 q6 q7 q8 q9 q10 q11 q12 q13 q14 q15 q16 q17 q18 q19 q20 q21 q22 q23 q24 q25 q26 q27 q28 q29 q30 q31 : Nat) (u0 u1 u2 u3 u4 u5 u6 u7 u8 u9 u10 u11 u12 u13 u14 u15 u16 u17 u18 u19 u20 : Int) (i_piled : Int) (i_pile : Nat → Int)  : va_W := [(q0, .inr (11, [.int (Int32.ofInt u0), .int (Int32.ofInt u1), .ref q1, .ref q2, .ref q3, .ref q4, .int (Int32.ofInt u2), .ref q5, .int (Int32.ofInt u3), .int (Int32.ofInt u4), .int (Int32.ofInt u5), .int (Int32.ofInt u6), .long (Int64.ofInt u7), .int (Int32.ofInt u8), .int (Int32.ofInt u9), .int (Int32.ofInt u10), .ref q6, .int (Int32.ofInt u11), .ref q7, .ref q8, .int (Int32.ofInt u12), .ref q9, .ref q10, .int (Int32.ofInt i_piled), .int (Int32.ofInt u13), .ref q11, .int (Int32.ofInt u14), .ref q12, .ref q13, .int (Int32.ofInt u15), .long (Int64.ofInt u16), .long (Int64.ofInt u17), .ref q14, .ref q15, .ref q16, .ref q17, .ref q18, .int (Int32.ofInt u18), .ref q19, .ref q20, .ref q21, .ref q22, .ref q23, .ref q24, .ref q25, .ref q26, .ref q27, .ref q28, .ref q29, .ref q30, .long (Int64.ofInt u19), .ref q31, .int (Int32.ofInt u20)])), (q9, .inl (cA 0, 400, .inl (za i_pile)))]
def wf_HM_isCompared (cA : Nat → ClassId) (q0 q1 q2 q3 q4 q5 q6 q7 q8 q9 q10 q11 q12 q13 q14 q15 q16 q17 q18 q19 q20 q21 q22 q23 q24 q25 q26 q27 q28 q29 q30 q31 : Nat) (u0 u1 u2 u3 u4 u5 u6 u7 u8 u9 u10 u11 u12 u13 u14 u15 u16 u17 u18 u19 u20 : Int) (i_piled : Int) (i_pile : Nat → Int) (o : Int) : va_W := wd_HM_isCompared cA q0 q1 q2 q3 q4 q5 q6 q7 q8 q9 q10 q11 q12 q13 q14 q15 q16 q17 q18 q19 q20 q21 q22 q23 q24 q25 q26 q27 q28 q29 q30 q31 u0 u1 u2 u3 u4 u5 u6 u7 u8 u9 u10 u11 u12 u13 u14 u15 u16 u17 u18 u19 u20 i_piled i_pile
def f_HM_isCompared_36 (i_piled : Int) (i_pile : Nat → Int) (x1 : Int) : Option (Int) :=
  if zi_w x1 < 0 then
    some 0
  else
    zg 400 i_pile x1 fun v1 =>
    zn (zi_w v1) fun v2 =>
    zd1 (f_HM_in v2 24 26) fun v3 =>
    if zi_w v3 = 0 then
      some 0
    else
      some 1
def f_HM_isCompared_7_b (i_piled : Int) (i_pile : Nat → Int) (k7 : Int → Option (Int)) (x1 : Int) : Option (Int) :=
  if zi_w x1 < 0 then
    f_HM_isCompared_36 i_piled i_pile x1
  else
    zg 400 i_pile x1 fun v1 =>
    zn (zi_w v1) fun v2 =>
    zd1 (f_HM_in v2 20 23) fun v3 =>
    if zi_w v3 = 0 then
      f_HM_isCompared_36 i_piled i_pile x1
    else
      zn (x1 + (-1)) fun v4 =>
      k7 v4
def f_HM_isCompared_7 (i_piled : Int) (i_pile : Nat → Int) : Nat → Int → Option (Int)
  | 0 => fun _ => none
  | n + 1 => fun y0 => f_HM_isCompared_7_b i_piled i_pile (f_HM_isCompared_7 i_piled i_pile n) y0
def f_HM_isCompared (i_piled : Int) (i_pile : Nat → Int) : Option (Int) :=
  zn (i_piled - 1) fun v1 =>
  f_HM_isCompared_7 i_piled i_pile zfu v1
set_option maxHeartbeats 4000000 in
set_option maxRecDepth 100000 in
theorem c_HM_isCompared (l : Launch) (ev : zEv) (dC : Nat → ClassId) (dI : Nat → Nat → Nat) (cA : Nat → ClassId) (q0 q1 q2 q3 q4 q5 q6 q7 q8 q9 q10 q11 q12 q13 q14 q15 q16 q17 q18 q19 q20 q21 q22 q23 q24 q25 q26 q27 q28 q29 q30 q31 : Nat) (u0 u1 u2 u3 u4 u5 u6 u7 u8 u9 u10 u11 u12 u13 u14 u15 u16 u17 u18 u19 u20 : Int) {i_piled : Int} {i_pile : Nat → Int} {out : Int} (hf : f_HM_isCompared i_piled i_pile = some out) : xc_I l ev (dC, dI) vwCl (tyl cA) yX11_isCompared w_HM_isCompared rm_HM_isCompared [.ref q0] (wd_HM_isCompared cA q0 q1 q2 q3 q4 q5 q6 q7 q8 q9 q10 q11 q12 q13 q14 q15 q16 q17 q18 q19 q20 q21 q22 q23 q24 q25 q26 q27 q28 q29 q30 q31 u0 u1 u2 u3 u4 u5 u6 u7 u8 u9 u10 u11 u12 u13 u14 u15 u16 u17 u18 u19 u20 i_piled i_pile) (wf_HM_isCompared cA q0 q1 q2 q3 q4 q5 q6 q7 q8 q9 q10 q11 q12 q13 q14 q15 q16 q17 q18 q19 q20 q21 q22 q23 q24 q25 q26 q27 q28 q29 q30 q31 u0 u1 u2 u3 u4 u5 u6 u7 u8 u9 u10 u11 u12 u13 u14 u15 u16 u17 u18 u19 u20 i_piled i_pile out) out := by
  refine xv_startI (cc := cX11_isCompared) (maxL := 2) (rt := .boolean) (by decide +kernel) rfl (Nat.le_of_ble_eq_true rfl) ?_
  intro p e s m args below meth c A Q H ls hx hb hml hts hown hK hA hP hD hS hl hE hret
  have hown : s.vm.findClass "HillSchoolModel" = some m.cls := hown
  have hz : ∀ w ∈ zall, w.before args s = true := fun w h => hts w (List.mem_cons_of_mem _ h)
  have hl : lv_has ls 2 [(0, .ref q0)] := hl
  have b_36 : ∀ (x1 : Int) (H : Heap) (locs : List Loc) (ls : Array Slot), f_HM_isCompared_36 i_piled i_pile x1 = some out → va_P (dC, dI) vwCl (wd_HM_isCompared cA q0 q1 q2 q3 q4 q5 q6 q7 q8 q9 q10 q11 q12 q13 q14 q15 q16 q17 q18 q19 q20 q21 q22 q23 q24 q25 q26 q27 q28 q29 q30 q31 u0 u1 u2 u3 u4 u5 u6 u7 u8 u9 u10 u11 u12 u13 u14 u15 u16 u17 u18 u19 u20 i_piled i_pile) H → va_D A (wd_HM_isCompared cA q0 q1 q2 q3 q4 q5 q6 q7 q8 q9 q10 q11 q12 q13 q14 q15 q16 q17 q18 q19 q20 q21 q22 q23 q24 q25 q26 q27 q28 q29 q30 q31 u0 u1 u2 u3 u4 u5 u6 u7 u8 u9 u10 u11 u12 u13 u14 u15 u16 u17 u18 u19 u20 i_piled i_pile) → va_S A s.heap H locs → lv_has ls 2 [(0, .ref q0), (1, .int (Int32.ofInt x1))] → W p l e rm_HM_isCompared s m args below meth c H locs 0 0 Q (F0 m 36 ls []) := by
    intro x1 H locs ls hf hP hD hS hl
    unfold f_HM_isCompared_36 at hf
    refine lv_iload_n hx hb dX11_isCompared_36 rfl (lv_at hl 1 rfl) ?_
    refine xi_if_lt (tgt := 63) hx hb dX11_isCompared_37 (by decide) hf (fun hf => ?_) (fun hf => ?_)
    · refine lv_iconst (v := Int32.ofInt 0) hx hb dX11_isCompared_63 rfl ?_
      obtain rfl := Option.some.inj hf
      exact hret _ _ _ _ zz_b0 dX11_isCompared_64 hP hD hS
    · refine lv_aload_n hx hb dX11_isCompared_40 rfl (lv_at hl 0 rfl) ?_
      refine va_get (D := (dC, dI)) (ci := 11) (v := .ref q9) (C := RX11) (T := TX11) (N := 53) hx hb hz zi_X11 hown hK hP 0 rfl rfl 21 (by decide) (hz _ zw_1186) (fun _ h9 => h9) rfl dX11_isCompared_41 ?_
      refine lv_iload_n hx hb dX11_isCompared_44 rfl (lv_at hl 1 rfl) ?_
      refine xi_iald hx hb hK hP 1 0 rfl rfl dX11_isCompared_45 hf (fun v1 hf => ?_)
      refine xi_i2l hx hb dX11_isCompared_46 hf (fun v2 hf => ?_)
      refine lv_ldc2 (v := Int64.ofInt 24) hx hb hown (hz _ zw_1528) dX11_isCompared_47 ?_
      refine lv_ldc2 (v := Int64.ofInt 26) hx hb hown (hz _ zw_1529) dX11_isCompared_50 ?_
      refine xe_d1 hf (fun v3 hg hf => ?_)
      have hC : ([] : List Nat).map (fun i => (wd_HM_isCompared cA q0 q1 q2 q3 q4 q5 q6 q7 q8 q9 q10 q11 q12 q13 q14 q15 q16 q17 q18 q19 q20 q21 q22 q23 q24 q25 q26 q27 q28 q29 q30 q31 u0 u1 u2 u3 u4 u5 u6 u7 u8 u9 u10 u11 u12 u13 u14 u15 u16 u17 u18 u19 u20 i_piled i_pile)[i]?) = (wd_HM_in cA).map some := rfl
      refine xv_afterI (ws' := (wd_HM_isCompared cA q0 q1 q2 q3 q4 q5 q6 q7 q8 q9 q10 q11 q12 q13 q14 q15 q16 q17 q18 q19 q20 q21 q22 q23 q24 q25 q26 q27 q28 q29 q30 q31 u0 u1 u2 u3 u4 u5 u6 u7 u8 u9 u10 u11 u12 u13 u14 u15 u16 u17 u18 u19 u20 i_piled i_pile)) (isC := []) (ps := [none, none]) (va_runS (As := [.long (Int64.ofInt v2), .long (Int64.ofInt 24), .long (Int64.ofInt 26)]) (rest := []) ⟨hx, hb, hml, hown, hts⟩ (c_HM_in l ev dC dI cA hg H.size) (va_cwS 3 hts (zgS zw_1329 zw_1330 zw_115 zw_1331) rfl rfl rfl hd_HM_in.2 ⟨Nat.le_of_ble_eq_true rfl, Nat.le_of_ble_eq_true rfl⟩) (xv_preS hE hA hS hK hP hD (isC := []) (by decide +kernel) hC) rfl rfl hl.1 rfl (lv_room (Nat.le_of_ble_eq_true rfl)) dX11_isCompared_53 ⟨Nat.le_refl _, Nat.le_refl _⟩) hP hD hS hA (by decide +kernel) rfl hC rfl rfl (fun H locs hP hD hS => ?_)
      refine xi_if_eq (tgt := 63) hx hb dX11_isCompared_56 (by decide) hf (fun hf => ?_) (fun hf => ?_)
      · refine lv_iconst (v := Int32.ofInt 0) hx hb dX11_isCompared_63 rfl ?_
        obtain rfl := Option.some.inj hf
        exact hret _ _ _ _ zz_b0 dX11_isCompared_64 hP hD hS
      · refine lv_iconst (v := Int32.ofInt 1) hx hb dX11_isCompared_59 rfl ?_
        refine lv_goto (tgt := 64) hx hb dX11_isCompared_60 (by decide) ?_
        obtain rfl := Option.some.inj hf
        exact hret _ _ _ _ zz_b1 dX11_isCompared_64 hP hD hS
  have b_7 : ∀ (k7 : Int → Option (Int)) (_ : ∀ (x1 : Int) (H : Heap) (locs : List Loc) (ls : Array Slot), k7 x1 = some out → va_P (dC, dI) vwCl (wd_HM_isCompared cA q0 q1 q2 q3 q4 q5 q6 q7 q8 q9 q10 q11 q12 q13 q14 q15 q16 q17 q18 q19 q20 q21 q22 q23 q24 q25 q26 q27 q28 q29 q30 q31 u0 u1 u2 u3 u4 u5 u6 u7 u8 u9 u10 u11 u12 u13 u14 u15 u16 u17 u18 u19 u20 i_piled i_pile) H → va_D A (wd_HM_isCompared cA q0 q1 q2 q3 q4 q5 q6 q7 q8 q9 q10 q11 q12 q13 q14 q15 q16 q17 q18 q19 q20 q21 q22 q23 q24 q25 q26 q27 q28 q29 q30 q31 u0 u1 u2 u3 u4 u5 u6 u7 u8 u9 u10 u11 u12 u13 u14 u15 u16 u17 u18 u19 u20 i_piled i_pile) → va_S A s.heap H locs → lv_has ls 2 [(0, .ref q0), (1, .int (Int32.ofInt x1))] → W p l e rm_HM_isCompared s m args below meth c H locs 0 0 Q (F0 m 7 ls [])), ∀ (x1 : Int) (H : Heap) (locs : List Loc) (ls : Array Slot), f_HM_isCompared_7_b i_piled i_pile k7 x1 = some out → va_P (dC, dI) vwCl (wd_HM_isCompared cA q0 q1 q2 q3 q4 q5 q6 q7 q8 q9 q10 q11 q12 q13 q14 q15 q16 q17 q18 q19 q20 q21 q22 q23 q24 q25 q26 q27 q28 q29 q30 q31 u0 u1 u2 u3 u4 u5 u6 u7 u8 u9 u10 u11 u12 u13 u14 u15 u16 u17 u18 u19 u20 i_piled i_pile) H → va_D A (wd_HM_isCompared cA q0 q1 q2 q3 q4 q5 q6 q7 q8 q9 q10 q11 q12 q13 q14 q15 q16 q17 q18 q19 q20 q21 q22 q23 q24 q25 q26 q27 q28 q29 q30 q31 u0 u1 u2 u3 u4 u5 u6 u7 u8 u9 u10 u11 u12 u13 u14 u15 u16 u17 u18 u19 u20 i_piled i_pile) → va_S A s.heap H locs → lv_has ls 2 [(0, .ref q0), (1, .int (Int32.ofInt x1))] → W p l e rm_HM_isCompared s m args below meth c H locs 0 0 Q (F0 m 7 ls []) := by
    intro k7 ih7 x1 H locs ls hf hP hD hS hl
    unfold f_HM_isCompared_7_b at hf
    refine lv_iload_n hx hb dX11_isCompared_7 rfl (lv_at hl 1 rfl) ?_
    refine xi_if_lt (tgt := 36) hx hb dX11_isCompared_8 (by decide) hf (fun hf => ?_) (fun hf => ?_)
    · exact b_36  _ _ _ _ hf hP hD hS (lv_sub hl [0, 1] rfl)
    · refine lv_aload_n hx hb dX11_isCompared_11 rfl (lv_at hl 0 rfl) ?_
      refine va_get (D := (dC, dI)) (ci := 11) (v := .ref q9) (C := RX11) (T := TX11) (N := 53) hx hb hz zi_X11 hown hK hP 0 rfl rfl 21 (by decide) (hz _ zw_1186) (fun _ h9 => h9) rfl dX11_isCompared_12 ?_
      refine lv_iload_n hx hb dX11_isCompared_15 rfl (lv_at hl 1 rfl) ?_
      refine xi_iald hx hb hK hP 1 0 rfl rfl dX11_isCompared_16 hf (fun v1 hf => ?_)
      refine xi_i2l hx hb dX11_isCompared_17 hf (fun v2 hf => ?_)
      refine lv_ldc2 (v := Int64.ofInt 20) hx hb hown (hz _ zw_1526) dX11_isCompared_18 ?_
      refine lv_ldc2 (v := Int64.ofInt 23) hx hb hown (hz _ zw_1527) dX11_isCompared_21 ?_
      refine xe_d1 hf (fun v3 hg hf => ?_)
      have hC : ([] : List Nat).map (fun i => (wd_HM_isCompared cA q0 q1 q2 q3 q4 q5 q6 q7 q8 q9 q10 q11 q12 q13 q14 q15 q16 q17 q18 q19 q20 q21 q22 q23 q24 q25 q26 q27 q28 q29 q30 q31 u0 u1 u2 u3 u4 u5 u6 u7 u8 u9 u10 u11 u12 u13 u14 u15 u16 u17 u18 u19 u20 i_piled i_pile)[i]?) = (wd_HM_in cA).map some := rfl
      refine xv_afterI (ws' := (wd_HM_isCompared cA q0 q1 q2 q3 q4 q5 q6 q7 q8 q9 q10 q11 q12 q13 q14 q15 q16 q17 q18 q19 q20 q21 q22 q23 q24 q25 q26 q27 q28 q29 q30 q31 u0 u1 u2 u3 u4 u5 u6 u7 u8 u9 u10 u11 u12 u13 u14 u15 u16 u17 u18 u19 u20 i_piled i_pile)) (isC := []) (ps := [none, none]) (va_runS (As := [.long (Int64.ofInt v2), .long (Int64.ofInt 20), .long (Int64.ofInt 23)]) (rest := []) ⟨hx, hb, hml, hown, hts⟩ (c_HM_in l ev dC dI cA hg H.size) (va_cwS 3 hts (zgS zw_1329 zw_1330 zw_115 zw_1331) rfl rfl rfl hd_HM_in.2 ⟨Nat.le_of_ble_eq_true rfl, Nat.le_of_ble_eq_true rfl⟩) (xv_preS hE hA hS hK hP hD (isC := []) (by decide +kernel) hC) rfl rfl hl.1 rfl (lv_room (Nat.le_of_ble_eq_true rfl)) dX11_isCompared_24 ⟨Nat.le_refl _, Nat.le_refl _⟩) hP hD hS hA (by decide +kernel) rfl hC rfl rfl (fun H locs hP hD hS => ?_)
      refine xi_if_eq (tgt := 36) hx hb dX11_isCompared_27 (by decide) hf (fun hf => ?_) (fun hf => ?_)
      · exact b_36  _ _ _ _ hf hP hD hS (lv_sub hl [0, 1] rfl)
      · refine xi_iinc hx hb dX11_isCompared_30 hl (k := 1) rfl (by decide) hf (fun v4 ls hl hf => ?_)
        have hl : lv_has ls 2 [(1, .int (Int32.ofInt v4)), (0, .ref q0)] := hl
        refine lv_goto (tgt := 7) hx hb dX11_isCompared_33 (by decide) ?_
        exact ih7 _ _ _ _ hf hP hD hS (lv_sub hl [1, 0] rfl)
  have l_7 : ∀ (n : Nat), ∀ (x1 : Int) (H : Heap) (locs : List Loc) (ls : Array Slot), f_HM_isCompared_7 i_piled i_pile n x1 = some out → va_P (dC, dI) vwCl (wd_HM_isCompared cA q0 q1 q2 q3 q4 q5 q6 q7 q8 q9 q10 q11 q12 q13 q14 q15 q16 q17 q18 q19 q20 q21 q22 q23 q24 q25 q26 q27 q28 q29 q30 q31 u0 u1 u2 u3 u4 u5 u6 u7 u8 u9 u10 u11 u12 u13 u14 u15 u16 u17 u18 u19 u20 i_piled i_pile) H → va_D A (wd_HM_isCompared cA q0 q1 q2 q3 q4 q5 q6 q7 q8 q9 q10 q11 q12 q13 q14 q15 q16 q17 q18 q19 q20 q21 q22 q23 q24 q25 q26 q27 q28 q29 q30 q31 u0 u1 u2 u3 u4 u5 u6 u7 u8 u9 u10 u11 u12 u13 u14 u15 u16 u17 u18 u19 u20 i_piled i_pile) → va_S A s.heap H locs → lv_has ls 2 [(0, .ref q0), (1, .int (Int32.ofInt x1))] → W p l e rm_HM_isCompared s m args below meth c H locs 0 0 Q (F0 m 7 ls []) := by
    intro n
    induction n with
    | zero => intro x1 H locs ls hf hP hD hS hl; exact nomatch hf
    | succ n ih => intro x1 H locs ls hf hP hD hS hl; exact b_7 (f_HM_isCompared_7 i_piled i_pile n) ih x1 H locs ls hf hP hD hS hl
  unfold f_HM_isCompared at hf
  refine lv_aload_n hx hb dX11_isCompared_0 rfl (lv_at hl 0 rfl) ?_
  refine va_get (D := (dC, dI)) (ci := 11) (v := .int (Int32.ofInt i_piled)) (C := RX11) (T := TX11) (N := 53) hx hb hz zi_X11 hown hK hP 0 rfl rfl 23 (by decide) (hz _ zw_1188) (fun _ h9 => h9) rfl dX11_isCompared_1 ?_
  refine lv_iconst (v := Int32.ofInt 1) hx hb dX11_isCompared_4 rfl ?_
  refine xi_isub hx hb dX11_isCompared_5 hf (fun v1 hf => ?_)
  refine lv_istore_n (lv' := [(1, .int (Int32.ofInt v1)), (0, .ref q0)]) hx hb dX11_isCompared_6 rfl hl (by decide) rfl (fun ls hl => ?_)
  exact l_7  _ _ _ _ _ hf hP hD hS (lv_sub hl [1, 0] rfl)
theorem dX11_behindSum_0 : decode cX11_behindSum 0 = .ok (.aload_n 0, 1) := by decide +kernel
theorem dX11_behindSum_1 : decode cX11_behindSum 1 = .ok (.bipush 43, 2) := by decide +kernel
theorem dX11_behindSum_3 : decode cX11_behindSum 3 = .ok (.invokevirtual 258, 3) := by decide +kernel
theorem dX11_behindSum_6 : decode cX11_behindSum 6 = .ok (.ifCond .eq 8, 3) := by decide +kernel
theorem dX11_behindSum_9 : decode cX11_behindSum 9 = .ok (.bipush 20, 2) := by decide +kernel
theorem dX11_behindSum_11 : decode cX11_behindSum 11 = .ok (.goto 46, 3) := by decide +kernel
theorem dX11_behindSum_14 : decode cX11_behindSum 14 = .ok (.aload_n 0, 1) := by decide +kernel
theorem dX11_behindSum_15 : decode cX11_behindSum 15 = .ok (.bipush 45, 2) := by decide +kernel
theorem dX11_behindSum_17 : decode cX11_behindSum 17 = .ok (.invokevirtual 258, 3) := by decide +kernel
theorem dX11_behindSum_20 : decode cX11_behindSum 20 = .ok (.ifCond .eq 8, 3) := by decide +kernel
theorem dX11_behindSum_23 : decode cX11_behindSum 23 = .ok (.bipush 21, 2) := by decide +kernel
theorem dX11_behindSum_25 : decode cX11_behindSum 25 = .ok (.goto 32, 3) := by decide +kernel
theorem dX11_behindSum_28 : decode cX11_behindSum 28 = .ok (.aload_n 0, 1) := by decide +kernel
theorem dX11_behindSum_29 : decode cX11_behindSum 29 = .ok (.bipush 42, 2) := by decide +kernel
theorem dX11_behindSum_31 : decode cX11_behindSum 31 = .ok (.invokevirtual 258, 3) := by decide +kernel
theorem dX11_behindSum_34 : decode cX11_behindSum 34 = .ok (.ifCond .eq 8, 3) := by decide +kernel
theorem dX11_behindSum_37 : decode cX11_behindSum 37 = .ok (.bipush 22, 2) := by decide +kernel
theorem dX11_behindSum_39 : decode cX11_behindSum 39 = .ok (.goto 18, 3) := by decide +kernel
theorem dX11_behindSum_42 : decode cX11_behindSum 42 = .ok (.aload_n 0, 1) := by decide +kernel
theorem dX11_behindSum_43 : decode cX11_behindSum 43 = .ok (.bipush 47, 2) := by decide +kernel
theorem dX11_behindSum_45 : decode cX11_behindSum 45 = .ok (.invokevirtual 258, 3) := by decide +kernel
theorem dX11_behindSum_48 : decode cX11_behindSum 48 = .ok (.ifCond .eq 8, 3) := by decide +kernel
theorem dX11_behindSum_51 : decode cX11_behindSum 51 = .ok (.bipush 23, 2) := by decide +kernel
theorem dX11_behindSum_53 : decode cX11_behindSum 53 = .ok (.goto 4, 3) := by decide +kernel
theorem dX11_behindSum_56 : decode cX11_behindSum 56 = .ok (.iconst (-1), 1) := by decide +kernel
theorem dX11_behindSum_57 : decode cX11_behindSum 57 = .ok (.istore_n 2, 1) := by decide +kernel
theorem dX11_behindSum_58 : decode cX11_behindSum 58 = .ok (.iload_n 2, 1) := by decide +kernel
theorem dX11_behindSum_59 : decode cX11_behindSum 59 = .ok (.iconst (-1), 1) := by decide +kernel
theorem dX11_behindSum_60 : decode cX11_behindSum 60 = .ok (.if_icmp .eq 23, 3) := by decide +kernel
theorem dX11_behindSum_63 : decode cX11_behindSum 63 = .ok (.aload_n 0, 1) := by decide +kernel
theorem dX11_behindSum_64 : decode cX11_behindSum 64 = .ok (.iload_n 2, 1) := by decide +kernel
theorem dX11_behindSum_65 : decode cX11_behindSum 65 = .ok (.invokestatic 230, 3) := by decide +kernel
theorem dX11_behindSum_68 : decode cX11_behindSum 68 = .ok (.invokevirtual 278, 3) := by decide +kernel
theorem dX11_behindSum_71 : decode cX11_behindSum 71 = .ok (.aload_n 0, 1) := by decide +kernel
theorem dX11_behindSum_72 : decode cX11_behindSum 72 = .ok (.iload_n 2, 1) := by decide +kernel
theorem dX11_behindSum_73 : decode cX11_behindSum 73 = .ok (.iconst 0, 1) := by decide +kernel
theorem dX11_behindSum_74 : decode cX11_behindSum 74 = .ok (.invokevirtual 252, 3) := by decide +kernel
theorem dX11_behindSum_77 : decode cX11_behindSum 77 = .ok (.aload_n 0, 1) := by decide +kernel
theorem dX11_behindSum_78 : decode cX11_behindSum 78 = .ok (.invokevirtual 189, 3) := by decide +kernel
theorem dX11_behindSum_81 : decode cX11_behindSum 81 = .ok (.iconst 1, 1) := by decide +kernel
theorem dX11_behindSum_82 : decode cX11_behindSum 82 = .ok (.ireturn, 1) := by decide +kernel
theorem dX11_behindSum_83 : decode cX11_behindSum 83 = .ok (.aload_n 0, 1) := by decide +kernel
theorem dX11_behindSum_84 : decode cX11_behindSum 84 = .ok (.invokevirtual 281, 3) := by decide +kernel
theorem dX11_behindSum_87 : decode cX11_behindSum 87 = .ok (.istore_n 3, 1) := by decide +kernel
theorem dX11_behindSum_88 : decode cX11_behindSum 88 = .ok (.iload_n 3, 1) := by decide +kernel
theorem dX11_behindSum_89 : decode cX11_behindSum 89 = .ok (.bipush 31, 2) := by decide +kernel
theorem dX11_behindSum_91 : decode cX11_behindSum 91 = .ok (.if_icmp .ne 47, 3) := by decide +kernel
theorem dX11_behindSum_94 : decode cX11_behindSum 94 = .ok (.aload_n 0, 1) := by decide +kernel
theorem dX11_behindSum_95 : decode cX11_behindSum 95 = .ok (.aload_n 0, 1) := by decide +kernel
theorem dX11_behindSum_96 : decode cX11_behindSum 96 = .ok (.bipush 93, 2) := by decide +kernel
theorem dX11_behindSum_98 : decode cX11_behindSum 98 = .ok (.invokevirtual 258, 3) := by decide +kernel
theorem dX11_behindSum_101 : decode cX11_behindSum 101 = .ok (.invokevirtual 220, 3) := by decide +kernel
theorem dX11_behindSum_104 : decode cX11_behindSum 104 = .ok (.aload_n 0, 1) := by decide +kernel
theorem dX11_behindSum_105 : decode cX11_behindSum 105 = .ok (.getfield 185, 3) := by decide +kernel
theorem dX11_behindSum_108 : decode cX11_behindSum 108 = .ok (.ifCond .ne 28, 3) := by decide +kernel
theorem dX11_behindSum_111 : decode cX11_behindSum 111 = .ok (.aload_n 0, 1) := by decide +kernel
theorem dX11_behindSum_112 : decode cX11_behindSum 112 = .ok (.iconst 5, 1) := by decide +kernel
theorem dX11_behindSum_113 : decode cX11_behindSum 113 = .ok (.invokevirtual 278, 3) := by decide +kernel
theorem dX11_behindSum_116 : decode cX11_behindSum 116 = .ok (.aload_n 0, 1) := by decide +kernel
theorem dX11_behindSum_117 : decode cX11_behindSum 117 = .ok (.dup, 1) := by decide +kernel
theorem dX11_behindSum_118 : decode cX11_behindSum 118 = .ok (.getfield 227, 3) := by decide +kernel
theorem dX11_behindSum_121 : decode cX11_behindSum 121 = .ok (.iconst 1, 1) := by decide +kernel
theorem dX11_behindSum_122 : decode cX11_behindSum 122 = .ok (.isub, 1) := by decide +kernel
theorem dX11_behindSum_123 : decode cX11_behindSum 123 = .ok (.putfield 227, 3) := by decide +kernel
theorem dX11_behindSum_126 : decode cX11_behindSum 126 = .ok (.aload_n 0, 1) := by decide +kernel
theorem dX11_behindSum_127 : decode cX11_behindSum 127 = .ok (.dup, 1) := by decide +kernel
theorem dX11_behindSum_128 : decode cX11_behindSum 128 = .ok (.getfield 249, 3) := by decide +kernel
theorem dX11_behindSum_131 : decode cX11_behindSum 131 = .ok (.iconst 1, 1) := by decide +kernel
theorem dX11_behindSum_132 : decode cX11_behindSum 132 = .ok (.isub, 1) := by decide +kernel
theorem dX11_behindSum_133 : decode cX11_behindSum 133 = .ok (.putfield 249, 3) := by decide +kernel
theorem dX11_behindSum_136 : decode cX11_behindSum 136 = .ok (.iconst 3, 1) := by decide +kernel
theorem dX11_behindSum_137 : decode cX11_behindSum 137 = .ok (.ireturn, 1) := by decide +kernel
theorem dX11_behindSum_138 : decode cX11_behindSum 138 = .ok (.iload_n 3, 1) := by decide +kernel
theorem dX11_behindSum_139 : decode cX11_behindSum 139 = .ok (.iconst (-1), 1) := by decide +kernel
theorem dX11_behindSum_140 : decode cX11_behindSum 140 = .ok (.if_icmp .ne 9, 3) := by decide +kernel
theorem dX11_behindSum_143 : decode cX11_behindSum 143 = .ok (.iload_n 1, 1) := by decide +kernel
theorem dX11_behindSum_144 : decode cX11_behindSum 144 = .ok (.ifCond .ne 5, 3) := by decide +kernel
theorem dX11_behindSum_147 : decode cX11_behindSum 147 = .ok (.iconst 4, 1) := by decide +kernel
theorem dX11_behindSum_148 : decode cX11_behindSum 148 = .ok (.ireturn, 1) := by decide +kernel
theorem dX11_behindSum_149 : decode cX11_behindSum 149 = .ok (.aload_n 0, 1) := by decide +kernel
theorem dX11_behindSum_150 : decode cX11_behindSum 150 = .ok (.invokevirtual 284, 3) := by decide +kernel
theorem dX11_behindSum_153 : decode cX11_behindSum 153 = .ok (.ifCond .eq 5, 3) := by decide +kernel
theorem dX11_behindSum_156 : decode cX11_behindSum 156 = .ok (.iconst 2, 1) := by decide +kernel
theorem dX11_behindSum_157 : decode cX11_behindSum 157 = .ok (.ireturn, 1) := by decide +kernel
theorem dX11_behindSum_158 : decode cX11_behindSum 158 = .ok (.aload_n 0, 1) := by decide +kernel
theorem dX11_behindSum_159 : decode cX11_behindSum 159 = .ok (.bipush 60, 2) := by decide +kernel
theorem dX11_behindSum_161 : decode cX11_behindSum 161 = .ok (.invokevirtual 258, 3) := by decide +kernel
theorem dX11_behindSum_164 : decode cX11_behindSum 164 = .ok (.ifCond .eq 8, 3) := by decide +kernel
theorem dX11_behindSum_167 : decode cX11_behindSum 167 = .ok (.bipush 24, 2) := by decide +kernel
theorem dX11_behindSum_169 : decode cX11_behindSum 169 = .ok (.goto 19, 3) := by decide +kernel
theorem dX11_behindSum_172 : decode cX11_behindSum 172 = .ok (.aload_n 0, 1) := by decide +kernel
theorem dX11_behindSum_173 : decode cX11_behindSum 173 = .ok (.bipush 62, 2) := by decide +kernel
theorem dX11_behindSum_175 : decode cX11_behindSum 175 = .ok (.invokevirtual 258, 3) := by decide +kernel
theorem dX11_behindSum_178 : decode cX11_behindSum 178 = .ok (.ifCond .eq 8, 3) := by decide +kernel
theorem dX11_behindSum_181 : decode cX11_behindSum 181 = .ok (.bipush 25, 2) := by decide +kernel
theorem dX11_behindSum_183 : decode cX11_behindSum 183 = .ok (.goto 5, 3) := by decide +kernel
theorem dX11_behindSum_186 : decode cX11_behindSum 186 = .ok (.bipush 26, 2) := by decide +kernel
theorem dX11_behindSum_188 : decode cX11_behindSum 188 = .ok (.istore_n 2, 1) := by decide +kernel
theorem dX11_behindSum_189 : decode cX11_behindSum 189 = .ok (.aload_n 0, 1) := by decide +kernel
theorem dX11_behindSum_190 : decode cX11_behindSum 190 = .ok (.iload_n 2, 1) := by decide +kernel
theorem dX11_behindSum_191 : decode cX11_behindSum 191 = .ok (.bipush 26, 2) := by decide +kernel
theorem dX11_behindSum_193 : decode cX11_behindSum 193 = .ok (.if_icmp .ne 12, 3) := by decide +kernel
theorem dX11_behindSum_196 : decode cX11_behindSum 196 = .ok (.aload_n 0, 1) := by decide +kernel
theorem dX11_behindSum_197 : decode cX11_behindSum 197 = .ok (.bipush 61, 2) := by decide +kernel
theorem dX11_behindSum_199 : decode cX11_behindSum 199 = .ok (.invokevirtual 258, 3) := by decide +kernel
theorem dX11_behindSum_202 : decode cX11_behindSum 202 = .ok (.ifCond .eq 7, 3) := by decide +kernel
theorem dX11_behindSum_205 : decode cX11_behindSum 205 = .ok (.iconst 1, 1) := by decide +kernel
theorem dX11_behindSum_206 : decode cX11_behindSum 206 = .ok (.goto 4, 3) := by decide +kernel
theorem dX11_behindSum_209 : decode cX11_behindSum 209 = .ok (.iconst 0, 1) := by decide +kernel
theorem dX11_behindSum_210 : decode cX11_behindSum 210 = .ok (.invokevirtual 220, 3) := by decide +kernel
theorem dX11_behindSum_213 : decode cX11_behindSum 213 = .ok (.aload_n 0, 1) := by decide +kernel
theorem dX11_behindSum_214 : decode cX11_behindSum 214 = .ok (.getfield 185, 3) := by decide +kernel
theorem dX11_behindSum_217 : decode cX11_behindSum 217 = .ok (.ifCond .ne 14, 3) := by decide +kernel
theorem dX11_behindSum_220 : decode cX11_behindSum 220 = .ok (.aload_n 0, 1) := by decide +kernel
theorem dX11_behindSum_221 : decode cX11_behindSum 221 = .ok (.iconst 5, 1) := by decide +kernel
theorem dX11_behindSum_222 : decode cX11_behindSum 222 = .ok (.invokevirtual 278, 3) := by decide +kernel
theorem dX11_behindSum_225 : decode cX11_behindSum 225 = .ok (.aload_n 0, 1) := by decide +kernel
theorem dX11_behindSum_226 : decode cX11_behindSum 226 = .ok (.iload_n 2, 1) := by decide +kernel
theorem dX11_behindSum_227 : decode cX11_behindSum 227 = .ok (.iconst 0, 1) := by decide +kernel
theorem dX11_behindSum_228 : decode cX11_behindSum 228 = .ok (.invokevirtual 252, 3) := by decide +kernel
theorem dX11_behindSum_231 : decode cX11_behindSum 231 = .ok (.iconst 1, 1) := by decide +kernel
theorem dX11_behindSum_232 : decode cX11_behindSum 232 = .ok (.ireturn, 1) := by decide +kernel
theorem zw_63 : (Jvm.Cond.selects "HillSchoolModel" ({ cls := "HillSchoolModel", name := "isCompared", desc := "()Z" } : Jvm.MethodName) ({ cls := "HillSchoolModel", name := "isCompared", desc := "()Z" } : Jvm.MethodName)) ∈ zall := zmemG (zmj_0 63 rfl) rfl
theorem zw_1510 : (Jvm.Cond.code ({ cls := "HillSchoolModel", name := "behindSum", desc := "(Z)I" } : Jvm.MethodName) prog_13_method_50_code (4 : Nat) (Option.some Jvm.ClassFile.FieldType.int)) ∈ zall := zmemG (zmj_6 207 rfl) rfl
theorem zw_1522 : (Jvm.Cond.methodLink "HillSchoolModel" (284 : Nat) ({ cls := "HillSchoolModel", name := "isCompared", desc := "()Z" } : Jvm.MethodName)) ∈ zall := zmemG (zmj_6 219 rfl) rfl
theorem zw_1524 : (Jvm.Cond.instanceMethod ({ cls := "HillSchoolModel", name := "isCompared", desc := "()Z" } : Jvm.MethodName)) ∈ zall := zmemG (zmj_6 221 rfl) rfl
abbrev w_HM_behindSum : List Cond := .code yX11_behindSum cX11_behindSum 4 (some .int) :: zall
abbrev rm_HM_behindSum : Room := { frames := 3, cells := 0, slots := 0, locals := 61 }
theorem hd_HM_behindSum : yX11_behindSum.cls = "HillSchoolModel" ∧ yX11_behindSum.cls ≠ "java/lang/invoke/MethodHandle" ∧ yX11_behindSum.cls ≠ "java/lang/invoke/VarHandle" ∧ (parseMethodDescriptor yX11_behindSum.desc).map (fun d => d.parameters.length) = some 1 := by decide +kernel
def wd_HM_behindSum (cA : Nat → ClassId) (q0 q1 q2 q3 q4 q5 q6 q7 q8 q9 q10 q11 q12 q13 q14 q15 q16 q17 q18 q19 q20 q21 q22 q23 q24 q25 q26 q27 q28 q29 q30 q31 : Nat) (u0 u1 u2 u3 u4 u5 u6 u7 u8 u9 u10 u11 : Int) (i_taped : Int) (i_tape : Nat → Int) (i_from : Int) (i_to : Int) (i_sort : Int) (i_worth : Int) (i_fault : Int) (i_bad : Int) (i_nCode : Int) (i_piled : Int) (i_opened : Int) (i_nOp : Nat → Int) (i_nArg : Nat → Int) (i_pile : Nat → Int) (i_pileAt : Nat → Int) : va_W := [(q0, .inr (11, [.int (Int32.ofInt u0), .int (Int32.ofInt u1), .ref q1, .ref q2, .ref q3, .ref q4, .int (Int32.ofInt u2), .ref q5, .int (Int32.ofInt i_taped), .int (Int32.ofInt i_from), .int (Int32.ofInt i_to), .int (Int32.ofInt i_sort), .long (Int64.ofInt i_worth), .int (Int32.ofInt i_fault), .int (Int32.ofInt i_bad), .int (Int32.ofInt u3), .ref q6, .int (Int32.ofInt i_nCode), .ref q7, .ref q8, .int (Int32.ofInt u4), .ref q9, .ref q10, .int (Int32.ofInt i_piled), .int (Int32.ofInt i_opened), .ref q11, .int (Int32.ofInt u5), .ref q12, .ref q13, .int (Int32.ofInt u6), .long (Int64.ofInt u7), .long (Int64.ofInt u8), .ref q14, .ref q15, .ref q16, .ref q17, .ref q18, .int (Int32.ofInt u9), .ref q19, .ref q20, .ref q21, .ref q22, .ref q23, .ref q24, .ref q25, .ref q26, .ref q27, .ref q28, .ref q29, .ref q30, .long (Int64.ofInt u10), .ref q31, .int (Int32.ofInt u11)])), (q5, .inl (cA 0, 400, .inl (za i_tape))), (q7, .inl (cA 0, 400, .inl (za i_nOp))), (q8, .inl (cA 0, 400, .inl (za i_nArg))), (q9, .inl (cA 0, 400, .inl (za i_pile))), (q10, .inl (cA 0, 400, .inl (za i_pileAt)))]
def wf_HM_behindSum (cA : Nat → ClassId) (q0 q1 q2 q3 q4 q5 q6 q7 q8 q9 q10 q11 q12 q13 q14 q15 q16 q17 q18 q19 q20 q21 q22 q23 q24 q25 q26 q27 q28 q29 q30 q31 : Nat) (u0 u1 u2 u3 u4 u5 u6 u7 u8 u9 u10 u11 : Int) (i_taped : Int) (i_tape : Nat → Int) (o : Int × Int × Int × Int × Int × Int × Int × Int × Int × Int × (Nat → Int) × (Nat → Int) × (Nat → Int) × (Nat → Int)) : va_W := wd_HM_behindSum cA q0 q1 q2 q3 q4 q5 q6 q7 q8 q9 q10 q11 q12 q13 q14 q15 q16 q17 q18 q19 q20 q21 q22 q23 q24 q25 q26 q27 q28 q29 q30 q31 u0 u1 u2 u3 u4 u5 u6 u7 u8 u9 u10 u11 i_taped i_tape o.2.1 o.2.2.1 o.2.2.2.1 o.2.2.2.2.1 o.2.2.2.2.2.1 o.2.2.2.2.2.2.1 o.2.2.2.2.2.2.2.1 o.2.2.2.2.2.2.2.2.1 o.2.2.2.2.2.2.2.2.2.1 o.2.2.2.2.2.2.2.2.2.2.1 o.2.2.2.2.2.2.2.2.2.2.2.1 o.2.2.2.2.2.2.2.2.2.2.2.2.1 o.2.2.2.2.2.2.2.2.2.2.2.2.2
def f_HM_behindSum_210 (i_taped : Int) (i_tape : Nat → Int) (x2 : Int) (s1 : Int) (i_from : Int) (i_to : Int) (i_sort : Int) (i_worth : Int) (i_fault : Int) (i_bad : Int) (i_nCode : Int) (i_piled : Int) (i_opened : Int) (i_nOp : Nat → Int) (i_nArg : Nat → Int) (i_pile : Nat → Int) (i_pileAt : Nat → Int) : Option (Int × Int × Int × Int × Int × Int × Int × Int × Int × Int × (Nat → Int) × (Nat → Int) × (Nat → Int) × (Nat → Int)) :=
  zd6 (f_HM_must s1 i_taped i_tape i_from i_to i_sort i_worth i_fault i_bad) fun v1 v2 v3 v4 v5 v6 =>
  if zi_w v6 ≠ 0 then
    some (1, v1, v2, v3, v4, v5, v6, i_nCode, i_piled, i_opened, i_nOp, i_nArg, i_pile, i_pileAt)
  else
    zd4 (f_HM_settle 5 i_pile i_pileAt i_nCode i_piled i_nOp i_nArg) fun v7 v8 a9 a10 =>
    zd3 (f_HM_push x2 0 v8 i_pile i_pileAt) fun v11 a12 a13 =>
    some (1, v1, v2, v3, v4, v5, v6, v7, v11, i_opened, a9, a10, a12, a13)
def f_HM_behindSum_205 (i_taped : Int) (i_tape : Nat → Int) (x2 : Int) (i_from : Int) (i_to : Int) (i_sort : Int) (i_worth : Int) (i_fault : Int) (i_bad : Int) (i_nCode : Int) (i_piled : Int) (i_opened : Int) (i_nOp : Nat → Int) (i_nArg : Nat → Int) (i_pile : Nat → Int) (i_pileAt : Nat → Int) : Option (Int × Int × Int × Int × Int × Int × Int × Int × Int × Int × (Nat → Int) × (Nat → Int) × (Nat → Int) × (Nat → Int)) :=
  f_HM_behindSum_210 i_taped i_tape x2 1 i_from i_to i_sort i_worth i_fault i_bad i_nCode i_piled i_opened i_nOp i_nArg i_pile i_pileAt
def f_HM_behindSum_188 (i_taped : Int) (i_tape : Nat → Int) (s0 : Int) (i_from : Int) (i_to : Int) (i_sort : Int) (i_worth : Int) (i_fault : Int) (i_bad : Int) (i_nCode : Int) (i_piled : Int) (i_opened : Int) (i_nOp : Nat → Int) (i_nArg : Nat → Int) (i_pile : Nat → Int) (i_pileAt : Nat → Int) : Option (Int × Int × Int × Int × Int × Int × Int × Int × Int × Int × (Nat → Int) × (Nat → Int) × (Nat → Int) × (Nat → Int)) :=
  if zi_w s0 ≠ zi_w 26 then
    f_HM_behindSum_205 i_taped i_tape s0 i_from i_to i_sort i_worth i_fault i_bad i_nCode i_piled i_opened i_nOp i_nArg i_pile i_pileAt
  else
    zd1 (f_HM_isSign 61 i_sort i_worth) fun v1 =>
    if zi_w v1 = 0 then
      f_HM_behindSum_210 i_taped i_tape s0 0 i_from i_to i_sort i_worth i_fault i_bad i_nCode i_piled i_opened i_nOp i_nArg i_pile i_pileAt
    else
      f_HM_behindSum_205 i_taped i_tape s0 i_from i_to i_sort i_worth i_fault i_bad i_nCode i_piled i_opened i_nOp i_nArg i_pile i_pileAt
def f_HM_behindSum_149 (i_taped : Int) (i_tape : Nat → Int) (i_from : Int) (i_to : Int) (i_sort : Int) (i_worth : Int) (i_fault : Int) (i_bad : Int) (i_nCode : Int) (i_piled : Int) (i_opened : Int) (i_nOp : Nat → Int) (i_nArg : Nat → Int) (i_pile : Nat → Int) (i_pileAt : Nat → Int) : Option (Int × Int × Int × Int × Int × Int × Int × Int × Int × Int × (Nat → Int) × (Nat → Int) × (Nat → Int) × (Nat → Int)) :=
  zd1 (f_HM_isCompared i_piled i_pile) fun v1 =>
  if zi_w v1 = 0 then
    zd1 (f_HM_isSign 60 i_sort i_worth) fun v2 =>
    if zi_w v2 = 0 then
      zd1 (f_HM_isSign 62 i_sort i_worth) fun v3 =>
      if zi_w v3 = 0 then
        f_HM_behindSum_188 i_taped i_tape 26 i_from i_to i_sort i_worth i_fault i_bad i_nCode i_piled i_opened i_nOp i_nArg i_pile i_pileAt
      else
        f_HM_behindSum_188 i_taped i_tape 25 i_from i_to i_sort i_worth i_fault i_bad i_nCode i_piled i_opened i_nOp i_nArg i_pile i_pileAt
    else
      f_HM_behindSum_188 i_taped i_tape 24 i_from i_to i_sort i_worth i_fault i_bad i_nCode i_piled i_opened i_nOp i_nArg i_pile i_pileAt
  else
    some (2, i_from, i_to, i_sort, i_worth, i_fault, i_bad, i_nCode, i_piled, i_opened, i_nOp, i_nArg, i_pile, i_pileAt)
def f_HM_behindSum_57 (i_taped : Int) (i_tape : Nat → Int) (x1 : Int) (s0 : Int) (i_from : Int) (i_to : Int) (i_sort : Int) (i_worth : Int) (i_fault : Int) (i_bad : Int) (i_nCode : Int) (i_piled : Int) (i_opened : Int) (i_nOp : Nat → Int) (i_nArg : Nat → Int) (i_pile : Nat → Int) (i_pileAt : Nat → Int) : Option (Int × Int × Int × Int × Int × Int × Int × Int × Int × Int × (Nat → Int) × (Nat → Int) × (Nat → Int) × (Nat → Int)) :=
  if zi_w s0 = zi_w (-1) then
    zd1 (f_HM_inner i_piled i_pile) fun v1 =>
    if zi_w v1 ≠ zi_w 31 then
      if zi_w v1 ≠ zi_w (-1) then
        f_HM_behindSum_149 i_taped i_tape i_from i_to i_sort i_worth i_fault i_bad i_nCode i_piled i_opened i_nOp i_nArg i_pile i_pileAt
      else
        if zi_w x1 ≠ 0 then
          f_HM_behindSum_149 i_taped i_tape i_from i_to i_sort i_worth i_fault i_bad i_nCode i_piled i_opened i_nOp i_nArg i_pile i_pileAt
        else
          some (4, i_from, i_to, i_sort, i_worth, i_fault, i_bad, i_nCode, i_piled, i_opened, i_nOp, i_nArg, i_pile, i_pileAt)
    else
      zd1 (f_HM_isSign 93 i_sort i_worth) fun v2 =>
      zd6 (f_HM_must v2 i_taped i_tape i_from i_to i_sort i_worth i_fault i_bad) fun v3 v4 v5 v6 v7 v8 =>
      if zi_w v8 ≠ 0 then
        some (3, v3, v4, v5, v6, v7, v8, i_nCode, i_piled, i_opened, i_nOp, i_nArg, i_pile, i_pileAt)
      else
        zd4 (f_HM_settle 5 i_pile i_pileAt i_nCode i_piled i_nOp i_nArg) fun v9 v10 a11 a12 =>
        zn (v10 - 1) fun v13 =>
        zn (i_opened - 1) fun v14 =>
        some (3, v3, v4, v5, v6, v7, v8, v9, v13, v14, a11, a12, i_pile, i_pileAt)
  else
    zd1 (f_HM_binds s0) fun v15 =>
    zd4 (f_HM_settle v15 i_pile i_pileAt i_nCode i_piled i_nOp i_nArg) fun v16 v17 a18 a19 =>
    zd3 (f_HM_push s0 0 v17 i_pile i_pileAt) fun v20 a21 a22 =>
    zd4 (f_HM_next i_taped i_tape i_from i_to i_sort i_worth) fun v23 v24 v25 v26 =>
    some (1, v23, v24, v25, v26, i_fault, i_bad, v16, v20, i_opened, a18, a19, a21, a22)
def f_HM_behindSum (x1 : Int) (i_taped : Int) (i_tape : Nat → Int) (i_from : Int) (i_to : Int) (i_sort : Int) (i_worth : Int) (i_fault : Int) (i_bad : Int) (i_nCode : Int) (i_piled : Int) (i_opened : Int) (i_nOp : Nat → Int) (i_nArg : Nat → Int) (i_pile : Nat → Int) (i_pileAt : Nat → Int) : Option (Int × Int × Int × Int × Int × Int × Int × Int × Int × Int × (Nat → Int) × (Nat → Int) × (Nat → Int) × (Nat → Int)) :=
  zd1 (f_HM_isSign 43 i_sort i_worth) fun v1 =>
  if zi_w v1 = 0 then
    zd1 (f_HM_isSign 45 i_sort i_worth) fun v2 =>
    if zi_w v2 = 0 then
      zd1 (f_HM_isSign 42 i_sort i_worth) fun v3 =>
      if zi_w v3 = 0 then
        zd1 (f_HM_isSign 47 i_sort i_worth) fun v4 =>
        if zi_w v4 = 0 then
          f_HM_behindSum_57 i_taped i_tape x1 (-1) i_from i_to i_sort i_worth i_fault i_bad i_nCode i_piled i_opened i_nOp i_nArg i_pile i_pileAt
        else
          f_HM_behindSum_57 i_taped i_tape x1 23 i_from i_to i_sort i_worth i_fault i_bad i_nCode i_piled i_opened i_nOp i_nArg i_pile i_pileAt
      else
        f_HM_behindSum_57 i_taped i_tape x1 22 i_from i_to i_sort i_worth i_fault i_bad i_nCode i_piled i_opened i_nOp i_nArg i_pile i_pileAt
    else
      f_HM_behindSum_57 i_taped i_tape x1 21 i_from i_to i_sort i_worth i_fault i_bad i_nCode i_piled i_opened i_nOp i_nArg i_pile i_pileAt
  else
    f_HM_behindSum_57 i_taped i_tape x1 20 i_from i_to i_sort i_worth i_fault i_bad i_nCode i_piled i_opened i_nOp i_nArg i_pile i_pileAt
set_option maxHeartbeats 4000000 in
set_option maxRecDepth 100000 in
theorem c_HM_behindSum (l : Launch) (ev : zEv) (dC : Nat → ClassId) (dI : Nat → Nat → Nat) (cA : Nat → ClassId) (q0 q1 q2 q3 q4 q5 q6 q7 q8 q9 q10 q11 q12 q13 q14 q15 q16 q17 q18 q19 q20 q21 q22 q23 q24 q25 q26 q27 q28 q29 q30 q31 : Nat) (u0 u1 u2 u3 u4 u5 u6 u7 u8 u9 u10 u11 : Int) {x1 : Int} {i_taped : Int} {i_tape : Nat → Int} {i_from : Int} {i_to : Int} {i_sort : Int} {i_worth : Int} {i_fault : Int} {i_bad : Int} {i_nCode : Int} {i_piled : Int} {i_opened : Int} {i_nOp : Nat → Int} {i_nArg : Nat → Int} {i_pile : Nat → Int} {i_pileAt : Nat → Int} {out : Int × Int × Int × Int × Int × Int × Int × Int × Int × Int × (Nat → Int) × (Nat → Int) × (Nat → Int) × (Nat → Int)} (hf : f_HM_behindSum x1 i_taped i_tape i_from i_to i_sort i_worth i_fault i_bad i_nCode i_piled i_opened i_nOp i_nArg i_pile i_pileAt = some out) : xc_I l ev (dC, dI) vwCl (tyl cA) yX11_behindSum w_HM_behindSum rm_HM_behindSum [.ref q0, .int (Int32.ofInt x1)] (wd_HM_behindSum cA q0 q1 q2 q3 q4 q5 q6 q7 q8 q9 q10 q11 q12 q13 q14 q15 q16 q17 q18 q19 q20 q21 q22 q23 q24 q25 q26 q27 q28 q29 q30 q31 u0 u1 u2 u3 u4 u5 u6 u7 u8 u9 u10 u11 i_taped i_tape i_from i_to i_sort i_worth i_fault i_bad i_nCode i_piled i_opened i_nOp i_nArg i_pile i_pileAt) (wf_HM_behindSum cA q0 q1 q2 q3 q4 q5 q6 q7 q8 q9 q10 q11 q12 q13 q14 q15 q16 q17 q18 q19 q20 q21 q22 q23 q24 q25 q26 q27 q28 q29 q30 q31 u0 u1 u2 u3 u4 u5 u6 u7 u8 u9 u10 u11 i_taped i_tape out) out.1 := by
  refine xv_startI (cc := cX11_behindSum) (maxL := 4) (rt := .int) (by decide +kernel) rfl (Nat.le_of_ble_eq_true rfl) ?_
  intro p e s m args below meth c A Q H ls hx hb hml hts hown hK hA hP hD hS hl hE hret
  have hown : s.vm.findClass "HillSchoolModel" = some m.cls := hown
  have hz : ∀ w ∈ zall, w.before args s = true := fun w h => hts w (List.mem_cons_of_mem _ h)
  have hl : lv_has ls 4 [(0, .ref q0), (1, .int (Int32.ofInt x1))] := hl
  have b_210 : ∀ (x2 : Int) (s1 : Int) (i_from : Int) (i_to : Int) (i_sort : Int) (i_worth : Int) (i_fault : Int) (i_bad : Int) (i_nCode : Int) (i_piled : Int) (i_opened : Int) (i_nOp : Nat → Int) (i_nArg : Nat → Int) (i_pile : Nat → Int) (i_pileAt : Nat → Int) (H : Heap) (locs : List Loc) (ls : Array Slot), f_HM_behindSum_210 i_taped i_tape x2 s1 i_from i_to i_sort i_worth i_fault i_bad i_nCode i_piled i_opened i_nOp i_nArg i_pile i_pileAt = some out → va_P (dC, dI) vwCl (wd_HM_behindSum cA q0 q1 q2 q3 q4 q5 q6 q7 q8 q9 q10 q11 q12 q13 q14 q15 q16 q17 q18 q19 q20 q21 q22 q23 q24 q25 q26 q27 q28 q29 q30 q31 u0 u1 u2 u3 u4 u5 u6 u7 u8 u9 u10 u11 i_taped i_tape i_from i_to i_sort i_worth i_fault i_bad i_nCode i_piled i_opened i_nOp i_nArg i_pile i_pileAt) H → va_D A (wd_HM_behindSum cA q0 q1 q2 q3 q4 q5 q6 q7 q8 q9 q10 q11 q12 q13 q14 q15 q16 q17 q18 q19 q20 q21 q22 q23 q24 q25 q26 q27 q28 q29 q30 q31 u0 u1 u2 u3 u4 u5 u6 u7 u8 u9 u10 u11 i_taped i_tape i_from i_to i_sort i_worth i_fault i_bad i_nCode i_piled i_opened i_nOp i_nArg i_pile i_pileAt) → va_S A s.heap H locs → lv_has ls 4 [(0, .ref q0), (2, .int (Int32.ofInt x2))] → W p l e rm_HM_behindSum s m args below meth c H locs 0 0 Q (F0 m 210 ls [.int (Int32.ofInt s1), .ref q0]) := by
    intro x2 s1 i_from i_to i_sort i_worth i_fault i_bad i_nCode i_piled i_opened i_nOp i_nArg i_pile i_pileAt H locs ls hf hP hD hS hl
    unfold f_HM_behindSum_210 at hf
    refine xe_d6 hf (fun v1 v2 v3 v4 v5 v6 hg hf => ?_)
    have hC : ([0, 1] : List Nat).map (fun i => (wd_HM_behindSum cA q0 q1 q2 q3 q4 q5 q6 q7 q8 q9 q10 q11 q12 q13 q14 q15 q16 q17 q18 q19 q20 q21 q22 q23 q24 q25 q26 q27 q28 q29 q30 q31 u0 u1 u2 u3 u4 u5 u6 u7 u8 u9 u10 u11 i_taped i_tape i_from i_to i_sort i_worth i_fault i_bad i_nCode i_piled i_opened i_nOp i_nArg i_pile i_pileAt)[i]?) = (wd_HM_must cA q0 q1 q2 q3 q4 q5 q6 q7 q8 q9 q10 q11 q12 q13 q14 q15 q16 q17 q18 q19 q20 q21 q22 q23 q24 q25 q26 q27 q28 q29 q30 q31 u0 u1 u2 u3 i_nCode u4 i_piled i_opened u5 u6 u7 u8 u9 u10 u11 i_taped i_tape i_from i_to i_sort i_worth i_fault i_bad).map some := rfl
    refine xv_afterV (ws' := (wd_HM_behindSum cA q0 q1 q2 q3 q4 q5 q6 q7 q8 q9 q10 q11 q12 q13 q14 q15 q16 q17 q18 q19 q20 q21 q22 q23 q24 q25 q26 q27 q28 q29 q30 q31 u0 u1 u2 u3 u4 u5 u6 u7 u8 u9 u10 u11 i_taped i_tape v1 v2 v3 v4 v5 v6 i_nCode i_piled i_opened i_nOp i_nArg i_pile i_pileAt)) (isC := [0, 1]) (ps := [some 0, some 1, none, none, none, none]) (va_runV (As := [.int (Int32.ofInt s1)]) (rest := []) ⟨hx, hb, hml, hown, hts⟩ (c_HM_must l ev dC dI cA q0 q1 q2 q3 q4 q5 q6 q7 q8 q9 q10 q11 q12 q13 q14 q15 q16 q17 q18 q19 q20 q21 q22 q23 q24 q25 q26 q27 q28 q29 q30 q31 u0 u1 u2 u3 i_nCode u4 i_piled i_opened u5 u6 u7 u8 u9 u10 u11 hg H.size) (cwV 1 hts (zgV zw_1465 zw_1467 zw_50 zw_115 zw_1468) rfl rfl rfl hd_HM_must ⟨Nat.le_of_ble_eq_true rfl, Nat.le_of_ble_eq_true rfl⟩) (xv_preV (T := TX11) (N := 53) hE hA hS hK hP hD (isC := [0, 1]) (by decide +kernel) hC (q0 := 0) (ci := 11) rfl rfl) rfl rfl hl.1 rfl (lv_room (Nat.le_of_ble_eq_true rfl)) dX11_behindSum_210 ⟨Nat.le_refl _, Nat.le_refl _⟩) hP hD hS hA (by decide +kernel) rfl hC rfl rfl (fun H locs hP hD hS => ?_)
    refine lv_aload_n hx hb dX11_behindSum_213 rfl (lv_at hl 0 rfl) ?_
    refine va_get (D := (dC, dI)) (ci := 11) (v := .int (Int32.ofInt v6)) (C := RX11) (T := TX11) (N := 53) hx hb hz zi_X11 hown hK hP 0 rfl rfl 14 (by decide) (hz _ zw_1179) (fun _ h9 => h9) rfl dX11_behindSum_214 ?_
    refine xi_if_ne (tgt := 231) hx hb dX11_behindSum_217 (by decide) hf (fun hf => ?_) (fun hf => ?_)
    · refine lv_iconst (v := Int32.ofInt 1) hx hb dX11_behindSum_231 rfl ?_
      obtain rfl := Option.some.inj hf
      exact hret _ _ _ _ rfl dX11_behindSum_232 hP hD hS
    · refine lv_aload_n hx hb dX11_behindSum_220 rfl (lv_at hl 0 rfl) ?_
      refine lv_iconst (v := Int32.ofInt 5) hx hb dX11_behindSum_221 rfl ?_
      refine xe_d4 hf (fun v7 v8 a9 a10 hg hf => ?_)
      have hC : ([0, 2, 3, 4, 5] : List Nat).map (fun i => (wd_HM_behindSum cA q0 q1 q2 q3 q4 q5 q6 q7 q8 q9 q10 q11 q12 q13 q14 q15 q16 q17 q18 q19 q20 q21 q22 q23 q24 q25 q26 q27 q28 q29 q30 q31 u0 u1 u2 u3 u4 u5 u6 u7 u8 u9 u10 u11 i_taped i_tape v1 v2 v3 v4 v5 v6 i_nCode i_piled i_opened i_nOp i_nArg i_pile i_pileAt)[i]?) = (wd_HM_settle cA q0 q1 q2 q3 q4 q5 q6 q7 q8 q9 q10 q11 q12 q13 q14 q15 q16 q17 q18 q19 q20 q21 q22 q23 q24 q25 q26 q27 q28 q29 q30 q31 u0 u1 u2 i_taped v1 v2 v3 v4 v5 v6 u3 u4 i_opened u5 u6 u7 u8 u9 u10 u11 i_pile i_pileAt i_nCode i_piled i_nOp i_nArg).map some := rfl
      refine xv_afterV (ws' := (wd_HM_behindSum cA q0 q1 q2 q3 q4 q5 q6 q7 q8 q9 q10 q11 q12 q13 q14 q15 q16 q17 q18 q19 q20 q21 q22 q23 q24 q25 q26 q27 q28 q29 q30 q31 u0 u1 u2 u3 u4 u5 u6 u7 u8 u9 u10 u11 i_taped i_tape v1 v2 v3 v4 v5 v6 v7 v8 i_opened a9 a10 i_pile i_pileAt)) (isC := [0, 2, 3, 4, 5]) (ps := [some 0, none, some 1, some 2, some 3, some 4]) (va_runV (As := [.int (Int32.ofInt 5)]) (rest := []) ⟨hx, hb, hml, hown, hts⟩ (c_HM_settle l ev dC dI cA q0 q1 q2 q3 q4 q5 q6 q7 q8 q9 q10 q11 q12 q13 q14 q15 q16 q17 q18 q19 q20 q21 q22 q23 q24 q25 q26 q27 q28 q29 q30 q31 u0 u1 u2 i_taped v1 v2 v3 v4 v5 v6 u3 u4 i_opened u5 u6 u7 u8 u9 u10 u11 hg H.size) (cwV 1 hts (zgV zw_1514 zw_1516 zw_61 zw_115 zw_1517) rfl rfl rfl hd_HM_settle ⟨Nat.le_of_ble_eq_true rfl, Nat.le_of_ble_eq_true rfl⟩) (xv_preV (T := TX11) (N := 53) hE hA hS hK hP hD (isC := [0, 2, 3, 4, 5]) (by decide +kernel) hC (q0 := 0) (ci := 11) rfl rfl) rfl rfl hl.1 rfl (lv_room (Nat.le_of_ble_eq_true rfl)) dX11_behindSum_222 ⟨Nat.le_refl _, Nat.le_refl _⟩) hP hD hS hA (by decide +kernel) rfl hC rfl rfl (fun H locs hP hD hS => ?_)
      refine lv_aload_n hx hb dX11_behindSum_225 rfl (lv_at hl 0 rfl) ?_
      refine lv_iload_n hx hb dX11_behindSum_226 rfl (lv_at hl 1 rfl) ?_
      refine lv_iconst (v := Int32.ofInt 0) hx hb dX11_behindSum_227 rfl ?_
      refine xe_d3 hf (fun v11 a12 a13 hg hf => ?_)
      have hC : ([0, 4, 5] : List Nat).map (fun i => (wd_HM_behindSum cA q0 q1 q2 q3 q4 q5 q6 q7 q8 q9 q10 q11 q12 q13 q14 q15 q16 q17 q18 q19 q20 q21 q22 q23 q24 q25 q26 q27 q28 q29 q30 q31 u0 u1 u2 u3 u4 u5 u6 u7 u8 u9 u10 u11 i_taped i_tape v1 v2 v3 v4 v5 v6 v7 v8 i_opened a9 a10 i_pile i_pileAt)[i]?) = (wd_HM_push cA q0 q1 q2 q3 q4 q5 q6 q7 q8 q9 q10 q11 q12 q13 q14 q15 q16 q17 q18 q19 q20 q21 q22 q23 q24 q25 q26 q27 q28 q29 q30 q31 u0 u1 u2 i_taped v1 v2 v3 v4 v5 v6 u3 v7 u4 i_opened u5 u6 u7 u8 u9 u10 u11 v8 i_pile i_pileAt).map some := rfl
      refine xv_afterV (ws' := (wd_HM_behindSum cA q0 q1 q2 q3 q4 q5 q6 q7 q8 q9 q10 q11 q12 q13 q14 q15 q16 q17 q18 q19 q20 q21 q22 q23 q24 q25 q26 q27 q28 q29 q30 q31 u0 u1 u2 u3 u4 u5 u6 u7 u8 u9 u10 u11 i_taped i_tape v1 v2 v3 v4 v5 v6 v7 v11 i_opened a9 a10 a12 a13)) (isC := [0, 4, 5]) (ps := [some 0, none, none, none, some 1, some 2]) (va_runV (As := [.int (Int32.ofInt x2), .int (Int32.ofInt 0)]) (rest := []) ⟨hx, hb, hml, hown, hts⟩ (c_HM_push l ev dC dI cA q0 q1 q2 q3 q4 q5 q6 q7 q8 q9 q10 q11 q12 q13 q14 q15 q16 q17 q18 q19 q20 q21 q22 q23 q24 q25 q26 q27 q28 q29 q30 q31 u0 u1 u2 i_taped v1 v2 v3 v4 v5 v6 u3 v7 u4 i_opened u5 u6 u7 u8 u9 u10 u11 hg H.size) (cwV 2 hts (zgV zw_1478 zw_1480 zw_53 zw_115 zw_1481) rfl rfl rfl hd_HM_push ⟨Nat.le_of_ble_eq_true rfl, Nat.le_of_ble_eq_true rfl⟩) (xv_preV (T := TX11) (N := 53) hE hA hS hK hP hD (isC := [0, 4, 5]) (by decide +kernel) hC (q0 := 0) (ci := 11) rfl rfl) rfl rfl hl.1 rfl (lv_room (Nat.le_of_ble_eq_true rfl)) dX11_behindSum_228 ⟨Nat.le_refl _, Nat.le_refl _⟩) hP hD hS hA (by decide +kernel) rfl hC rfl rfl (fun H locs hP hD hS => ?_)
      refine lv_iconst (v := Int32.ofInt 1) hx hb dX11_behindSum_231 rfl ?_
      obtain rfl := Option.some.inj hf
      exact hret _ _ _ _ rfl dX11_behindSum_232 hP hD hS
  have b_205 : ∀ (x2 : Int) (i_from : Int) (i_to : Int) (i_sort : Int) (i_worth : Int) (i_fault : Int) (i_bad : Int) (i_nCode : Int) (i_piled : Int) (i_opened : Int) (i_nOp : Nat → Int) (i_nArg : Nat → Int) (i_pile : Nat → Int) (i_pileAt : Nat → Int) (H : Heap) (locs : List Loc) (ls : Array Slot), f_HM_behindSum_205 i_taped i_tape x2 i_from i_to i_sort i_worth i_fault i_bad i_nCode i_piled i_opened i_nOp i_nArg i_pile i_pileAt = some out → va_P (dC, dI) vwCl (wd_HM_behindSum cA q0 q1 q2 q3 q4 q5 q6 q7 q8 q9 q10 q11 q12 q13 q14 q15 q16 q17 q18 q19 q20 q21 q22 q23 q24 q25 q26 q27 q28 q29 q30 q31 u0 u1 u2 u3 u4 u5 u6 u7 u8 u9 u10 u11 i_taped i_tape i_from i_to i_sort i_worth i_fault i_bad i_nCode i_piled i_opened i_nOp i_nArg i_pile i_pileAt) H → va_D A (wd_HM_behindSum cA q0 q1 q2 q3 q4 q5 q6 q7 q8 q9 q10 q11 q12 q13 q14 q15 q16 q17 q18 q19 q20 q21 q22 q23 q24 q25 q26 q27 q28 q29 q30 q31 u0 u1 u2 u3 u4 u5 u6 u7 u8 u9 u10 u11 i_taped i_tape i_from i_to i_sort i_worth i_fault i_bad i_nCode i_piled i_opened i_nOp i_nArg i_pile i_pileAt) → va_S A s.heap H locs → lv_has ls 4 [(0, .ref q0), (2, .int (Int32.ofInt x2))] → W p l e rm_HM_behindSum s m args below meth c H locs 0 0 Q (F0 m 205 ls [.ref q0]) := by
    intro x2 i_from i_to i_sort i_worth i_fault i_bad i_nCode i_piled i_opened i_nOp i_nArg i_pile i_pileAt H locs ls hf hP hD hS hl
    unfold f_HM_behindSum_205 at hf
    refine lv_iconst (v := Int32.ofInt 1) hx hb dX11_behindSum_205 rfl ?_
    refine lv_goto (tgt := 210) hx hb dX11_behindSum_206 (by decide) ?_
    exact b_210  _ _ _ _ _ _ _ _ _ _ _ _ _ _ _ _ _ _ hf hP hD hS (lv_sub hl [0, 1] rfl)
  have b_188 : ∀ (s0 : Int) (i_from : Int) (i_to : Int) (i_sort : Int) (i_worth : Int) (i_fault : Int) (i_bad : Int) (i_nCode : Int) (i_piled : Int) (i_opened : Int) (i_nOp : Nat → Int) (i_nArg : Nat → Int) (i_pile : Nat → Int) (i_pileAt : Nat → Int) (H : Heap) (locs : List Loc) (ls : Array Slot), f_HM_behindSum_188 i_taped i_tape s0 i_from i_to i_sort i_worth i_fault i_bad i_nCode i_piled i_opened i_nOp i_nArg i_pile i_pileAt = some out → va_P (dC, dI) vwCl (wd_HM_behindSum cA q0 q1 q2 q3 q4 q5 q6 q7 q8 q9 q10 q11 q12 q13 q14 q15 q16 q17 q18 q19 q20 q21 q22 q23 q24 q25 q26 q27 q28 q29 q30 q31 u0 u1 u2 u3 u4 u5 u6 u7 u8 u9 u10 u11 i_taped i_tape i_from i_to i_sort i_worth i_fault i_bad i_nCode i_piled i_opened i_nOp i_nArg i_pile i_pileAt) H → va_D A (wd_HM_behindSum cA q0 q1 q2 q3 q4 q5 q6 q7 q8 q9 q10 q11 q12 q13 q14 q15 q16 q17 q18 q19 q20 q21 q22 q23 q24 q25 q26 q27 q28 q29 q30 q31 u0 u1 u2 u3 u4 u5 u6 u7 u8 u9 u10 u11 i_taped i_tape i_from i_to i_sort i_worth i_fault i_bad i_nCode i_piled i_opened i_nOp i_nArg i_pile i_pileAt) → va_S A s.heap H locs → lv_has ls 4 [(0, .ref q0)] → W p l e rm_HM_behindSum s m args below meth c H locs 0 0 Q (F0 m 188 ls [.int (Int32.ofInt s0)]) := by
    intro s0 i_from i_to i_sort i_worth i_fault i_bad i_nCode i_piled i_opened i_nOp i_nArg i_pile i_pileAt H locs ls hf hP hD hS hl
    unfold f_HM_behindSum_188 at hf
    refine lv_istore_n (lv' := [(2, .int (Int32.ofInt s0)), (0, .ref q0)]) hx hb dX11_behindSum_188 rfl hl (by decide) rfl (fun ls hl => ?_)
    refine lv_aload_n hx hb dX11_behindSum_189 rfl (lv_at hl 1 rfl) ?_
    refine lv_iload_n hx hb dX11_behindSum_190 rfl (lv_at hl 0 rfl) ?_
    refine lv_bipush (v := Int32.ofInt 26) hx hb dX11_behindSum_191 (by decide) ?_
    refine xi_icmp_ne (tgt := 205) hx hb dX11_behindSum_193 (by decide) hf (fun hf => ?_) (fun hf => ?_)
    · exact b_205  _ _ _ _ _ _ _ _ _ _ _ _ _ _ _ _ _ hf hP hD hS (lv_sub hl [1, 0] rfl)
    · refine lv_aload_n hx hb dX11_behindSum_196 rfl (lv_at hl 1 rfl) ?_
      refine lv_bipush (v := Int32.ofInt 61) hx hb dX11_behindSum_197 (by decide) ?_
      refine xe_d1 hf (fun v1 hg hf => ?_)
      have hC : ([0] : List Nat).map (fun i => (wd_HM_behindSum cA q0 q1 q2 q3 q4 q5 q6 q7 q8 q9 q10 q11 q12 q13 q14 q15 q16 q17 q18 q19 q20 q21 q22 q23 q24 q25 q26 q27 q28 q29 q30 q31 u0 u1 u2 u3 u4 u5 u6 u7 u8 u9 u10 u11 i_taped i_tape i_from i_to i_sort i_worth i_fault i_bad i_nCode i_piled i_opened i_nOp i_nArg i_pile i_pileAt)[i]?) = (wd_HM_isSign cA q0 q1 q2 q3 q4 q5 q6 q7 q8 q9 q10 q11 q12 q13 q14 q15 q16 q17 q18 q19 q20 q21 q22 q23 q24 q25 q26 q27 q28 q29 q30 q31 u0 u1 u2 i_taped i_from i_to i_fault i_bad u3 i_nCode u4 i_piled i_opened u5 u6 u7 u8 u9 u10 u11 i_sort i_worth).map some := rfl
      refine xv_afterI (ws' := (wd_HM_behindSum cA q0 q1 q2 q3 q4 q5 q6 q7 q8 q9 q10 q11 q12 q13 q14 q15 q16 q17 q18 q19 q20 q21 q22 q23 q24 q25 q26 q27 q28 q29 q30 q31 u0 u1 u2 u3 u4 u5 u6 u7 u8 u9 u10 u11 i_taped i_tape i_from i_to i_sort i_worth i_fault i_bad i_nCode i_piled i_opened i_nOp i_nArg i_pile i_pileAt)) (isC := [0]) (ps := [some 0, none, none, none, none, none]) (va_runV (As := [.int (Int32.ofInt 61)]) (rest := [.ref q0]) ⟨hx, hb, hml, hown, hts⟩ (c_HM_isSign l ev dC dI cA q0 q1 q2 q3 q4 q5 q6 q7 q8 q9 q10 q11 q12 q13 q14 q15 q16 q17 q18 q19 q20 q21 q22 q23 q24 q25 q26 q27 q28 q29 q30 q31 u0 u1 u2 i_taped i_from i_to i_fault i_bad u3 i_nCode u4 i_piled i_opened u5 u6 u7 u8 u9 u10 u11 hg H.size) (cwV 1 hts (zgV zw_1482 zw_1484 zw_54 zw_115 zw_1485) rfl rfl rfl hd_HM_isSign ⟨Nat.le_of_ble_eq_true rfl, Nat.le_of_ble_eq_true rfl⟩) (xv_preV (T := TX11) (N := 53) hE hA hS hK hP hD (isC := [0]) (by decide +kernel) hC (q0 := 0) (ci := 11) rfl rfl) rfl rfl hl.1 rfl (lv_room (Nat.le_of_ble_eq_true rfl)) dX11_behindSum_199 ⟨Nat.le_refl _, Nat.le_refl _⟩) hP hD hS hA (by decide +kernel) rfl hC rfl rfl (fun H locs hP hD hS => ?_)
      refine xi_if_eq (tgt := 209) hx hb dX11_behindSum_202 (by decide) hf (fun hf => ?_) (fun hf => ?_)
      · refine lv_iconst (v := Int32.ofInt 0) hx hb dX11_behindSum_209 rfl ?_
        exact b_210  _ _ _ _ _ _ _ _ _ _ _ _ _ _ _ _ _ _ hf hP hD hS (lv_sub hl [1, 0] rfl)
      · exact b_205  _ _ _ _ _ _ _ _ _ _ _ _ _ _ _ _ _ hf hP hD hS (lv_sub hl [1, 0] rfl)
  have b_149 : ∀ (i_from : Int) (i_to : Int) (i_sort : Int) (i_worth : Int) (i_fault : Int) (i_bad : Int) (i_nCode : Int) (i_piled : Int) (i_opened : Int) (i_nOp : Nat → Int) (i_nArg : Nat → Int) (i_pile : Nat → Int) (i_pileAt : Nat → Int) (H : Heap) (locs : List Loc) (ls : Array Slot), f_HM_behindSum_149 i_taped i_tape i_from i_to i_sort i_worth i_fault i_bad i_nCode i_piled i_opened i_nOp i_nArg i_pile i_pileAt = some out → va_P (dC, dI) vwCl (wd_HM_behindSum cA q0 q1 q2 q3 q4 q5 q6 q7 q8 q9 q10 q11 q12 q13 q14 q15 q16 q17 q18 q19 q20 q21 q22 q23 q24 q25 q26 q27 q28 q29 q30 q31 u0 u1 u2 u3 u4 u5 u6 u7 u8 u9 u10 u11 i_taped i_tape i_from i_to i_sort i_worth i_fault i_bad i_nCode i_piled i_opened i_nOp i_nArg i_pile i_pileAt) H → va_D A (wd_HM_behindSum cA q0 q1 q2 q3 q4 q5 q6 q7 q8 q9 q10 q11 q12 q13 q14 q15 q16 q17 q18 q19 q20 q21 q22 q23 q24 q25 q26 q27 q28 q29 q30 q31 u0 u1 u2 u3 u4 u5 u6 u7 u8 u9 u10 u11 i_taped i_tape i_from i_to i_sort i_worth i_fault i_bad i_nCode i_piled i_opened i_nOp i_nArg i_pile i_pileAt) → va_S A s.heap H locs → lv_has ls 4 [(0, .ref q0)] → W p l e rm_HM_behindSum s m args below meth c H locs 0 0 Q (F0 m 149 ls []) := by
    intro i_from i_to i_sort i_worth i_fault i_bad i_nCode i_piled i_opened i_nOp i_nArg i_pile i_pileAt H locs ls hf hP hD hS hl
    unfold f_HM_behindSum_149 at hf
    refine lv_aload_n hx hb dX11_behindSum_149 rfl (lv_at hl 0 rfl) ?_
    refine xe_d1 hf (fun v1 hg hf => ?_)
    have hC : ([0, 4] : List Nat).map (fun i => (wd_HM_behindSum cA q0 q1 q2 q3 q4 q5 q6 q7 q8 q9 q10 q11 q12 q13 q14 q15 q16 q17 q18 q19 q20 q21 q22 q23 q24 q25 q26 q27 q28 q29 q30 q31 u0 u1 u2 u3 u4 u5 u6 u7 u8 u9 u10 u11 i_taped i_tape i_from i_to i_sort i_worth i_fault i_bad i_nCode i_piled i_opened i_nOp i_nArg i_pile i_pileAt)[i]?) = (wd_HM_isCompared cA q0 q1 q2 q3 q4 q5 q6 q7 q8 q9 q10 q11 q12 q13 q14 q15 q16 q17 q18 q19 q20 q21 q22 q23 q24 q25 q26 q27 q28 q29 q30 q31 u0 u1 u2 i_taped i_from i_to i_sort i_worth i_fault i_bad u3 i_nCode u4 i_opened u5 u6 u7 u8 u9 u10 u11 i_piled i_pile).map some := rfl
    refine xv_afterI (ws' := (wd_HM_behindSum cA q0 q1 q2 q3 q4 q5 q6 q7 q8 q9 q10 q11 q12 q13 q14 q15 q16 q17 q18 q19 q20 q21 q22 q23 q24 q25 q26 q27 q28 q29 q30 q31 u0 u1 u2 u3 u4 u5 u6 u7 u8 u9 u10 u11 i_taped i_tape i_from i_to i_sort i_worth i_fault i_bad i_nCode i_piled i_opened i_nOp i_nArg i_pile i_pileAt)) (isC := [0, 4]) (ps := [some 0, none, none, none, some 1, none]) (va_runV (As := []) (rest := []) ⟨hx, hb, hml, hown, hts⟩ (c_HM_isCompared l ev dC dI cA q0 q1 q2 q3 q4 q5 q6 q7 q8 q9 q10 q11 q12 q13 q14 q15 q16 q17 q18 q19 q20 q21 q22 q23 q24 q25 q26 q27 q28 q29 q30 q31 u0 u1 u2 i_taped i_from i_to i_sort i_worth i_fault i_bad u3 i_nCode u4 i_opened u5 u6 u7 u8 u9 u10 u11 hg H.size) (cwV 0 hts (zgV zw_1522 zw_1524 zw_63 zw_115 zw_1525) rfl rfl rfl hd_HM_isCompared ⟨Nat.le_of_ble_eq_true rfl, Nat.le_of_ble_eq_true rfl⟩) (xv_preV (T := TX11) (N := 53) hE hA hS hK hP hD (isC := [0, 4]) (by decide +kernel) hC (q0 := 0) (ci := 11) rfl rfl) rfl rfl hl.1 rfl (lv_room (Nat.le_of_ble_eq_true rfl)) dX11_behindSum_150 ⟨Nat.le_refl _, Nat.le_refl _⟩) hP hD hS hA (by decide +kernel) rfl hC rfl rfl (fun H locs hP hD hS => ?_)
    refine xi_if_eq (tgt := 158) hx hb dX11_behindSum_153 (by decide) hf (fun hf => ?_) (fun hf => ?_)
    · refine lv_aload_n hx hb dX11_behindSum_158 rfl (lv_at hl 0 rfl) ?_
      refine lv_bipush (v := Int32.ofInt 60) hx hb dX11_behindSum_159 (by decide) ?_
      refine xe_d1 hf (fun v2 hg hf => ?_)
      have hC : ([0] : List Nat).map (fun i => (wd_HM_behindSum cA q0 q1 q2 q3 q4 q5 q6 q7 q8 q9 q10 q11 q12 q13 q14 q15 q16 q17 q18 q19 q20 q21 q22 q23 q24 q25 q26 q27 q28 q29 q30 q31 u0 u1 u2 u3 u4 u5 u6 u7 u8 u9 u10 u11 i_taped i_tape i_from i_to i_sort i_worth i_fault i_bad i_nCode i_piled i_opened i_nOp i_nArg i_pile i_pileAt)[i]?) = (wd_HM_isSign cA q0 q1 q2 q3 q4 q5 q6 q7 q8 q9 q10 q11 q12 q13 q14 q15 q16 q17 q18 q19 q20 q21 q22 q23 q24 q25 q26 q27 q28 q29 q30 q31 u0 u1 u2 i_taped i_from i_to i_fault i_bad u3 i_nCode u4 i_piled i_opened u5 u6 u7 u8 u9 u10 u11 i_sort i_worth).map some := rfl
      refine xv_afterI (ws' := (wd_HM_behindSum cA q0 q1 q2 q3 q4 q5 q6 q7 q8 q9 q10 q11 q12 q13 q14 q15 q16 q17 q18 q19 q20 q21 q22 q23 q24 q25 q26 q27 q28 q29 q30 q31 u0 u1 u2 u3 u4 u5 u6 u7 u8 u9 u10 u11 i_taped i_tape i_from i_to i_sort i_worth i_fault i_bad i_nCode i_piled i_opened i_nOp i_nArg i_pile i_pileAt)) (isC := [0]) (ps := [some 0, none, none, none, none, none]) (va_runV (As := [.int (Int32.ofInt 60)]) (rest := []) ⟨hx, hb, hml, hown, hts⟩ (c_HM_isSign l ev dC dI cA q0 q1 q2 q3 q4 q5 q6 q7 q8 q9 q10 q11 q12 q13 q14 q15 q16 q17 q18 q19 q20 q21 q22 q23 q24 q25 q26 q27 q28 q29 q30 q31 u0 u1 u2 i_taped i_from i_to i_fault i_bad u3 i_nCode u4 i_piled i_opened u5 u6 u7 u8 u9 u10 u11 hg H.size) (cwV 1 hts (zgV zw_1482 zw_1484 zw_54 zw_115 zw_1485) rfl rfl rfl hd_HM_isSign ⟨Nat.le_of_ble_eq_true rfl, Nat.le_of_ble_eq_true rfl⟩) (xv_preV (T := TX11) (N := 53) hE hA hS hK hP hD (isC := [0]) (by decide +kernel) hC (q0 := 0) (ci := 11) rfl rfl) rfl rfl hl.1 rfl (lv_room (Nat.le_of_ble_eq_true rfl)) dX11_behindSum_161 ⟨Nat.le_refl _, Nat.le_refl _⟩) hP hD hS hA (by decide +kernel) rfl hC rfl rfl (fun H locs hP hD hS => ?_)
      refine xi_if_eq (tgt := 172) hx hb dX11_behindSum_164 (by decide) hf (fun hf => ?_) (fun hf => ?_)
      · refine lv_aload_n hx hb dX11_behindSum_172 rfl (lv_at hl 0 rfl) ?_
        refine lv_bipush (v := Int32.ofInt 62) hx hb dX11_behindSum_173 (by decide) ?_
        refine xe_d1 hf (fun v3 hg hf => ?_)
        have hC : ([0] : List Nat).map (fun i => (wd_HM_behindSum cA q0 q1 q2 q3 q4 q5 q6 q7 q8 q9 q10 q11 q12 q13 q14 q15 q16 q17 q18 q19 q20 q21 q22 q23 q24 q25 q26 q27 q28 q29 q30 q31 u0 u1 u2 u3 u4 u5 u6 u7 u8 u9 u10 u11 i_taped i_tape i_from i_to i_sort i_worth i_fault i_bad i_nCode i_piled i_opened i_nOp i_nArg i_pile i_pileAt)[i]?) = (wd_HM_isSign cA q0 q1 q2 q3 q4 q5 q6 q7 q8 q9 q10 q11 q12 q13 q14 q15 q16 q17 q18 q19 q20 q21 q22 q23 q24 q25 q26 q27 q28 q29 q30 q31 u0 u1 u2 i_taped i_from i_to i_fault i_bad u3 i_nCode u4 i_piled i_opened u5 u6 u7 u8 u9 u10 u11 i_sort i_worth).map some := rfl
        refine xv_afterI (ws' := (wd_HM_behindSum cA q0 q1 q2 q3 q4 q5 q6 q7 q8 q9 q10 q11 q12 q13 q14 q15 q16 q17 q18 q19 q20 q21 q22 q23 q24 q25 q26 q27 q28 q29 q30 q31 u0 u1 u2 u3 u4 u5 u6 u7 u8 u9 u10 u11 i_taped i_tape i_from i_to i_sort i_worth i_fault i_bad i_nCode i_piled i_opened i_nOp i_nArg i_pile i_pileAt)) (isC := [0]) (ps := [some 0, none, none, none, none, none]) (va_runV (As := [.int (Int32.ofInt 62)]) (rest := []) ⟨hx, hb, hml, hown, hts⟩ (c_HM_isSign l ev dC dI cA q0 q1 q2 q3 q4 q5 q6 q7 q8 q9 q10 q11 q12 q13 q14 q15 q16 q17 q18 q19 q20 q21 q22 q23 q24 q25 q26 q27 q28 q29 q30 q31 u0 u1 u2 i_taped i_from i_to i_fault i_bad u3 i_nCode u4 i_piled i_opened u5 u6 u7 u8 u9 u10 u11 hg H.size) (cwV 1 hts (zgV zw_1482 zw_1484 zw_54 zw_115 zw_1485) rfl rfl rfl hd_HM_isSign ⟨Nat.le_of_ble_eq_true rfl, Nat.le_of_ble_eq_true rfl⟩) (xv_preV (T := TX11) (N := 53) hE hA hS hK hP hD (isC := [0]) (by decide +kernel) hC (q0 := 0) (ci := 11) rfl rfl) rfl rfl hl.1 rfl (lv_room (Nat.le_of_ble_eq_true rfl)) dX11_behindSum_175 ⟨Nat.le_refl _, Nat.le_refl _⟩) hP hD hS hA (by decide +kernel) rfl hC rfl rfl (fun H locs hP hD hS => ?_)
        refine xi_if_eq (tgt := 186) hx hb dX11_behindSum_178 (by decide) hf (fun hf => ?_) (fun hf => ?_)
        · refine lv_bipush (v := Int32.ofInt 26) hx hb dX11_behindSum_186 (by decide) ?_
          exact b_188  _ _ _ _ _ _ _ _ _ _ _ _ _ _ _ _ _ hf hP hD hS (lv_sub hl [0] rfl)
        · refine lv_bipush (v := Int32.ofInt 25) hx hb dX11_behindSum_181 (by decide) ?_
          refine lv_goto (tgt := 188) hx hb dX11_behindSum_183 (by decide) ?_
          exact b_188  _ _ _ _ _ _ _ _ _ _ _ _ _ _ _ _ _ hf hP hD hS (lv_sub hl [0] rfl)
      · refine lv_bipush (v := Int32.ofInt 24) hx hb dX11_behindSum_167 (by decide) ?_
        refine lv_goto (tgt := 188) hx hb dX11_behindSum_169 (by decide) ?_
        exact b_188  _ _ _ _ _ _ _ _ _ _ _ _ _ _ _ _ _ hf hP hD hS (lv_sub hl [0] rfl)
    · refine lv_iconst (v := Int32.ofInt 2) hx hb dX11_behindSum_156 rfl ?_
      obtain rfl := Option.some.inj hf
      exact hret _ _ _ _ rfl dX11_behindSum_157 hP hD hS
  have b_57 : ∀ (x1 : Int) (s0 : Int) (i_from : Int) (i_to : Int) (i_sort : Int) (i_worth : Int) (i_fault : Int) (i_bad : Int) (i_nCode : Int) (i_piled : Int) (i_opened : Int) (i_nOp : Nat → Int) (i_nArg : Nat → Int) (i_pile : Nat → Int) (i_pileAt : Nat → Int) (H : Heap) (locs : List Loc) (ls : Array Slot), f_HM_behindSum_57 i_taped i_tape x1 s0 i_from i_to i_sort i_worth i_fault i_bad i_nCode i_piled i_opened i_nOp i_nArg i_pile i_pileAt = some out → va_P (dC, dI) vwCl (wd_HM_behindSum cA q0 q1 q2 q3 q4 q5 q6 q7 q8 q9 q10 q11 q12 q13 q14 q15 q16 q17 q18 q19 q20 q21 q22 q23 q24 q25 q26 q27 q28 q29 q30 q31 u0 u1 u2 u3 u4 u5 u6 u7 u8 u9 u10 u11 i_taped i_tape i_from i_to i_sort i_worth i_fault i_bad i_nCode i_piled i_opened i_nOp i_nArg i_pile i_pileAt) H → va_D A (wd_HM_behindSum cA q0 q1 q2 q3 q4 q5 q6 q7 q8 q9 q10 q11 q12 q13 q14 q15 q16 q17 q18 q19 q20 q21 q22 q23 q24 q25 q26 q27 q28 q29 q30 q31 u0 u1 u2 u3 u4 u5 u6 u7 u8 u9 u10 u11 i_taped i_tape i_from i_to i_sort i_worth i_fault i_bad i_nCode i_piled i_opened i_nOp i_nArg i_pile i_pileAt) → va_S A s.heap H locs → lv_has ls 4 [(0, .ref q0), (1, .int (Int32.ofInt x1))] → W p l e rm_HM_behindSum s m args below meth c H locs 0 0 Q (F0 m 57 ls [.int (Int32.ofInt s0)]) := by
    intro x1 s0 i_from i_to i_sort i_worth i_fault i_bad i_nCode i_piled i_opened i_nOp i_nArg i_pile i_pileAt H locs ls hf hP hD hS hl
    unfold f_HM_behindSum_57 at hf
    refine lv_istore_n (lv' := [(2, .int (Int32.ofInt s0)), (0, .ref q0), (1, .int (Int32.ofInt x1))]) hx hb dX11_behindSum_57 rfl hl (by decide) rfl (fun ls hl => ?_)
    refine lv_iload_n hx hb dX11_behindSum_58 rfl (lv_at hl 0 rfl) ?_
    refine lv_iconst (v := Int32.ofInt (-1)) hx hb dX11_behindSum_59 rfl ?_
    refine xi_icmp_eq (tgt := 83) hx hb dX11_behindSum_60 (by decide) hf (fun hf => ?_) (fun hf => ?_)
    · refine lv_aload_n hx hb dX11_behindSum_83 rfl (lv_at hl 1 rfl) ?_
      refine xe_d1 hf (fun v1 hg hf => ?_)
      have hC : ([0, 4] : List Nat).map (fun i => (wd_HM_behindSum cA q0 q1 q2 q3 q4 q5 q6 q7 q8 q9 q10 q11 q12 q13 q14 q15 q16 q17 q18 q19 q20 q21 q22 q23 q24 q25 q26 q27 q28 q29 q30 q31 u0 u1 u2 u3 u4 u5 u6 u7 u8 u9 u10 u11 i_taped i_tape i_from i_to i_sort i_worth i_fault i_bad i_nCode i_piled i_opened i_nOp i_nArg i_pile i_pileAt)[i]?) = (wd_HM_inner cA q0 q1 q2 q3 q4 q5 q6 q7 q8 q9 q10 q11 q12 q13 q14 q15 q16 q17 q18 q19 q20 q21 q22 q23 q24 q25 q26 q27 q28 q29 q30 q31 u0 u1 u2 i_taped i_from i_to i_sort i_worth i_fault i_bad u3 i_nCode u4 i_opened u5 u6 u7 u8 u9 u10 u11 i_piled i_pile).map some := rfl
      refine xv_afterI (ws' := (wd_HM_behindSum cA q0 q1 q2 q3 q4 q5 q6 q7 q8 q9 q10 q11 q12 q13 q14 q15 q16 q17 q18 q19 q20 q21 q22 q23 q24 q25 q26 q27 q28 q29 q30 q31 u0 u1 u2 u3 u4 u5 u6 u7 u8 u9 u10 u11 i_taped i_tape i_from i_to i_sort i_worth i_fault i_bad i_nCode i_piled i_opened i_nOp i_nArg i_pile i_pileAt)) (isC := [0, 4]) (ps := [some 0, none, none, none, some 1, none]) (va_runV (As := []) (rest := []) ⟨hx, hb, hml, hown, hts⟩ (c_HM_inner l ev dC dI cA q0 q1 q2 q3 q4 q5 q6 q7 q8 q9 q10 q11 q12 q13 q14 q15 q16 q17 q18 q19 q20 q21 q22 q23 q24 q25 q26 q27 q28 q29 q30 q31 u0 u1 u2 i_taped i_from i_to i_sort i_worth i_fault i_bad u3 i_nCode u4 i_opened u5 u6 u7 u8 u9 u10 u11 hg H.size) (cwV 0 hts (zgV zw_1518 zw_1520 zw_62 zw_115 zw_1521) rfl rfl rfl hd_HM_inner ⟨Nat.le_of_ble_eq_true rfl, Nat.le_of_ble_eq_true rfl⟩) (xv_preV (T := TX11) (N := 53) hE hA hS hK hP hD (isC := [0, 4]) (by decide +kernel) hC (q0 := 0) (ci := 11) rfl rfl) rfl rfl hl.1 rfl (lv_room (Nat.le_of_ble_eq_true rfl)) dX11_behindSum_84 ⟨Nat.le_refl _, Nat.le_refl _⟩) hP hD hS hA (by decide +kernel) rfl hC rfl rfl (fun H locs hP hD hS => ?_)
      refine lv_istore_n (lv' := [(3, .int (Int32.ofInt v1)), (2, .int (Int32.ofInt s0)), (0, .ref q0), (1, .int (Int32.ofInt x1))]) hx hb dX11_behindSum_87 rfl hl (by decide) rfl (fun ls hl => ?_)
      refine lv_iload_n hx hb dX11_behindSum_88 rfl (lv_at hl 0 rfl) ?_
      refine lv_bipush (v := Int32.ofInt 31) hx hb dX11_behindSum_89 (by decide) ?_
      refine xi_icmp_ne (tgt := 138) hx hb dX11_behindSum_91 (by decide) hf (fun hf => ?_) (fun hf => ?_)
      · refine lv_iload_n hx hb dX11_behindSum_138 rfl (lv_at hl 0 rfl) ?_
        refine lv_iconst (v := Int32.ofInt (-1)) hx hb dX11_behindSum_139 rfl ?_
        refine xi_icmp_ne (tgt := 149) hx hb dX11_behindSum_140 (by decide) hf (fun hf => ?_) (fun hf => ?_)
        · exact b_149  _ _ _ _ _ _ _ _ _ _ _ _ _ _ _ _ hf hP hD hS (lv_sub hl [2] rfl)
        · refine lv_iload_n hx hb dX11_behindSum_143 rfl (lv_at hl 3 rfl) ?_
          refine xi_if_ne (tgt := 149) hx hb dX11_behindSum_144 (by decide) hf (fun hf => ?_) (fun hf => ?_)
          · exact b_149  _ _ _ _ _ _ _ _ _ _ _ _ _ _ _ _ hf hP hD hS (lv_sub hl [2] rfl)
          · refine lv_iconst (v := Int32.ofInt 4) hx hb dX11_behindSum_147 rfl ?_
            obtain rfl := Option.some.inj hf
            exact hret _ _ _ _ rfl dX11_behindSum_148 hP hD hS
      · refine lv_aload_n hx hb dX11_behindSum_94 rfl (lv_at hl 2 rfl) ?_
        refine lv_aload_n hx hb dX11_behindSum_95 rfl (lv_at hl 2 rfl) ?_
        refine lv_bipush (v := Int32.ofInt 93) hx hb dX11_behindSum_96 (by decide) ?_
        refine xe_d1 hf (fun v2 hg hf => ?_)
        have hC : ([0] : List Nat).map (fun i => (wd_HM_behindSum cA q0 q1 q2 q3 q4 q5 q6 q7 q8 q9 q10 q11 q12 q13 q14 q15 q16 q17 q18 q19 q20 q21 q22 q23 q24 q25 q26 q27 q28 q29 q30 q31 u0 u1 u2 u3 u4 u5 u6 u7 u8 u9 u10 u11 i_taped i_tape i_from i_to i_sort i_worth i_fault i_bad i_nCode i_piled i_opened i_nOp i_nArg i_pile i_pileAt)[i]?) = (wd_HM_isSign cA q0 q1 q2 q3 q4 q5 q6 q7 q8 q9 q10 q11 q12 q13 q14 q15 q16 q17 q18 q19 q20 q21 q22 q23 q24 q25 q26 q27 q28 q29 q30 q31 u0 u1 u2 i_taped i_from i_to i_fault i_bad u3 i_nCode u4 i_piled i_opened u5 u6 u7 u8 u9 u10 u11 i_sort i_worth).map some := rfl
        refine xv_afterI (ws' := (wd_HM_behindSum cA q0 q1 q2 q3 q4 q5 q6 q7 q8 q9 q10 q11 q12 q13 q14 q15 q16 q17 q18 q19 q20 q21 q22 q23 q24 q25 q26 q27 q28 q29 q30 q31 u0 u1 u2 u3 u4 u5 u6 u7 u8 u9 u10 u11 i_taped i_tape i_from i_to i_sort i_worth i_fault i_bad i_nCode i_piled i_opened i_nOp i_nArg i_pile i_pileAt)) (isC := [0]) (ps := [some 0, none, none, none, none, none]) (va_runV (As := [.int (Int32.ofInt 93)]) (rest := [.ref q0]) ⟨hx, hb, hml, hown, hts⟩ (c_HM_isSign l ev dC dI cA q0 q1 q2 q3 q4 q5 q6 q7 q8 q9 q10 q11 q12 q13 q14 q15 q16 q17 q18 q19 q20 q21 q22 q23 q24 q25 q26 q27 q28 q29 q30 q31 u0 u1 u2 i_taped i_from i_to i_fault i_bad u3 i_nCode u4 i_piled i_opened u5 u6 u7 u8 u9 u10 u11 hg H.size) (cwV 1 hts (zgV zw_1482 zw_1484 zw_54 zw_115 zw_1485) rfl rfl rfl hd_HM_isSign ⟨Nat.le_of_ble_eq_true rfl, Nat.le_of_ble_eq_true rfl⟩) (xv_preV (T := TX11) (N := 53) hE hA hS hK hP hD (isC := [0]) (by decide +kernel) hC (q0 := 0) (ci := 11) rfl rfl) rfl rfl hl.1 rfl (lv_room (Nat.le_of_ble_eq_true rfl)) dX11_behindSum_98 ⟨Nat.le_refl _, Nat.le_refl _⟩) hP hD hS hA (by decide +kernel) rfl hC rfl rfl (fun H locs hP hD hS => ?_)
        refine xe_d6 hf (fun v3 v4 v5 v6 v7 v8 hg hf => ?_)
        have hC : ([0, 1] : List Nat).map (fun i => (wd_HM_behindSum cA q0 q1 q2 q3 q4 q5 q6 q7 q8 q9 q10 q11 q12 q13 q14 q15 q16 q17 q18 q19 q20 q21 q22 q23 q24 q25 q26 q27 q28 q29 q30 q31 u0 u1 u2 u3 u4 u5 u6 u7 u8 u9 u10 u11 i_taped i_tape i_from i_to i_sort i_worth i_fault i_bad i_nCode i_piled i_opened i_nOp i_nArg i_pile i_pileAt)[i]?) = (wd_HM_must cA q0 q1 q2 q3 q4 q5 q6 q7 q8 q9 q10 q11 q12 q13 q14 q15 q16 q17 q18 q19 q20 q21 q22 q23 q24 q25 q26 q27 q28 q29 q30 q31 u0 u1 u2 u3 i_nCode u4 i_piled i_opened u5 u6 u7 u8 u9 u10 u11 i_taped i_tape i_from i_to i_sort i_worth i_fault i_bad).map some := rfl
        refine xv_afterV (ws' := (wd_HM_behindSum cA q0 q1 q2 q3 q4 q5 q6 q7 q8 q9 q10 q11 q12 q13 q14 q15 q16 q17 q18 q19 q20 q21 q22 q23 q24 q25 q26 q27 q28 q29 q30 q31 u0 u1 u2 u3 u4 u5 u6 u7 u8 u9 u10 u11 i_taped i_tape v3 v4 v5 v6 v7 v8 i_nCode i_piled i_opened i_nOp i_nArg i_pile i_pileAt)) (isC := [0, 1]) (ps := [some 0, some 1, none, none, none, none]) (va_runV (As := [.int (Int32.ofInt v2)]) (rest := []) ⟨hx, hb, hml, hown, hts⟩ (c_HM_must l ev dC dI cA q0 q1 q2 q3 q4 q5 q6 q7 q8 q9 q10 q11 q12 q13 q14 q15 q16 q17 q18 q19 q20 q21 q22 q23 q24 q25 q26 q27 q28 q29 q30 q31 u0 u1 u2 u3 i_nCode u4 i_piled i_opened u5 u6 u7 u8 u9 u10 u11 hg H.size) (cwV 1 hts (zgV zw_1465 zw_1467 zw_50 zw_115 zw_1468) rfl rfl rfl hd_HM_must ⟨Nat.le_of_ble_eq_true rfl, Nat.le_of_ble_eq_true rfl⟩) (xv_preV (T := TX11) (N := 53) hE hA hS hK hP hD (isC := [0, 1]) (by decide +kernel) hC (q0 := 0) (ci := 11) rfl rfl) rfl rfl hl.1 rfl (lv_room (Nat.le_of_ble_eq_true rfl)) dX11_behindSum_101 ⟨Nat.le_refl _, Nat.le_refl _⟩) hP hD hS hA (by decide +kernel) rfl hC rfl rfl (fun H locs hP hD hS => ?_)
        refine lv_aload_n hx hb dX11_behindSum_104 rfl (lv_at hl 2 rfl) ?_
        refine va_get (D := (dC, dI)) (ci := 11) (v := .int (Int32.ofInt v8)) (C := RX11) (T := TX11) (N := 53) hx hb hz zi_X11 hown hK hP 0 rfl rfl 14 (by decide) (hz _ zw_1179) (fun _ h9 => h9) rfl dX11_behindSum_105 ?_
        refine xi_if_ne (tgt := 136) hx hb dX11_behindSum_108 (by decide) hf (fun hf => ?_) (fun hf => ?_)
        · refine lv_iconst (v := Int32.ofInt 3) hx hb dX11_behindSum_136 rfl ?_
          obtain rfl := Option.some.inj hf
          exact hret _ _ _ _ rfl dX11_behindSum_137 hP hD hS
        · refine lv_aload_n hx hb dX11_behindSum_111 rfl (lv_at hl 2 rfl) ?_
          refine lv_iconst (v := Int32.ofInt 5) hx hb dX11_behindSum_112 rfl ?_
          refine xe_d4 hf (fun v9 v10 a11 a12 hg hf => ?_)
          have hC : ([0, 2, 3, 4, 5] : List Nat).map (fun i => (wd_HM_behindSum cA q0 q1 q2 q3 q4 q5 q6 q7 q8 q9 q10 q11 q12 q13 q14 q15 q16 q17 q18 q19 q20 q21 q22 q23 q24 q25 q26 q27 q28 q29 q30 q31 u0 u1 u2 u3 u4 u5 u6 u7 u8 u9 u10 u11 i_taped i_tape v3 v4 v5 v6 v7 v8 i_nCode i_piled i_opened i_nOp i_nArg i_pile i_pileAt)[i]?) = (wd_HM_settle cA q0 q1 q2 q3 q4 q5 q6 q7 q8 q9 q10 q11 q12 q13 q14 q15 q16 q17 q18 q19 q20 q21 q22 q23 q24 q25 q26 q27 q28 q29 q30 q31 u0 u1 u2 i_taped v3 v4 v5 v6 v7 v8 u3 u4 i_opened u5 u6 u7 u8 u9 u10 u11 i_pile i_pileAt i_nCode i_piled i_nOp i_nArg).map some := rfl
          refine xv_afterV (ws' := (wd_HM_behindSum cA q0 q1 q2 q3 q4 q5 q6 q7 q8 q9 q10 q11 q12 q13 q14 q15 q16 q17 q18 q19 q20 q21 q22 q23 q24 q25 q26 q27 q28 q29 q30 q31 u0 u1 u2 u3 u4 u5 u6 u7 u8 u9 u10 u11 i_taped i_tape v3 v4 v5 v6 v7 v8 v9 v10 i_opened a11 a12 i_pile i_pileAt)) (isC := [0, 2, 3, 4, 5]) (ps := [some 0, none, some 1, some 2, some 3, some 4]) (va_runV (As := [.int (Int32.ofInt 5)]) (rest := []) ⟨hx, hb, hml, hown, hts⟩ (c_HM_settle l ev dC dI cA q0 q1 q2 q3 q4 q5 q6 q7 q8 q9 q10 q11 q12 q13 q14 q15 q16 q17 q18 q19 q20 q21 q22 q23 q24 q25 q26 q27 q28 q29 q30 q31 u0 u1 u2 i_taped v3 v4 v5 v6 v7 v8 u3 u4 i_opened u5 u6 u7 u8 u9 u10 u11 hg H.size) (cwV 1 hts (zgV zw_1514 zw_1516 zw_61 zw_115 zw_1517) rfl rfl rfl hd_HM_settle ⟨Nat.le_of_ble_eq_true rfl, Nat.le_of_ble_eq_true rfl⟩) (xv_preV (T := TX11) (N := 53) hE hA hS hK hP hD (isC := [0, 2, 3, 4, 5]) (by decide +kernel) hC (q0 := 0) (ci := 11) rfl rfl) rfl rfl hl.1 rfl (lv_room (Nat.le_of_ble_eq_true rfl)) dX11_behindSum_113 ⟨Nat.le_refl _, Nat.le_refl _⟩) hP hD hS hA (by decide +kernel) rfl hC rfl rfl (fun H locs hP hD hS => ?_)
          refine lv_aload_n hx hb dX11_behindSum_116 rfl (lv_at hl 2 rfl) ?_
          refine lv_dup hx hb dX11_behindSum_117 rfl ?_
          refine va_get (D := (dC, dI)) (ci := 11) (v := .int (Int32.ofInt v10)) (C := RX11) (T := TX11) (N := 53) hx hb hz zi_X11 hown hK hP 0 rfl rfl 23 (by decide) (hz _ zw_1188) (fun _ h9 => h9) rfl dX11_behindSum_118 ?_
          refine lv_iconst (v := Int32.ofInt 1) hx hb dX11_behindSum_121 rfl ?_
          refine xi_isub hx hb dX11_behindSum_122 hf (fun v13 hf => ?_)
          refine va_put (D := (dC, dI)) (ci := 11) (v := .int (Int32.ofInt v13)) (ty := .int) (C := RX11) (T := TX11) (N := 53) hx hb hz zi_X11 tyX11 tyX11_ok nmX11 hown hK hP hD hS 0 rfl rfl 23 (by decide) (hz _ zw_1188) (fun _ h9 => h9) rfl (by decide +kernel) rfl rfl (Nat.le_of_ble_eq_true rfl) dX11_behindSum_123 (fun H locs hP hD hS => ?_)
          have hP : va_P (dC, dI) vwCl (wd_HM_behindSum cA q0 q1 q2 q3 q4 q5 q6 q7 q8 q9 q10 q11 q12 q13 q14 q15 q16 q17 q18 q19 q20 q21 q22 q23 q24 q25 q26 q27 q28 q29 q30 q31 u0 u1 u2 u3 u4 u5 u6 u7 u8 u9 u10 u11 i_taped i_tape v3 v4 v5 v6 v7 v8 v9 v13 i_opened a11 a12 i_pile i_pileAt) H := hP
          have hD : va_D A (wd_HM_behindSum cA q0 q1 q2 q3 q4 q5 q6 q7 q8 q9 q10 q11 q12 q13 q14 q15 q16 q17 q18 q19 q20 q21 q22 q23 q24 q25 q26 q27 q28 q29 q30 q31 u0 u1 u2 u3 u4 u5 u6 u7 u8 u9 u10 u11 i_taped i_tape v3 v4 v5 v6 v7 v8 v9 v13 i_opened a11 a12 i_pile i_pileAt) := hD
          refine lv_aload_n hx hb dX11_behindSum_126 rfl (lv_at hl 2 rfl) ?_
          refine lv_dup hx hb dX11_behindSum_127 rfl ?_
          refine va_get (D := (dC, dI)) (ci := 11) (v := .int (Int32.ofInt i_opened)) (C := RX11) (T := TX11) (N := 53) hx hb hz zi_X11 hown hK hP 0 rfl rfl 24 (by decide) (hz _ zw_1189) (fun _ h9 => h9) rfl dX11_behindSum_128 ?_
          refine lv_iconst (v := Int32.ofInt 1) hx hb dX11_behindSum_131 rfl ?_
          refine xi_isub hx hb dX11_behindSum_132 hf (fun v14 hf => ?_)
          refine va_put (D := (dC, dI)) (ci := 11) (v := .int (Int32.ofInt v14)) (ty := .int) (C := RX11) (T := TX11) (N := 53) hx hb hz zi_X11 tyX11 tyX11_ok nmX11 hown hK hP hD hS 0 rfl rfl 24 (by decide) (hz _ zw_1189) (fun _ h9 => h9) rfl (by decide +kernel) rfl rfl (Nat.le_of_ble_eq_true rfl) dX11_behindSum_133 (fun H locs hP hD hS => ?_)
          have hP : va_P (dC, dI) vwCl (wd_HM_behindSum cA q0 q1 q2 q3 q4 q5 q6 q7 q8 q9 q10 q11 q12 q13 q14 q15 q16 q17 q18 q19 q20 q21 q22 q23 q24 q25 q26 q27 q28 q29 q30 q31 u0 u1 u2 u3 u4 u5 u6 u7 u8 u9 u10 u11 i_taped i_tape v3 v4 v5 v6 v7 v8 v9 v13 v14 a11 a12 i_pile i_pileAt) H := hP
          have hD : va_D A (wd_HM_behindSum cA q0 q1 q2 q3 q4 q5 q6 q7 q8 q9 q10 q11 q12 q13 q14 q15 q16 q17 q18 q19 q20 q21 q22 q23 q24 q25 q26 q27 q28 q29 q30 q31 u0 u1 u2 u3 u4 u5 u6 u7 u8 u9 u10 u11 i_taped i_tape v3 v4 v5 v6 v7 v8 v9 v13 v14 a11 a12 i_pile i_pileAt) := hD
          refine lv_iconst (v := Int32.ofInt 3) hx hb dX11_behindSum_136 rfl ?_
          obtain rfl := Option.some.inj hf
          exact hret _ _ _ _ rfl dX11_behindSum_137 hP hD hS
    · refine lv_aload_n hx hb dX11_behindSum_63 rfl (lv_at hl 1 rfl) ?_
      refine lv_iload_n hx hb dX11_behindSum_64 rfl (lv_at hl 0 rfl) ?_
      refine xe_d1 hf (fun v15 hg hf => ?_)
      have hC : ([] : List Nat).map (fun i => (wd_HM_behindSum cA q0 q1 q2 q3 q4 q5 q6 q7 q8 q9 q10 q11 q12 q13 q14 q15 q16 q17 q18 q19 q20 q21 q22 q23 q24 q25 q26 q27 q28 q29 q30 q31 u0 u1 u2 u3 u4 u5 u6 u7 u8 u9 u10 u11 i_taped i_tape i_from i_to i_sort i_worth i_fault i_bad i_nCode i_piled i_opened i_nOp i_nArg i_pile i_pileAt)[i]?) = (wd_HM_binds cA).map some := rfl
      refine xv_afterI (ws' := (wd_HM_behindSum cA q0 q1 q2 q3 q4 q5 q6 q7 q8 q9 q10 q11 q12 q13 q14 q15 q16 q17 q18 q19 q20 q21 q22 q23 q24 q25 q26 q27 q28 q29 q30 q31 u0 u1 u2 u3 u4 u5 u6 u7 u8 u9 u10 u11 i_taped i_tape i_from i_to i_sort i_worth i_fault i_bad i_nCode i_piled i_opened i_nOp i_nArg i_pile i_pileAt)) (isC := []) (ps := [none, none, none, none, none, none]) (va_runS (As := [.int (Int32.ofInt s0)]) (rest := [.ref q0]) ⟨hx, hb, hml, hown, hts⟩ (c_HM_binds l ev dC dI cA hg H.size) (va_cwS 1 hts (zgS zw_1511 zw_1512 zw_115 zw_1513) rfl rfl rfl hd_HM_binds.2 ⟨Nat.le_of_ble_eq_true rfl, Nat.le_of_ble_eq_true rfl⟩) (xv_preS hE hA hS hK hP hD (isC := []) (by decide +kernel) hC) rfl rfl hl.1 rfl (lv_room (Nat.le_of_ble_eq_true rfl)) dX11_behindSum_65 ⟨Nat.le_refl _, Nat.le_refl _⟩) hP hD hS hA (by decide +kernel) rfl hC rfl rfl (fun H locs hP hD hS => ?_)
      refine xe_d4 hf (fun v16 v17 a18 a19 hg hf => ?_)
      have hC : ([0, 2, 3, 4, 5] : List Nat).map (fun i => (wd_HM_behindSum cA q0 q1 q2 q3 q4 q5 q6 q7 q8 q9 q10 q11 q12 q13 q14 q15 q16 q17 q18 q19 q20 q21 q22 q23 q24 q25 q26 q27 q28 q29 q30 q31 u0 u1 u2 u3 u4 u5 u6 u7 u8 u9 u10 u11 i_taped i_tape i_from i_to i_sort i_worth i_fault i_bad i_nCode i_piled i_opened i_nOp i_nArg i_pile i_pileAt)[i]?) = (wd_HM_settle cA q0 q1 q2 q3 q4 q5 q6 q7 q8 q9 q10 q11 q12 q13 q14 q15 q16 q17 q18 q19 q20 q21 q22 q23 q24 q25 q26 q27 q28 q29 q30 q31 u0 u1 u2 i_taped i_from i_to i_sort i_worth i_fault i_bad u3 u4 i_opened u5 u6 u7 u8 u9 u10 u11 i_pile i_pileAt i_nCode i_piled i_nOp i_nArg).map some := rfl
      refine xv_afterV (ws' := (wd_HM_behindSum cA q0 q1 q2 q3 q4 q5 q6 q7 q8 q9 q10 q11 q12 q13 q14 q15 q16 q17 q18 q19 q20 q21 q22 q23 q24 q25 q26 q27 q28 q29 q30 q31 u0 u1 u2 u3 u4 u5 u6 u7 u8 u9 u10 u11 i_taped i_tape i_from i_to i_sort i_worth i_fault i_bad v16 v17 i_opened a18 a19 i_pile i_pileAt)) (isC := [0, 2, 3, 4, 5]) (ps := [some 0, none, some 1, some 2, some 3, some 4]) (va_runV (As := [.int (Int32.ofInt v15)]) (rest := []) ⟨hx, hb, hml, hown, hts⟩ (c_HM_settle l ev dC dI cA q0 q1 q2 q3 q4 q5 q6 q7 q8 q9 q10 q11 q12 q13 q14 q15 q16 q17 q18 q19 q20 q21 q22 q23 q24 q25 q26 q27 q28 q29 q30 q31 u0 u1 u2 i_taped i_from i_to i_sort i_worth i_fault i_bad u3 u4 i_opened u5 u6 u7 u8 u9 u10 u11 hg H.size) (cwV 1 hts (zgV zw_1514 zw_1516 zw_61 zw_115 zw_1517) rfl rfl rfl hd_HM_settle ⟨Nat.le_of_ble_eq_true rfl, Nat.le_of_ble_eq_true rfl⟩) (xv_preV (T := TX11) (N := 53) hE hA hS hK hP hD (isC := [0, 2, 3, 4, 5]) (by decide +kernel) hC (q0 := 0) (ci := 11) rfl rfl) rfl rfl hl.1 rfl (lv_room (Nat.le_of_ble_eq_true rfl)) dX11_behindSum_68 ⟨Nat.le_refl _, Nat.le_refl _⟩) hP hD hS hA (by decide +kernel) rfl hC rfl rfl (fun H locs hP hD hS => ?_)
      refine lv_aload_n hx hb dX11_behindSum_71 rfl (lv_at hl 1 rfl) ?_
      refine lv_iload_n hx hb dX11_behindSum_72 rfl (lv_at hl 0 rfl) ?_
      refine lv_iconst (v := Int32.ofInt 0) hx hb dX11_behindSum_73 rfl ?_
      refine xe_d3 hf (fun v20 a21 a22 hg hf => ?_)
      have hC : ([0, 4, 5] : List Nat).map (fun i => (wd_HM_behindSum cA q0 q1 q2 q3 q4 q5 q6 q7 q8 q9 q10 q11 q12 q13 q14 q15 q16 q17 q18 q19 q20 q21 q22 q23 q24 q25 q26 q27 q28 q29 q30 q31 u0 u1 u2 u3 u4 u5 u6 u7 u8 u9 u10 u11 i_taped i_tape i_from i_to i_sort i_worth i_fault i_bad v16 v17 i_opened a18 a19 i_pile i_pileAt)[i]?) = (wd_HM_push cA q0 q1 q2 q3 q4 q5 q6 q7 q8 q9 q10 q11 q12 q13 q14 q15 q16 q17 q18 q19 q20 q21 q22 q23 q24 q25 q26 q27 q28 q29 q30 q31 u0 u1 u2 i_taped i_from i_to i_sort i_worth i_fault i_bad u3 v16 u4 i_opened u5 u6 u7 u8 u9 u10 u11 v17 i_pile i_pileAt).map some := rfl
      refine xv_afterV (ws' := (wd_HM_behindSum cA q0 q1 q2 q3 q4 q5 q6 q7 q8 q9 q10 q11 q12 q13 q14 q15 q16 q17 q18 q19 q20 q21 q22 q23 q24 q25 q26 q27 q28 q29 q30 q31 u0 u1 u2 u3 u4 u5 u6 u7 u8 u9 u10 u11 i_taped i_tape i_from i_to i_sort i_worth i_fault i_bad v16 v20 i_opened a18 a19 a21 a22)) (isC := [0, 4, 5]) (ps := [some 0, none, none, none, some 1, some 2]) (va_runV (As := [.int (Int32.ofInt s0), .int (Int32.ofInt 0)]) (rest := []) ⟨hx, hb, hml, hown, hts⟩ (c_HM_push l ev dC dI cA q0 q1 q2 q3 q4 q5 q6 q7 q8 q9 q10 q11 q12 q13 q14 q15 q16 q17 q18 q19 q20 q21 q22 q23 q24 q25 q26 q27 q28 q29 q30 q31 u0 u1 u2 i_taped i_from i_to i_sort i_worth i_fault i_bad u3 v16 u4 i_opened u5 u6 u7 u8 u9 u10 u11 hg H.size) (cwV 2 hts (zgV zw_1478 zw_1480 zw_53 zw_115 zw_1481) rfl rfl rfl hd_HM_push ⟨Nat.le_of_ble_eq_true rfl, Nat.le_of_ble_eq_true rfl⟩) (xv_preV (T := TX11) (N := 53) hE hA hS hK hP hD (isC := [0, 4, 5]) (by decide +kernel) hC (q0 := 0) (ci := 11) rfl rfl) rfl rfl hl.1 rfl (lv_room (Nat.le_of_ble_eq_true rfl)) dX11_behindSum_74 ⟨Nat.le_refl _, Nat.le_refl _⟩) hP hD hS hA (by decide +kernel) rfl hC rfl rfl (fun H locs hP hD hS => ?_)
      refine lv_aload_n hx hb dX11_behindSum_77 rfl (lv_at hl 1 rfl) ?_
      refine xe_d4 hf (fun v23 v24 v25 v26 hg hf => ?_)
      have hC : ([0, 1] : List Nat).map (fun i => (wd_HM_behindSum cA q0 q1 q2 q3 q4 q5 q6 q7 q8 q9 q10 q11 q12 q13 q14 q15 q16 q17 q18 q19 q20 q21 q22 q23 q24 q25 q26 q27 q28 q29 q30 q31 u0 u1 u2 u3 u4 u5 u6 u7 u8 u9 u10 u11 i_taped i_tape i_from i_to i_sort i_worth i_fault i_bad v16 v20 i_opened a18 a19 a21 a22)[i]?) = (wd_HM_next cA q0 q1 q2 q3 q4 q5 q6 q7 q8 q9 q10 q11 q12 q13 q14 q15 q16 q17 q18 q19 q20 q21 q22 q23 q24 q25 q26 q27 q28 q29 q30 q31 u0 u1 u2 i_fault i_bad u3 v16 u4 v20 i_opened u5 u6 u7 u8 u9 u10 u11 i_taped i_tape i_from i_to i_sort i_worth).map some := rfl
      refine xv_afterV (ws' := (wd_HM_behindSum cA q0 q1 q2 q3 q4 q5 q6 q7 q8 q9 q10 q11 q12 q13 q14 q15 q16 q17 q18 q19 q20 q21 q22 q23 q24 q25 q26 q27 q28 q29 q30 q31 u0 u1 u2 u3 u4 u5 u6 u7 u8 u9 u10 u11 i_taped i_tape v23 v24 v25 v26 i_fault i_bad v16 v20 i_opened a18 a19 a21 a22)) (isC := [0, 1]) (ps := [some 0, some 1, none, none, none, none]) (va_runV (As := []) (rest := []) ⟨hx, hb, hml, hown, hts⟩ (c_HM_next l ev dC dI cA q0 q1 q2 q3 q4 q5 q6 q7 q8 q9 q10 q11 q12 q13 q14 q15 q16 q17 q18 q19 q20 q21 q22 q23 q24 q25 q26 q27 q28 q29 q30 q31 u0 u1 u2 i_fault i_bad u3 v16 u4 v20 i_opened u5 u6 u7 u8 u9 u10 u11 hg H.size) (cwV 0 hts (zgV zw_1439 zw_1441 zw_47 zw_115 zw_1442) rfl rfl rfl hd_HM_next ⟨Nat.le_of_ble_eq_true rfl, Nat.le_of_ble_eq_true rfl⟩) (xv_preV (T := TX11) (N := 53) hE hA hS hK hP hD (isC := [0, 1]) (by decide +kernel) hC (q0 := 0) (ci := 11) rfl rfl) rfl rfl hl.1 rfl (lv_room (Nat.le_of_ble_eq_true rfl)) dX11_behindSum_78 ⟨Nat.le_refl _, Nat.le_refl _⟩) hP hD hS hA (by decide +kernel) rfl hC rfl rfl (fun H locs hP hD hS => ?_)
      refine lv_iconst (v := Int32.ofInt 1) hx hb dX11_behindSum_81 rfl ?_
      obtain rfl := Option.some.inj hf
      exact hret _ _ _ _ rfl dX11_behindSum_82 hP hD hS
  unfold f_HM_behindSum at hf
  refine lv_aload_n hx hb dX11_behindSum_0 rfl (lv_at hl 0 rfl) ?_
  refine lv_bipush (v := Int32.ofInt 43) hx hb dX11_behindSum_1 (by decide) ?_
  refine xe_d1 hf (fun v1 hg hf => ?_)
  have hC : ([0] : List Nat).map (fun i => (wd_HM_behindSum cA q0 q1 q2 q3 q4 q5 q6 q7 q8 q9 q10 q11 q12 q13 q14 q15 q16 q17 q18 q19 q20 q21 q22 q23 q24 q25 q26 q27 q28 q29 q30 q31 u0 u1 u2 u3 u4 u5 u6 u7 u8 u9 u10 u11 i_taped i_tape i_from i_to i_sort i_worth i_fault i_bad i_nCode i_piled i_opened i_nOp i_nArg i_pile i_pileAt)[i]?) = (wd_HM_isSign cA q0 q1 q2 q3 q4 q5 q6 q7 q8 q9 q10 q11 q12 q13 q14 q15 q16 q17 q18 q19 q20 q21 q22 q23 q24 q25 q26 q27 q28 q29 q30 q31 u0 u1 u2 i_taped i_from i_to i_fault i_bad u3 i_nCode u4 i_piled i_opened u5 u6 u7 u8 u9 u10 u11 i_sort i_worth).map some := rfl
  refine xv_afterI (ws' := (wd_HM_behindSum cA q0 q1 q2 q3 q4 q5 q6 q7 q8 q9 q10 q11 q12 q13 q14 q15 q16 q17 q18 q19 q20 q21 q22 q23 q24 q25 q26 q27 q28 q29 q30 q31 u0 u1 u2 u3 u4 u5 u6 u7 u8 u9 u10 u11 i_taped i_tape i_from i_to i_sort i_worth i_fault i_bad i_nCode i_piled i_opened i_nOp i_nArg i_pile i_pileAt)) (isC := [0]) (ps := [some 0, none, none, none, none, none]) (va_runV (As := [.int (Int32.ofInt 43)]) (rest := []) ⟨hx, hb, hml, hown, hts⟩ (c_HM_isSign l ev dC dI cA q0 q1 q2 q3 q4 q5 q6 q7 q8 q9 q10 q11 q12 q13 q14 q15 q16 q17 q18 q19 q20 q21 q22 q23 q24 q25 q26 q27 q28 q29 q30 q31 u0 u1 u2 i_taped i_from i_to i_fault i_bad u3 i_nCode u4 i_piled i_opened u5 u6 u7 u8 u9 u10 u11 hg H.size) (cwV 1 hts (zgV zw_1482 zw_1484 zw_54 zw_115 zw_1485) rfl rfl rfl hd_HM_isSign ⟨Nat.le_of_ble_eq_true rfl, Nat.le_of_ble_eq_true rfl⟩) (xv_preV (T := TX11) (N := 53) hE hA hS hK hP hD (isC := [0]) (by decide +kernel) hC (q0 := 0) (ci := 11) rfl rfl) rfl rfl hl.1 rfl (lv_room (Nat.le_of_ble_eq_true rfl)) dX11_behindSum_3 ⟨Nat.le_refl _, Nat.le_refl _⟩) hP hD hS hA (by decide +kernel) rfl hC rfl rfl (fun H locs hP hD hS => ?_)
  refine xi_if_eq (tgt := 14) hx hb dX11_behindSum_6 (by decide) hf (fun hf => ?_) (fun hf => ?_)
  · refine lv_aload_n hx hb dX11_behindSum_14 rfl (lv_at hl 0 rfl) ?_
    refine lv_bipush (v := Int32.ofInt 45) hx hb dX11_behindSum_15 (by decide) ?_
    refine xe_d1 hf (fun v2 hg hf => ?_)
    have hC : ([0] : List Nat).map (fun i => (wd_HM_behindSum cA q0 q1 q2 q3 q4 q5 q6 q7 q8 q9 q10 q11 q12 q13 q14 q15 q16 q17 q18 q19 q20 q21 q22 q23 q24 q25 q26 q27 q28 q29 q30 q31 u0 u1 u2 u3 u4 u5 u6 u7 u8 u9 u10 u11 i_taped i_tape i_from i_to i_sort i_worth i_fault i_bad i_nCode i_piled i_opened i_nOp i_nArg i_pile i_pileAt)[i]?) = (wd_HM_isSign cA q0 q1 q2 q3 q4 q5 q6 q7 q8 q9 q10 q11 q12 q13 q14 q15 q16 q17 q18 q19 q20 q21 q22 q23 q24 q25 q26 q27 q28 q29 q30 q31 u0 u1 u2 i_taped i_from i_to i_fault i_bad u3 i_nCode u4 i_piled i_opened u5 u6 u7 u8 u9 u10 u11 i_sort i_worth).map some := rfl
    refine xv_afterI (ws' := (wd_HM_behindSum cA q0 q1 q2 q3 q4 q5 q6 q7 q8 q9 q10 q11 q12 q13 q14 q15 q16 q17 q18 q19 q20 q21 q22 q23 q24 q25 q26 q27 q28 q29 q30 q31 u0 u1 u2 u3 u4 u5 u6 u7 u8 u9 u10 u11 i_taped i_tape i_from i_to i_sort i_worth i_fault i_bad i_nCode i_piled i_opened i_nOp i_nArg i_pile i_pileAt)) (isC := [0]) (ps := [some 0, none, none, none, none, none]) (va_runV (As := [.int (Int32.ofInt 45)]) (rest := []) ⟨hx, hb, hml, hown, hts⟩ (c_HM_isSign l ev dC dI cA q0 q1 q2 q3 q4 q5 q6 q7 q8 q9 q10 q11 q12 q13 q14 q15 q16 q17 q18 q19 q20 q21 q22 q23 q24 q25 q26 q27 q28 q29 q30 q31 u0 u1 u2 i_taped i_from i_to i_fault i_bad u3 i_nCode u4 i_piled i_opened u5 u6 u7 u8 u9 u10 u11 hg H.size) (cwV 1 hts (zgV zw_1482 zw_1484 zw_54 zw_115 zw_1485) rfl rfl rfl hd_HM_isSign ⟨Nat.le_of_ble_eq_true rfl, Nat.le_of_ble_eq_true rfl⟩) (xv_preV (T := TX11) (N := 53) hE hA hS hK hP hD (isC := [0]) (by decide +kernel) hC (q0 := 0) (ci := 11) rfl rfl) rfl rfl hl.1 rfl (lv_room (Nat.le_of_ble_eq_true rfl)) dX11_behindSum_17 ⟨Nat.le_refl _, Nat.le_refl _⟩) hP hD hS hA (by decide +kernel) rfl hC rfl rfl (fun H locs hP hD hS => ?_)
    refine xi_if_eq (tgt := 28) hx hb dX11_behindSum_20 (by decide) hf (fun hf => ?_) (fun hf => ?_)
    · refine lv_aload_n hx hb dX11_behindSum_28 rfl (lv_at hl 0 rfl) ?_
      refine lv_bipush (v := Int32.ofInt 42) hx hb dX11_behindSum_29 (by decide) ?_
      refine xe_d1 hf (fun v3 hg hf => ?_)
      have hC : ([0] : List Nat).map (fun i => (wd_HM_behindSum cA q0 q1 q2 q3 q4 q5 q6 q7 q8 q9 q10 q11 q12 q13 q14 q15 q16 q17 q18 q19 q20 q21 q22 q23 q24 q25 q26 q27 q28 q29 q30 q31 u0 u1 u2 u3 u4 u5 u6 u7 u8 u9 u10 u11 i_taped i_tape i_from i_to i_sort i_worth i_fault i_bad i_nCode i_piled i_opened i_nOp i_nArg i_pile i_pileAt)[i]?) = (wd_HM_isSign cA q0 q1 q2 q3 q4 q5 q6 q7 q8 q9 q10 q11 q12 q13 q14 q15 q16 q17 q18 q19 q20 q21 q22 q23 q24 q25 q26 q27 q28 q29 q30 q31 u0 u1 u2 i_taped i_from i_to i_fault i_bad u3 i_nCode u4 i_piled i_opened u5 u6 u7 u8 u9 u10 u11 i_sort i_worth).map some := rfl
      refine xv_afterI (ws' := (wd_HM_behindSum cA q0 q1 q2 q3 q4 q5 q6 q7 q8 q9 q10 q11 q12 q13 q14 q15 q16 q17 q18 q19 q20 q21 q22 q23 q24 q25 q26 q27 q28 q29 q30 q31 u0 u1 u2 u3 u4 u5 u6 u7 u8 u9 u10 u11 i_taped i_tape i_from i_to i_sort i_worth i_fault i_bad i_nCode i_piled i_opened i_nOp i_nArg i_pile i_pileAt)) (isC := [0]) (ps := [some 0, none, none, none, none, none]) (va_runV (As := [.int (Int32.ofInt 42)]) (rest := []) ⟨hx, hb, hml, hown, hts⟩ (c_HM_isSign l ev dC dI cA q0 q1 q2 q3 q4 q5 q6 q7 q8 q9 q10 q11 q12 q13 q14 q15 q16 q17 q18 q19 q20 q21 q22 q23 q24 q25 q26 q27 q28 q29 q30 q31 u0 u1 u2 i_taped i_from i_to i_fault i_bad u3 i_nCode u4 i_piled i_opened u5 u6 u7 u8 u9 u10 u11 hg H.size) (cwV 1 hts (zgV zw_1482 zw_1484 zw_54 zw_115 zw_1485) rfl rfl rfl hd_HM_isSign ⟨Nat.le_of_ble_eq_true rfl, Nat.le_of_ble_eq_true rfl⟩) (xv_preV (T := TX11) (N := 53) hE hA hS hK hP hD (isC := [0]) (by decide +kernel) hC (q0 := 0) (ci := 11) rfl rfl) rfl rfl hl.1 rfl (lv_room (Nat.le_of_ble_eq_true rfl)) dX11_behindSum_31 ⟨Nat.le_refl _, Nat.le_refl _⟩) hP hD hS hA (by decide +kernel) rfl hC rfl rfl (fun H locs hP hD hS => ?_)
      refine xi_if_eq (tgt := 42) hx hb dX11_behindSum_34 (by decide) hf (fun hf => ?_) (fun hf => ?_)
      · refine lv_aload_n hx hb dX11_behindSum_42 rfl (lv_at hl 0 rfl) ?_
        refine lv_bipush (v := Int32.ofInt 47) hx hb dX11_behindSum_43 (by decide) ?_
        refine xe_d1 hf (fun v4 hg hf => ?_)
        have hC : ([0] : List Nat).map (fun i => (wd_HM_behindSum cA q0 q1 q2 q3 q4 q5 q6 q7 q8 q9 q10 q11 q12 q13 q14 q15 q16 q17 q18 q19 q20 q21 q22 q23 q24 q25 q26 q27 q28 q29 q30 q31 u0 u1 u2 u3 u4 u5 u6 u7 u8 u9 u10 u11 i_taped i_tape i_from i_to i_sort i_worth i_fault i_bad i_nCode i_piled i_opened i_nOp i_nArg i_pile i_pileAt)[i]?) = (wd_HM_isSign cA q0 q1 q2 q3 q4 q5 q6 q7 q8 q9 q10 q11 q12 q13 q14 q15 q16 q17 q18 q19 q20 q21 q22 q23 q24 q25 q26 q27 q28 q29 q30 q31 u0 u1 u2 i_taped i_from i_to i_fault i_bad u3 i_nCode u4 i_piled i_opened u5 u6 u7 u8 u9 u10 u11 i_sort i_worth).map some := rfl
        refine xv_afterI (ws' := (wd_HM_behindSum cA q0 q1 q2 q3 q4 q5 q6 q7 q8 q9 q10 q11 q12 q13 q14 q15 q16 q17 q18 q19 q20 q21 q22 q23 q24 q25 q26 q27 q28 q29 q30 q31 u0 u1 u2 u3 u4 u5 u6 u7 u8 u9 u10 u11 i_taped i_tape i_from i_to i_sort i_worth i_fault i_bad i_nCode i_piled i_opened i_nOp i_nArg i_pile i_pileAt)) (isC := [0]) (ps := [some 0, none, none, none, none, none]) (va_runV (As := [.int (Int32.ofInt 47)]) (rest := []) ⟨hx, hb, hml, hown, hts⟩ (c_HM_isSign l ev dC dI cA q0 q1 q2 q3 q4 q5 q6 q7 q8 q9 q10 q11 q12 q13 q14 q15 q16 q17 q18 q19 q20 q21 q22 q23 q24 q25 q26 q27 q28 q29 q30 q31 u0 u1 u2 i_taped i_from i_to i_fault i_bad u3 i_nCode u4 i_piled i_opened u5 u6 u7 u8 u9 u10 u11 hg H.size) (cwV 1 hts (zgV zw_1482 zw_1484 zw_54 zw_115 zw_1485) rfl rfl rfl hd_HM_isSign ⟨Nat.le_of_ble_eq_true rfl, Nat.le_of_ble_eq_true rfl⟩) (xv_preV (T := TX11) (N := 53) hE hA hS hK hP hD (isC := [0]) (by decide +kernel) hC (q0 := 0) (ci := 11) rfl rfl) rfl rfl hl.1 rfl (lv_room (Nat.le_of_ble_eq_true rfl)) dX11_behindSum_45 ⟨Nat.le_refl _, Nat.le_refl _⟩) hP hD hS hA (by decide +kernel) rfl hC rfl rfl (fun H locs hP hD hS => ?_)
        refine xi_if_eq (tgt := 56) hx hb dX11_behindSum_48 (by decide) hf (fun hf => ?_) (fun hf => ?_)
        · refine lv_iconst (v := Int32.ofInt (-1)) hx hb dX11_behindSum_56 rfl ?_
          exact b_57  _ _ _ _ _ _ _ _ _ _ _ _ _ _ _ _ _ _ hf hP hD hS (lv_sub hl [0, 1] rfl)
        · refine lv_bipush (v := Int32.ofInt 23) hx hb dX11_behindSum_51 (by decide) ?_
          refine lv_goto (tgt := 57) hx hb dX11_behindSum_53 (by decide) ?_
          exact b_57  _ _ _ _ _ _ _ _ _ _ _ _ _ _ _ _ _ _ hf hP hD hS (lv_sub hl [0, 1] rfl)
      · refine lv_bipush (v := Int32.ofInt 22) hx hb dX11_behindSum_37 (by decide) ?_
        refine lv_goto (tgt := 57) hx hb dX11_behindSum_39 (by decide) ?_
        exact b_57  _ _ _ _ _ _ _ _ _ _ _ _ _ _ _ _ _ _ hf hP hD hS (lv_sub hl [0, 1] rfl)
    · refine lv_bipush (v := Int32.ofInt 21) hx hb dX11_behindSum_23 (by decide) ?_
      refine lv_goto (tgt := 57) hx hb dX11_behindSum_25 (by decide) ?_
      exact b_57  _ _ _ _ _ _ _ _ _ _ _ _ _ _ _ _ _ _ hf hP hD hS (lv_sub hl [0, 1] rfl)
  · refine lv_bipush (v := Int32.ofInt 20) hx hb dX11_behindSum_9 (by decide) ?_
    refine lv_goto (tgt := 57) hx hb dX11_behindSum_11 (by decide) ?_
    exact b_57  _ _ _ _ _ _ _ _ _ _ _ _ _ _ _ _ _ _ hf hP hD hS (lv_sub hl [0, 1] rfl)
theorem dX11_readExpression_0 : decode cX11_readExpression 0 = .ok (.aload_n 0, 1) := by decide +kernel
theorem dX11_readExpression_1 : decode cX11_readExpression 1 = .ok (.iconst 0, 1) := by decide +kernel
theorem dX11_readExpression_2 : decode cX11_readExpression 2 = .ok (.putfield 227, 3) := by decide +kernel
theorem dX11_readExpression_5 : decode cX11_readExpression 5 = .ok (.aload_n 0, 1) := by decide +kernel
theorem dX11_readExpression_6 : decode cX11_readExpression 6 = .ok (.iconst 0, 1) := by decide +kernel
theorem dX11_readExpression_7 : decode cX11_readExpression 7 = .ok (.putfield 249, 3) := by decide +kernel
theorem dX11_readExpression_10 : decode cX11_readExpression 10 = .ok (.iload_n 1, 1) := by decide +kernel
theorem dX11_readExpression_11 : decode cX11_readExpression 11 = .ok (.ifCond .eq 7, 3) := by decide +kernel
theorem dX11_readExpression_14 : decode cX11_readExpression 14 = .ok (.iconst 0, 1) := by decide +kernel
theorem dX11_readExpression_15 : decode cX11_readExpression 15 = .ok (.goto 4, 3) := by decide +kernel
theorem dX11_readExpression_18 : decode cX11_readExpression 18 = .ok (.iconst 1, 1) := by decide +kernel
theorem dX11_readExpression_19 : decode cX11_readExpression 19 = .ok (.istore_n 2, 1) := by decide +kernel
theorem dX11_readExpression_20 : decode cX11_readExpression 20 = .ok (.aload_n 0, 1) := by decide +kernel
theorem dX11_readExpression_21 : decode cX11_readExpression 21 = .ok (.getfield 185, 3) := by decide +kernel
theorem dX11_readExpression_24 : decode cX11_readExpression 24 = .ok (.ifCond .ne 52, 3) := by decide +kernel
theorem dX11_readExpression_27 : decode cX11_readExpression 27 = .ok (.iload_n 2, 1) := by decide +kernel
theorem dX11_readExpression_28 : decode cX11_readExpression 28 = .ok (.iconst 4, 1) := by decide +kernel
theorem dX11_readExpression_29 : decode cX11_readExpression 29 = .ok (.if_icmp .eq 47, 3) := by decide +kernel
theorem dX11_readExpression_32 : decode cX11_readExpression 32 = .ok (.iload_n 2, 1) := by decide +kernel
theorem dX11_readExpression_33 : decode cX11_readExpression 33 = .ok (.ifCond .ne 10, 3) := by decide +kernel
theorem dX11_readExpression_36 : decode cX11_readExpression 36 = .ok (.aload_n 0, 1) := by decide +kernel
theorem dX11_readExpression_37 : decode cX11_readExpression 37 = .ok (.invokevirtual 292, 3) := by decide +kernel
theorem dX11_readExpression_40 : decode cX11_readExpression 40 = .ok (.goto 32, 3) := by decide +kernel
theorem dX11_readExpression_43 : decode cX11_readExpression 43 = .ok (.iload_n 2, 1) := by decide +kernel
theorem dX11_readExpression_44 : decode cX11_readExpression 44 = .ok (.iconst 1, 1) := by decide +kernel
theorem dX11_readExpression_45 : decode cX11_readExpression 45 = .ok (.if_icmp .ne 10, 3) := by decide +kernel
theorem dX11_readExpression_48 : decode cX11_readExpression 48 = .ok (.aload_n 0, 1) := by decide +kernel
theorem dX11_readExpression_49 : decode cX11_readExpression 49 = .ok (.invokevirtual 275, 3) := by decide +kernel
theorem dX11_readExpression_52 : decode cX11_readExpression 52 = .ok (.goto 20, 3) := by decide +kernel
theorem dX11_readExpression_55 : decode cX11_readExpression 55 = .ok (.iload_n 2, 1) := by decide +kernel
theorem dX11_readExpression_56 : decode cX11_readExpression 56 = .ok (.iconst 3, 1) := by decide +kernel
theorem dX11_readExpression_57 : decode cX11_readExpression 57 = .ok (.if_icmp .ne 11, 3) := by decide +kernel
theorem dX11_readExpression_60 : decode cX11_readExpression 60 = .ok (.aload_n 0, 1) := by decide +kernel
theorem dX11_readExpression_61 : decode cX11_readExpression 61 = .ok (.iload_n 1, 1) := by decide +kernel
theorem dX11_readExpression_62 : decode cX11_readExpression 62 = .ok (.invokevirtual 295, 3) := by decide +kernel
theorem dX11_readExpression_65 : decode cX11_readExpression 65 = .ok (.goto 7, 3) := by decide +kernel
theorem dX11_readExpression_68 : decode cX11_readExpression 68 = .ok (.aload_n 0, 1) := by decide +kernel
theorem dX11_readExpression_69 : decode cX11_readExpression 69 = .ok (.invokevirtual 299, 3) := by decide +kernel
theorem dX11_readExpression_72 : decode cX11_readExpression 72 = .ok (.istore_n 2, 1) := by decide +kernel
theorem dX11_readExpression_73 : decode cX11_readExpression 73 = .ok (.goto (-53), 3) := by decide +kernel
theorem dX11_readExpression_76 : decode cX11_readExpression 76 = .ok (.aload_n 0, 1) := by decide +kernel
theorem dX11_readExpression_77 : decode cX11_readExpression 77 = .ok (.iconst 1, 1) := by decide +kernel
theorem dX11_readExpression_78 : decode cX11_readExpression 78 = .ok (.invokevirtual 278, 3) := by decide +kernel
theorem dX11_readExpression_81 : decode cX11_readExpression 81 = .ok (.return_, 1) := by decide +kernel
theorem zw_52 : (Jvm.Cond.selects "HillSchoolModel" ({ cls := "HillSchoolModel", name := "readPlain", desc := "()I" } : Jvm.MethodName) ({ cls := "HillSchoolModel", name := "readPlain", desc := "()I" } : Jvm.MethodName)) ∈ zall := zmemG (zmj_0 52 rfl) rfl
theorem zw_60 : (Jvm.Cond.selects "HillSchoolModel" ({ cls := "HillSchoolModel", name := "behindSum", desc := "(Z)I" } : Jvm.MethodName) ({ cls := "HillSchoolModel", name := "behindSum", desc := "(Z)I" } : Jvm.MethodName)) ∈ zall := zmemG (zmj_0 60 rfl) rfl
theorem zw_64 : (Jvm.Cond.selects "HillSchoolModel" ({ cls := "HillSchoolModel", name := "behindTest", desc := "()I" } : Jvm.MethodName) ({ cls := "HillSchoolModel", name := "behindTest", desc := "()I" } : Jvm.MethodName)) ∈ zall := zmemG (zmj_0 64 rfl) rfl
theorem zw_1472 : (Jvm.Cond.code ({ cls := "HillSchoolModel", name := "readExpression", desc := "(Z)V" } : Jvm.MethodName) prog_13_method_52_code (3 : Nat) (Option.none : Option Jvm.ClassFile.FieldType)) ∈ zall := zmemG (zmj_6 169 rfl) rfl
theorem zw_1473 : (Jvm.Cond.methodLink "HillSchoolModel" (292 : Nat) ({ cls := "HillSchoolModel", name := "readPlain", desc := "()I" } : Jvm.MethodName)) ∈ zall := zmemG (zmj_6 170 rfl) rfl
theorem zw_1475 : (Jvm.Cond.instanceMethod ({ cls := "HillSchoolModel", name := "readPlain", desc := "()I" } : Jvm.MethodName)) ∈ zall := zmemG (zmj_6 172 rfl) rfl
theorem zw_1507 : (Jvm.Cond.methodLink "HillSchoolModel" (295 : Nat) ({ cls := "HillSchoolModel", name := "behindSum", desc := "(Z)I" } : Jvm.MethodName)) ∈ zall := zmemG (zmj_6 204 rfl) rfl
theorem zw_1509 : (Jvm.Cond.instanceMethod ({ cls := "HillSchoolModel", name := "behindSum", desc := "(Z)I" } : Jvm.MethodName)) ∈ zall := zmemG (zmj_6 206 rfl) rfl
theorem zw_1530 : (Jvm.Cond.methodLink "HillSchoolModel" (299 : Nat) ({ cls := "HillSchoolModel", name := "behindTest", desc := "()I" } : Jvm.MethodName)) ∈ zall := zmemG (zmj_6 227 rfl) rfl
theorem zw_1532 : (Jvm.Cond.instanceMethod ({ cls := "HillSchoolModel", name := "behindTest", desc := "()I" } : Jvm.MethodName)) ∈ zall := zmemG (zmj_6 229 rfl) rfl
abbrev w_HM_readExpression : List Cond := .code yX11_readExpression cX11_readExpression 3 none :: zall
abbrev rm_HM_readExpression : Room := { frames := 6, cells := 0, slots := 0, locals := 126 }
theorem hd_HM_readExpression : yX11_readExpression.cls = "HillSchoolModel" ∧ yX11_readExpression.cls ≠ "java/lang/invoke/MethodHandle" ∧ yX11_readExpression.cls ≠ "java/lang/invoke/VarHandle" ∧ (parseMethodDescriptor yX11_readExpression.desc).map (fun d => d.parameters.length) = some 1 := by decide +kernel
def wd_HM_readExpression (cA : Nat → ClassId) (q0 q1 q2 q3 q4 q5 q6 q7 q8 q9 q10 q11 q12 q13 q14 q15 q16 q17 q18 q19 q20 q21 q22 q23 q24 q25 q26 q27 q28 q29 q30 q31 : Nat) (u0 u1 u2 u3 u4 u5 u6 u7 u8 u9 u10 : Int) (i_taped : Int) (i_tape : Nat → Int) (i_words : Nat → Int) (i_from : Int) (i_to : Int) (i_sort : Int) (i_worth : Int) (i_fault : Int) (i_bad : Int) (i_nCode : Int) (i_nLeaves : Int) (i_piled : Int) (i_opened : Int) (i_nOp : Nat → Int) (i_nArg : Nat → Int) (i_pile : Nat → Int) (i_pileAt : Nat → Int) : va_W := [(q0, .inr (11, [.int (Int32.ofInt u0), .int (Int32.ofInt u1), .ref q1, .ref q2, .ref q3, .ref q4, .int (Int32.ofInt u2), .ref q5, .int (Int32.ofInt i_taped), .int (Int32.ofInt i_from), .int (Int32.ofInt i_to), .int (Int32.ofInt i_sort), .long (Int64.ofInt i_worth), .int (Int32.ofInt i_fault), .int (Int32.ofInt i_bad), .int (Int32.ofInt u3), .ref q6, .int (Int32.ofInt i_nCode), .ref q7, .ref q8, .int (Int32.ofInt i_nLeaves), .ref q9, .ref q10, .int (Int32.ofInt i_piled), .int (Int32.ofInt i_opened), .ref q11, .int (Int32.ofInt u4), .ref q12, .ref q13, .int (Int32.ofInt u5), .long (Int64.ofInt u6), .long (Int64.ofInt u7), .ref q14, .ref q15, .ref q16, .ref q17, .ref q18, .int (Int32.ofInt u8), .ref q19, .ref q20, .ref q21, .ref q22, .ref q23, .ref q24, .ref q25, .ref q26, .ref q27, .ref q28, .ref q29, .ref q30, .long (Int64.ofInt u9), .ref q31, .int (Int32.ofInt u10)])), (q5, .inl (cA 0, 400, .inl (za i_tape))), (q7, .inl (cA 0, 400, .inl (za i_nOp))), (q8, .inl (cA 0, 400, .inl (za i_nArg))), (q9, .inl (cA 0, 400, .inl (za i_pile))), (q10, .inl (cA 0, 400, .inl (za i_pileAt))), (q11, .inl (cA 2, 8, .inr (.inl (zl i_words))))]
def wf_HM_readExpression (cA : Nat → ClassId) (q0 q1 q2 q3 q4 q5 q6 q7 q8 q9 q10 q11 q12 q13 q14 q15 q16 q17 q18 q19 q20 q21 q22 q23 q24 q25 q26 q27 q28 q29 q30 q31 : Nat) (u0 u1 u2 u3 u4 u5 u6 u7 u8 u9 u10 : Int) (i_taped : Int) (i_tape : Nat → Int) (i_words : Nat → Int) (o : Int × Int × Int × Int × Int × Int × Int × Int × Int × Int × (Nat → Int) × (Nat → Int) × (Nat → Int) × (Nat → Int)) : va_W := wd_HM_readExpression cA q0 q1 q2 q3 q4 q5 q6 q7 q8 q9 q10 q11 q12 q13 q14 q15 q16 q17 q18 q19 q20 q21 q22 q23 q24 q25 q26 q27 q28 q29 q30 q31 u0 u1 u2 u3 u4 u5 u6 u7 u8 u9 u10 i_taped i_tape i_words o.1 o.2.1 o.2.2.1 o.2.2.2.1 o.2.2.2.2.1 o.2.2.2.2.2.1 o.2.2.2.2.2.2.1 o.2.2.2.2.2.2.2.1 o.2.2.2.2.2.2.2.2.1 o.2.2.2.2.2.2.2.2.2.1 o.2.2.2.2.2.2.2.2.2.2.1 o.2.2.2.2.2.2.2.2.2.2.2.1 o.2.2.2.2.2.2.2.2.2.2.2.2.1 o.2.2.2.2.2.2.2.2.2.2.2.2.2
def f_HM_readExpression_76 (i_taped : Int) (i_tape : Nat → Int) (i_words : Nat → Int) (i_from : Int) (i_to : Int) (i_sort : Int) (i_worth : Int) (i_fault : Int) (i_bad : Int) (i_nCode : Int) (i_nLeaves : Int) (i_piled : Int) (i_opened : Int) (i_nOp : Nat → Int) (i_nArg : Nat → Int) (i_pile : Nat → Int) (i_pileAt : Nat → Int) : Option (Int × Int × Int × Int × Int × Int × Int × Int × Int × Int × (Nat → Int) × (Nat → Int) × (Nat → Int) × (Nat → Int)) :=
  zd4 (f_HM_settle 1 i_pile i_pileAt i_nCode i_piled i_nOp i_nArg) fun v1 v2 a3 a4 =>
  some (i_from, i_to, i_sort, i_worth, i_fault, i_bad, v1, i_nLeaves, v2, i_opened, a3, a4, i_pile, i_pileAt)
def f_HM_readExpression_72 (i_taped : Int) (i_tape : Nat → Int) (i_words : Nat → Int) (k20 : Int → Int → Int → Int → Int → Int → Int → Int → Int → Int → Int → Int → (Nat → Int) → (Nat → Int) → (Nat → Int) → (Nat → Int) → Option (Int × Int × Int × Int × Int × Int × Int × Int × Int × Int × (Nat → Int) × (Nat → Int) × (Nat → Int) × (Nat → Int))) (x1 : Int) (s0 : Int) (i_from : Int) (i_to : Int) (i_sort : Int) (i_worth : Int) (i_fault : Int) (i_bad : Int) (i_nCode : Int) (i_nLeaves : Int) (i_piled : Int) (i_opened : Int) (i_nOp : Nat → Int) (i_nArg : Nat → Int) (i_pile : Nat → Int) (i_pileAt : Nat → Int) : Option (Int × Int × Int × Int × Int × Int × Int × Int × Int × Int × (Nat → Int) × (Nat → Int) × (Nat → Int) × (Nat → Int)) :=
  k20 x1 s0 i_from i_to i_sort i_worth i_fault i_bad i_nCode i_nLeaves i_piled i_opened i_nOp i_nArg i_pile i_pileAt
def f_HM_readExpression_20_b (i_taped : Int) (i_tape : Nat → Int) (i_words : Nat → Int) (k20 : Int → Int → Int → Int → Int → Int → Int → Int → Int → Int → Int → Int → (Nat → Int) → (Nat → Int) → (Nat → Int) → (Nat → Int) → Option (Int × Int × Int × Int × Int × Int × Int × Int × Int × Int × (Nat → Int) × (Nat → Int) × (Nat → Int) × (Nat → Int))) (x1 : Int) (x2 : Int) (i_from : Int) (i_to : Int) (i_sort : Int) (i_worth : Int) (i_fault : Int) (i_bad : Int) (i_nCode : Int) (i_nLeaves : Int) (i_piled : Int) (i_opened : Int) (i_nOp : Nat → Int) (i_nArg : Nat → Int) (i_pile : Nat → Int) (i_pileAt : Nat → Int) : Option (Int × Int × Int × Int × Int × Int × Int × Int × Int × Int × (Nat → Int) × (Nat → Int) × (Nat → Int) × (Nat → Int)) :=
  if zi_w i_bad ≠ 0 then
    f_HM_readExpression_76 i_taped i_tape i_words i_from i_to i_sort i_worth i_fault i_bad i_nCode i_nLeaves i_piled i_opened i_nOp i_nArg i_pile i_pileAt
  else
    if zi_w x2 = zi_w 4 then
      f_HM_readExpression_76 i_taped i_tape i_words i_from i_to i_sort i_worth i_fault i_bad i_nCode i_nLeaves i_piled i_opened i_nOp i_nArg i_pile i_pileAt
    else
      if zi_w x2 ≠ 0 then
        if zi_w x2 ≠ zi_w 1 then
          if zi_w x2 ≠ zi_w 3 then
            zd14 (f_HM_behindTest i_taped i_tape i_from i_to i_sort i_worth i_fault i_bad i_nCode i_piled i_opened i_nOp i_nArg i_pile i_pileAt) fun v1 v2 v3 v4 v5 v6 v7 v8 v9 v10 a11 a12 a13 a14 =>
            f_HM_readExpression_72 i_taped i_tape i_words k20 x1 v1 v2 v3 v4 v5 v6 v7 v8 i_nLeaves v9 v10 a11 a12 a13 a14
          else
            zd14 (f_HM_behindSum x1 i_taped i_tape i_from i_to i_sort i_worth i_fault i_bad i_nCode i_piled i_opened i_nOp i_nArg i_pile i_pileAt) fun v15 v16 v17 v18 v19 v20 v21 v22 v23 v24 a25 a26 a27 a28 =>
            f_HM_readExpression_72 i_taped i_tape i_words k20 x1 v15 v16 v17 v18 v19 v20 v21 v22 i_nLeaves v23 v24 a25 a26 a27 a28
        else
          zd15 (f_HM_readPart i_taped i_tape i_words i_from i_to i_sort i_worth i_fault i_bad i_nCode i_nLeaves i_piled i_opened i_nOp i_nArg i_pile i_pileAt) fun v29 v30 v31 v32 v33 v34 v35 v36 v37 v38 v39 a40 a41 a42 a43 =>
          f_HM_readExpression_72 i_taped i_tape i_words k20 x1 v29 v30 v31 v32 v33 v34 v35 v36 v37 v38 v39 a40 a41 a42 a43
      else
        zd15 (f_HM_readPlain i_taped i_tape i_words i_from i_to i_sort i_worth i_fault i_bad i_nCode i_nLeaves i_piled i_opened i_nOp i_nArg i_pile i_pileAt) fun v44 v45 v46 v47 v48 v49 v50 v51 v52 v53 v54 a55 a56 a57 a58 =>
        f_HM_readExpression_72 i_taped i_tape i_words k20 x1 v44 v45 v46 v47 v48 v49 v50 v51 v52 v53 v54 a55 a56 a57 a58
def f_HM_readExpression_20 (i_taped : Int) (i_tape : Nat → Int) (i_words : Nat → Int) : Nat → Int → Int → Int → Int → Int → Int → Int → Int → Int → Int → Int → Int → (Nat → Int) → (Nat → Int) → (Nat → Int) → (Nat → Int) → Option (Int × Int × Int × Int × Int × Int × Int × Int × Int × Int × (Nat → Int) × (Nat → Int) × (Nat → Int) × (Nat → Int))
  | 0 => fun _ _ _ _ _ _ _ _ _ _ _ _ _ _ _ _ => none
  | n + 1 => fun y0 y1 y2 y3 y4 y5 y6 y7 y8 y9 y10 y11 y12 y13 y14 y15 => f_HM_readExpression_20_b i_taped i_tape i_words (f_HM_readExpression_20 i_taped i_tape i_words n) y0 y1 y2 y3 y4 y5 y6 y7 y8 y9 y10 y11 y12 y13 y14 y15
def f_HM_readExpression_19 (i_taped : Int) (i_tape : Nat → Int) (i_words : Nat → Int) (x1 : Int) (s0 : Int) (i_from : Int) (i_to : Int) (i_sort : Int) (i_worth : Int) (i_fault : Int) (i_bad : Int) (i_nCode : Int) (i_nLeaves : Int) (i_piled : Int) (i_opened : Int) (i_nOp : Nat → Int) (i_nArg : Nat → Int) (i_pile : Nat → Int) (i_pileAt : Nat → Int) : Option (Int × Int × Int × Int × Int × Int × Int × Int × Int × Int × (Nat → Int) × (Nat → Int) × (Nat → Int) × (Nat → Int)) :=
  f_HM_readExpression_20 i_taped i_tape i_words zfu x1 s0 i_from i_to i_sort i_worth i_fault i_bad i_nCode i_nLeaves i_piled i_opened i_nOp i_nArg i_pile i_pileAt
def f_HM_readExpression (x1 : Int) (i_taped : Int) (i_tape : Nat → Int) (i_words : Nat → Int) (i_from : Int) (i_to : Int) (i_sort : Int) (i_worth : Int) (i_fault : Int) (i_bad : Int) (i_nCode : Int) (i_nLeaves : Int) (i_piled : Int) (i_opened : Int) (i_nOp : Nat → Int) (i_nArg : Nat → Int) (i_pile : Nat → Int) (i_pileAt : Nat → Int) : Option (Int × Int × Int × Int × Int × Int × Int × Int × Int × Int × (Nat → Int) × (Nat → Int) × (Nat → Int) × (Nat → Int)) :=
  if zi_w x1 = 0 then
    f_HM_readExpression_19 i_taped i_tape i_words x1 1 i_from i_to i_sort i_worth i_fault i_bad i_nCode i_nLeaves 0 0 i_nOp i_nArg i_pile i_pileAt
  else
    f_HM_readExpression_19 i_taped i_tape i_words x1 0 i_from i_to i_sort i_worth i_fault i_bad i_nCode i_nLeaves 0 0 i_nOp i_nArg i_pile i_pileAt
set_option maxHeartbeats 4000000 in
set_option maxRecDepth 100000 in
theorem c_HM_readExpression (l : Launch) (ev : zEv) (dC : Nat → ClassId) (dI : Nat → Nat → Nat) (cA : Nat → ClassId) (q0 q1 q2 q3 q4 q5 q6 q7 q8 q9 q10 q11 q12 q13 q14 q15 q16 q17 q18 q19 q20 q21 q22 q23 q24 q25 q26 q27 q28 q29 q30 q31 : Nat) (u0 u1 u2 u3 u4 u5 u6 u7 u8 u9 u10 : Int) {x1 : Int} {i_taped : Int} {i_tape : Nat → Int} {i_words : Nat → Int} {i_from : Int} {i_to : Int} {i_sort : Int} {i_worth : Int} {i_fault : Int} {i_bad : Int} {i_nCode : Int} {i_nLeaves : Int} {i_piled : Int} {i_opened : Int} {i_nOp : Nat → Int} {i_nArg : Nat → Int} {i_pile : Nat → Int} {i_pileAt : Nat → Int} {out : Int × Int × Int × Int × Int × Int × Int × Int × Int × Int × (Nat → Int) × (Nat → Int) × (Nat → Int) × (Nat → Int)} (hf : f_HM_readExpression x1 i_taped i_tape i_words i_from i_to i_sort i_worth i_fault i_bad i_nCode i_nLeaves i_piled i_opened i_nOp i_nArg i_pile i_pileAt = some out) : xc_V l ev (dC, dI) vwCl (tyl cA) yX11_readExpression w_HM_readExpression rm_HM_readExpression [.ref q0, .int (Int32.ofInt x1)] (wd_HM_readExpression cA q0 q1 q2 q3 q4 q5 q6 q7 q8 q9 q10 q11 q12 q13 q14 q15 q16 q17 q18 q19 q20 q21 q22 q23 q24 q25 q26 q27 q28 q29 q30 q31 u0 u1 u2 u3 u4 u5 u6 u7 u8 u9 u10 i_taped i_tape i_words i_from i_to i_sort i_worth i_fault i_bad i_nCode i_nLeaves i_piled i_opened i_nOp i_nArg i_pile i_pileAt) (wf_HM_readExpression cA q0 q1 q2 q3 q4 q5 q6 q7 q8 q9 q10 q11 q12 q13 q14 q15 q16 q17 q18 q19 q20 q21 q22 q23 q24 q25 q26 q27 q28 q29 q30 q31 u0 u1 u2 u3 u4 u5 u6 u7 u8 u9 u10 i_taped i_tape i_words out) := by
  refine xv_startV (cc := cX11_readExpression) (maxL := 3) (by decide +kernel) rfl (Nat.le_of_ble_eq_true rfl) ?_
  intro p e s m args below meth c A Q H ls hx hb hml hts hown hK hA hP hD hS hl hE hret
  have hown : s.vm.findClass "HillSchoolModel" = some m.cls := hown
  have hz : ∀ w ∈ zall, w.before args s = true := fun w h => hts w (List.mem_cons_of_mem _ h)
  have hl : lv_has ls 3 [(0, .ref q0), (1, .int (Int32.ofInt x1))] := hl
  have b_76 : ∀ (i_from : Int) (i_to : Int) (i_sort : Int) (i_worth : Int) (i_fault : Int) (i_bad : Int) (i_nCode : Int) (i_nLeaves : Int) (i_piled : Int) (i_opened : Int) (i_nOp : Nat → Int) (i_nArg : Nat → Int) (i_pile : Nat → Int) (i_pileAt : Nat → Int) (H : Heap) (locs : List Loc) (ls : Array Slot), f_HM_readExpression_76 i_taped i_tape i_words i_from i_to i_sort i_worth i_fault i_bad i_nCode i_nLeaves i_piled i_opened i_nOp i_nArg i_pile i_pileAt = some out → va_P (dC, dI) vwCl (wd_HM_readExpression cA q0 q1 q2 q3 q4 q5 q6 q7 q8 q9 q10 q11 q12 q13 q14 q15 q16 q17 q18 q19 q20 q21 q22 q23 q24 q25 q26 q27 q28 q29 q30 q31 u0 u1 u2 u3 u4 u5 u6 u7 u8 u9 u10 i_taped i_tape i_words i_from i_to i_sort i_worth i_fault i_bad i_nCode i_nLeaves i_piled i_opened i_nOp i_nArg i_pile i_pileAt) H → va_D A (wd_HM_readExpression cA q0 q1 q2 q3 q4 q5 q6 q7 q8 q9 q10 q11 q12 q13 q14 q15 q16 q17 q18 q19 q20 q21 q22 q23 q24 q25 q26 q27 q28 q29 q30 q31 u0 u1 u2 u3 u4 u5 u6 u7 u8 u9 u10 i_taped i_tape i_words i_from i_to i_sort i_worth i_fault i_bad i_nCode i_nLeaves i_piled i_opened i_nOp i_nArg i_pile i_pileAt) → va_S A s.heap H locs → lv_has ls 3 [(0, .ref q0)] → W p l e rm_HM_readExpression s m args below meth c H locs 0 0 Q (F0 m 76 ls []) := by
    intro i_from i_to i_sort i_worth i_fault i_bad i_nCode i_nLeaves i_piled i_opened i_nOp i_nArg i_pile i_pileAt H locs ls hf hP hD hS hl
    unfold f_HM_readExpression_76 at hf
    refine lv_aload_n hx hb dX11_readExpression_76 rfl (lv_at hl 0 rfl) ?_
    refine lv_iconst (v := Int32.ofInt 1) hx hb dX11_readExpression_77 rfl ?_
    refine xe_d4 hf (fun v1 v2 a3 a4 hg hf => ?_)
    have hC : ([0, 2, 3, 4, 5] : List Nat).map (fun i => (wd_HM_readExpression cA q0 q1 q2 q3 q4 q5 q6 q7 q8 q9 q10 q11 q12 q13 q14 q15 q16 q17 q18 q19 q20 q21 q22 q23 q24 q25 q26 q27 q28 q29 q30 q31 u0 u1 u2 u3 u4 u5 u6 u7 u8 u9 u10 i_taped i_tape i_words i_from i_to i_sort i_worth i_fault i_bad i_nCode i_nLeaves i_piled i_opened i_nOp i_nArg i_pile i_pileAt)[i]?) = (wd_HM_settle cA q0 q1 q2 q3 q4 q5 q6 q7 q8 q9 q10 q11 q12 q13 q14 q15 q16 q17 q18 q19 q20 q21 q22 q23 q24 q25 q26 q27 q28 q29 q30 q31 u0 u1 u2 i_taped i_from i_to i_sort i_worth i_fault i_bad u3 i_nLeaves i_opened u4 u5 u6 u7 u8 u9 u10 i_pile i_pileAt i_nCode i_piled i_nOp i_nArg).map some := rfl
    refine xv_afterV (ws' := (wd_HM_readExpression cA q0 q1 q2 q3 q4 q5 q6 q7 q8 q9 q10 q11 q12 q13 q14 q15 q16 q17 q18 q19 q20 q21 q22 q23 q24 q25 q26 q27 q28 q29 q30 q31 u0 u1 u2 u3 u4 u5 u6 u7 u8 u9 u10 i_taped i_tape i_words i_from i_to i_sort i_worth i_fault i_bad v1 i_nLeaves v2 i_opened a3 a4 i_pile i_pileAt)) (isC := [0, 2, 3, 4, 5]) (ps := [some 0, none, some 1, some 2, some 3, some 4, none]) (va_runV (As := [.int (Int32.ofInt 1)]) (rest := []) ⟨hx, hb, hml, hown, hts⟩ (c_HM_settle l ev dC dI cA q0 q1 q2 q3 q4 q5 q6 q7 q8 q9 q10 q11 q12 q13 q14 q15 q16 q17 q18 q19 q20 q21 q22 q23 q24 q25 q26 q27 q28 q29 q30 q31 u0 u1 u2 i_taped i_from i_to i_sort i_worth i_fault i_bad u3 i_nLeaves i_opened u4 u5 u6 u7 u8 u9 u10 hg H.size) (cwV 1 hts (zgV zw_1514 zw_1516 zw_61 zw_115 zw_1517) rfl rfl rfl hd_HM_settle ⟨Nat.le_of_ble_eq_true rfl, Nat.le_of_ble_eq_true rfl⟩) (xv_preV (T := TX11) (N := 53) hE hA hS hK hP hD (isC := [0, 2, 3, 4, 5]) (by decide +kernel) hC (q0 := 0) (ci := 11) rfl rfl) rfl rfl hl.1 rfl (lv_room (Nat.le_of_ble_eq_true rfl)) dX11_readExpression_78 ⟨Nat.le_refl _, Nat.le_refl _⟩) hP hD hS hA (by decide +kernel) rfl hC rfl rfl (fun H locs hP hD hS => ?_)
    obtain rfl := Option.some.inj hf
    exact hret _ _ _ _ dX11_readExpression_81 hP hD hS
  have b_72 : ∀ (k20 : Int → Int → Int → Int → Int → Int → Int → Int → Int → Int → Int → Int → (Nat → Int) → (Nat → Int) → (Nat → Int) → (Nat → Int) → Option (Int × Int × Int × Int × Int × Int × Int × Int × Int × Int × (Nat → Int) × (Nat → Int) × (Nat → Int) × (Nat → Int))) (_ : ∀ (x1 : Int) (x2 : Int) (i_from : Int) (i_to : Int) (i_sort : Int) (i_worth : Int) (i_fault : Int) (i_bad : Int) (i_nCode : Int) (i_nLeaves : Int) (i_piled : Int) (i_opened : Int) (i_nOp : Nat → Int) (i_nArg : Nat → Int) (i_pile : Nat → Int) (i_pileAt : Nat → Int) (H : Heap) (locs : List Loc) (ls : Array Slot), k20 x1 x2 i_from i_to i_sort i_worth i_fault i_bad i_nCode i_nLeaves i_piled i_opened i_nOp i_nArg i_pile i_pileAt = some out → va_P (dC, dI) vwCl (wd_HM_readExpression cA q0 q1 q2 q3 q4 q5 q6 q7 q8 q9 q10 q11 q12 q13 q14 q15 q16 q17 q18 q19 q20 q21 q22 q23 q24 q25 q26 q27 q28 q29 q30 q31 u0 u1 u2 u3 u4 u5 u6 u7 u8 u9 u10 i_taped i_tape i_words i_from i_to i_sort i_worth i_fault i_bad i_nCode i_nLeaves i_piled i_opened i_nOp i_nArg i_pile i_pileAt) H → va_D A (wd_HM_readExpression cA q0 q1 q2 q3 q4 q5 q6 q7 q8 q9 q10 q11 q12 q13 q14 q15 q16 q17 q18 q19 q20 q21 q22 q23 q24 q25 q26 q27 q28 q29 q30 q31 u0 u1 u2 u3 u4 u5 u6 u7 u8 u9 u10 i_taped i_tape i_words i_from i_to i_sort i_worth i_fault i_bad i_nCode i_nLeaves i_piled i_opened i_nOp i_nArg i_pile i_pileAt) → va_S A s.heap H locs → lv_has ls 3 [(0, .ref q0), (1, .int (Int32.ofInt x1)), (2, .int (Int32.ofInt x2))] → W p l e rm_HM_readExpression s m args below meth c H locs 0 0 Q (F0 m 20 ls [])), ∀ (x1 : Int) (s0 : Int) (i_from : Int) (i_to : Int) (i_sort : Int) (i_worth : Int) (i_fault : Int) (i_bad : Int) (i_nCode : Int) (i_nLeaves : Int) (i_piled : Int) (i_opened : Int) (i_nOp : Nat → Int) (i_nArg : Nat → Int) (i_pile : Nat → Int) (i_pileAt : Nat → Int) (H : Heap) (locs : List Loc) (ls : Array Slot), f_HM_readExpression_72 i_taped i_tape i_words k20 x1 s0 i_from i_to i_sort i_worth i_fault i_bad i_nCode i_nLeaves i_piled i_opened i_nOp i_nArg i_pile i_pileAt = some out → va_P (dC, dI) vwCl (wd_HM_readExpression cA q0 q1 q2 q3 q4 q5 q6 q7 q8 q9 q10 q11 q12 q13 q14 q15 q16 q17 q18 q19 q20 q21 q22 q23 q24 q25 q26 q27 q28 q29 q30 q31 u0 u1 u2 u3 u4 u5 u6 u7 u8 u9 u10 i_taped i_tape i_words i_from i_to i_sort i_worth i_fault i_bad i_nCode i_nLeaves i_piled i_opened i_nOp i_nArg i_pile i_pileAt) H → va_D A (wd_HM_readExpression cA q0 q1 q2 q3 q4 q5 q6 q7 q8 q9 q10 q11 q12 q13 q14 q15 q16 q17 q18 q19 q20 q21 q22 q23 q24 q25 q26 q27 q28 q29 q30 q31 u0 u1 u2 u3 u4 u5 u6 u7 u8 u9 u10 i_taped i_tape i_words i_from i_to i_sort i_worth i_fault i_bad i_nCode i_nLeaves i_piled i_opened i_nOp i_nArg i_pile i_pileAt) → va_S A s.heap H locs → lv_has ls 3 [(0, .ref q0), (1, .int (Int32.ofInt x1))] → W p l e rm_HM_readExpression s m args below meth c H locs 0 0 Q (F0 m 72 ls [.int (Int32.ofInt s0)]) := by
    intro k20 ih20 x1 s0 i_from i_to i_sort i_worth i_fault i_bad i_nCode i_nLeaves i_piled i_opened i_nOp i_nArg i_pile i_pileAt H locs ls hf hP hD hS hl
    unfold f_HM_readExpression_72 at hf
    refine lv_istore_n (lv' := [(2, .int (Int32.ofInt s0)), (0, .ref q0), (1, .int (Int32.ofInt x1))]) hx hb dX11_readExpression_72 rfl hl (by decide) rfl (fun ls hl => ?_)
    refine lv_goto (tgt := 20) hx hb dX11_readExpression_73 (by decide) ?_
    exact ih20 _ _ _ _ _ _ _ _ _ _ _ _ _ _ _ _ _ _ _ hf hP hD hS (lv_sub hl [1, 2, 0] rfl)
  have b_20 : ∀ (k20 : Int → Int → Int → Int → Int → Int → Int → Int → Int → Int → Int → Int → (Nat → Int) → (Nat → Int) → (Nat → Int) → (Nat → Int) → Option (Int × Int × Int × Int × Int × Int × Int × Int × Int × Int × (Nat → Int) × (Nat → Int) × (Nat → Int) × (Nat → Int))) (_ : ∀ (x1 : Int) (x2 : Int) (i_from : Int) (i_to : Int) (i_sort : Int) (i_worth : Int) (i_fault : Int) (i_bad : Int) (i_nCode : Int) (i_nLeaves : Int) (i_piled : Int) (i_opened : Int) (i_nOp : Nat → Int) (i_nArg : Nat → Int) (i_pile : Nat → Int) (i_pileAt : Nat → Int) (H : Heap) (locs : List Loc) (ls : Array Slot), k20 x1 x2 i_from i_to i_sort i_worth i_fault i_bad i_nCode i_nLeaves i_piled i_opened i_nOp i_nArg i_pile i_pileAt = some out → va_P (dC, dI) vwCl (wd_HM_readExpression cA q0 q1 q2 q3 q4 q5 q6 q7 q8 q9 q10 q11 q12 q13 q14 q15 q16 q17 q18 q19 q20 q21 q22 q23 q24 q25 q26 q27 q28 q29 q30 q31 u0 u1 u2 u3 u4 u5 u6 u7 u8 u9 u10 i_taped i_tape i_words i_from i_to i_sort i_worth i_fault i_bad i_nCode i_nLeaves i_piled i_opened i_nOp i_nArg i_pile i_pileAt) H → va_D A (wd_HM_readExpression cA q0 q1 q2 q3 q4 q5 q6 q7 q8 q9 q10 q11 q12 q13 q14 q15 q16 q17 q18 q19 q20 q21 q22 q23 q24 q25 q26 q27 q28 q29 q30 q31 u0 u1 u2 u3 u4 u5 u6 u7 u8 u9 u10 i_taped i_tape i_words i_from i_to i_sort i_worth i_fault i_bad i_nCode i_nLeaves i_piled i_opened i_nOp i_nArg i_pile i_pileAt) → va_S A s.heap H locs → lv_has ls 3 [(0, .ref q0), (1, .int (Int32.ofInt x1)), (2, .int (Int32.ofInt x2))] → W p l e rm_HM_readExpression s m args below meth c H locs 0 0 Q (F0 m 20 ls [])), ∀ (x1 : Int) (x2 : Int) (i_from : Int) (i_to : Int) (i_sort : Int) (i_worth : Int) (i_fault : Int) (i_bad : Int) (i_nCode : Int) (i_nLeaves : Int) (i_piled : Int) (i_opened : Int) (i_nOp : Nat → Int) (i_nArg : Nat → Int) (i_pile : Nat → Int) (i_pileAt : Nat → Int) (H : Heap) (locs : List Loc) (ls : Array Slot), f_HM_readExpression_20_b i_taped i_tape i_words k20 x1 x2 i_from i_to i_sort i_worth i_fault i_bad i_nCode i_nLeaves i_piled i_opened i_nOp i_nArg i_pile i_pileAt = some out → va_P (dC, dI) vwCl (wd_HM_readExpression cA q0 q1 q2 q3 q4 q5 q6 q7 q8 q9 q10 q11 q12 q13 q14 q15 q16 q17 q18 q19 q20 q21 q22 q23 q24 q25 q26 q27 q28 q29 q30 q31 u0 u1 u2 u3 u4 u5 u6 u7 u8 u9 u10 i_taped i_tape i_words i_from i_to i_sort i_worth i_fault i_bad i_nCode i_nLeaves i_piled i_opened i_nOp i_nArg i_pile i_pileAt) H → va_D A (wd_HM_readExpression cA q0 q1 q2 q3 q4 q5 q6 q7 q8 q9 q10 q11 q12 q13 q14 q15 q16 q17 q18 q19 q20 q21 q22 q23 q24 q25 q26 q27 q28 q29 q30 q31 u0 u1 u2 u3 u4 u5 u6 u7 u8 u9 u10 i_taped i_tape i_words i_from i_to i_sort i_worth i_fault i_bad i_nCode i_nLeaves i_piled i_opened i_nOp i_nArg i_pile i_pileAt) → va_S A s.heap H locs → lv_has ls 3 [(0, .ref q0), (1, .int (Int32.ofInt x1)), (2, .int (Int32.ofInt x2))] → W p l e rm_HM_readExpression s m args below meth c H locs 0 0 Q (F0 m 20 ls []) := by
    intro k20 ih20 x1 x2 i_from i_to i_sort i_worth i_fault i_bad i_nCode i_nLeaves i_piled i_opened i_nOp i_nArg i_pile i_pileAt H locs ls hf hP hD hS hl
    unfold f_HM_readExpression_20_b at hf
    refine lv_aload_n hx hb dX11_readExpression_20 rfl (lv_at hl 0 rfl) ?_
    refine va_get (D := (dC, dI)) (ci := 11) (v := .int (Int32.ofInt i_bad)) (C := RX11) (T := TX11) (N := 53) hx hb hz zi_X11 hown hK hP 0 rfl rfl 14 (by decide) (hz _ zw_1179) (fun _ h9 => h9) rfl dX11_readExpression_21 ?_
    refine xi_if_ne (tgt := 76) hx hb dX11_readExpression_24 (by decide) hf (fun hf => ?_) (fun hf => ?_)
    · exact b_76  _ _ _ _ _ _ _ _ _ _ _ _ _ _ _ _ _ hf hP hD hS (lv_sub hl [0] rfl)
    · refine lv_iload_n hx hb dX11_readExpression_27 rfl (lv_at hl 2 rfl) ?_
      refine lv_iconst (v := Int32.ofInt 4) hx hb dX11_readExpression_28 rfl ?_
      refine xi_icmp_eq (tgt := 76) hx hb dX11_readExpression_29 (by decide) hf (fun hf => ?_) (fun hf => ?_)
      · exact b_76  _ _ _ _ _ _ _ _ _ _ _ _ _ _ _ _ _ hf hP hD hS (lv_sub hl [0] rfl)
      · refine lv_iload_n hx hb dX11_readExpression_32 rfl (lv_at hl 2 rfl) ?_
        refine xi_if_ne (tgt := 43) hx hb dX11_readExpression_33 (by decide) hf (fun hf => ?_) (fun hf => ?_)
        · refine lv_iload_n hx hb dX11_readExpression_43 rfl (lv_at hl 2 rfl) ?_
          refine lv_iconst (v := Int32.ofInt 1) hx hb dX11_readExpression_44 rfl ?_
          refine xi_icmp_ne (tgt := 55) hx hb dX11_readExpression_45 (by decide) hf (fun hf => ?_) (fun hf => ?_)
          · refine lv_iload_n hx hb dX11_readExpression_55 rfl (lv_at hl 2 rfl) ?_
            refine lv_iconst (v := Int32.ofInt 3) hx hb dX11_readExpression_56 rfl ?_
            refine xi_icmp_ne (tgt := 68) hx hb dX11_readExpression_57 (by decide) hf (fun hf => ?_) (fun hf => ?_)
            · refine lv_aload_n hx hb dX11_readExpression_68 rfl (lv_at hl 0 rfl) ?_
              refine xe_d14 hf (fun v1 v2 v3 v4 v5 v6 v7 v8 v9 v10 a11 a12 a13 a14 hg hf => ?_)
              have hC : ([0, 1, 2, 3, 4, 5] : List Nat).map (fun i => (wd_HM_readExpression cA q0 q1 q2 q3 q4 q5 q6 q7 q8 q9 q10 q11 q12 q13 q14 q15 q16 q17 q18 q19 q20 q21 q22 q23 q24 q25 q26 q27 q28 q29 q30 q31 u0 u1 u2 u3 u4 u5 u6 u7 u8 u9 u10 i_taped i_tape i_words i_from i_to i_sort i_worth i_fault i_bad i_nCode i_nLeaves i_piled i_opened i_nOp i_nArg i_pile i_pileAt)[i]?) = (wd_HM_behindTest cA q0 q1 q2 q3 q4 q5 q6 q7 q8 q9 q10 q11 q12 q13 q14 q15 q16 q17 q18 q19 q20 q21 q22 q23 q24 q25 q26 q27 q28 q29 q30 q31 u0 u1 u2 u3 i_nLeaves u4 u5 u6 u7 u8 u9 u10 i_taped i_tape i_from i_to i_sort i_worth i_fault i_bad i_nCode i_piled i_opened i_nOp i_nArg i_pile i_pileAt).map some := rfl
              refine xv_afterI (ws' := (wd_HM_readExpression cA q0 q1 q2 q3 q4 q5 q6 q7 q8 q9 q10 q11 q12 q13 q14 q15 q16 q17 q18 q19 q20 q21 q22 q23 q24 q25 q26 q27 q28 q29 q30 q31 u0 u1 u2 u3 u4 u5 u6 u7 u8 u9 u10 i_taped i_tape i_words v2 v3 v4 v5 v6 v7 v8 i_nLeaves v9 v10 a11 a12 a13 a14)) (isC := [0, 1, 2, 3, 4, 5]) (ps := [some 0, some 1, some 2, some 3, some 4, some 5, none]) (va_runV (As := []) (rest := []) ⟨hx, hb, hml, hown, hts⟩ (c_HM_behindTest l ev dC dI cA q0 q1 q2 q3 q4 q5 q6 q7 q8 q9 q10 q11 q12 q13 q14 q15 q16 q17 q18 q19 q20 q21 q22 q23 q24 q25 q26 q27 q28 q29 q30 q31 u0 u1 u2 u3 i_nLeaves u4 u5 u6 u7 u8 u9 u10 hg H.size) (cwV 0 hts (zgV zw_1530 zw_1532 zw_64 zw_115 zw_1533) rfl rfl rfl hd_HM_behindTest ⟨Nat.le_of_ble_eq_true rfl, Nat.le_of_ble_eq_true rfl⟩) (xv_preV (T := TX11) (N := 53) hE hA hS hK hP hD (isC := [0, 1, 2, 3, 4, 5]) (by decide +kernel) hC (q0 := 0) (ci := 11) rfl rfl) rfl rfl hl.1 rfl (lv_room (Nat.le_of_ble_eq_true rfl)) dX11_readExpression_69 ⟨Nat.le_refl _, Nat.le_refl _⟩) hP hD hS hA (by decide +kernel) rfl hC rfl rfl (fun H locs hP hD hS => ?_)
              exact b_72 _ ih20 _ _ _ _ _ _ _ _ _ _ _ _ _ _ _ _ _ _ _ hf hP hD hS (lv_sub hl [0, 1] rfl)
            · refine lv_aload_n hx hb dX11_readExpression_60 rfl (lv_at hl 0 rfl) ?_
              refine lv_iload_n hx hb dX11_readExpression_61 rfl (lv_at hl 1 rfl) ?_
              refine xe_d14 hf (fun v15 v16 v17 v18 v19 v20 v21 v22 v23 v24 a25 a26 a27 a28 hg hf => ?_)
              have hC : ([0, 1, 2, 3, 4, 5] : List Nat).map (fun i => (wd_HM_readExpression cA q0 q1 q2 q3 q4 q5 q6 q7 q8 q9 q10 q11 q12 q13 q14 q15 q16 q17 q18 q19 q20 q21 q22 q23 q24 q25 q26 q27 q28 q29 q30 q31 u0 u1 u2 u3 u4 u5 u6 u7 u8 u9 u10 i_taped i_tape i_words i_from i_to i_sort i_worth i_fault i_bad i_nCode i_nLeaves i_piled i_opened i_nOp i_nArg i_pile i_pileAt)[i]?) = (wd_HM_behindSum cA q0 q1 q2 q3 q4 q5 q6 q7 q8 q9 q10 q11 q12 q13 q14 q15 q16 q17 q18 q19 q20 q21 q22 q23 q24 q25 q26 q27 q28 q29 q30 q31 u0 u1 u2 u3 i_nLeaves u4 u5 u6 u7 u8 u9 u10 i_taped i_tape i_from i_to i_sort i_worth i_fault i_bad i_nCode i_piled i_opened i_nOp i_nArg i_pile i_pileAt).map some := rfl
              refine xv_afterI (ws' := (wd_HM_readExpression cA q0 q1 q2 q3 q4 q5 q6 q7 q8 q9 q10 q11 q12 q13 q14 q15 q16 q17 q18 q19 q20 q21 q22 q23 q24 q25 q26 q27 q28 q29 q30 q31 u0 u1 u2 u3 u4 u5 u6 u7 u8 u9 u10 i_taped i_tape i_words v16 v17 v18 v19 v20 v21 v22 i_nLeaves v23 v24 a25 a26 a27 a28)) (isC := [0, 1, 2, 3, 4, 5]) (ps := [some 0, some 1, some 2, some 3, some 4, some 5, none]) (va_runV (As := [.int (Int32.ofInt x1)]) (rest := []) ⟨hx, hb, hml, hown, hts⟩ (c_HM_behindSum l ev dC dI cA q0 q1 q2 q3 q4 q5 q6 q7 q8 q9 q10 q11 q12 q13 q14 q15 q16 q17 q18 q19 q20 q21 q22 q23 q24 q25 q26 q27 q28 q29 q30 q31 u0 u1 u2 u3 i_nLeaves u4 u5 u6 u7 u8 u9 u10 hg H.size) (cwV 1 hts (zgV zw_1507 zw_1509 zw_60 zw_115 zw_1510) rfl rfl rfl hd_HM_behindSum ⟨Nat.le_of_ble_eq_true rfl, Nat.le_of_ble_eq_true rfl⟩) (xv_preV (T := TX11) (N := 53) hE hA hS hK hP hD (isC := [0, 1, 2, 3, 4, 5]) (by decide +kernel) hC (q0 := 0) (ci := 11) rfl rfl) rfl rfl hl.1 rfl (lv_room (Nat.le_of_ble_eq_true rfl)) dX11_readExpression_62 ⟨Nat.le_refl _, Nat.le_refl _⟩) hP hD hS hA (by decide +kernel) rfl hC rfl rfl (fun H locs hP hD hS => ?_)
              refine lv_goto (tgt := 72) hx hb dX11_readExpression_65 (by decide) ?_
              exact b_72 _ ih20 _ _ _ _ _ _ _ _ _ _ _ _ _ _ _ _ _ _ _ hf hP hD hS (lv_sub hl [0, 1] rfl)
          · refine lv_aload_n hx hb dX11_readExpression_48 rfl (lv_at hl 0 rfl) ?_
            refine xe_d15 hf (fun v29 v30 v31 v32 v33 v34 v35 v36 v37 v38 v39 a40 a41 a42 a43 hg hf => ?_)
            have hC : ([0, 1, 2, 3, 4, 5, 6] : List Nat).map (fun i => (wd_HM_readExpression cA q0 q1 q2 q3 q4 q5 q6 q7 q8 q9 q10 q11 q12 q13 q14 q15 q16 q17 q18 q19 q20 q21 q22 q23 q24 q25 q26 q27 q28 q29 q30 q31 u0 u1 u2 u3 u4 u5 u6 u7 u8 u9 u10 i_taped i_tape i_words i_from i_to i_sort i_worth i_fault i_bad i_nCode i_nLeaves i_piled i_opened i_nOp i_nArg i_pile i_pileAt)[i]?) = (wd_HM_readPart cA q0 q1 q2 q3 q4 q5 q6 q7 q8 q9 q10 q11 q12 q13 q14 q15 q16 q17 q18 q19 q20 q21 q22 q23 q24 q25 q26 q27 q28 q29 q30 q31 u0 u1 u2 u3 u4 u5 u6 u7 u8 u9 u10 i_taped i_tape i_words i_from i_to i_sort i_worth i_fault i_bad i_nCode i_nLeaves i_piled i_opened i_nOp i_nArg i_pile i_pileAt).map some := rfl
            refine xv_afterI (ws' := (wd_HM_readExpression cA q0 q1 q2 q3 q4 q5 q6 q7 q8 q9 q10 q11 q12 q13 q14 q15 q16 q17 q18 q19 q20 q21 q22 q23 q24 q25 q26 q27 q28 q29 q30 q31 u0 u1 u2 u3 u4 u5 u6 u7 u8 u9 u10 i_taped i_tape i_words v30 v31 v32 v33 v34 v35 v36 v37 v38 v39 a40 a41 a42 a43)) (isC := [0, 1, 2, 3, 4, 5, 6]) (ps := [some 0, some 1, some 2, some 3, some 4, some 5, some 6]) (va_runV (As := []) (rest := []) ⟨hx, hb, hml, hown, hts⟩ (c_HM_readPart l ev dC dI cA q0 q1 q2 q3 q4 q5 q6 q7 q8 q9 q10 q11 q12 q13 q14 q15 q16 q17 q18 q19 q20 q21 q22 q23 q24 q25 q26 q27 q28 q29 q30 q31 u0 u1 u2 u3 u4 u5 u6 u7 u8 u9 u10 hg H.size) (cwV 0 hts (zgV zw_1490 zw_1492 zw_56 zw_115 zw_1493) rfl rfl rfl hd_HM_readPart ⟨Nat.le_of_ble_eq_true rfl, Nat.le_of_ble_eq_true rfl⟩) (xv_preV (T := TX11) (N := 53) hE hA hS hK hP hD (isC := [0, 1, 2, 3, 4, 5, 6]) (by decide +kernel) hC (q0 := 0) (ci := 11) rfl rfl) rfl rfl hl.1 rfl (lv_room (Nat.le_of_ble_eq_true rfl)) dX11_readExpression_49 ⟨Nat.le_refl _, Nat.le_refl _⟩) hP hD hS hA (by decide +kernel) rfl hC rfl rfl (fun H locs hP hD hS => ?_)
            refine lv_goto (tgt := 72) hx hb dX11_readExpression_52 (by decide) ?_
            exact b_72 _ ih20 _ _ _ _ _ _ _ _ _ _ _ _ _ _ _ _ _ _ _ hf hP hD hS (lv_sub hl [0, 1] rfl)
        · refine lv_aload_n hx hb dX11_readExpression_36 rfl (lv_at hl 0 rfl) ?_
          refine xe_d15 hf (fun v44 v45 v46 v47 v48 v49 v50 v51 v52 v53 v54 a55 a56 a57 a58 hg hf => ?_)
          have hC : ([0, 1, 2, 3, 4, 5, 6] : List Nat).map (fun i => (wd_HM_readExpression cA q0 q1 q2 q3 q4 q5 q6 q7 q8 q9 q10 q11 q12 q13 q14 q15 q16 q17 q18 q19 q20 q21 q22 q23 q24 q25 q26 q27 q28 q29 q30 q31 u0 u1 u2 u3 u4 u5 u6 u7 u8 u9 u10 i_taped i_tape i_words i_from i_to i_sort i_worth i_fault i_bad i_nCode i_nLeaves i_piled i_opened i_nOp i_nArg i_pile i_pileAt)[i]?) = (wd_HM_readPlain cA q0 q1 q2 q3 q4 q5 q6 q7 q8 q9 q10 q11 q12 q13 q14 q15 q16 q17 q18 q19 q20 q21 q22 q23 q24 q25 q26 q27 q28 q29 q30 q31 u0 u1 u2 u3 u4 u5 u6 u7 u8 u9 u10 i_taped i_tape i_words i_from i_to i_sort i_worth i_fault i_bad i_nCode i_nLeaves i_piled i_opened i_nOp i_nArg i_pile i_pileAt).map some := rfl
          refine xv_afterI (ws' := (wd_HM_readExpression cA q0 q1 q2 q3 q4 q5 q6 q7 q8 q9 q10 q11 q12 q13 q14 q15 q16 q17 q18 q19 q20 q21 q22 q23 q24 q25 q26 q27 q28 q29 q30 q31 u0 u1 u2 u3 u4 u5 u6 u7 u8 u9 u10 i_taped i_tape i_words v45 v46 v47 v48 v49 v50 v51 v52 v53 v54 a55 a56 a57 a58)) (isC := [0, 1, 2, 3, 4, 5, 6]) (ps := [some 0, some 1, some 2, some 3, some 4, some 5, some 6]) (va_runV (As := []) (rest := []) ⟨hx, hb, hml, hown, hts⟩ (c_HM_readPlain l ev dC dI cA q0 q1 q2 q3 q4 q5 q6 q7 q8 q9 q10 q11 q12 q13 q14 q15 q16 q17 q18 q19 q20 q21 q22 q23 q24 q25 q26 q27 q28 q29 q30 q31 u0 u1 u2 u3 u4 u5 u6 u7 u8 u9 u10 hg H.size) (cwV 0 hts (zgV zw_1473 zw_1475 zw_52 zw_115 zw_1476) rfl rfl rfl hd_HM_readPlain ⟨Nat.le_of_ble_eq_true rfl, Nat.le_of_ble_eq_true rfl⟩) (xv_preV (T := TX11) (N := 53) hE hA hS hK hP hD (isC := [0, 1, 2, 3, 4, 5, 6]) (by decide +kernel) hC (q0 := 0) (ci := 11) rfl rfl) rfl rfl hl.1 rfl (lv_room (Nat.le_of_ble_eq_true rfl)) dX11_readExpression_37 ⟨Nat.le_refl _, Nat.le_refl _⟩) hP hD hS hA (by decide +kernel) rfl hC rfl rfl (fun H locs hP hD hS => ?_)
          refine lv_goto (tgt := 72) hx hb dX11_readExpression_40 (by decide) ?_
          exact b_72 _ ih20 _ _ _ _ _ _ _ _ _ _ _ _ _ _ _ _ _ _ _ hf hP hD hS (lv_sub hl [0, 1] rfl)
  have l_20 : ∀ (n : Nat), ∀ (x1 : Int) (x2 : Int) (i_from : Int) (i_to : Int) (i_sort : Int) (i_worth : Int) (i_fault : Int) (i_bad : Int) (i_nCode : Int) (i_nLeaves : Int) (i_piled : Int) (i_opened : Int) (i_nOp : Nat → Int) (i_nArg : Nat → Int) (i_pile : Nat → Int) (i_pileAt : Nat → Int) (H : Heap) (locs : List Loc) (ls : Array Slot), f_HM_readExpression_20 i_taped i_tape i_words n x1 x2 i_from i_to i_sort i_worth i_fault i_bad i_nCode i_nLeaves i_piled i_opened i_nOp i_nArg i_pile i_pileAt = some out → va_P (dC, dI) vwCl (wd_HM_readExpression cA q0 q1 q2 q3 q4 q5 q6 q7 q8 q9 q10 q11 q12 q13 q14 q15 q16 q17 q18 q19 q20 q21 q22 q23 q24 q25 q26 q27 q28 q29 q30 q31 u0 u1 u2 u3 u4 u5 u6 u7 u8 u9 u10 i_taped i_tape i_words i_from i_to i_sort i_worth i_fault i_bad i_nCode i_nLeaves i_piled i_opened i_nOp i_nArg i_pile i_pileAt) H → va_D A (wd_HM_readExpression cA q0 q1 q2 q3 q4 q5 q6 q7 q8 q9 q10 q11 q12 q13 q14 q15 q16 q17 q18 q19 q20 q21 q22 q23 q24 q25 q26 q27 q28 q29 q30 q31 u0 u1 u2 u3 u4 u5 u6 u7 u8 u9 u10 i_taped i_tape i_words i_from i_to i_sort i_worth i_fault i_bad i_nCode i_nLeaves i_piled i_opened i_nOp i_nArg i_pile i_pileAt) → va_S A s.heap H locs → lv_has ls 3 [(0, .ref q0), (1, .int (Int32.ofInt x1)), (2, .int (Int32.ofInt x2))] → W p l e rm_HM_readExpression s m args below meth c H locs 0 0 Q (F0 m 20 ls []) := by
    intro n
    induction n with
    | zero => intro x1 x2 i_from i_to i_sort i_worth i_fault i_bad i_nCode i_nLeaves i_piled i_opened i_nOp i_nArg i_pile i_pileAt H locs ls hf hP hD hS hl; exact nomatch hf
    | succ n ih => intro x1 x2 i_from i_to i_sort i_worth i_fault i_bad i_nCode i_nLeaves i_piled i_opened i_nOp i_nArg i_pile i_pileAt H locs ls hf hP hD hS hl; exact b_20 (f_HM_readExpression_20 i_taped i_tape i_words n) ih x1 x2 i_from i_to i_sort i_worth i_fault i_bad i_nCode i_nLeaves i_piled i_opened i_nOp i_nArg i_pile i_pileAt H locs ls hf hP hD hS hl
  have b_19 : ∀ (x1 : Int) (s0 : Int) (i_from : Int) (i_to : Int) (i_sort : Int) (i_worth : Int) (i_fault : Int) (i_bad : Int) (i_nCode : Int) (i_nLeaves : Int) (i_piled : Int) (i_opened : Int) (i_nOp : Nat → Int) (i_nArg : Nat → Int) (i_pile : Nat → Int) (i_pileAt : Nat → Int) (H : Heap) (locs : List Loc) (ls : Array Slot), f_HM_readExpression_19 i_taped i_tape i_words x1 s0 i_from i_to i_sort i_worth i_fault i_bad i_nCode i_nLeaves i_piled i_opened i_nOp i_nArg i_pile i_pileAt = some out → va_P (dC, dI) vwCl (wd_HM_readExpression cA q0 q1 q2 q3 q4 q5 q6 q7 q8 q9 q10 q11 q12 q13 q14 q15 q16 q17 q18 q19 q20 q21 q22 q23 q24 q25 q26 q27 q28 q29 q30 q31 u0 u1 u2 u3 u4 u5 u6 u7 u8 u9 u10 i_taped i_tape i_words i_from i_to i_sort i_worth i_fault i_bad i_nCode i_nLeaves i_piled i_opened i_nOp i_nArg i_pile i_pileAt) H → va_D A (wd_HM_readExpression cA q0 q1 q2 q3 q4 q5 q6 q7 q8 q9 q10 q11 q12 q13 q14 q15 q16 q17 q18 q19 q20 q21 q22 q23 q24 q25 q26 q27 q28 q29 q30 q31 u0 u1 u2 u3 u4 u5 u6 u7 u8 u9 u10 i_taped i_tape i_words i_from i_to i_sort i_worth i_fault i_bad i_nCode i_nLeaves i_piled i_opened i_nOp i_nArg i_pile i_pileAt) → va_S A s.heap H locs → lv_has ls 3 [(0, .ref q0), (1, .int (Int32.ofInt x1))] → W p l e rm_HM_readExpression s m args below meth c H locs 0 0 Q (F0 m 19 ls [.int (Int32.ofInt s0)]) := by
    intro x1 s0 i_from i_to i_sort i_worth i_fault i_bad i_nCode i_nLeaves i_piled i_opened i_nOp i_nArg i_pile i_pileAt H locs ls hf hP hD hS hl
    unfold f_HM_readExpression_19 at hf
    refine lv_istore_n (lv' := [(2, .int (Int32.ofInt s0)), (0, .ref q0), (1, .int (Int32.ofInt x1))]) hx hb dX11_readExpression_19 rfl hl (by decide) rfl (fun ls hl => ?_)
    exact l_20  _ _ _ _ _ _ _ _ _ _ _ _ _ _ _ _ _ _ _ _ hf hP hD hS (lv_sub hl [1, 2, 0] rfl)
  unfold f_HM_readExpression at hf
  refine lv_aload_n hx hb dX11_readExpression_0 rfl (lv_at hl 0 rfl) ?_
  refine lv_iconst (v := Int32.ofInt 0) hx hb dX11_readExpression_1 rfl ?_
  refine va_put (D := (dC, dI)) (ci := 11) (v := .int (Int32.ofInt 0)) (ty := .int) (C := RX11) (T := TX11) (N := 53) hx hb hz zi_X11 tyX11 tyX11_ok nmX11 hown hK hP hD hS 0 rfl rfl 23 (by decide) (hz _ zw_1188) (fun _ h9 => h9) rfl (by decide +kernel) rfl rfl (Nat.le_of_ble_eq_true rfl) dX11_readExpression_2 (fun H locs hP hD hS => ?_)
  have hP : va_P (dC, dI) vwCl (wd_HM_readExpression cA q0 q1 q2 q3 q4 q5 q6 q7 q8 q9 q10 q11 q12 q13 q14 q15 q16 q17 q18 q19 q20 q21 q22 q23 q24 q25 q26 q27 q28 q29 q30 q31 u0 u1 u2 u3 u4 u5 u6 u7 u8 u9 u10 i_taped i_tape i_words i_from i_to i_sort i_worth i_fault i_bad i_nCode i_nLeaves 0 i_opened i_nOp i_nArg i_pile i_pileAt) H := hP
  have hD : va_D A (wd_HM_readExpression cA q0 q1 q2 q3 q4 q5 q6 q7 q8 q9 q10 q11 q12 q13 q14 q15 q16 q17 q18 q19 q20 q21 q22 q23 q24 q25 q26 q27 q28 q29 q30 q31 u0 u1 u2 u3 u4 u5 u6 u7 u8 u9 u10 i_taped i_tape i_words i_from i_to i_sort i_worth i_fault i_bad i_nCode i_nLeaves 0 i_opened i_nOp i_nArg i_pile i_pileAt) := hD
  refine lv_aload_n hx hb dX11_readExpression_5 rfl (lv_at hl 0 rfl) ?_
  refine lv_iconst (v := Int32.ofInt 0) hx hb dX11_readExpression_6 rfl ?_
  refine va_put (D := (dC, dI)) (ci := 11) (v := .int (Int32.ofInt 0)) (ty := .int) (C := RX11) (T := TX11) (N := 53) hx hb hz zi_X11 tyX11 tyX11_ok nmX11 hown hK hP hD hS 0 rfl rfl 24 (by decide) (hz _ zw_1189) (fun _ h9 => h9) rfl (by decide +kernel) rfl rfl (Nat.le_of_ble_eq_true rfl) dX11_readExpression_7 (fun H locs hP hD hS => ?_)
  have hP : va_P (dC, dI) vwCl (wd_HM_readExpression cA q0 q1 q2 q3 q4 q5 q6 q7 q8 q9 q10 q11 q12 q13 q14 q15 q16 q17 q18 q19 q20 q21 q22 q23 q24 q25 q26 q27 q28 q29 q30 q31 u0 u1 u2 u3 u4 u5 u6 u7 u8 u9 u10 i_taped i_tape i_words i_from i_to i_sort i_worth i_fault i_bad i_nCode i_nLeaves 0 0 i_nOp i_nArg i_pile i_pileAt) H := hP
  have hD : va_D A (wd_HM_readExpression cA q0 q1 q2 q3 q4 q5 q6 q7 q8 q9 q10 q11 q12 q13 q14 q15 q16 q17 q18 q19 q20 q21 q22 q23 q24 q25 q26 q27 q28 q29 q30 q31 u0 u1 u2 u3 u4 u5 u6 u7 u8 u9 u10 i_taped i_tape i_words i_from i_to i_sort i_worth i_fault i_bad i_nCode i_nLeaves 0 0 i_nOp i_nArg i_pile i_pileAt) := hD
  refine lv_iload_n hx hb dX11_readExpression_10 rfl (lv_at hl 1 rfl) ?_
  refine xi_if_eq (tgt := 18) hx hb dX11_readExpression_11 (by decide) hf (fun hf => ?_) (fun hf => ?_)
  · refine lv_iconst (v := Int32.ofInt 1) hx hb dX11_readExpression_18 rfl ?_
    exact b_19  _ _ _ _ _ _ _ _ _ _ _ _ _ _ _ _ _ _ _ hf hP hD hS (lv_sub hl [0, 1] rfl)
  · refine lv_iconst (v := Int32.ofInt 0) hx hb dX11_readExpression_14 rfl ?_
    refine lv_goto (tgt := 19) hx hb dX11_readExpression_15 (by decide) ?_
    exact b_19  _ _ _ _ _ _ _ _ _ _ _ _ _ _ _ _ _ _ _ hf hP hD hS (lv_sub hl [0, 1] rfl)
theorem dX11_readClause_0 : decode cX11_readClause 0 = .ok (.aload_n 0, 1) := by decide +kernel
theorem dX11_readClause_1 : decode cX11_readClause 1 = .ok (.ldc2_w 302, 3) := by decide +kernel
theorem dX11_readClause_4 : decode cX11_readClause 4 = .ok (.invokevirtual 245, 3) := by decide +kernel
theorem dX11_readClause_7 : decode cX11_readClause 7 = .ok (.ifCond .eq 7, 3) := by decide +kernel
theorem dX11_readClause_10 : decode cX11_readClause 10 = .ok (.iconst 0, 1) := by decide +kernel
theorem dX11_readClause_11 : decode cX11_readClause 11 = .ok (.goto 18, 3) := by decide +kernel
theorem dX11_readClause_14 : decode cX11_readClause 14 = .ok (.aload_n 0, 1) := by decide +kernel
theorem dX11_readClause_15 : decode cX11_readClause 15 = .ok (.ldc2_w 304, 3) := by decide +kernel
theorem dX11_readClause_18 : decode cX11_readClause 18 = .ok (.invokevirtual 245, 3) := by decide +kernel
theorem dX11_readClause_21 : decode cX11_readClause 21 = .ok (.ifCond .eq 7, 3) := by decide +kernel
theorem dX11_readClause_24 : decode cX11_readClause 24 = .ok (.iconst 1, 1) := by decide +kernel
theorem dX11_readClause_25 : decode cX11_readClause 25 = .ok (.goto 4, 3) := by decide +kernel
theorem dX11_readClause_28 : decode cX11_readClause 28 = .ok (.iconst (-1), 1) := by decide +kernel
theorem dX11_readClause_29 : decode cX11_readClause 29 = .ok (.istore_n 1, 1) := by decide +kernel
theorem dX11_readClause_30 : decode cX11_readClause 30 = .ok (.aload_n 0, 1) := by decide +kernel
theorem dX11_readClause_31 : decode cX11_readClause 31 = .ok (.iload_n 1, 1) := by decide +kernel
theorem dX11_readClause_32 : decode cX11_readClause 32 = .ok (.iconst (-1), 1) := by decide +kernel
theorem dX11_readClause_33 : decode cX11_readClause 33 = .ok (.if_icmp .eq 16, 3) := by decide +kernel
theorem dX11_readClause_36 : decode cX11_readClause 36 = .ok (.aload_n 0, 1) := by decide +kernel
theorem dX11_readClause_37 : decode cX11_readClause 37 = .ok (.getfield 306, 3) := by decide +kernel
theorem dX11_readClause_40 : decode cX11_readClause 40 = .ok (.bipush 12, 2) := by decide +kernel
theorem dX11_readClause_42 : decode cX11_readClause 42 = .ok (.if_icmp .ge 7, 3) := by decide +kernel
theorem dX11_readClause_45 : decode cX11_readClause 45 = .ok (.iconst 1, 1) := by decide +kernel
theorem dX11_readClause_46 : decode cX11_readClause 46 = .ok (.goto 4, 3) := by decide +kernel
theorem dX11_readClause_49 : decode cX11_readClause 49 = .ok (.iconst 0, 1) := by decide +kernel
theorem dX11_readClause_50 : decode cX11_readClause 50 = .ok (.invokevirtual 220, 3) := by decide +kernel
theorem dX11_readClause_53 : decode cX11_readClause 53 = .ok (.aload_n 0, 1) := by decide +kernel
theorem dX11_readClause_54 : decode cX11_readClause 54 = .ok (.getfield 185, 3) := by decide +kernel
theorem dX11_readClause_57 : decode cX11_readClause 57 = .ok (.ifCond .eq 4, 3) := by decide +kernel
theorem dX11_readClause_60 : decode cX11_readClause 60 = .ok (.return_, 1) := by decide +kernel
theorem dX11_readClause_61 : decode cX11_readClause 61 = .ok (.bipush 8, 2) := by decide +kernel
theorem dX11_readClause_63 : decode cX11_readClause 63 = .ok (.aload_n 0, 1) := by decide +kernel
theorem dX11_readClause_64 : decode cX11_readClause 64 = .ok (.getfield 306, 3) := by decide +kernel
theorem dX11_readClause_67 : decode cX11_readClause 67 = .ok (.imul, 1) := by decide +kernel
theorem dX11_readClause_68 : decode cX11_readClause 68 = .ok (.istore_n 2, 1) := by decide +kernel
theorem dX11_readClause_69 : decode cX11_readClause 69 = .ok (.iconst 0, 1) := by decide +kernel
theorem dX11_readClause_70 : decode cX11_readClause 70 = .ok (.istore_n 3, 1) := by decide +kernel
theorem dX11_readClause_71 : decode cX11_readClause 71 = .ok (.iload_n 3, 1) := by decide +kernel
theorem dX11_readClause_72 : decode cX11_readClause 72 = .ok (.bipush 8, 2) := by decide +kernel
theorem dX11_readClause_74 : decode cX11_readClause 74 = .ok (.if_icmp .ge 18, 3) := by decide +kernel
theorem dX11_readClause_77 : decode cX11_readClause 77 = .ok (.aload_n 0, 1) := by decide +kernel
theorem dX11_readClause_78 : decode cX11_readClause 78 = .ok (.getfield 30, 3) := by decide +kernel
theorem dX11_readClause_81 : decode cX11_readClause 81 = .ok (.iload_n 2, 1) := by decide +kernel
theorem dX11_readClause_82 : decode cX11_readClause 82 = .ok (.iload_n 3, 1) := by decide +kernel
theorem dX11_readClause_83 : decode cX11_readClause 83 = .ok (.iadd, 1) := by decide +kernel
theorem dX11_readClause_84 : decode cX11_readClause 84 = .ok (.iconst 0, 1) := by decide +kernel
theorem dX11_readClause_85 : decode cX11_readClause 85 = .ok (.iastore, 1) := by decide +kernel
theorem dX11_readClause_86 : decode cX11_readClause 86 = .ok (.iinc 3 1, 3) := by decide +kernel
theorem dX11_readClause_89 : decode cX11_readClause 89 = .ok (.goto (-18), 3) := by decide +kernel
theorem dX11_readClause_92 : decode cX11_readClause 92 = .ok (.aload_n 0, 1) := by decide +kernel
theorem dX11_readClause_93 : decode cX11_readClause 93 = .ok (.getfield 30, 3) := by decide +kernel
theorem dX11_readClause_96 : decode cX11_readClause 96 = .ok (.iload_n 2, 1) := by decide +kernel
theorem dX11_readClause_97 : decode cX11_readClause 97 = .ok (.iload_n 1, 1) := by decide +kernel
theorem dX11_readClause_98 : decode cX11_readClause 98 = .ok (.iastore, 1) := by decide +kernel
theorem dX11_readClause_99 : decode cX11_readClause 99 = .ok (.aload_n 0, 1) := by decide +kernel
theorem dX11_readClause_100 : decode cX11_readClause 100 = .ok (.dup, 1) := by decide +kernel
theorem dX11_readClause_101 : decode cX11_readClause 101 = .ok (.getfield 306, 3) := by decide +kernel
theorem dX11_readClause_104 : decode cX11_readClause 104 = .ok (.iconst 1, 1) := by decide +kernel
theorem dX11_readClause_105 : decode cX11_readClause 105 = .ok (.iadd, 1) := by decide +kernel
theorem dX11_readClause_106 : decode cX11_readClause 106 = .ok (.putfield 306, 3) := by decide +kernel
theorem dX11_readClause_109 : decode cX11_readClause 109 = .ok (.aload_n 0, 1) := by decide +kernel
theorem dX11_readClause_110 : decode cX11_readClause 110 = .ok (.getfield 30, 3) := by decide +kernel
theorem dX11_readClause_113 : decode cX11_readClause 113 = .ok (.iload_n 2, 1) := by decide +kernel
theorem dX11_readClause_114 : decode cX11_readClause 114 = .ok (.iconst 3, 1) := by decide +kernel
theorem dX11_readClause_115 : decode cX11_readClause 115 = .ok (.iadd, 1) := by decide +kernel
theorem dX11_readClause_116 : decode cX11_readClause 116 = .ok (.aload_n 0, 1) := by decide +kernel
theorem dX11_readClause_117 : decode cX11_readClause 117 = .ok (.getfield 224, 3) := by decide +kernel
theorem dX11_readClause_120 : decode cX11_readClause 120 = .ok (.iastore, 1) := by decide +kernel
theorem dX11_readClause_121 : decode cX11_readClause 121 = .ok (.iload_n 1, 1) := by decide +kernel
theorem dX11_readClause_122 : decode cX11_readClause 122 = .ok (.ifCond .ne 8, 3) := by decide +kernel
theorem dX11_readClause_125 : decode cX11_readClause 125 = .ok (.aload_n 0, 1) := by decide +kernel
theorem dX11_readClause_126 : decode cX11_readClause 126 = .ok (.iconst 0, 1) := by decide +kernel
theorem dX11_readClause_127 : decode cX11_readClause 127 = .ok (.invokevirtual 309, 3) := by decide +kernel
theorem dX11_readClause_130 : decode cX11_readClause 130 = .ok (.aload_n 0, 1) := by decide +kernel
theorem dX11_readClause_131 : decode cX11_readClause 131 = .ok (.getfield 30, 3) := by decide +kernel
theorem dX11_readClause_134 : decode cX11_readClause 134 = .ok (.iload_n 2, 1) := by decide +kernel
theorem dX11_readClause_135 : decode cX11_readClause 135 = .ok (.iconst 4, 1) := by decide +kernel
theorem dX11_readClause_136 : decode cX11_readClause 136 = .ok (.iadd, 1) := by decide +kernel
theorem dX11_readClause_137 : decode cX11_readClause 137 = .ok (.aload_n 0, 1) := by decide +kernel
theorem dX11_readClause_138 : decode cX11_readClause 138 = .ok (.getfield 224, 3) := by decide +kernel
theorem dX11_readClause_141 : decode cX11_readClause 141 = .ok (.iastore, 1) := by decide +kernel
theorem dX11_readClause_142 : decode cX11_readClause 142 = .ok (.aload_n 0, 1) := by decide +kernel
theorem dX11_readClause_143 : decode cX11_readClause 143 = .ok (.getfield 30, 3) := by decide +kernel
theorem dX11_readClause_146 : decode cX11_readClause 146 = .ok (.iload_n 2, 1) := by decide +kernel
theorem dX11_readClause_147 : decode cX11_readClause 147 = .ok (.iconst 5, 1) := by decide +kernel
theorem dX11_readClause_148 : decode cX11_readClause 148 = .ok (.iadd, 1) := by decide +kernel
theorem dX11_readClause_149 : decode cX11_readClause 149 = .ok (.aload_n 0, 1) := by decide +kernel
theorem dX11_readClause_150 : decode cX11_readClause 150 = .ok (.getfield 224, 3) := by decide +kernel
theorem dX11_readClause_153 : decode cX11_readClause 153 = .ok (.iastore, 1) := by decide +kernel
theorem dX11_readClause_154 : decode cX11_readClause 154 = .ok (.aload_n 0, 1) := by decide +kernel
theorem dX11_readClause_155 : decode cX11_readClause 155 = .ok (.getfield 185, 3) := by decide +kernel
theorem dX11_readClause_158 : decode cX11_readClause 158 = .ok (.ifCond .ne 22, 3) := by decide +kernel
theorem dX11_readClause_161 : decode cX11_readClause 161 = .ok (.aload_n 0, 1) := by decide +kernel
theorem dX11_readClause_162 : decode cX11_readClause 162 = .ok (.ldc2_w 312, 3) := by decide +kernel
theorem dX11_readClause_165 : decode cX11_readClause 165 = .ok (.invokevirtual 245, 3) := by decide +kernel
theorem dX11_readClause_168 : decode cX11_readClause 168 = .ok (.ifCond .eq 12, 3) := by decide +kernel
theorem dX11_readClause_171 : decode cX11_readClause 171 = .ok (.aload_n 0, 1) := by decide +kernel
theorem dX11_readClause_172 : decode cX11_readClause 172 = .ok (.invokevirtual 189, 3) := by decide +kernel
theorem dX11_readClause_175 : decode cX11_readClause 175 = .ok (.aload_n 0, 1) := by decide +kernel
theorem dX11_readClause_176 : decode cX11_readClause 176 = .ok (.iconst 1, 1) := by decide +kernel
theorem dX11_readClause_177 : decode cX11_readClause 177 = .ok (.invokevirtual 309, 3) := by decide +kernel
theorem dX11_readClause_180 : decode cX11_readClause 180 = .ok (.aload_n 0, 1) := by decide +kernel
theorem dX11_readClause_181 : decode cX11_readClause 181 = .ok (.getfield 30, 3) := by decide +kernel
theorem dX11_readClause_184 : decode cX11_readClause 184 = .ok (.iload_n 2, 1) := by decide +kernel
theorem dX11_readClause_185 : decode cX11_readClause 185 = .ok (.bipush 6, 2) := by decide +kernel
theorem dX11_readClause_187 : decode cX11_readClause 187 = .ok (.iadd, 1) := by decide +kernel
theorem dX11_readClause_188 : decode cX11_readClause 188 = .ok (.aload_n 0, 1) := by decide +kernel
theorem dX11_readClause_189 : decode cX11_readClause 189 = .ok (.getfield 224, 3) := by decide +kernel
theorem dX11_readClause_192 : decode cX11_readClause 192 = .ok (.iastore, 1) := by decide +kernel
theorem dX11_readClause_193 : decode cX11_readClause 193 = .ok (.return_, 1) := by decide +kernel
theorem zw_51 : (Jvm.Cond.selects "HillSchoolModel" ({ cls := "HillSchoolModel", name := "readExpression", desc := "(Z)V" } : Jvm.MethodName) ({ cls := "HillSchoolModel", name := "readExpression", desc := "(Z)V" } : Jvm.MethodName)) ∈ zall := zmemG (zmj_0 51 rfl) rfl
theorem zw_1180 : (Jvm.Cond.fieldLink "HillSchoolModel" (306 : Nat) "HillSchoolModel" "nClauses" "I") ∈ zall := zmemG (zmj_5 117 rfl) rfl
theorem zw_1181 : (Jvm.Cond.fieldLink "HillSchoolModel" (30 : Nat) "HillSchoolModel" "nClause" "[I") ∈ zall := zmemG (zmj_5 118 rfl) rfl
theorem zw_1458 : (Jvm.Cond.code ({ cls := "HillSchoolModel", name := "readClause", desc := "()V" } : Jvm.MethodName) prog_13_method_53_code (4 : Nat) (Option.none : Option Jvm.ClassFile.FieldType)) ∈ zall := zmemG (zmj_6 155 rfl) rfl
theorem zw_1459 : (Jvm.Cond.constantLong "HillSchoolModel" (302 : Nat) (21285043 : Int64)) ∈ zall := zmemG (zmj_6 156 rfl) rfl
theorem zw_1464 : (Jvm.Cond.constantLong "HillSchoolModel" (304 : Nat) (67155 : Int64)) ∈ zall := zmemG (zmj_6 161 rfl) rfl
theorem zw_1469 : (Jvm.Cond.methodLink "HillSchoolModel" (309 : Nat) ({ cls := "HillSchoolModel", name := "readExpression", desc := "(Z)V" } : Jvm.MethodName)) ∈ zall := zmemG (zmj_6 166 rfl) rfl
theorem zw_1471 : (Jvm.Cond.instanceMethod ({ cls := "HillSchoolModel", name := "readExpression", desc := "(Z)V" } : Jvm.MethodName)) ∈ zall := zmemG (zmj_6 168 rfl) rfl
theorem zw_1536 : (Jvm.Cond.constantLong "HillSchoolModel" (312 : Nat) (294 : Int64)) ∈ zall := zmemG (zmj_6 233 rfl) rfl
abbrev w_HM_readClause : List Cond := .code yX11_readClause cX11_readClause 4 none :: zall
abbrev rm_HM_readClause : Room := { frames := 7, cells := 0, slots := 0, locals := 148 }
theorem hd_HM_readClause : yX11_readClause.cls = "HillSchoolModel" ∧ yX11_readClause.cls ≠ "java/lang/invoke/MethodHandle" ∧ yX11_readClause.cls ≠ "java/lang/invoke/VarHandle" ∧ (parseMethodDescriptor yX11_readClause.desc).map (fun d => d.parameters.length) = some 0 := by decide +kernel
def wd_HM_readClause (cA : Nat → ClassId) (q0 q1 q2 q3 q4 q5 q6 q7 q8 q9 q10 q11 q12 q13 q14 q15 q16 q17 q18 q19 q20 q21 q22 q23 q24 q25 q26 q27 q28 q29 q30 q31 : Nat) (u0 u1 u2 u3 u4 u5 u6 u7 u8 u9 : Int) (i_taped : Int) (i_tape : Nat → Int) (i_words : Nat → Int) (i_from : Int) (i_to : Int) (i_sort : Int) (i_worth : Int) (i_fault : Int) (i_bad : Int) (i_nClauses : Int) (i_nCode : Int) (i_nLeaves : Int) (i_piled : Int) (i_opened : Int) (i_nClause : Nat → Int) (i_nOp : Nat → Int) (i_nArg : Nat → Int) (i_pile : Nat → Int) (i_pileAt : Nat → Int) : va_W := [(q0, .inr (11, [.int (Int32.ofInt u0), .int (Int32.ofInt u1), .ref q1, .ref q2, .ref q3, .ref q4, .int (Int32.ofInt u2), .ref q5, .int (Int32.ofInt i_taped), .int (Int32.ofInt i_from), .int (Int32.ofInt i_to), .int (Int32.ofInt i_sort), .long (Int64.ofInt i_worth), .int (Int32.ofInt i_fault), .int (Int32.ofInt i_bad), .int (Int32.ofInt i_nClauses), .ref q6, .int (Int32.ofInt i_nCode), .ref q7, .ref q8, .int (Int32.ofInt i_nLeaves), .ref q9, .ref q10, .int (Int32.ofInt i_piled), .int (Int32.ofInt i_opened), .ref q11, .int (Int32.ofInt u3), .ref q12, .ref q13, .int (Int32.ofInt u4), .long (Int64.ofInt u5), .long (Int64.ofInt u6), .ref q14, .ref q15, .ref q16, .ref q17, .ref q18, .int (Int32.ofInt u7), .ref q19, .ref q20, .ref q21, .ref q22, .ref q23, .ref q24, .ref q25, .ref q26, .ref q27, .ref q28, .ref q29, .ref q30, .long (Int64.ofInt u8), .ref q31, .int (Int32.ofInt u9)])), (q5, .inl (cA 0, 400, .inl (za i_tape))), (q6, .inl (cA 0, 96, .inl (za i_nClause))), (q7, .inl (cA 0, 400, .inl (za i_nOp))), (q8, .inl (cA 0, 400, .inl (za i_nArg))), (q9, .inl (cA 0, 400, .inl (za i_pile))), (q10, .inl (cA 0, 400, .inl (za i_pileAt))), (q11, .inl (cA 2, 8, .inr (.inl (zl i_words))))]
def wf_HM_readClause (cA : Nat → ClassId) (q0 q1 q2 q3 q4 q5 q6 q7 q8 q9 q10 q11 q12 q13 q14 q15 q16 q17 q18 q19 q20 q21 q22 q23 q24 q25 q26 q27 q28 q29 q30 q31 : Nat) (u0 u1 u2 u3 u4 u5 u6 u7 u8 u9 : Int) (i_taped : Int) (i_tape : Nat → Int) (i_words : Nat → Int) (o : Int × Int × Int × Int × Int × Int × Int × Int × Int × Int × Int × (Nat → Int) × (Nat → Int) × (Nat → Int) × (Nat → Int) × (Nat → Int)) : va_W := wd_HM_readClause cA q0 q1 q2 q3 q4 q5 q6 q7 q8 q9 q10 q11 q12 q13 q14 q15 q16 q17 q18 q19 q20 q21 q22 q23 q24 q25 q26 q27 q28 q29 q30 q31 u0 u1 u2 u3 u4 u5 u6 u7 u8 u9 i_taped i_tape i_words o.1 o.2.1 o.2.2.1 o.2.2.2.1 o.2.2.2.2.1 o.2.2.2.2.2.1 o.2.2.2.2.2.2.1 o.2.2.2.2.2.2.2.1 o.2.2.2.2.2.2.2.2.1 o.2.2.2.2.2.2.2.2.2.1 o.2.2.2.2.2.2.2.2.2.2.1 o.2.2.2.2.2.2.2.2.2.2.2.1 o.2.2.2.2.2.2.2.2.2.2.2.2.1 o.2.2.2.2.2.2.2.2.2.2.2.2.2.1 o.2.2.2.2.2.2.2.2.2.2.2.2.2.2.1 o.2.2.2.2.2.2.2.2.2.2.2.2.2.2.2
def f_HM_readClause_180 (i_taped : Int) (i_tape : Nat → Int) (i_words : Nat → Int) (x2 : Int) (i_from : Int) (i_to : Int) (i_sort : Int) (i_worth : Int) (i_fault : Int) (i_bad : Int) (i_nClauses : Int) (i_nCode : Int) (i_nLeaves : Int) (i_piled : Int) (i_opened : Int) (i_nClause : Nat → Int) (i_nOp : Nat → Int) (i_nArg : Nat → Int) (i_pile : Nat → Int) (i_pileAt : Nat → Int) : Option (Int × Int × Int × Int × Int × Int × Int × Int × Int × Int × Int × (Nat → Int) × (Nat → Int) × (Nat → Int) × (Nat → Int) × (Nat → Int)) :=
  zn (x2 + 6) fun v1 =>
  zs 96 i_nClause v1 i_nCode fun a2 =>
  some (i_from, i_to, i_sort, i_worth, i_fault, i_bad, i_nClauses, i_nCode, i_nLeaves, i_piled, i_opened, a2, i_nOp, i_nArg, i_pile, i_pileAt)
def f_HM_readClause_130 (i_taped : Int) (i_tape : Nat → Int) (i_words : Nat → Int) (x2 : Int) (i_from : Int) (i_to : Int) (i_sort : Int) (i_worth : Int) (i_fault : Int) (i_bad : Int) (i_nClauses : Int) (i_nCode : Int) (i_nLeaves : Int) (i_piled : Int) (i_opened : Int) (i_nClause : Nat → Int) (i_nOp : Nat → Int) (i_nArg : Nat → Int) (i_pile : Nat → Int) (i_pileAt : Nat → Int) : Option (Int × Int × Int × Int × Int × Int × Int × Int × Int × Int × Int × (Nat → Int) × (Nat → Int) × (Nat → Int) × (Nat → Int) × (Nat → Int)) :=
  zn (x2 + 4) fun v1 =>
  zs 96 i_nClause v1 i_nCode fun a2 =>
  zn (x2 + 5) fun v3 =>
  zs 96 a2 v3 i_nCode fun a4 =>
  if zi_w i_bad ≠ 0 then
    f_HM_readClause_180 i_taped i_tape i_words x2 i_from i_to i_sort i_worth i_fault i_bad i_nClauses i_nCode i_nLeaves i_piled i_opened a4 i_nOp i_nArg i_pile i_pileAt
  else
    zd1 (f_HM_isWord 294 i_sort i_worth) fun v5 =>
    if zi_w v5 = 0 then
      f_HM_readClause_180 i_taped i_tape i_words x2 i_from i_to i_sort i_worth i_fault i_bad i_nClauses i_nCode i_nLeaves i_piled i_opened a4 i_nOp i_nArg i_pile i_pileAt
    else
      zd4 (f_HM_next i_taped i_tape i_from i_to i_sort i_worth) fun v6 v7 v8 v9 =>
      zd14 (f_HM_readExpression 1 i_taped i_tape i_words v6 v7 v8 v9 i_fault i_bad i_nCode i_nLeaves i_piled i_opened i_nOp i_nArg i_pile i_pileAt) fun v10 v11 v12 v13 v14 v15 v16 v17 v18 v19 a20 a21 a22 a23 =>
      f_HM_readClause_180 i_taped i_tape i_words x2 v10 v11 v12 v13 v14 v15 i_nClauses v16 v17 v18 v19 a4 a20 a21 a22 a23
def f_HM_readClause_71_b (i_taped : Int) (i_tape : Nat → Int) (i_words : Nat → Int) (k71 : Int → Int → Int → Int → Int → Int → Int → Int → Int → Int → Int → Int → Int → Int → (Nat → Int) → (Nat → Int) → (Nat → Int) → (Nat → Int) → (Nat → Int) → Option (Int × Int × Int × Int × Int × Int × Int × Int × Int × Int × Int × (Nat → Int) × (Nat → Int) × (Nat → Int) × (Nat → Int) × (Nat → Int))) (x1 : Int) (x2 : Int) (x3 : Int) (i_from : Int) (i_to : Int) (i_sort : Int) (i_worth : Int) (i_fault : Int) (i_bad : Int) (i_nClauses : Int) (i_nCode : Int) (i_nLeaves : Int) (i_piled : Int) (i_opened : Int) (i_nClause : Nat → Int) (i_nOp : Nat → Int) (i_nArg : Nat → Int) (i_pile : Nat → Int) (i_pileAt : Nat → Int) : Option (Int × Int × Int × Int × Int × Int × Int × Int × Int × Int × Int × (Nat → Int) × (Nat → Int) × (Nat → Int) × (Nat → Int) × (Nat → Int)) :=
  if zi_w 8 ≤ zi_w x3 then
    zs 96 i_nClause x2 x1 fun a1 =>
    zn (i_nClauses + 1) fun v2 =>
    zn (x2 + 3) fun v3 =>
    zs 96 a1 v3 i_nCode fun a4 =>
    if zi_w x1 ≠ 0 then
      f_HM_readClause_130 i_taped i_tape i_words x2 i_from i_to i_sort i_worth i_fault i_bad v2 i_nCode i_nLeaves i_piled i_opened a4 i_nOp i_nArg i_pile i_pileAt
    else
      zd14 (f_HM_readExpression 0 i_taped i_tape i_words i_from i_to i_sort i_worth i_fault i_bad i_nCode i_nLeaves i_piled i_opened i_nOp i_nArg i_pile i_pileAt) fun v5 v6 v7 v8 v9 v10 v11 v12 v13 v14 a15 a16 a17 a18 =>
      f_HM_readClause_130 i_taped i_tape i_words x2 v5 v6 v7 v8 v9 v10 v2 v11 v12 v13 v14 a4 a15 a16 a17 a18
  else
    zn (x2 + x3) fun v19 =>
    zs 96 i_nClause v19 0 fun a20 =>
    zn (x3 + 1) fun v21 =>
    k71 x1 x2 v21 i_from i_to i_sort i_worth i_fault i_bad i_nClauses i_nCode i_nLeaves i_piled i_opened a20 i_nOp i_nArg i_pile i_pileAt
def f_HM_readClause_71 (i_taped : Int) (i_tape : Nat → Int) (i_words : Nat → Int) : Nat → Int → Int → Int → Int → Int → Int → Int → Int → Int → Int → Int → Int → Int → Int → (Nat → Int) → (Nat → Int) → (Nat → Int) → (Nat → Int) → (Nat → Int) → Option (Int × Int × Int × Int × Int × Int × Int × Int × Int × Int × Int × (Nat → Int) × (Nat → Int) × (Nat → Int) × (Nat → Int) × (Nat → Int))
  | 0 => fun _ _ _ _ _ _ _ _ _ _ _ _ _ _ _ _ _ _ _ => none
  | n + 1 => fun y0 y1 y2 y3 y4 y5 y6 y7 y8 y9 y10 y11 y12 y13 y14 y15 y16 y17 y18 => f_HM_readClause_71_b i_taped i_tape i_words (f_HM_readClause_71 i_taped i_tape i_words n) y0 y1 y2 y3 y4 y5 y6 y7 y8 y9 y10 y11 y12 y13 y14 y15 y16 y17 y18
def f_HM_readClause_50 (i_taped : Int) (i_tape : Nat → Int) (i_words : Nat → Int) (x1 : Int) (s1 : Int) (i_from : Int) (i_to : Int) (i_sort : Int) (i_worth : Int) (i_fault : Int) (i_bad : Int) (i_nClauses : Int) (i_nCode : Int) (i_nLeaves : Int) (i_piled : Int) (i_opened : Int) (i_nClause : Nat → Int) (i_nOp : Nat → Int) (i_nArg : Nat → Int) (i_pile : Nat → Int) (i_pileAt : Nat → Int) : Option (Int × Int × Int × Int × Int × Int × Int × Int × Int × Int × Int × (Nat → Int) × (Nat → Int) × (Nat → Int) × (Nat → Int) × (Nat → Int)) :=
  zd6 (f_HM_must s1 i_taped i_tape i_from i_to i_sort i_worth i_fault i_bad) fun v1 v2 v3 v4 v5 v6 =>
  if zi_w v6 = 0 then
    zn (8 * i_nClauses) fun v7 =>
    f_HM_readClause_71 i_taped i_tape i_words zfu x1 v7 0 v1 v2 v3 v4 v5 v6 i_nClauses i_nCode i_nLeaves i_piled i_opened i_nClause i_nOp i_nArg i_pile i_pileAt
  else
    some (v1, v2, v3, v4, v5, v6, i_nClauses, i_nCode, i_nLeaves, i_piled, i_opened, i_nClause, i_nOp, i_nArg, i_pile, i_pileAt)
def f_HM_readClause_49 (i_taped : Int) (i_tape : Nat → Int) (i_words : Nat → Int) (x1 : Int) (i_from : Int) (i_to : Int) (i_sort : Int) (i_worth : Int) (i_fault : Int) (i_bad : Int) (i_nClauses : Int) (i_nCode : Int) (i_nLeaves : Int) (i_piled : Int) (i_opened : Int) (i_nClause : Nat → Int) (i_nOp : Nat → Int) (i_nArg : Nat → Int) (i_pile : Nat → Int) (i_pileAt : Nat → Int) : Option (Int × Int × Int × Int × Int × Int × Int × Int × Int × Int × Int × (Nat → Int) × (Nat → Int) × (Nat → Int) × (Nat → Int) × (Nat → Int)) :=
  f_HM_readClause_50 i_taped i_tape i_words x1 0 i_from i_to i_sort i_worth i_fault i_bad i_nClauses i_nCode i_nLeaves i_piled i_opened i_nClause i_nOp i_nArg i_pile i_pileAt
def f_HM_readClause_29 (i_taped : Int) (i_tape : Nat → Int) (i_words : Nat → Int) (s0 : Int) (i_from : Int) (i_to : Int) (i_sort : Int) (i_worth : Int) (i_fault : Int) (i_bad : Int) (i_nClauses : Int) (i_nCode : Int) (i_nLeaves : Int) (i_piled : Int) (i_opened : Int) (i_nClause : Nat → Int) (i_nOp : Nat → Int) (i_nArg : Nat → Int) (i_pile : Nat → Int) (i_pileAt : Nat → Int) : Option (Int × Int × Int × Int × Int × Int × Int × Int × Int × Int × Int × (Nat → Int) × (Nat → Int) × (Nat → Int) × (Nat → Int) × (Nat → Int)) :=
  if zi_w s0 = zi_w (-1) then
    f_HM_readClause_49 i_taped i_tape i_words s0 i_from i_to i_sort i_worth i_fault i_bad i_nClauses i_nCode i_nLeaves i_piled i_opened i_nClause i_nOp i_nArg i_pile i_pileAt
  else
    if zi_w 12 ≤ zi_w i_nClauses then
      f_HM_readClause_49 i_taped i_tape i_words s0 i_from i_to i_sort i_worth i_fault i_bad i_nClauses i_nCode i_nLeaves i_piled i_opened i_nClause i_nOp i_nArg i_pile i_pileAt
    else
      f_HM_readClause_50 i_taped i_tape i_words s0 1 i_from i_to i_sort i_worth i_fault i_bad i_nClauses i_nCode i_nLeaves i_piled i_opened i_nClause i_nOp i_nArg i_pile i_pileAt
def f_HM_readClause (i_taped : Int) (i_tape : Nat → Int) (i_words : Nat → Int) (i_from : Int) (i_to : Int) (i_sort : Int) (i_worth : Int) (i_fault : Int) (i_bad : Int) (i_nClauses : Int) (i_nCode : Int) (i_nLeaves : Int) (i_piled : Int) (i_opened : Int) (i_nClause : Nat → Int) (i_nOp : Nat → Int) (i_nArg : Nat → Int) (i_pile : Nat → Int) (i_pileAt : Nat → Int) : Option (Int × Int × Int × Int × Int × Int × Int × Int × Int × Int × Int × (Nat → Int) × (Nat → Int) × (Nat → Int) × (Nat → Int) × (Nat → Int)) :=
  zd1 (f_HM_isWord 21285043 i_sort i_worth) fun v1 =>
  if zi_w v1 = 0 then
    zd1 (f_HM_isWord 67155 i_sort i_worth) fun v2 =>
    if zi_w v2 = 0 then
      f_HM_readClause_29 i_taped i_tape i_words (-1) i_from i_to i_sort i_worth i_fault i_bad i_nClauses i_nCode i_nLeaves i_piled i_opened i_nClause i_nOp i_nArg i_pile i_pileAt
    else
      f_HM_readClause_29 i_taped i_tape i_words 1 i_from i_to i_sort i_worth i_fault i_bad i_nClauses i_nCode i_nLeaves i_piled i_opened i_nClause i_nOp i_nArg i_pile i_pileAt
  else
    f_HM_readClause_29 i_taped i_tape i_words 0 i_from i_to i_sort i_worth i_fault i_bad i_nClauses i_nCode i_nLeaves i_piled i_opened i_nClause i_nOp i_nArg i_pile i_pileAt
set_option maxHeartbeats 4000000 in
set_option maxRecDepth 100000 in
theorem c_HM_readClause (l : Launch) (ev : zEv) (dC : Nat → ClassId) (dI : Nat → Nat → Nat) (cA : Nat → ClassId) (q0 q1 q2 q3 q4 q5 q6 q7 q8 q9 q10 q11 q12 q13 q14 q15 q16 q17 q18 q19 q20 q21 q22 q23 q24 q25 q26 q27 q28 q29 q30 q31 : Nat) (u0 u1 u2 u3 u4 u5 u6 u7 u8 u9 : Int) {i_taped : Int} {i_tape : Nat → Int} {i_words : Nat → Int} {i_from : Int} {i_to : Int} {i_sort : Int} {i_worth : Int} {i_fault : Int} {i_bad : Int} {i_nClauses : Int} {i_nCode : Int} {i_nLeaves : Int} {i_piled : Int} {i_opened : Int} {i_nClause : Nat → Int} {i_nOp : Nat → Int} {i_nArg : Nat → Int} {i_pile : Nat → Int} {i_pileAt : Nat → Int} {out : Int × Int × Int × Int × Int × Int × Int × Int × Int × Int × Int × (Nat → Int) × (Nat → Int) × (Nat → Int) × (Nat → Int) × (Nat → Int)} (hf : f_HM_readClause i_taped i_tape i_words i_from i_to i_sort i_worth i_fault i_bad i_nClauses i_nCode i_nLeaves i_piled i_opened i_nClause i_nOp i_nArg i_pile i_pileAt = some out) : xc_V l ev (dC, dI) vwCl (tyl cA) yX11_readClause w_HM_readClause rm_HM_readClause [.ref q0] (wd_HM_readClause cA q0 q1 q2 q3 q4 q5 q6 q7 q8 q9 q10 q11 q12 q13 q14 q15 q16 q17 q18 q19 q20 q21 q22 q23 q24 q25 q26 q27 q28 q29 q30 q31 u0 u1 u2 u3 u4 u5 u6 u7 u8 u9 i_taped i_tape i_words i_from i_to i_sort i_worth i_fault i_bad i_nClauses i_nCode i_nLeaves i_piled i_opened i_nClause i_nOp i_nArg i_pile i_pileAt) (wf_HM_readClause cA q0 q1 q2 q3 q4 q5 q6 q7 q8 q9 q10 q11 q12 q13 q14 q15 q16 q17 q18 q19 q20 q21 q22 q23 q24 q25 q26 q27 q28 q29 q30 q31 u0 u1 u2 u3 u4 u5 u6 u7 u8 u9 i_taped i_tape i_words out) := by
  refine xv_startV (cc := cX11_readClause) (maxL := 4) (by decide +kernel) rfl (Nat.le_of_ble_eq_true rfl) ?_
  intro p e s m args below meth c A Q H ls hx hb hml hts hown hK hA hP hD hS hl hE hret
  have hown : s.vm.findClass "HillSchoolModel" = some m.cls := hown
  have hz : ∀ w ∈ zall, w.before args s = true := fun w h => hts w (List.mem_cons_of_mem _ h)
  have hl : lv_has ls 4 [(0, .ref q0)] := hl
  have b_180 : ∀ (x2 : Int) (i_from : Int) (i_to : Int) (i_sort : Int) (i_worth : Int) (i_fault : Int) (i_bad : Int) (i_nClauses : Int) (i_nCode : Int) (i_nLeaves : Int) (i_piled : Int) (i_opened : Int) (i_nClause : Nat → Int) (i_nOp : Nat → Int) (i_nArg : Nat → Int) (i_pile : Nat → Int) (i_pileAt : Nat → Int) (H : Heap) (locs : List Loc) (ls : Array Slot), f_HM_readClause_180 i_taped i_tape i_words x2 i_from i_to i_sort i_worth i_fault i_bad i_nClauses i_nCode i_nLeaves i_piled i_opened i_nClause i_nOp i_nArg i_pile i_pileAt = some out → va_P (dC, dI) vwCl (wd_HM_readClause cA q0 q1 q2 q3 q4 q5 q6 q7 q8 q9 q10 q11 q12 q13 q14 q15 q16 q17 q18 q19 q20 q21 q22 q23 q24 q25 q26 q27 q28 q29 q30 q31 u0 u1 u2 u3 u4 u5 u6 u7 u8 u9 i_taped i_tape i_words i_from i_to i_sort i_worth i_fault i_bad i_nClauses i_nCode i_nLeaves i_piled i_opened i_nClause i_nOp i_nArg i_pile i_pileAt) H → va_D A (wd_HM_readClause cA q0 q1 q2 q3 q4 q5 q6 q7 q8 q9 q10 q11 q12 q13 q14 q15 q16 q17 q18 q19 q20 q21 q22 q23 q24 q25 q26 q27 q28 q29 q30 q31 u0 u1 u2 u3 u4 u5 u6 u7 u8 u9 i_taped i_tape i_words i_from i_to i_sort i_worth i_fault i_bad i_nClauses i_nCode i_nLeaves i_piled i_opened i_nClause i_nOp i_nArg i_pile i_pileAt) → va_S A s.heap H locs → lv_has ls 4 [(0, .ref q0), (2, .int (Int32.ofInt x2))] → W p l e rm_HM_readClause s m args below meth c H locs 0 0 Q (F0 m 180 ls []) := by
    intro x2 i_from i_to i_sort i_worth i_fault i_bad i_nClauses i_nCode i_nLeaves i_piled i_opened i_nClause i_nOp i_nArg i_pile i_pileAt H locs ls hf hP hD hS hl
    unfold f_HM_readClause_180 at hf
    refine lv_aload_n hx hb dX11_readClause_180 rfl (lv_at hl 0 rfl) ?_
    refine va_get (D := (dC, dI)) (ci := 11) (v := .ref q6) (C := RX11) (T := TX11) (N := 53) hx hb hz zi_X11 hown hK hP 0 rfl rfl 16 (by decide) (hz _ zw_1181) (fun _ h9 => h9) rfl dX11_readClause_181 ?_
    refine lv_iload_n hx hb dX11_readClause_184 rfl (lv_at hl 1 rfl) ?_
    refine lv_bipush (v := Int32.ofInt 6) hx hb dX11_readClause_185 (by decide) ?_
    refine xi_iadd hx hb dX11_readClause_187 hf (fun v1 hf => ?_)
    refine lv_aload_n hx hb dX11_readClause_188 rfl (lv_at hl 0 rfl) ?_
    refine va_get (D := (dC, dI)) (ci := 11) (v := .int (Int32.ofInt i_nCode)) (C := RX11) (T := TX11) (N := 53) hx hb hz zi_X11 hown hK hP 0 rfl rfl 17 (by decide) (hz _ zw_1182) (fun _ h9 => h9) rfl dX11_readClause_189 ?_
    refine xi_iast hx hb hK hP hD hS 2 0 rfl rfl dX11_readClause_192 hf (fun a2 H locs hP hD hS hf => ?_)
    have hP : va_P (dC, dI) vwCl (wd_HM_readClause cA q0 q1 q2 q3 q4 q5 q6 q7 q8 q9 q10 q11 q12 q13 q14 q15 q16 q17 q18 q19 q20 q21 q22 q23 q24 q25 q26 q27 q28 q29 q30 q31 u0 u1 u2 u3 u4 u5 u6 u7 u8 u9 i_taped i_tape i_words i_from i_to i_sort i_worth i_fault i_bad i_nClauses i_nCode i_nLeaves i_piled i_opened a2 i_nOp i_nArg i_pile i_pileAt) H := hP
    have hD : va_D A (wd_HM_readClause cA q0 q1 q2 q3 q4 q5 q6 q7 q8 q9 q10 q11 q12 q13 q14 q15 q16 q17 q18 q19 q20 q21 q22 q23 q24 q25 q26 q27 q28 q29 q30 q31 u0 u1 u2 u3 u4 u5 u6 u7 u8 u9 i_taped i_tape i_words i_from i_to i_sort i_worth i_fault i_bad i_nClauses i_nCode i_nLeaves i_piled i_opened a2 i_nOp i_nArg i_pile i_pileAt) := hD
    obtain rfl := Option.some.inj hf
    exact hret _ _ _ _ dX11_readClause_193 hP hD hS
  have b_130 : ∀ (x2 : Int) (i_from : Int) (i_to : Int) (i_sort : Int) (i_worth : Int) (i_fault : Int) (i_bad : Int) (i_nClauses : Int) (i_nCode : Int) (i_nLeaves : Int) (i_piled : Int) (i_opened : Int) (i_nClause : Nat → Int) (i_nOp : Nat → Int) (i_nArg : Nat → Int) (i_pile : Nat → Int) (i_pileAt : Nat → Int) (H : Heap) (locs : List Loc) (ls : Array Slot), f_HM_readClause_130 i_taped i_tape i_words x2 i_from i_to i_sort i_worth i_fault i_bad i_nClauses i_nCode i_nLeaves i_piled i_opened i_nClause i_nOp i_nArg i_pile i_pileAt = some out → va_P (dC, dI) vwCl (wd_HM_readClause cA q0 q1 q2 q3 q4 q5 q6 q7 q8 q9 q10 q11 q12 q13 q14 q15 q16 q17 q18 q19 q20 q21 q22 q23 q24 q25 q26 q27 q28 q29 q30 q31 u0 u1 u2 u3 u4 u5 u6 u7 u8 u9 i_taped i_tape i_words i_from i_to i_sort i_worth i_fault i_bad i_nClauses i_nCode i_nLeaves i_piled i_opened i_nClause i_nOp i_nArg i_pile i_pileAt) H → va_D A (wd_HM_readClause cA q0 q1 q2 q3 q4 q5 q6 q7 q8 q9 q10 q11 q12 q13 q14 q15 q16 q17 q18 q19 q20 q21 q22 q23 q24 q25 q26 q27 q28 q29 q30 q31 u0 u1 u2 u3 u4 u5 u6 u7 u8 u9 i_taped i_tape i_words i_from i_to i_sort i_worth i_fault i_bad i_nClauses i_nCode i_nLeaves i_piled i_opened i_nClause i_nOp i_nArg i_pile i_pileAt) → va_S A s.heap H locs → lv_has ls 4 [(0, .ref q0), (2, .int (Int32.ofInt x2))] → W p l e rm_HM_readClause s m args below meth c H locs 0 0 Q (F0 m 130 ls []) := by
    intro x2 i_from i_to i_sort i_worth i_fault i_bad i_nClauses i_nCode i_nLeaves i_piled i_opened i_nClause i_nOp i_nArg i_pile i_pileAt H locs ls hf hP hD hS hl
    unfold f_HM_readClause_130 at hf
    refine lv_aload_n hx hb dX11_readClause_130 rfl (lv_at hl 0 rfl) ?_
    refine va_get (D := (dC, dI)) (ci := 11) (v := .ref q6) (C := RX11) (T := TX11) (N := 53) hx hb hz zi_X11 hown hK hP 0 rfl rfl 16 (by decide) (hz _ zw_1181) (fun _ h9 => h9) rfl dX11_readClause_131 ?_
    refine lv_iload_n hx hb dX11_readClause_134 rfl (lv_at hl 1 rfl) ?_
    refine lv_iconst (v := Int32.ofInt 4) hx hb dX11_readClause_135 rfl ?_
    refine xi_iadd hx hb dX11_readClause_136 hf (fun v1 hf => ?_)
    refine lv_aload_n hx hb dX11_readClause_137 rfl (lv_at hl 0 rfl) ?_
    refine va_get (D := (dC, dI)) (ci := 11) (v := .int (Int32.ofInt i_nCode)) (C := RX11) (T := TX11) (N := 53) hx hb hz zi_X11 hown hK hP 0 rfl rfl 17 (by decide) (hz _ zw_1182) (fun _ h9 => h9) rfl dX11_readClause_138 ?_
    refine xi_iast hx hb hK hP hD hS 2 0 rfl rfl dX11_readClause_141 hf (fun a2 H locs hP hD hS hf => ?_)
    have hP : va_P (dC, dI) vwCl (wd_HM_readClause cA q0 q1 q2 q3 q4 q5 q6 q7 q8 q9 q10 q11 q12 q13 q14 q15 q16 q17 q18 q19 q20 q21 q22 q23 q24 q25 q26 q27 q28 q29 q30 q31 u0 u1 u2 u3 u4 u5 u6 u7 u8 u9 i_taped i_tape i_words i_from i_to i_sort i_worth i_fault i_bad i_nClauses i_nCode i_nLeaves i_piled i_opened a2 i_nOp i_nArg i_pile i_pileAt) H := hP
    have hD : va_D A (wd_HM_readClause cA q0 q1 q2 q3 q4 q5 q6 q7 q8 q9 q10 q11 q12 q13 q14 q15 q16 q17 q18 q19 q20 q21 q22 q23 q24 q25 q26 q27 q28 q29 q30 q31 u0 u1 u2 u3 u4 u5 u6 u7 u8 u9 i_taped i_tape i_words i_from i_to i_sort i_worth i_fault i_bad i_nClauses i_nCode i_nLeaves i_piled i_opened a2 i_nOp i_nArg i_pile i_pileAt) := hD
    refine lv_aload_n hx hb dX11_readClause_142 rfl (lv_at hl 0 rfl) ?_
    refine va_get (D := (dC, dI)) (ci := 11) (v := .ref q6) (C := RX11) (T := TX11) (N := 53) hx hb hz zi_X11 hown hK hP 0 rfl rfl 16 (by decide) (hz _ zw_1181) (fun _ h9 => h9) rfl dX11_readClause_143 ?_
    refine lv_iload_n hx hb dX11_readClause_146 rfl (lv_at hl 1 rfl) ?_
    refine lv_iconst (v := Int32.ofInt 5) hx hb dX11_readClause_147 rfl ?_
    refine xi_iadd hx hb dX11_readClause_148 hf (fun v3 hf => ?_)
    refine lv_aload_n hx hb dX11_readClause_149 rfl (lv_at hl 0 rfl) ?_
    refine va_get (D := (dC, dI)) (ci := 11) (v := .int (Int32.ofInt i_nCode)) (C := RX11) (T := TX11) (N := 53) hx hb hz zi_X11 hown hK hP 0 rfl rfl 17 (by decide) (hz _ zw_1182) (fun _ h9 => h9) rfl dX11_readClause_150 ?_
    refine xi_iast hx hb hK hP hD hS 2 0 rfl rfl dX11_readClause_153 hf (fun a4 H locs hP hD hS hf => ?_)
    have hP : va_P (dC, dI) vwCl (wd_HM_readClause cA q0 q1 q2 q3 q4 q5 q6 q7 q8 q9 q10 q11 q12 q13 q14 q15 q16 q17 q18 q19 q20 q21 q22 q23 q24 q25 q26 q27 q28 q29 q30 q31 u0 u1 u2 u3 u4 u5 u6 u7 u8 u9 i_taped i_tape i_words i_from i_to i_sort i_worth i_fault i_bad i_nClauses i_nCode i_nLeaves i_piled i_opened a4 i_nOp i_nArg i_pile i_pileAt) H := hP
    have hD : va_D A (wd_HM_readClause cA q0 q1 q2 q3 q4 q5 q6 q7 q8 q9 q10 q11 q12 q13 q14 q15 q16 q17 q18 q19 q20 q21 q22 q23 q24 q25 q26 q27 q28 q29 q30 q31 u0 u1 u2 u3 u4 u5 u6 u7 u8 u9 i_taped i_tape i_words i_from i_to i_sort i_worth i_fault i_bad i_nClauses i_nCode i_nLeaves i_piled i_opened a4 i_nOp i_nArg i_pile i_pileAt) := hD
    refine lv_aload_n hx hb dX11_readClause_154 rfl (lv_at hl 0 rfl) ?_
    refine va_get (D := (dC, dI)) (ci := 11) (v := .int (Int32.ofInt i_bad)) (C := RX11) (T := TX11) (N := 53) hx hb hz zi_X11 hown hK hP 0 rfl rfl 14 (by decide) (hz _ zw_1179) (fun _ h9 => h9) rfl dX11_readClause_155 ?_
    refine xi_if_ne (tgt := 180) hx hb dX11_readClause_158 (by decide) hf (fun hf => ?_) (fun hf => ?_)
    · exact b_180  _ _ _ _ _ _ _ _ _ _ _ _ _ _ _ _ _ _ _ _ hf hP hD hS (lv_sub hl [0, 1] rfl)
    · refine lv_aload_n hx hb dX11_readClause_161 rfl (lv_at hl 0 rfl) ?_
      refine lv_ldc2 (v := Int64.ofInt 294) hx hb hown (hz _ zw_1536) dX11_readClause_162 ?_
      refine xe_d1 hf (fun v5 hg hf => ?_)
      have hC : ([0] : List Nat).map (fun i => (wd_HM_readClause cA q0 q1 q2 q3 q4 q5 q6 q7 q8 q9 q10 q11 q12 q13 q14 q15 q16 q17 q18 q19 q20 q21 q22 q23 q24 q25 q26 q27 q28 q29 q30 q31 u0 u1 u2 u3 u4 u5 u6 u7 u8 u9 i_taped i_tape i_words i_from i_to i_sort i_worth i_fault i_bad i_nClauses i_nCode i_nLeaves i_piled i_opened a4 i_nOp i_nArg i_pile i_pileAt)[i]?) = (wd_HM_isWord cA q0 q1 q2 q3 q4 q5 q6 q7 q8 q9 q10 q11 q12 q13 q14 q15 q16 q17 q18 q19 q20 q21 q22 q23 q24 q25 q26 q27 q28 q29 q30 q31 u0 u1 u2 i_taped i_from i_to i_fault i_bad i_nClauses i_nCode i_nLeaves i_piled i_opened u3 u4 u5 u6 u7 u8 u9 i_sort i_worth).map some := rfl
      refine xv_afterI (ws' := (wd_HM_readClause cA q0 q1 q2 q3 q4 q5 q6 q7 q8 q9 q10 q11 q12 q13 q14 q15 q16 q17 q18 q19 q20 q21 q22 q23 q24 q25 q26 q27 q28 q29 q30 q31 u0 u1 u2 u3 u4 u5 u6 u7 u8 u9 i_taped i_tape i_words i_from i_to i_sort i_worth i_fault i_bad i_nClauses i_nCode i_nLeaves i_piled i_opened a4 i_nOp i_nArg i_pile i_pileAt)) (isC := [0]) (ps := [some 0, none, none, none, none, none, none, none]) (va_runV (As := [.long (Int64.ofInt 294)]) (rest := []) ⟨hx, hb, hml, hown, hts⟩ (c_HM_isWord l ev dC dI cA q0 q1 q2 q3 q4 q5 q6 q7 q8 q9 q10 q11 q12 q13 q14 q15 q16 q17 q18 q19 q20 q21 q22 q23 q24 q25 q26 q27 q28 q29 q30 q31 u0 u1 u2 i_taped i_from i_to i_fault i_bad i_nClauses i_nCode i_nLeaves i_piled i_opened u3 u4 u5 u6 u7 u8 u9 hg H.size) (cwV 1 hts (zgV zw_1460 zw_1462 zw_49 zw_115 zw_1463) rfl rfl rfl hd_HM_isWord ⟨Nat.le_of_ble_eq_true rfl, Nat.le_of_ble_eq_true rfl⟩) (xv_preV (T := TX11) (N := 53) hE hA hS hK hP hD (isC := [0]) (by decide +kernel) hC (q0 := 0) (ci := 11) rfl rfl) rfl rfl hl.1 rfl (lv_room (Nat.le_of_ble_eq_true rfl)) dX11_readClause_165 ⟨Nat.le_refl _, Nat.le_refl _⟩) hP hD hS hA (by decide +kernel) rfl hC rfl rfl (fun H locs hP hD hS => ?_)
      refine xi_if_eq (tgt := 180) hx hb dX11_readClause_168 (by decide) hf (fun hf => ?_) (fun hf => ?_)
      · exact b_180  _ _ _ _ _ _ _ _ _ _ _ _ _ _ _ _ _ _ _ _ hf hP hD hS (lv_sub hl [0, 1] rfl)
      · refine lv_aload_n hx hb dX11_readClause_171 rfl (lv_at hl 0 rfl) ?_
        refine xe_d4 hf (fun v6 v7 v8 v9 hg hf => ?_)
        have hC : ([0, 1] : List Nat).map (fun i => (wd_HM_readClause cA q0 q1 q2 q3 q4 q5 q6 q7 q8 q9 q10 q11 q12 q13 q14 q15 q16 q17 q18 q19 q20 q21 q22 q23 q24 q25 q26 q27 q28 q29 q30 q31 u0 u1 u2 u3 u4 u5 u6 u7 u8 u9 i_taped i_tape i_words i_from i_to i_sort i_worth i_fault i_bad i_nClauses i_nCode i_nLeaves i_piled i_opened a4 i_nOp i_nArg i_pile i_pileAt)[i]?) = (wd_HM_next cA q0 q1 q2 q3 q4 q5 q6 q7 q8 q9 q10 q11 q12 q13 q14 q15 q16 q17 q18 q19 q20 q21 q22 q23 q24 q25 q26 q27 q28 q29 q30 q31 u0 u1 u2 i_fault i_bad i_nClauses i_nCode i_nLeaves i_piled i_opened u3 u4 u5 u6 u7 u8 u9 i_taped i_tape i_from i_to i_sort i_worth).map some := rfl
        refine xv_afterV (ws' := (wd_HM_readClause cA q0 q1 q2 q3 q4 q5 q6 q7 q8 q9 q10 q11 q12 q13 q14 q15 q16 q17 q18 q19 q20 q21 q22 q23 q24 q25 q26 q27 q28 q29 q30 q31 u0 u1 u2 u3 u4 u5 u6 u7 u8 u9 i_taped i_tape i_words v6 v7 v8 v9 i_fault i_bad i_nClauses i_nCode i_nLeaves i_piled i_opened a4 i_nOp i_nArg i_pile i_pileAt)) (isC := [0, 1]) (ps := [some 0, some 1, none, none, none, none, none, none]) (va_runV (As := []) (rest := []) ⟨hx, hb, hml, hown, hts⟩ (c_HM_next l ev dC dI cA q0 q1 q2 q3 q4 q5 q6 q7 q8 q9 q10 q11 q12 q13 q14 q15 q16 q17 q18 q19 q20 q21 q22 q23 q24 q25 q26 q27 q28 q29 q30 q31 u0 u1 u2 i_fault i_bad i_nClauses i_nCode i_nLeaves i_piled i_opened u3 u4 u5 u6 u7 u8 u9 hg H.size) (cwV 0 hts (zgV zw_1439 zw_1441 zw_47 zw_115 zw_1442) rfl rfl rfl hd_HM_next ⟨Nat.le_of_ble_eq_true rfl, Nat.le_of_ble_eq_true rfl⟩) (xv_preV (T := TX11) (N := 53) hE hA hS hK hP hD (isC := [0, 1]) (by decide +kernel) hC (q0 := 0) (ci := 11) rfl rfl) rfl rfl hl.1 rfl (lv_room (Nat.le_of_ble_eq_true rfl)) dX11_readClause_172 ⟨Nat.le_refl _, Nat.le_refl _⟩) hP hD hS hA (by decide +kernel) rfl hC rfl rfl (fun H locs hP hD hS => ?_)
        refine lv_aload_n hx hb dX11_readClause_175 rfl (lv_at hl 0 rfl) ?_
        refine lv_iconst (v := Int32.ofInt 1) hx hb dX11_readClause_176 rfl ?_
        refine xe_d14 hf (fun v10 v11 v12 v13 v14 v15 v16 v17 v18 v19 a20 a21 a22 a23 hg hf => ?_)
        have hC : ([0, 1, 3, 4, 5, 6, 7] : List Nat).map (fun i => (wd_HM_readClause cA q0 q1 q2 q3 q4 q5 q6 q7 q8 q9 q10 q11 q12 q13 q14 q15 q16 q17 q18 q19 q20 q21 q22 q23 q24 q25 q26 q27 q28 q29 q30 q31 u0 u1 u2 u3 u4 u5 u6 u7 u8 u9 i_taped i_tape i_words v6 v7 v8 v9 i_fault i_bad i_nClauses i_nCode i_nLeaves i_piled i_opened a4 i_nOp i_nArg i_pile i_pileAt)[i]?) = (wd_HM_readExpression cA q0 q1 q2 q3 q4 q5 q6 q7 q8 q9 q10 q11 q12 q13 q14 q15 q16 q17 q18 q19 q20 q21 q22 q23 q24 q25 q26 q27 q28 q29 q30 q31 u0 u1 u2 i_nClauses u3 u4 u5 u6 u7 u8 u9 i_taped i_tape i_words v6 v7 v8 v9 i_fault i_bad i_nCode i_nLeaves i_piled i_opened i_nOp i_nArg i_pile i_pileAt).map some := rfl
        refine xv_afterV (ws' := (wd_HM_readClause cA q0 q1 q2 q3 q4 q5 q6 q7 q8 q9 q10 q11 q12 q13 q14 q15 q16 q17 q18 q19 q20 q21 q22 q23 q24 q25 q26 q27 q28 q29 q30 q31 u0 u1 u2 u3 u4 u5 u6 u7 u8 u9 i_taped i_tape i_words v10 v11 v12 v13 v14 v15 i_nClauses v16 v17 v18 v19 a4 a20 a21 a22 a23)) (isC := [0, 1, 3, 4, 5, 6, 7]) (ps := [some 0, some 1, none, some 2, some 3, some 4, some 5, some 6]) (va_runV (As := [.int (Int32.ofInt 1)]) (rest := []) ⟨hx, hb, hml, hown, hts⟩ (c_HM_readExpression l ev dC dI cA q0 q1 q2 q3 q4 q5 q6 q7 q8 q9 q10 q11 q12 q13 q14 q15 q16 q17 q18 q19 q20 q21 q22 q23 q24 q25 q26 q27 q28 q29 q30 q31 u0 u1 u2 i_nClauses u3 u4 u5 u6 u7 u8 u9 hg H.size) (cwV 1 hts (zgV zw_1469 zw_1471 zw_51 zw_115 zw_1472) rfl rfl rfl hd_HM_readExpression ⟨Nat.le_of_ble_eq_true rfl, Nat.le_of_ble_eq_true rfl⟩) (xv_preV (T := TX11) (N := 53) hE hA hS hK hP hD (isC := [0, 1, 3, 4, 5, 6, 7]) (by decide +kernel) hC (q0 := 0) (ci := 11) rfl rfl) rfl rfl hl.1 rfl (lv_room (Nat.le_of_ble_eq_true rfl)) dX11_readClause_177 ⟨Nat.le_refl _, Nat.le_refl _⟩) hP hD hS hA (by decide +kernel) rfl hC rfl rfl (fun H locs hP hD hS => ?_)
        exact b_180  _ _ _ _ _ _ _ _ _ _ _ _ _ _ _ _ _ _ _ _ hf hP hD hS (lv_sub hl [0, 1] rfl)
  have b_71 : ∀ (k71 : Int → Int → Int → Int → Int → Int → Int → Int → Int → Int → Int → Int → Int → Int → (Nat → Int) → (Nat → Int) → (Nat → Int) → (Nat → Int) → (Nat → Int) → Option (Int × Int × Int × Int × Int × Int × Int × Int × Int × Int × Int × (Nat → Int) × (Nat → Int) × (Nat → Int) × (Nat → Int) × (Nat → Int))) (_ : ∀ (x1 : Int) (x2 : Int) (x3 : Int) (i_from : Int) (i_to : Int) (i_sort : Int) (i_worth : Int) (i_fault : Int) (i_bad : Int) (i_nClauses : Int) (i_nCode : Int) (i_nLeaves : Int) (i_piled : Int) (i_opened : Int) (i_nClause : Nat → Int) (i_nOp : Nat → Int) (i_nArg : Nat → Int) (i_pile : Nat → Int) (i_pileAt : Nat → Int) (H : Heap) (locs : List Loc) (ls : Array Slot), k71 x1 x2 x3 i_from i_to i_sort i_worth i_fault i_bad i_nClauses i_nCode i_nLeaves i_piled i_opened i_nClause i_nOp i_nArg i_pile i_pileAt = some out → va_P (dC, dI) vwCl (wd_HM_readClause cA q0 q1 q2 q3 q4 q5 q6 q7 q8 q9 q10 q11 q12 q13 q14 q15 q16 q17 q18 q19 q20 q21 q22 q23 q24 q25 q26 q27 q28 q29 q30 q31 u0 u1 u2 u3 u4 u5 u6 u7 u8 u9 i_taped i_tape i_words i_from i_to i_sort i_worth i_fault i_bad i_nClauses i_nCode i_nLeaves i_piled i_opened i_nClause i_nOp i_nArg i_pile i_pileAt) H → va_D A (wd_HM_readClause cA q0 q1 q2 q3 q4 q5 q6 q7 q8 q9 q10 q11 q12 q13 q14 q15 q16 q17 q18 q19 q20 q21 q22 q23 q24 q25 q26 q27 q28 q29 q30 q31 u0 u1 u2 u3 u4 u5 u6 u7 u8 u9 i_taped i_tape i_words i_from i_to i_sort i_worth i_fault i_bad i_nClauses i_nCode i_nLeaves i_piled i_opened i_nClause i_nOp i_nArg i_pile i_pileAt) → va_S A s.heap H locs → lv_has ls 4 [(0, .ref q0), (1, .int (Int32.ofInt x1)), (2, .int (Int32.ofInt x2)), (3, .int (Int32.ofInt x3))] → W p l e rm_HM_readClause s m args below meth c H locs 0 0 Q (F0 m 71 ls [])), ∀ (x1 : Int) (x2 : Int) (x3 : Int) (i_from : Int) (i_to : Int) (i_sort : Int) (i_worth : Int) (i_fault : Int) (i_bad : Int) (i_nClauses : Int) (i_nCode : Int) (i_nLeaves : Int) (i_piled : Int) (i_opened : Int) (i_nClause : Nat → Int) (i_nOp : Nat → Int) (i_nArg : Nat → Int) (i_pile : Nat → Int) (i_pileAt : Nat → Int) (H : Heap) (locs : List Loc) (ls : Array Slot), f_HM_readClause_71_b i_taped i_tape i_words k71 x1 x2 x3 i_from i_to i_sort i_worth i_fault i_bad i_nClauses i_nCode i_nLeaves i_piled i_opened i_nClause i_nOp i_nArg i_pile i_pileAt = some out → va_P (dC, dI) vwCl (wd_HM_readClause cA q0 q1 q2 q3 q4 q5 q6 q7 q8 q9 q10 q11 q12 q13 q14 q15 q16 q17 q18 q19 q20 q21 q22 q23 q24 q25 q26 q27 q28 q29 q30 q31 u0 u1 u2 u3 u4 u5 u6 u7 u8 u9 i_taped i_tape i_words i_from i_to i_sort i_worth i_fault i_bad i_nClauses i_nCode i_nLeaves i_piled i_opened i_nClause i_nOp i_nArg i_pile i_pileAt) H → va_D A (wd_HM_readClause cA q0 q1 q2 q3 q4 q5 q6 q7 q8 q9 q10 q11 q12 q13 q14 q15 q16 q17 q18 q19 q20 q21 q22 q23 q24 q25 q26 q27 q28 q29 q30 q31 u0 u1 u2 u3 u4 u5 u6 u7 u8 u9 i_taped i_tape i_words i_from i_to i_sort i_worth i_fault i_bad i_nClauses i_nCode i_nLeaves i_piled i_opened i_nClause i_nOp i_nArg i_pile i_pileAt) → va_S A s.heap H locs → lv_has ls 4 [(0, .ref q0), (1, .int (Int32.ofInt x1)), (2, .int (Int32.ofInt x2)), (3, .int (Int32.ofInt x3))] → W p l e rm_HM_readClause s m args below meth c H locs 0 0 Q (F0 m 71 ls []) := by
    intro k71 ih71 x1 x2 x3 i_from i_to i_sort i_worth i_fault i_bad i_nClauses i_nCode i_nLeaves i_piled i_opened i_nClause i_nOp i_nArg i_pile i_pileAt H locs ls hf hP hD hS hl
    unfold f_HM_readClause_71_b at hf
    refine lv_iload_n hx hb dX11_readClause_71 rfl (lv_at hl 3 rfl) ?_
    refine lv_bipush (v := Int32.ofInt 8) hx hb dX11_readClause_72 (by decide) ?_
    refine xi_icmp_ge (tgt := 92) hx hb dX11_readClause_74 (by decide) hf (fun hf => ?_) (fun hf => ?_)
    · refine lv_aload_n hx hb dX11_readClause_92 rfl (lv_at hl 0 rfl) ?_
      refine va_get (D := (dC, dI)) (ci := 11) (v := .ref q6) (C := RX11) (T := TX11) (N := 53) hx hb hz zi_X11 hown hK hP 0 rfl rfl 16 (by decide) (hz _ zw_1181) (fun _ h9 => h9) rfl dX11_readClause_93 ?_
      refine lv_iload_n hx hb dX11_readClause_96 rfl (lv_at hl 2 rfl) ?_
      refine lv_iload_n hx hb dX11_readClause_97 rfl (lv_at hl 1 rfl) ?_
      refine xi_iast hx hb hK hP hD hS 2 0 rfl rfl dX11_readClause_98 hf (fun a1 H locs hP hD hS hf => ?_)
      have hP : va_P (dC, dI) vwCl (wd_HM_readClause cA q0 q1 q2 q3 q4 q5 q6 q7 q8 q9 q10 q11 q12 q13 q14 q15 q16 q17 q18 q19 q20 q21 q22 q23 q24 q25 q26 q27 q28 q29 q30 q31 u0 u1 u2 u3 u4 u5 u6 u7 u8 u9 i_taped i_tape i_words i_from i_to i_sort i_worth i_fault i_bad i_nClauses i_nCode i_nLeaves i_piled i_opened a1 i_nOp i_nArg i_pile i_pileAt) H := hP
      have hD : va_D A (wd_HM_readClause cA q0 q1 q2 q3 q4 q5 q6 q7 q8 q9 q10 q11 q12 q13 q14 q15 q16 q17 q18 q19 q20 q21 q22 q23 q24 q25 q26 q27 q28 q29 q30 q31 u0 u1 u2 u3 u4 u5 u6 u7 u8 u9 i_taped i_tape i_words i_from i_to i_sort i_worth i_fault i_bad i_nClauses i_nCode i_nLeaves i_piled i_opened a1 i_nOp i_nArg i_pile i_pileAt) := hD
      refine lv_aload_n hx hb dX11_readClause_99 rfl (lv_at hl 0 rfl) ?_
      refine lv_dup hx hb dX11_readClause_100 rfl ?_
      refine va_get (D := (dC, dI)) (ci := 11) (v := .int (Int32.ofInt i_nClauses)) (C := RX11) (T := TX11) (N := 53) hx hb hz zi_X11 hown hK hP 0 rfl rfl 15 (by decide) (hz _ zw_1180) (fun _ h9 => h9) rfl dX11_readClause_101 ?_
      refine lv_iconst (v := Int32.ofInt 1) hx hb dX11_readClause_104 rfl ?_
      refine xi_iadd hx hb dX11_readClause_105 hf (fun v2 hf => ?_)
      refine va_put (D := (dC, dI)) (ci := 11) (v := .int (Int32.ofInt v2)) (ty := .int) (C := RX11) (T := TX11) (N := 53) hx hb hz zi_X11 tyX11 tyX11_ok nmX11 hown hK hP hD hS 0 rfl rfl 15 (by decide) (hz _ zw_1180) (fun _ h9 => h9) rfl (by decide +kernel) rfl rfl (Nat.le_of_ble_eq_true rfl) dX11_readClause_106 (fun H locs hP hD hS => ?_)
      have hP : va_P (dC, dI) vwCl (wd_HM_readClause cA q0 q1 q2 q3 q4 q5 q6 q7 q8 q9 q10 q11 q12 q13 q14 q15 q16 q17 q18 q19 q20 q21 q22 q23 q24 q25 q26 q27 q28 q29 q30 q31 u0 u1 u2 u3 u4 u5 u6 u7 u8 u9 i_taped i_tape i_words i_from i_to i_sort i_worth i_fault i_bad v2 i_nCode i_nLeaves i_piled i_opened a1 i_nOp i_nArg i_pile i_pileAt) H := hP
      have hD : va_D A (wd_HM_readClause cA q0 q1 q2 q3 q4 q5 q6 q7 q8 q9 q10 q11 q12 q13 q14 q15 q16 q17 q18 q19 q20 q21 q22 q23 q24 q25 q26 q27 q28 q29 q30 q31 u0 u1 u2 u3 u4 u5 u6 u7 u8 u9 i_taped i_tape i_words i_from i_to i_sort i_worth i_fault i_bad v2 i_nCode i_nLeaves i_piled i_opened a1 i_nOp i_nArg i_pile i_pileAt) := hD
      refine lv_aload_n hx hb dX11_readClause_109 rfl (lv_at hl 0 rfl) ?_
      refine va_get (D := (dC, dI)) (ci := 11) (v := .ref q6) (C := RX11) (T := TX11) (N := 53) hx hb hz zi_X11 hown hK hP 0 rfl rfl 16 (by decide) (hz _ zw_1181) (fun _ h9 => h9) rfl dX11_readClause_110 ?_
      refine lv_iload_n hx hb dX11_readClause_113 rfl (lv_at hl 2 rfl) ?_
      refine lv_iconst (v := Int32.ofInt 3) hx hb dX11_readClause_114 rfl ?_
      refine xi_iadd hx hb dX11_readClause_115 hf (fun v3 hf => ?_)
      refine lv_aload_n hx hb dX11_readClause_116 rfl (lv_at hl 0 rfl) ?_
      refine va_get (D := (dC, dI)) (ci := 11) (v := .int (Int32.ofInt i_nCode)) (C := RX11) (T := TX11) (N := 53) hx hb hz zi_X11 hown hK hP 0 rfl rfl 17 (by decide) (hz _ zw_1182) (fun _ h9 => h9) rfl dX11_readClause_117 ?_
      refine xi_iast hx hb hK hP hD hS 2 0 rfl rfl dX11_readClause_120 hf (fun a4 H locs hP hD hS hf => ?_)
      have hP : va_P (dC, dI) vwCl (wd_HM_readClause cA q0 q1 q2 q3 q4 q5 q6 q7 q8 q9 q10 q11 q12 q13 q14 q15 q16 q17 q18 q19 q20 q21 q22 q23 q24 q25 q26 q27 q28 q29 q30 q31 u0 u1 u2 u3 u4 u5 u6 u7 u8 u9 i_taped i_tape i_words i_from i_to i_sort i_worth i_fault i_bad v2 i_nCode i_nLeaves i_piled i_opened a4 i_nOp i_nArg i_pile i_pileAt) H := hP
      have hD : va_D A (wd_HM_readClause cA q0 q1 q2 q3 q4 q5 q6 q7 q8 q9 q10 q11 q12 q13 q14 q15 q16 q17 q18 q19 q20 q21 q22 q23 q24 q25 q26 q27 q28 q29 q30 q31 u0 u1 u2 u3 u4 u5 u6 u7 u8 u9 i_taped i_tape i_words i_from i_to i_sort i_worth i_fault i_bad v2 i_nCode i_nLeaves i_piled i_opened a4 i_nOp i_nArg i_pile i_pileAt) := hD
      refine lv_iload_n hx hb dX11_readClause_121 rfl (lv_at hl 1 rfl) ?_
      refine xi_if_ne (tgt := 130) hx hb dX11_readClause_122 (by decide) hf (fun hf => ?_) (fun hf => ?_)
      · exact b_130  _ _ _ _ _ _ _ _ _ _ _ _ _ _ _ _ _ _ _ _ hf hP hD hS (lv_sub hl [0, 2] rfl)
      · refine lv_aload_n hx hb dX11_readClause_125 rfl (lv_at hl 0 rfl) ?_
        refine lv_iconst (v := Int32.ofInt 0) hx hb dX11_readClause_126 rfl ?_
        refine xe_d14 hf (fun v5 v6 v7 v8 v9 v10 v11 v12 v13 v14 a15 a16 a17 a18 hg hf => ?_)
        have hC : ([0, 1, 3, 4, 5, 6, 7] : List Nat).map (fun i => (wd_HM_readClause cA q0 q1 q2 q3 q4 q5 q6 q7 q8 q9 q10 q11 q12 q13 q14 q15 q16 q17 q18 q19 q20 q21 q22 q23 q24 q25 q26 q27 q28 q29 q30 q31 u0 u1 u2 u3 u4 u5 u6 u7 u8 u9 i_taped i_tape i_words i_from i_to i_sort i_worth i_fault i_bad v2 i_nCode i_nLeaves i_piled i_opened a4 i_nOp i_nArg i_pile i_pileAt)[i]?) = (wd_HM_readExpression cA q0 q1 q2 q3 q4 q5 q6 q7 q8 q9 q10 q11 q12 q13 q14 q15 q16 q17 q18 q19 q20 q21 q22 q23 q24 q25 q26 q27 q28 q29 q30 q31 u0 u1 u2 v2 u3 u4 u5 u6 u7 u8 u9 i_taped i_tape i_words i_from i_to i_sort i_worth i_fault i_bad i_nCode i_nLeaves i_piled i_opened i_nOp i_nArg i_pile i_pileAt).map some := rfl
        refine xv_afterV (ws' := (wd_HM_readClause cA q0 q1 q2 q3 q4 q5 q6 q7 q8 q9 q10 q11 q12 q13 q14 q15 q16 q17 q18 q19 q20 q21 q22 q23 q24 q25 q26 q27 q28 q29 q30 q31 u0 u1 u2 u3 u4 u5 u6 u7 u8 u9 i_taped i_tape i_words v5 v6 v7 v8 v9 v10 v2 v11 v12 v13 v14 a4 a15 a16 a17 a18)) (isC := [0, 1, 3, 4, 5, 6, 7]) (ps := [some 0, some 1, none, some 2, some 3, some 4, some 5, some 6]) (va_runV (As := [.int (Int32.ofInt 0)]) (rest := []) ⟨hx, hb, hml, hown, hts⟩ (c_HM_readExpression l ev dC dI cA q0 q1 q2 q3 q4 q5 q6 q7 q8 q9 q10 q11 q12 q13 q14 q15 q16 q17 q18 q19 q20 q21 q22 q23 q24 q25 q26 q27 q28 q29 q30 q31 u0 u1 u2 v2 u3 u4 u5 u6 u7 u8 u9 hg H.size) (cwV 1 hts (zgV zw_1469 zw_1471 zw_51 zw_115 zw_1472) rfl rfl rfl hd_HM_readExpression ⟨Nat.le_of_ble_eq_true rfl, Nat.le_of_ble_eq_true rfl⟩) (xv_preV (T := TX11) (N := 53) hE hA hS hK hP hD (isC := [0, 1, 3, 4, 5, 6, 7]) (by decide +kernel) hC (q0 := 0) (ci := 11) rfl rfl) rfl rfl hl.1 rfl (lv_room (Nat.le_of_ble_eq_true rfl)) dX11_readClause_127 ⟨Nat.le_refl _, Nat.le_refl _⟩) hP hD hS hA (by decide +kernel) rfl hC rfl rfl (fun H locs hP hD hS => ?_)
        exact b_130  _ _ _ _ _ _ _ _ _ _ _ _ _ _ _ _ _ _ _ _ hf hP hD hS (lv_sub hl [0, 2] rfl)
    · refine lv_aload_n hx hb dX11_readClause_77 rfl (lv_at hl 0 rfl) ?_
      refine va_get (D := (dC, dI)) (ci := 11) (v := .ref q6) (C := RX11) (T := TX11) (N := 53) hx hb hz zi_X11 hown hK hP 0 rfl rfl 16 (by decide) (hz _ zw_1181) (fun _ h9 => h9) rfl dX11_readClause_78 ?_
      refine lv_iload_n hx hb dX11_readClause_81 rfl (lv_at hl 2 rfl) ?_
      refine lv_iload_n hx hb dX11_readClause_82 rfl (lv_at hl 3 rfl) ?_
      refine xi_iadd hx hb dX11_readClause_83 hf (fun v19 hf => ?_)
      refine lv_iconst (v := Int32.ofInt 0) hx hb dX11_readClause_84 rfl ?_
      refine xi_iast hx hb hK hP hD hS 2 0 rfl rfl dX11_readClause_85 hf (fun a20 H locs hP hD hS hf => ?_)
      have hP : va_P (dC, dI) vwCl (wd_HM_readClause cA q0 q1 q2 q3 q4 q5 q6 q7 q8 q9 q10 q11 q12 q13 q14 q15 q16 q17 q18 q19 q20 q21 q22 q23 q24 q25 q26 q27 q28 q29 q30 q31 u0 u1 u2 u3 u4 u5 u6 u7 u8 u9 i_taped i_tape i_words i_from i_to i_sort i_worth i_fault i_bad i_nClauses i_nCode i_nLeaves i_piled i_opened a20 i_nOp i_nArg i_pile i_pileAt) H := hP
      have hD : va_D A (wd_HM_readClause cA q0 q1 q2 q3 q4 q5 q6 q7 q8 q9 q10 q11 q12 q13 q14 q15 q16 q17 q18 q19 q20 q21 q22 q23 q24 q25 q26 q27 q28 q29 q30 q31 u0 u1 u2 u3 u4 u5 u6 u7 u8 u9 i_taped i_tape i_words i_from i_to i_sort i_worth i_fault i_bad i_nClauses i_nCode i_nLeaves i_piled i_opened a20 i_nOp i_nArg i_pile i_pileAt) := hD
      refine xi_iinc hx hb dX11_readClause_86 hl (k := 3) rfl (by decide) hf (fun v21 ls hl hf => ?_)
      have hl : lv_has ls 4 [(3, .int (Int32.ofInt v21)), (0, .ref q0), (1, .int (Int32.ofInt x1)), (2, .int (Int32.ofInt x2))] := hl
      refine lv_goto (tgt := 71) hx hb dX11_readClause_89 (by decide) ?_
      exact ih71 _ _ _ _ _ _ _ _ _ _ _ _ _ _ _ _ _ _ _ _ _ _ hf hP hD hS (lv_sub hl [1, 2, 3, 0] rfl)
  have l_71 : ∀ (n : Nat), ∀ (x1 : Int) (x2 : Int) (x3 : Int) (i_from : Int) (i_to : Int) (i_sort : Int) (i_worth : Int) (i_fault : Int) (i_bad : Int) (i_nClauses : Int) (i_nCode : Int) (i_nLeaves : Int) (i_piled : Int) (i_opened : Int) (i_nClause : Nat → Int) (i_nOp : Nat → Int) (i_nArg : Nat → Int) (i_pile : Nat → Int) (i_pileAt : Nat → Int) (H : Heap) (locs : List Loc) (ls : Array Slot), f_HM_readClause_71 i_taped i_tape i_words n x1 x2 x3 i_from i_to i_sort i_worth i_fault i_bad i_nClauses i_nCode i_nLeaves i_piled i_opened i_nClause i_nOp i_nArg i_pile i_pileAt = some out → va_P (dC, dI) vwCl (wd_HM_readClause cA q0 q1 q2 q3 q4 q5 q6 q7 q8 q9 q10 q11 q12 q13 q14 q15 q16 q17 q18 q19 q20 q21 q22 q23 q24 q25 q26 q27 q28 q29 q30 q31 u0 u1 u2 u3 u4 u5 u6 u7 u8 u9 i_taped i_tape i_words i_from i_to i_sort i_worth i_fault i_bad i_nClauses i_nCode i_nLeaves i_piled i_opened i_nClause i_nOp i_nArg i_pile i_pileAt) H → va_D A (wd_HM_readClause cA q0 q1 q2 q3 q4 q5 q6 q7 q8 q9 q10 q11 q12 q13 q14 q15 q16 q17 q18 q19 q20 q21 q22 q23 q24 q25 q26 q27 q28 q29 q30 q31 u0 u1 u2 u3 u4 u5 u6 u7 u8 u9 i_taped i_tape i_words i_from i_to i_sort i_worth i_fault i_bad i_nClauses i_nCode i_nLeaves i_piled i_opened i_nClause i_nOp i_nArg i_pile i_pileAt) → va_S A s.heap H locs → lv_has ls 4 [(0, .ref q0), (1, .int (Int32.ofInt x1)), (2, .int (Int32.ofInt x2)), (3, .int (Int32.ofInt x3))] → W p l e rm_HM_readClause s m args below meth c H locs 0 0 Q (F0 m 71 ls []) := by
    intro n
    induction n with
    | zero => intro x1 x2 x3 i_from i_to i_sort i_worth i_fault i_bad i_nClauses i_nCode i_nLeaves i_piled i_opened i_nClause i_nOp i_nArg i_pile i_pileAt H locs ls hf hP hD hS hl; exact nomatch hf
    | succ n ih => intro x1 x2 x3 i_from i_to i_sort i_worth i_fault i_bad i_nClauses i_nCode i_nLeaves i_piled i_opened i_nClause i_nOp i_nArg i_pile i_pileAt H locs ls hf hP hD hS hl; exact b_71 (f_HM_readClause_71 i_taped i_tape i_words n) ih x1 x2 x3 i_from i_to i_sort i_worth i_fault i_bad i_nClauses i_nCode i_nLeaves i_piled i_opened i_nClause i_nOp i_nArg i_pile i_pileAt H locs ls hf hP hD hS hl
  have b_50 : ∀ (x1 : Int) (s1 : Int) (i_from : Int) (i_to : Int) (i_sort : Int) (i_worth : Int) (i_fault : Int) (i_bad : Int) (i_nClauses : Int) (i_nCode : Int) (i_nLeaves : Int) (i_piled : Int) (i_opened : Int) (i_nClause : Nat → Int) (i_nOp : Nat → Int) (i_nArg : Nat → Int) (i_pile : Nat → Int) (i_pileAt : Nat → Int) (H : Heap) (locs : List Loc) (ls : Array Slot), f_HM_readClause_50 i_taped i_tape i_words x1 s1 i_from i_to i_sort i_worth i_fault i_bad i_nClauses i_nCode i_nLeaves i_piled i_opened i_nClause i_nOp i_nArg i_pile i_pileAt = some out → va_P (dC, dI) vwCl (wd_HM_readClause cA q0 q1 q2 q3 q4 q5 q6 q7 q8 q9 q10 q11 q12 q13 q14 q15 q16 q17 q18 q19 q20 q21 q22 q23 q24 q25 q26 q27 q28 q29 q30 q31 u0 u1 u2 u3 u4 u5 u6 u7 u8 u9 i_taped i_tape i_words i_from i_to i_sort i_worth i_fault i_bad i_nClauses i_nCode i_nLeaves i_piled i_opened i_nClause i_nOp i_nArg i_pile i_pileAt) H → va_D A (wd_HM_readClause cA q0 q1 q2 q3 q4 q5 q6 q7 q8 q9 q10 q11 q12 q13 q14 q15 q16 q17 q18 q19 q20 q21 q22 q23 q24 q25 q26 q27 q28 q29 q30 q31 u0 u1 u2 u3 u4 u5 u6 u7 u8 u9 i_taped i_tape i_words i_from i_to i_sort i_worth i_fault i_bad i_nClauses i_nCode i_nLeaves i_piled i_opened i_nClause i_nOp i_nArg i_pile i_pileAt) → va_S A s.heap H locs → lv_has ls 4 [(0, .ref q0), (1, .int (Int32.ofInt x1))] → W p l e rm_HM_readClause s m args below meth c H locs 0 0 Q (F0 m 50 ls [.int (Int32.ofInt s1), .ref q0]) := by
    intro x1 s1 i_from i_to i_sort i_worth i_fault i_bad i_nClauses i_nCode i_nLeaves i_piled i_opened i_nClause i_nOp i_nArg i_pile i_pileAt H locs ls hf hP hD hS hl
    unfold f_HM_readClause_50 at hf
    refine xe_d6 hf (fun v1 v2 v3 v4 v5 v6 hg hf => ?_)
    have hC : ([0, 1] : List Nat).map (fun i => (wd_HM_readClause cA q0 q1 q2 q3 q4 q5 q6 q7 q8 q9 q10 q11 q12 q13 q14 q15 q16 q17 q18 q19 q20 q21 q22 q23 q24 q25 q26 q27 q28 q29 q30 q31 u0 u1 u2 u3 u4 u5 u6 u7 u8 u9 i_taped i_tape i_words i_from i_to i_sort i_worth i_fault i_bad i_nClauses i_nCode i_nLeaves i_piled i_opened i_nClause i_nOp i_nArg i_pile i_pileAt)[i]?) = (wd_HM_must cA q0 q1 q2 q3 q4 q5 q6 q7 q8 q9 q10 q11 q12 q13 q14 q15 q16 q17 q18 q19 q20 q21 q22 q23 q24 q25 q26 q27 q28 q29 q30 q31 u0 u1 u2 i_nClauses i_nCode i_nLeaves i_piled i_opened u3 u4 u5 u6 u7 u8 u9 i_taped i_tape i_from i_to i_sort i_worth i_fault i_bad).map some := rfl
    refine xv_afterV (ws' := (wd_HM_readClause cA q0 q1 q2 q3 q4 q5 q6 q7 q8 q9 q10 q11 q12 q13 q14 q15 q16 q17 q18 q19 q20 q21 q22 q23 q24 q25 q26 q27 q28 q29 q30 q31 u0 u1 u2 u3 u4 u5 u6 u7 u8 u9 i_taped i_tape i_words v1 v2 v3 v4 v5 v6 i_nClauses i_nCode i_nLeaves i_piled i_opened i_nClause i_nOp i_nArg i_pile i_pileAt)) (isC := [0, 1]) (ps := [some 0, some 1, none, none, none, none, none, none]) (va_runV (As := [.int (Int32.ofInt s1)]) (rest := []) ⟨hx, hb, hml, hown, hts⟩ (c_HM_must l ev dC dI cA q0 q1 q2 q3 q4 q5 q6 q7 q8 q9 q10 q11 q12 q13 q14 q15 q16 q17 q18 q19 q20 q21 q22 q23 q24 q25 q26 q27 q28 q29 q30 q31 u0 u1 u2 i_nClauses i_nCode i_nLeaves i_piled i_opened u3 u4 u5 u6 u7 u8 u9 hg H.size) (cwV 1 hts (zgV zw_1465 zw_1467 zw_50 zw_115 zw_1468) rfl rfl rfl hd_HM_must ⟨Nat.le_of_ble_eq_true rfl, Nat.le_of_ble_eq_true rfl⟩) (xv_preV (T := TX11) (N := 53) hE hA hS hK hP hD (isC := [0, 1]) (by decide +kernel) hC (q0 := 0) (ci := 11) rfl rfl) rfl rfl hl.1 rfl (lv_room (Nat.le_of_ble_eq_true rfl)) dX11_readClause_50 ⟨Nat.le_refl _, Nat.le_refl _⟩) hP hD hS hA (by decide +kernel) rfl hC rfl rfl (fun H locs hP hD hS => ?_)
    refine lv_aload_n hx hb dX11_readClause_53 rfl (lv_at hl 0 rfl) ?_
    refine va_get (D := (dC, dI)) (ci := 11) (v := .int (Int32.ofInt v6)) (C := RX11) (T := TX11) (N := 53) hx hb hz zi_X11 hown hK hP 0 rfl rfl 14 (by decide) (hz _ zw_1179) (fun _ h9 => h9) rfl dX11_readClause_54 ?_
    refine xi_if_eq (tgt := 61) hx hb dX11_readClause_57 (by decide) hf (fun hf => ?_) (fun hf => ?_)
    · refine lv_bipush (v := Int32.ofInt 8) hx hb dX11_readClause_61 (by decide) ?_
      refine lv_aload_n hx hb dX11_readClause_63 rfl (lv_at hl 0 rfl) ?_
      refine va_get (D := (dC, dI)) (ci := 11) (v := .int (Int32.ofInt i_nClauses)) (C := RX11) (T := TX11) (N := 53) hx hb hz zi_X11 hown hK hP 0 rfl rfl 15 (by decide) (hz _ zw_1180) (fun _ h9 => h9) rfl dX11_readClause_64 ?_
      refine xi_imul hx hb dX11_readClause_67 hf (fun v7 hf => ?_)
      refine lv_istore_n (lv' := [(2, .int (Int32.ofInt v7)), (0, .ref q0), (1, .int (Int32.ofInt x1))]) hx hb dX11_readClause_68 rfl hl (by decide) rfl (fun ls hl => ?_)
      refine lv_iconst (v := Int32.ofInt 0) hx hb dX11_readClause_69 rfl ?_
      refine lv_istore_n (lv' := [(3, .int (Int32.ofInt 0)), (2, .int (Int32.ofInt v7)), (0, .ref q0), (1, .int (Int32.ofInt x1))]) hx hb dX11_readClause_70 rfl hl (by decide) rfl (fun ls hl => ?_)
      exact l_71  _ _ _ _ _ _ _ _ _ _ _ _ _ _ _ _ _ _ _ _ _ _ _ hf hP hD hS (lv_sub hl [2, 3, 1, 0] rfl)
    · obtain rfl := Option.some.inj hf
      exact hret _ _ _ _ dX11_readClause_60 hP hD hS
  have b_49 : ∀ (x1 : Int) (i_from : Int) (i_to : Int) (i_sort : Int) (i_worth : Int) (i_fault : Int) (i_bad : Int) (i_nClauses : Int) (i_nCode : Int) (i_nLeaves : Int) (i_piled : Int) (i_opened : Int) (i_nClause : Nat → Int) (i_nOp : Nat → Int) (i_nArg : Nat → Int) (i_pile : Nat → Int) (i_pileAt : Nat → Int) (H : Heap) (locs : List Loc) (ls : Array Slot), f_HM_readClause_49 i_taped i_tape i_words x1 i_from i_to i_sort i_worth i_fault i_bad i_nClauses i_nCode i_nLeaves i_piled i_opened i_nClause i_nOp i_nArg i_pile i_pileAt = some out → va_P (dC, dI) vwCl (wd_HM_readClause cA q0 q1 q2 q3 q4 q5 q6 q7 q8 q9 q10 q11 q12 q13 q14 q15 q16 q17 q18 q19 q20 q21 q22 q23 q24 q25 q26 q27 q28 q29 q30 q31 u0 u1 u2 u3 u4 u5 u6 u7 u8 u9 i_taped i_tape i_words i_from i_to i_sort i_worth i_fault i_bad i_nClauses i_nCode i_nLeaves i_piled i_opened i_nClause i_nOp i_nArg i_pile i_pileAt) H → va_D A (wd_HM_readClause cA q0 q1 q2 q3 q4 q5 q6 q7 q8 q9 q10 q11 q12 q13 q14 q15 q16 q17 q18 q19 q20 q21 q22 q23 q24 q25 q26 q27 q28 q29 q30 q31 u0 u1 u2 u3 u4 u5 u6 u7 u8 u9 i_taped i_tape i_words i_from i_to i_sort i_worth i_fault i_bad i_nClauses i_nCode i_nLeaves i_piled i_opened i_nClause i_nOp i_nArg i_pile i_pileAt) → va_S A s.heap H locs → lv_has ls 4 [(0, .ref q0), (1, .int (Int32.ofInt x1))] → W p l e rm_HM_readClause s m args below meth c H locs 0 0 Q (F0 m 49 ls [.ref q0]) := by
    intro x1 i_from i_to i_sort i_worth i_fault i_bad i_nClauses i_nCode i_nLeaves i_piled i_opened i_nClause i_nOp i_nArg i_pile i_pileAt H locs ls hf hP hD hS hl
    unfold f_HM_readClause_49 at hf
    refine lv_iconst (v := Int32.ofInt 0) hx hb dX11_readClause_49 rfl ?_
    exact b_50  _ _ _ _ _ _ _ _ _ _ _ _ _ _ _ _ _ _ _ _ _ hf hP hD hS (lv_sub hl [0, 1] rfl)
  have b_29 : ∀ (s0 : Int) (i_from : Int) (i_to : Int) (i_sort : Int) (i_worth : Int) (i_fault : Int) (i_bad : Int) (i_nClauses : Int) (i_nCode : Int) (i_nLeaves : Int) (i_piled : Int) (i_opened : Int) (i_nClause : Nat → Int) (i_nOp : Nat → Int) (i_nArg : Nat → Int) (i_pile : Nat → Int) (i_pileAt : Nat → Int) (H : Heap) (locs : List Loc) (ls : Array Slot), f_HM_readClause_29 i_taped i_tape i_words s0 i_from i_to i_sort i_worth i_fault i_bad i_nClauses i_nCode i_nLeaves i_piled i_opened i_nClause i_nOp i_nArg i_pile i_pileAt = some out → va_P (dC, dI) vwCl (wd_HM_readClause cA q0 q1 q2 q3 q4 q5 q6 q7 q8 q9 q10 q11 q12 q13 q14 q15 q16 q17 q18 q19 q20 q21 q22 q23 q24 q25 q26 q27 q28 q29 q30 q31 u0 u1 u2 u3 u4 u5 u6 u7 u8 u9 i_taped i_tape i_words i_from i_to i_sort i_worth i_fault i_bad i_nClauses i_nCode i_nLeaves i_piled i_opened i_nClause i_nOp i_nArg i_pile i_pileAt) H → va_D A (wd_HM_readClause cA q0 q1 q2 q3 q4 q5 q6 q7 q8 q9 q10 q11 q12 q13 q14 q15 q16 q17 q18 q19 q20 q21 q22 q23 q24 q25 q26 q27 q28 q29 q30 q31 u0 u1 u2 u3 u4 u5 u6 u7 u8 u9 i_taped i_tape i_words i_from i_to i_sort i_worth i_fault i_bad i_nClauses i_nCode i_nLeaves i_piled i_opened i_nClause i_nOp i_nArg i_pile i_pileAt) → va_S A s.heap H locs → lv_has ls 4 [(0, .ref q0)] → W p l e rm_HM_readClause s m args below meth c H locs 0 0 Q (F0 m 29 ls [.int (Int32.ofInt s0)]) := by
    intro s0 i_from i_to i_sort i_worth i_fault i_bad i_nClauses i_nCode i_nLeaves i_piled i_opened i_nClause i_nOp i_nArg i_pile i_pileAt H locs ls hf hP hD hS hl
    unfold f_HM_readClause_29 at hf
    refine lv_istore_n (lv' := [(1, .int (Int32.ofInt s0)), (0, .ref q0)]) hx hb dX11_readClause_29 rfl hl (by decide) rfl (fun ls hl => ?_)
    refine lv_aload_n hx hb dX11_readClause_30 rfl (lv_at hl 1 rfl) ?_
    refine lv_iload_n hx hb dX11_readClause_31 rfl (lv_at hl 0 rfl) ?_
    refine lv_iconst (v := Int32.ofInt (-1)) hx hb dX11_readClause_32 rfl ?_
    refine xi_icmp_eq (tgt := 49) hx hb dX11_readClause_33 (by decide) hf (fun hf => ?_) (fun hf => ?_)
    · exact b_49  _ _ _ _ _ _ _ _ _ _ _ _ _ _ _ _ _ _ _ _ hf hP hD hS (lv_sub hl [1, 0] rfl)
    · refine lv_aload_n hx hb dX11_readClause_36 rfl (lv_at hl 1 rfl) ?_
      refine va_get (D := (dC, dI)) (ci := 11) (v := .int (Int32.ofInt i_nClauses)) (C := RX11) (T := TX11) (N := 53) hx hb hz zi_X11 hown hK hP 0 rfl rfl 15 (by decide) (hz _ zw_1180) (fun _ h9 => h9) rfl dX11_readClause_37 ?_
      refine lv_bipush (v := Int32.ofInt 12) hx hb dX11_readClause_40 (by decide) ?_
      refine xi_icmp_ge (tgt := 49) hx hb dX11_readClause_42 (by decide) hf (fun hf => ?_) (fun hf => ?_)
      · exact b_49  _ _ _ _ _ _ _ _ _ _ _ _ _ _ _ _ _ _ _ _ hf hP hD hS (lv_sub hl [1, 0] rfl)
      · refine lv_iconst (v := Int32.ofInt 1) hx hb dX11_readClause_45 rfl ?_
        refine lv_goto (tgt := 50) hx hb dX11_readClause_46 (by decide) ?_
        exact b_50  _ _ _ _ _ _ _ _ _ _ _ _ _ _ _ _ _ _ _ _ _ hf hP hD hS (lv_sub hl [1, 0] rfl)
  unfold f_HM_readClause at hf
  refine lv_aload_n hx hb dX11_readClause_0 rfl (lv_at hl 0 rfl) ?_
  refine lv_ldc2 (v := Int64.ofInt 21285043) hx hb hown (hz _ zw_1459) dX11_readClause_1 ?_
  refine xe_d1 hf (fun v1 hg hf => ?_)
  have hC : ([0] : List Nat).map (fun i => (wd_HM_readClause cA q0 q1 q2 q3 q4 q5 q6 q7 q8 q9 q10 q11 q12 q13 q14 q15 q16 q17 q18 q19 q20 q21 q22 q23 q24 q25 q26 q27 q28 q29 q30 q31 u0 u1 u2 u3 u4 u5 u6 u7 u8 u9 i_taped i_tape i_words i_from i_to i_sort i_worth i_fault i_bad i_nClauses i_nCode i_nLeaves i_piled i_opened i_nClause i_nOp i_nArg i_pile i_pileAt)[i]?) = (wd_HM_isWord cA q0 q1 q2 q3 q4 q5 q6 q7 q8 q9 q10 q11 q12 q13 q14 q15 q16 q17 q18 q19 q20 q21 q22 q23 q24 q25 q26 q27 q28 q29 q30 q31 u0 u1 u2 i_taped i_from i_to i_fault i_bad i_nClauses i_nCode i_nLeaves i_piled i_opened u3 u4 u5 u6 u7 u8 u9 i_sort i_worth).map some := rfl
  refine xv_afterI (ws' := (wd_HM_readClause cA q0 q1 q2 q3 q4 q5 q6 q7 q8 q9 q10 q11 q12 q13 q14 q15 q16 q17 q18 q19 q20 q21 q22 q23 q24 q25 q26 q27 q28 q29 q30 q31 u0 u1 u2 u3 u4 u5 u6 u7 u8 u9 i_taped i_tape i_words i_from i_to i_sort i_worth i_fault i_bad i_nClauses i_nCode i_nLeaves i_piled i_opened i_nClause i_nOp i_nArg i_pile i_pileAt)) (isC := [0]) (ps := [some 0, none, none, none, none, none, none, none]) (va_runV (As := [.long (Int64.ofInt 21285043)]) (rest := []) ⟨hx, hb, hml, hown, hts⟩ (c_HM_isWord l ev dC dI cA q0 q1 q2 q3 q4 q5 q6 q7 q8 q9 q10 q11 q12 q13 q14 q15 q16 q17 q18 q19 q20 q21 q22 q23 q24 q25 q26 q27 q28 q29 q30 q31 u0 u1 u2 i_taped i_from i_to i_fault i_bad i_nClauses i_nCode i_nLeaves i_piled i_opened u3 u4 u5 u6 u7 u8 u9 hg H.size) (cwV 1 hts (zgV zw_1460 zw_1462 zw_49 zw_115 zw_1463) rfl rfl rfl hd_HM_isWord ⟨Nat.le_of_ble_eq_true rfl, Nat.le_of_ble_eq_true rfl⟩) (xv_preV (T := TX11) (N := 53) hE hA hS hK hP hD (isC := [0]) (by decide +kernel) hC (q0 := 0) (ci := 11) rfl rfl) rfl rfl hl.1 rfl (lv_room (Nat.le_of_ble_eq_true rfl)) dX11_readClause_4 ⟨Nat.le_refl _, Nat.le_refl _⟩) hP hD hS hA (by decide +kernel) rfl hC rfl rfl (fun H locs hP hD hS => ?_)
  refine xi_if_eq (tgt := 14) hx hb dX11_readClause_7 (by decide) hf (fun hf => ?_) (fun hf => ?_)
  · refine lv_aload_n hx hb dX11_readClause_14 rfl (lv_at hl 0 rfl) ?_
    refine lv_ldc2 (v := Int64.ofInt 67155) hx hb hown (hz _ zw_1464) dX11_readClause_15 ?_
    refine xe_d1 hf (fun v2 hg hf => ?_)
    have hC : ([0] : List Nat).map (fun i => (wd_HM_readClause cA q0 q1 q2 q3 q4 q5 q6 q7 q8 q9 q10 q11 q12 q13 q14 q15 q16 q17 q18 q19 q20 q21 q22 q23 q24 q25 q26 q27 q28 q29 q30 q31 u0 u1 u2 u3 u4 u5 u6 u7 u8 u9 i_taped i_tape i_words i_from i_to i_sort i_worth i_fault i_bad i_nClauses i_nCode i_nLeaves i_piled i_opened i_nClause i_nOp i_nArg i_pile i_pileAt)[i]?) = (wd_HM_isWord cA q0 q1 q2 q3 q4 q5 q6 q7 q8 q9 q10 q11 q12 q13 q14 q15 q16 q17 q18 q19 q20 q21 q22 q23 q24 q25 q26 q27 q28 q29 q30 q31 u0 u1 u2 i_taped i_from i_to i_fault i_bad i_nClauses i_nCode i_nLeaves i_piled i_opened u3 u4 u5 u6 u7 u8 u9 i_sort i_worth).map some := rfl
    refine xv_afterI (ws' := (wd_HM_readClause cA q0 q1 q2 q3 q4 q5 q6 q7 q8 q9 q10 q11 q12 q13 q14 q15 q16 q17 q18 q19 q20 q21 q22 q23 q24 q25 q26 q27 q28 q29 q30 q31 u0 u1 u2 u3 u4 u5 u6 u7 u8 u9 i_taped i_tape i_words i_from i_to i_sort i_worth i_fault i_bad i_nClauses i_nCode i_nLeaves i_piled i_opened i_nClause i_nOp i_nArg i_pile i_pileAt)) (isC := [0]) (ps := [some 0, none, none, none, none, none, none, none]) (va_runV (As := [.long (Int64.ofInt 67155)]) (rest := []) ⟨hx, hb, hml, hown, hts⟩ (c_HM_isWord l ev dC dI cA q0 q1 q2 q3 q4 q5 q6 q7 q8 q9 q10 q11 q12 q13 q14 q15 q16 q17 q18 q19 q20 q21 q22 q23 q24 q25 q26 q27 q28 q29 q30 q31 u0 u1 u2 i_taped i_from i_to i_fault i_bad i_nClauses i_nCode i_nLeaves i_piled i_opened u3 u4 u5 u6 u7 u8 u9 hg H.size) (cwV 1 hts (zgV zw_1460 zw_1462 zw_49 zw_115 zw_1463) rfl rfl rfl hd_HM_isWord ⟨Nat.le_of_ble_eq_true rfl, Nat.le_of_ble_eq_true rfl⟩) (xv_preV (T := TX11) (N := 53) hE hA hS hK hP hD (isC := [0]) (by decide +kernel) hC (q0 := 0) (ci := 11) rfl rfl) rfl rfl hl.1 rfl (lv_room (Nat.le_of_ble_eq_true rfl)) dX11_readClause_18 ⟨Nat.le_refl _, Nat.le_refl _⟩) hP hD hS hA (by decide +kernel) rfl hC rfl rfl (fun H locs hP hD hS => ?_)
    refine xi_if_eq (tgt := 28) hx hb dX11_readClause_21 (by decide) hf (fun hf => ?_) (fun hf => ?_)
    · refine lv_iconst (v := Int32.ofInt (-1)) hx hb dX11_readClause_28 rfl ?_
      exact b_29  _ _ _ _ _ _ _ _ _ _ _ _ _ _ _ _ _ _ _ _ hf hP hD hS (lv_sub hl [0] rfl)
    · refine lv_iconst (v := Int32.ofInt 1) hx hb dX11_readClause_24 rfl ?_
      refine lv_goto (tgt := 29) hx hb dX11_readClause_25 (by decide) ?_
      exact b_29  _ _ _ _ _ _ _ _ _ _ _ _ _ _ _ _ _ _ _ _ hf hP hD hS (lv_sub hl [0] rfl)
  · refine lv_iconst (v := Int32.ofInt 0) hx hb dX11_readClause_10 rfl ?_
    refine lv_goto (tgt := 29) hx hb dX11_readClause_11 (by decide) ?_
    exact b_29  _ _ _ _ _ _ _ _ _ _ _ _ _ _ _ _ _ _ _ _ hf hP hD hS (lv_sub hl [0] rfl)
theorem dX11_begin_0 : decode cX11_begin 0 = .ok (.aload_n 0, 1) := by decide +kernel
theorem dX11_begin_1 : decode cX11_begin 1 = .ok (.iconst 0, 1) := by decide +kernel
theorem dX11_begin_2 : decode cX11_begin 2 = .ok (.putfield 182, 3) := by decide +kernel
theorem dX11_begin_5 : decode cX11_begin 5 = .ok (.aload_n 0, 1) := by decide +kernel
theorem dX11_begin_6 : decode cX11_begin 6 = .ok (.iconst 0, 1) := by decide +kernel
theorem dX11_begin_7 : decode cX11_begin 7 = .ok (.putfield 185, 3) := by decide +kernel
theorem dX11_begin_10 : decode cX11_begin 10 = .ok (.aload_n 0, 1) := by decide +kernel
theorem dX11_begin_11 : decode cX11_begin 11 = .ok (.iconst (-1), 1) := by decide +kernel
theorem dX11_begin_12 : decode cX11_begin 12 = .ok (.putfield 26, 3) := by decide +kernel
theorem dX11_begin_15 : decode cX11_begin 15 = .ok (.aload_n 0, 1) := by decide +kernel
theorem dX11_begin_16 : decode cX11_begin 16 = .ok (.invokevirtual 189, 3) := by decide +kernel
theorem dX11_begin_19 : decode cX11_begin 19 = .ok (.return_, 1) := by decide +kernel
theorem zw_1438 : (Jvm.Cond.code ({ cls := "HillSchoolModel", name := "begin", desc := "()V" } : Jvm.MethodName) prog_13_method_32_code (1 : Nat) (Option.none : Option Jvm.ClassFile.FieldType)) ∈ zall := zmemG (zmj_6 135 rfl) rfl
abbrev w_HM_begin : List Cond := .code yX11_begin cX11_begin 1 none :: zall
abbrev rm_HM_begin : Room := { frames := 2, cells := 0, slots := 0, locals := 40 }
theorem hd_HM_begin : yX11_begin.cls = "HillSchoolModel" ∧ yX11_begin.cls ≠ "java/lang/invoke/MethodHandle" ∧ yX11_begin.cls ≠ "java/lang/invoke/VarHandle" ∧ (parseMethodDescriptor yX11_begin.desc).map (fun d => d.parameters.length) = some 0 := by decide +kernel
def wd_HM_begin (cA : Nat → ClassId) (q0 q1 q2 q3 q4 q5 q6 q7 q8 q9 q10 q11 q12 q13 q14 q15 q16 q17 q18 q19 q20 q21 q22 q23 q24 q25 q26 q27 q28 q29 q30 q31 : Nat) (u0 u1 u2 u3 u4 u5 u6 u7 u8 u9 u10 u11 u12 u13 u14 : Int) (i_taped : Int) (i_tape : Nat → Int) (i_from : Int) (i_to : Int) (i_sort : Int) (i_worth : Int) (i_fault : Int) (i_bad : Int) : va_W := [(q0, .inr (11, [.int (Int32.ofInt u0), .int (Int32.ofInt u1), .ref q1, .ref q2, .ref q3, .ref q4, .int (Int32.ofInt u2), .ref q5, .int (Int32.ofInt i_taped), .int (Int32.ofInt i_from), .int (Int32.ofInt i_to), .int (Int32.ofInt i_sort), .long (Int64.ofInt i_worth), .int (Int32.ofInt i_fault), .int (Int32.ofInt i_bad), .int (Int32.ofInt u3), .ref q6, .int (Int32.ofInt u4), .ref q7, .ref q8, .int (Int32.ofInt u5), .ref q9, .ref q10, .int (Int32.ofInt u6), .int (Int32.ofInt u7), .ref q11, .int (Int32.ofInt u8), .ref q12, .ref q13, .int (Int32.ofInt u9), .long (Int64.ofInt u10), .long (Int64.ofInt u11), .ref q14, .ref q15, .ref q16, .ref q17, .ref q18, .int (Int32.ofInt u12), .ref q19, .ref q20, .ref q21, .ref q22, .ref q23, .ref q24, .ref q25, .ref q26, .ref q27, .ref q28, .ref q29, .ref q30, .long (Int64.ofInt u13), .ref q31, .int (Int32.ofInt u14)])), (q5, .inl (cA 0, 400, .inl (za i_tape)))]
def wf_HM_begin (cA : Nat → ClassId) (q0 q1 q2 q3 q4 q5 q6 q7 q8 q9 q10 q11 q12 q13 q14 q15 q16 q17 q18 q19 q20 q21 q22 q23 q24 q25 q26 q27 q28 q29 q30 q31 : Nat) (u0 u1 u2 u3 u4 u5 u6 u7 u8 u9 u10 u11 u12 u13 u14 : Int) (i_taped : Int) (i_tape : Nat → Int) (o : Int × Int × Int × Int × Int × Int) : va_W := wd_HM_begin cA q0 q1 q2 q3 q4 q5 q6 q7 q8 q9 q10 q11 q12 q13 q14 q15 q16 q17 q18 q19 q20 q21 q22 q23 q24 q25 q26 q27 q28 q29 q30 q31 u0 u1 u2 u3 u4 u5 u6 u7 u8 u9 u10 u11 u12 u13 u14 i_taped i_tape o.1 o.2.1 o.2.2.1 o.2.2.2.1 o.2.2.2.2.1 o.2.2.2.2.2
def f_HM_begin (i_taped : Int) (i_tape : Nat → Int) (i_from : Int) (i_to : Int) (i_sort : Int) (i_worth : Int) (i_fault : Int) (i_bad : Int) : Option (Int × Int × Int × Int × Int × Int) :=
  zd4 (f_HM_next i_taped i_tape i_from 0 i_sort i_worth) fun v1 v2 v3 v4 =>
  some (v1, v2, v3, v4, (-1), 0)
set_option maxHeartbeats 4000000 in
set_option maxRecDepth 100000 in
theorem c_HM_begin (l : Launch) (ev : zEv) (dC : Nat → ClassId) (dI : Nat → Nat → Nat) (cA : Nat → ClassId) (q0 q1 q2 q3 q4 q5 q6 q7 q8 q9 q10 q11 q12 q13 q14 q15 q16 q17 q18 q19 q20 q21 q22 q23 q24 q25 q26 q27 q28 q29 q30 q31 : Nat) (u0 u1 u2 u3 u4 u5 u6 u7 u8 u9 u10 u11 u12 u13 u14 : Int) {i_taped : Int} {i_tape : Nat → Int} {i_from : Int} {i_to : Int} {i_sort : Int} {i_worth : Int} {i_fault : Int} {i_bad : Int} {out : Int × Int × Int × Int × Int × Int} (hf : f_HM_begin i_taped i_tape i_from i_to i_sort i_worth i_fault i_bad = some out) : xc_V l ev (dC, dI) vwCl (tyl cA) yX11_begin w_HM_begin rm_HM_begin [.ref q0] (wd_HM_begin cA q0 q1 q2 q3 q4 q5 q6 q7 q8 q9 q10 q11 q12 q13 q14 q15 q16 q17 q18 q19 q20 q21 q22 q23 q24 q25 q26 q27 q28 q29 q30 q31 u0 u1 u2 u3 u4 u5 u6 u7 u8 u9 u10 u11 u12 u13 u14 i_taped i_tape i_from i_to i_sort i_worth i_fault i_bad) (wf_HM_begin cA q0 q1 q2 q3 q4 q5 q6 q7 q8 q9 q10 q11 q12 q13 q14 q15 q16 q17 q18 q19 q20 q21 q22 q23 q24 q25 q26 q27 q28 q29 q30 q31 u0 u1 u2 u3 u4 u5 u6 u7 u8 u9 u10 u11 u12 u13 u14 i_taped i_tape out) := by
  refine xv_startV (cc := cX11_begin) (maxL := 1) (by decide +kernel) rfl (Nat.le_of_ble_eq_true rfl) ?_
  intro p e s m args below meth c A Q H ls hx hb hml hts hown hK hA hP hD hS hl hE hret
  have hown : s.vm.findClass "HillSchoolModel" = some m.cls := hown
  have hz : ∀ w ∈ zall, w.before args s = true := fun w h => hts w (List.mem_cons_of_mem _ h)
  have hl : lv_has ls 1 [(0, .ref q0)] := hl
  unfold f_HM_begin at hf
  refine lv_aload_n hx hb dX11_begin_0 rfl (lv_at hl 0 rfl) ?_
  refine lv_iconst (v := Int32.ofInt 0) hx hb dX11_begin_1 rfl ?_
  refine va_put (D := (dC, dI)) (ci := 11) (v := .int (Int32.ofInt 0)) (ty := .int) (C := RX11) (T := TX11) (N := 53) hx hb hz zi_X11 tyX11 tyX11_ok nmX11 hown hK hP hD hS 0 rfl rfl 10 (by decide) (hz _ zw_1175) (fun _ h9 => h9) rfl (by decide +kernel) rfl rfl (Nat.le_of_ble_eq_true rfl) dX11_begin_2 (fun H locs hP hD hS => ?_)
  have hP : va_P (dC, dI) vwCl (wd_HM_begin cA q0 q1 q2 q3 q4 q5 q6 q7 q8 q9 q10 q11 q12 q13 q14 q15 q16 q17 q18 q19 q20 q21 q22 q23 q24 q25 q26 q27 q28 q29 q30 q31 u0 u1 u2 u3 u4 u5 u6 u7 u8 u9 u10 u11 u12 u13 u14 i_taped i_tape i_from 0 i_sort i_worth i_fault i_bad) H := hP
  have hD : va_D A (wd_HM_begin cA q0 q1 q2 q3 q4 q5 q6 q7 q8 q9 q10 q11 q12 q13 q14 q15 q16 q17 q18 q19 q20 q21 q22 q23 q24 q25 q26 q27 q28 q29 q30 q31 u0 u1 u2 u3 u4 u5 u6 u7 u8 u9 u10 u11 u12 u13 u14 i_taped i_tape i_from 0 i_sort i_worth i_fault i_bad) := hD
  refine lv_aload_n hx hb dX11_begin_5 rfl (lv_at hl 0 rfl) ?_
  refine lv_iconst (v := Int32.ofInt 0) hx hb dX11_begin_6 rfl ?_
  refine va_put (D := (dC, dI)) (ci := 11) (v := .int (Int32.ofInt 0)) (ty := .boolean) (C := RX11) (T := TX11) (N := 53) hx hb hz zi_X11 tyX11 tyX11_ok nmX11 hown hK hP hD hS 0 rfl rfl 14 (by decide) (hz _ zw_1179) (fun _ h9 => h9) rfl (by decide +kernel) (by decide +kernel) (by decide +kernel) (Nat.le_of_ble_eq_true rfl) dX11_begin_7 (fun H locs hP hD hS => ?_)
  have hP : va_P (dC, dI) vwCl (wd_HM_begin cA q0 q1 q2 q3 q4 q5 q6 q7 q8 q9 q10 q11 q12 q13 q14 q15 q16 q17 q18 q19 q20 q21 q22 q23 q24 q25 q26 q27 q28 q29 q30 q31 u0 u1 u2 u3 u4 u5 u6 u7 u8 u9 u10 u11 u12 u13 u14 i_taped i_tape i_from 0 i_sort i_worth i_fault 0) H := hP
  have hD : va_D A (wd_HM_begin cA q0 q1 q2 q3 q4 q5 q6 q7 q8 q9 q10 q11 q12 q13 q14 q15 q16 q17 q18 q19 q20 q21 q22 q23 q24 q25 q26 q27 q28 q29 q30 q31 u0 u1 u2 u3 u4 u5 u6 u7 u8 u9 u10 u11 u12 u13 u14 i_taped i_tape i_from 0 i_sort i_worth i_fault 0) := hD
  refine lv_aload_n hx hb dX11_begin_10 rfl (lv_at hl 0 rfl) ?_
  refine lv_iconst (v := Int32.ofInt (-1)) hx hb dX11_begin_11 rfl ?_
  refine va_put (D := (dC, dI)) (ci := 11) (v := .int (Int32.ofInt (-1))) (ty := .int) (C := RX11) (T := TX11) (N := 53) hx hb hz zi_X11 tyX11 tyX11_ok nmX11 hown hK hP hD hS 0 rfl rfl 13 (by decide) (hz _ zw_1178) (fun _ h9 => h9) rfl (by decide +kernel) rfl rfl (Nat.le_of_ble_eq_true rfl) dX11_begin_12 (fun H locs hP hD hS => ?_)
  have hP : va_P (dC, dI) vwCl (wd_HM_begin cA q0 q1 q2 q3 q4 q5 q6 q7 q8 q9 q10 q11 q12 q13 q14 q15 q16 q17 q18 q19 q20 q21 q22 q23 q24 q25 q26 q27 q28 q29 q30 q31 u0 u1 u2 u3 u4 u5 u6 u7 u8 u9 u10 u11 u12 u13 u14 i_taped i_tape i_from 0 i_sort i_worth (-1) 0) H := hP
  have hD : va_D A (wd_HM_begin cA q0 q1 q2 q3 q4 q5 q6 q7 q8 q9 q10 q11 q12 q13 q14 q15 q16 q17 q18 q19 q20 q21 q22 q23 q24 q25 q26 q27 q28 q29 q30 q31 u0 u1 u2 u3 u4 u5 u6 u7 u8 u9 u10 u11 u12 u13 u14 i_taped i_tape i_from 0 i_sort i_worth (-1) 0) := hD
  refine lv_aload_n hx hb dX11_begin_15 rfl (lv_at hl 0 rfl) ?_
  refine xe_d4 hf (fun v1 v2 v3 v4 hg hf => ?_)
  have hC : ([0, 1] : List Nat).map (fun i => (wd_HM_begin cA q0 q1 q2 q3 q4 q5 q6 q7 q8 q9 q10 q11 q12 q13 q14 q15 q16 q17 q18 q19 q20 q21 q22 q23 q24 q25 q26 q27 q28 q29 q30 q31 u0 u1 u2 u3 u4 u5 u6 u7 u8 u9 u10 u11 u12 u13 u14 i_taped i_tape i_from 0 i_sort i_worth (-1) 0)[i]?) = (wd_HM_next cA q0 q1 q2 q3 q4 q5 q6 q7 q8 q9 q10 q11 q12 q13 q14 q15 q16 q17 q18 q19 q20 q21 q22 q23 q24 q25 q26 q27 q28 q29 q30 q31 u0 u1 u2 (-1) 0 u3 u4 u5 u6 u7 u8 u9 u10 u11 u12 u13 u14 i_taped i_tape i_from 0 i_sort i_worth).map some := rfl
  refine xv_afterV (ws' := (wd_HM_begin cA q0 q1 q2 q3 q4 q5 q6 q7 q8 q9 q10 q11 q12 q13 q14 q15 q16 q17 q18 q19 q20 q21 q22 q23 q24 q25 q26 q27 q28 q29 q30 q31 u0 u1 u2 u3 u4 u5 u6 u7 u8 u9 u10 u11 u12 u13 u14 i_taped i_tape v1 v2 v3 v4 (-1) 0)) (isC := [0, 1]) (ps := [some 0, some 1]) (va_runV (As := []) (rest := []) ⟨hx, hb, hml, hown, hts⟩ (c_HM_next l ev dC dI cA q0 q1 q2 q3 q4 q5 q6 q7 q8 q9 q10 q11 q12 q13 q14 q15 q16 q17 q18 q19 q20 q21 q22 q23 q24 q25 q26 q27 q28 q29 q30 q31 u0 u1 u2 (-1) 0 u3 u4 u5 u6 u7 u8 u9 u10 u11 u12 u13 u14 hg H.size) (cwV 0 hts (zgV zw_1439 zw_1441 zw_47 zw_115 zw_1442) rfl rfl rfl hd_HM_next ⟨Nat.le_of_ble_eq_true rfl, Nat.le_of_ble_eq_true rfl⟩) (xv_preV (T := TX11) (N := 53) hE hA hS hK hP hD (isC := [0, 1]) (by decide +kernel) hC (q0 := 0) (ci := 11) rfl rfl) rfl rfl hl.1 rfl (lv_room (Nat.le_of_ble_eq_true rfl)) dX11_begin_16 ⟨Nat.le_refl _, Nat.le_refl _⟩) hP hD hS hA (by decide +kernel) rfl hC rfl rfl (fun H locs hP hD hS => ?_)
  obtain rfl := Option.some.inj hf
  exact hret _ _ _ _ dX11_begin_19 hP hD hS
theorem dX11_law_0 : decode cX11_law 0 = .ok (.aload_n 0, 1) := by decide +kernel
theorem dX11_law_1 : decode cX11_law 1 = .ok (.iconst 0, 1) := by decide +kernel
theorem dX11_law_2 : decode cX11_law 2 = .ok (.putfield 126, 3) := by decide +kernel
theorem dX11_law_5 : decode cX11_law 5 = .ok (.aload_n 0, 1) := by decide +kernel
theorem dX11_law_6 : decode cX11_law 6 = .ok (.getfield 13, 3) := by decide +kernel
theorem dX11_law_9 : decode cX11_law 9 = .ok (.iconst 3, 1) := by decide +kernel
theorem dX11_law_10 : decode cX11_law 10 = .ok (.iaload, 1) := by decide +kernel
theorem dX11_law_11 : decode cX11_law 11 = .ok (.bipush 6, 2) := by decide +kernel
theorem dX11_law_13 : decode cX11_law 13 = .ok (.if_icmp .ne 15, 3) := by decide +kernel
theorem dX11_law_16 : decode cX11_law 16 = .ok (.aload_n 0, 1) := by decide +kernel
theorem dX11_law_17 : decode cX11_law 17 = .ok (.iconst 0, 1) := by decide +kernel
theorem dX11_law_18 : decode cX11_law 18 = .ok (.putfield 172, 3) := by decide +kernel
theorem dX11_law_21 : decode cX11_law 21 = .ok (.aload_n 0, 1) := by decide +kernel
theorem dX11_law_22 : decode cX11_law 22 = .ok (.bipush (-5), 2) := by decide +kernel
theorem dX11_law_24 : decode cX11_law 24 = .ok (.invokevirtual 136, 3) := by decide +kernel
theorem dX11_law_27 : decode cX11_law 27 = .ok (.ireturn, 1) := by decide +kernel
theorem dX11_law_28 : decode cX11_law 28 = .ok (.aload_n 0, 1) := by decide +kernel
theorem dX11_law_29 : decode cX11_law 29 = .ok (.invokevirtual 314, 3) := by decide +kernel
theorem dX11_law_32 : decode cX11_law 32 = .ok (.aload_n 0, 1) := by decide +kernel
theorem dX11_law_33 : decode cX11_law 33 = .ok (.iconst 0, 1) := by decide +kernel
theorem dX11_law_34 : decode cX11_law 34 = .ok (.putfield 306, 3) := by decide +kernel
theorem dX11_law_37 : decode cX11_law 37 = .ok (.aload_n 0, 1) := by decide +kernel
theorem dX11_law_38 : decode cX11_law 38 = .ok (.iconst 0, 1) := by decide +kernel
theorem dX11_law_39 : decode cX11_law 39 = .ok (.putfield 224, 3) := by decide +kernel
theorem dX11_law_42 : decode cX11_law 42 = .ok (.aload_n 0, 1) := by decide +kernel
theorem dX11_law_43 : decode cX11_law 43 = .ok (.iconst 0, 1) := by decide +kernel
theorem dX11_law_44 : decode cX11_law 44 = .ok (.putfield 255, 3) := by decide +kernel
theorem dX11_law_47 : decode cX11_law 47 = .ok (.aload_n 0, 1) := by decide +kernel
theorem dX11_law_48 : decode cX11_law 48 = .ok (.invokevirtual 317, 3) := by decide +kernel
theorem dX11_law_51 : decode cX11_law 51 = .ok (.aload_n 0, 1) := by decide +kernel
theorem dX11_law_52 : decode cX11_law 52 = .ok (.getfield 185, 3) := by decide +kernel
theorem dX11_law_55 : decode cX11_law 55 = .ok (.ifCond .ne 23, 3) := by decide +kernel
theorem dX11_law_58 : decode cX11_law 58 = .ok (.aload_n 0, 1) := by decide +kernel
theorem dX11_law_59 : decode cX11_law 59 = .ok (.bipush 59, 2) := by decide +kernel
theorem dX11_law_61 : decode cX11_law 61 = .ok (.invokevirtual 258, 3) := by decide +kernel
theorem dX11_law_64 : decode cX11_law 64 = .ok (.ifCond .eq 14, 3) := by decide +kernel
theorem dX11_law_67 : decode cX11_law 67 = .ok (.aload_n 0, 1) := by decide +kernel
theorem dX11_law_68 : decode cX11_law 68 = .ok (.invokevirtual 189, 3) := by decide +kernel
theorem dX11_law_71 : decode cX11_law 71 = .ok (.aload_n 0, 1) := by decide +kernel
theorem dX11_law_72 : decode cX11_law 72 = .ok (.invokevirtual 317, 3) := by decide +kernel
theorem dX11_law_75 : decode cX11_law 75 = .ok (.goto (-24), 3) := by decide +kernel
theorem dX11_law_78 : decode cX11_law 78 = .ok (.aload_n 0, 1) := by decide +kernel
theorem dX11_law_79 : decode cX11_law 79 = .ok (.getfield 185, 3) := by decide +kernel
theorem dX11_law_82 : decode cX11_law 82 = .ok (.ifCond .ne 15, 3) := by decide +kernel
theorem dX11_law_85 : decode cX11_law 85 = .ok (.aload_n 0, 1) := by decide +kernel
theorem dX11_law_86 : decode cX11_law 86 = .ok (.getfield 205, 3) := by decide +kernel
theorem dX11_law_89 : decode cX11_law 89 = .ok (.ifCond .eq 8, 3) := by decide +kernel
theorem dX11_law_92 : decode cX11_law 92 = .ok (.aload_n 0, 1) := by decide +kernel
theorem dX11_law_93 : decode cX11_law 93 = .ok (.iconst 0, 1) := by decide +kernel
theorem dX11_law_94 : decode cX11_law 94 = .ok (.invokevirtual 220, 3) := by decide +kernel
theorem dX11_law_97 : decode cX11_law 97 = .ok (.aload_n 0, 1) := by decide +kernel
theorem dX11_law_98 : decode cX11_law 98 = .ok (.iconst 0, 1) := by decide +kernel
theorem dX11_law_99 : decode cX11_law 99 = .ok (.putfield 172, 3) := by decide +kernel
theorem dX11_law_102 : decode cX11_law 102 = .ok (.aload_n 0, 1) := by decide +kernel
theorem dX11_law_103 : decode cX11_law 103 = .ok (.getfield 185, 3) := by decide +kernel
theorem dX11_law_106 : decode cX11_law 106 = .ok (.ifCond .eq 10, 3) := by decide +kernel
theorem dX11_law_109 : decode cX11_law 109 = .ok (.aload_n 0, 1) := by decide +kernel
theorem dX11_law_110 : decode cX11_law 110 = .ok (.bipush (-6), 2) := by decide +kernel
theorem dX11_law_112 : decode cX11_law 112 = .ok (.invokevirtual 136, 3) := by decide +kernel
theorem dX11_law_115 : decode cX11_law 115 = .ok (.ireturn, 1) := by decide +kernel
theorem dX11_law_116 : decode cX11_law 116 = .ok (.sipush 180, 3) := by decide +kernel
theorem dX11_law_119 : decode cX11_law 119 = .ok (.sipush 900, 3) := by decide +kernel
theorem dX11_law_122 : decode cX11_law 122 = .ok (.aload_n 0, 1) := by decide +kernel
theorem dX11_law_123 : decode cX11_law 123 = .ok (.getfield 13, 3) := by decide +kernel
theorem dX11_law_126 : decode cX11_law 126 = .ok (.iconst 3, 1) := by decide +kernel
theorem dX11_law_127 : decode cX11_law 127 = .ok (.iaload, 1) := by decide +kernel
theorem dX11_law_128 : decode cX11_law 128 = .ok (.imul, 1) := by decide +kernel
theorem dX11_law_129 : decode cX11_law 129 = .ok (.iadd, 1) := by decide +kernel
theorem dX11_law_130 : decode cX11_law 130 = .ok (.istore_n 1, 1) := by decide +kernel
theorem dX11_law_131 : decode cX11_law 131 = .ok (.aload_n 0, 1) := by decide +kernel
theorem dX11_law_132 : decode cX11_law 132 = .ok (.getfield 13, 3) := by decide +kernel
theorem dX11_law_135 : decode cX11_law 135 = .ok (.iload_n 1, 1) := by decide +kernel
theorem dX11_law_136 : decode cX11_law 136 = .ok (.iconst 1, 1) := by decide +kernel
theorem dX11_law_137 : decode cX11_law 137 = .ok (.iadd, 1) := by decide +kernel
theorem dX11_law_138 : decode cX11_law 138 = .ok (.aload_n 0, 1) := by decide +kernel
theorem dX11_law_139 : decode cX11_law 139 = .ok (.getfield 306, 3) := by decide +kernel
theorem dX11_law_142 : decode cX11_law 142 = .ok (.iastore, 1) := by decide +kernel
theorem dX11_law_143 : decode cX11_law 143 = .ok (.iconst 0, 1) := by decide +kernel
theorem dX11_law_144 : decode cX11_law 144 = .ok (.istore_n 2, 1) := by decide +kernel
theorem dX11_law_145 : decode cX11_law 145 = .ok (.iload_n 2, 1) := by decide +kernel
theorem dX11_law_146 : decode cX11_law 146 = .ok (.bipush 8, 2) := by decide +kernel
theorem dX11_law_148 : decode cX11_law 148 = .ok (.aload_n 0, 1) := by decide +kernel
theorem dX11_law_149 : decode cX11_law 149 = .ok (.getfield 306, 3) := by decide +kernel
theorem dX11_law_152 : decode cX11_law 152 = .ok (.imul, 1) := by decide +kernel
theorem dX11_law_153 : decode cX11_law 153 = .ok (.if_icmp .ge 25, 3) := by decide +kernel
theorem dX11_law_156 : decode cX11_law 156 = .ok (.aload_n 0, 1) := by decide +kernel
theorem dX11_law_157 : decode cX11_law 157 = .ok (.getfield 13, 3) := by decide +kernel
theorem dX11_law_160 : decode cX11_law 160 = .ok (.iload_n 1, 1) := by decide +kernel
theorem dX11_law_161 : decode cX11_law 161 = .ok (.iconst 2, 1) := by decide +kernel
theorem dX11_law_162 : decode cX11_law 162 = .ok (.iadd, 1) := by decide +kernel
theorem dX11_law_163 : decode cX11_law 163 = .ok (.iload_n 2, 1) := by decide +kernel
theorem dX11_law_164 : decode cX11_law 164 = .ok (.iadd, 1) := by decide +kernel
theorem dX11_law_165 : decode cX11_law 165 = .ok (.aload_n 0, 1) := by decide +kernel
theorem dX11_law_166 : decode cX11_law 166 = .ok (.getfield 30, 3) := by decide +kernel
theorem dX11_law_169 : decode cX11_law 169 = .ok (.iload_n 2, 1) := by decide +kernel
theorem dX11_law_170 : decode cX11_law 170 = .ok (.iaload, 1) := by decide +kernel
theorem dX11_law_171 : decode cX11_law 171 = .ok (.iastore, 1) := by decide +kernel
theorem dX11_law_172 : decode cX11_law 172 = .ok (.iinc 2 1, 3) := by decide +kernel
theorem dX11_law_175 : decode cX11_law 175 = .ok (.goto (-30), 3) := by decide +kernel
theorem dX11_law_178 : decode cX11_law 178 = .ok (.iconst 0, 1) := by decide +kernel
theorem dX11_law_179 : decode cX11_law 179 = .ok (.istore_n 2, 1) := by decide +kernel
theorem dX11_law_180 : decode cX11_law 180 = .ok (.iload_n 2, 1) := by decide +kernel
theorem dX11_law_181 : decode cX11_law 181 = .ok (.aload_n 0, 1) := by decide +kernel
theorem dX11_law_182 : decode cX11_law 182 = .ok (.getfield 224, 3) := by decide +kernel
theorem dX11_law_185 : decode cX11_law 185 = .ok (.if_icmp .ge 49, 3) := by decide +kernel
theorem dX11_law_188 : decode cX11_law 188 = .ok (.aload_n 0, 1) := by decide +kernel
theorem dX11_law_189 : decode cX11_law 189 = .ok (.getfield 13, 3) := by decide +kernel
theorem dX11_law_192 : decode cX11_law 192 = .ok (.iload_n 1, 1) := by decide +kernel
theorem dX11_law_193 : decode cX11_law 193 = .ok (.bipush 98, 2) := by decide +kernel
theorem dX11_law_195 : decode cX11_law 195 = .ok (.iadd, 1) := by decide +kernel
theorem dX11_law_196 : decode cX11_law 196 = .ok (.iconst 2, 1) := by decide +kernel
theorem dX11_law_197 : decode cX11_law 197 = .ok (.iload_n 2, 1) := by decide +kernel
theorem dX11_law_198 : decode cX11_law 198 = .ok (.imul, 1) := by decide +kernel
theorem dX11_law_199 : decode cX11_law 199 = .ok (.iadd, 1) := by decide +kernel
theorem dX11_law_200 : decode cX11_law 200 = .ok (.aload_n 0, 1) := by decide +kernel
theorem dX11_law_201 : decode cX11_law 201 = .ok (.getfield 33, 3) := by decide +kernel
theorem dX11_law_204 : decode cX11_law 204 = .ok (.iload_n 2, 1) := by decide +kernel
theorem dX11_law_205 : decode cX11_law 205 = .ok (.iaload, 1) := by decide +kernel
theorem dX11_law_206 : decode cX11_law 206 = .ok (.iastore, 1) := by decide +kernel
theorem dX11_law_207 : decode cX11_law 207 = .ok (.aload_n 0, 1) := by decide +kernel
theorem dX11_law_208 : decode cX11_law 208 = .ok (.getfield 13, 3) := by decide +kernel
theorem dX11_law_211 : decode cX11_law 211 = .ok (.iload_n 1, 1) := by decide +kernel
theorem dX11_law_212 : decode cX11_law 212 = .ok (.bipush 98, 2) := by decide +kernel
theorem dX11_law_214 : decode cX11_law 214 = .ok (.iadd, 1) := by decide +kernel
theorem dX11_law_215 : decode cX11_law 215 = .ok (.iconst 2, 1) := by decide +kernel
theorem dX11_law_216 : decode cX11_law 216 = .ok (.iload_n 2, 1) := by decide +kernel
theorem dX11_law_217 : decode cX11_law 217 = .ok (.imul, 1) := by decide +kernel
theorem dX11_law_218 : decode cX11_law 218 = .ok (.iadd, 1) := by decide +kernel
theorem dX11_law_219 : decode cX11_law 219 = .ok (.iconst 1, 1) := by decide +kernel
theorem dX11_law_220 : decode cX11_law 220 = .ok (.iadd, 1) := by decide +kernel
theorem dX11_law_221 : decode cX11_law 221 = .ok (.aload_n 0, 1) := by decide +kernel
theorem dX11_law_222 : decode cX11_law 222 = .ok (.getfield 36, 3) := by decide +kernel
theorem dX11_law_225 : decode cX11_law 225 = .ok (.iload_n 2, 1) := by decide +kernel
theorem dX11_law_226 : decode cX11_law 226 = .ok (.iaload, 1) := by decide +kernel
theorem dX11_law_227 : decode cX11_law 227 = .ok (.iastore, 1) := by decide +kernel
theorem dX11_law_228 : decode cX11_law 228 = .ok (.iinc 2 1, 3) := by decide +kernel
theorem dX11_law_231 : decode cX11_law 231 = .ok (.goto (-51), 3) := by decide +kernel
theorem dX11_law_234 : decode cX11_law 234 = .ok (.aload_n 0, 1) := by decide +kernel
theorem dX11_law_235 : decode cX11_law 235 = .ok (.getfield 13, 3) := by decide +kernel
theorem dX11_law_238 : decode cX11_law 238 = .ok (.iconst 3, 1) := by decide +kernel
theorem dX11_law_239 : decode cX11_law 239 = .ok (.dup2, 1) := by decide +kernel
theorem dX11_law_240 : decode cX11_law 240 = .ok (.iaload, 1) := by decide +kernel
theorem dX11_law_241 : decode cX11_law 241 = .ok (.iconst 1, 1) := by decide +kernel
theorem dX11_law_242 : decode cX11_law 242 = .ok (.iadd, 1) := by decide +kernel
theorem dX11_law_243 : decode cX11_law 243 = .ok (.iastore, 1) := by decide +kernel
theorem dX11_law_244 : decode cX11_law 244 = .ok (.aload_n 0, 1) := by decide +kernel
theorem dX11_law_245 : decode cX11_law 245 = .ok (.aload_n 0, 1) := by decide +kernel
theorem dX11_law_246 : decode cX11_law 246 = .ok (.getfield 13, 3) := by decide +kernel
theorem dX11_law_249 : decode cX11_law 249 = .ok (.iconst 3, 1) := by decide +kernel
theorem dX11_law_250 : decode cX11_law 250 = .ok (.iaload, 1) := by decide +kernel
theorem dX11_law_251 : decode cX11_law 251 = .ok (.iconst 1, 1) := by decide +kernel
theorem dX11_law_252 : decode cX11_law 252 = .ok (.isub, 1) := by decide +kernel
theorem dX11_law_253 : decode cX11_law 253 = .ok (.invokevirtual 136, 3) := by decide +kernel
theorem dX11_law_256 : decode cX11_law 256 = .ok (.ireturn, 1) := by decide +kernel
theorem zw_46 : (Jvm.Cond.selects "HillSchoolModel" ({ cls := "HillSchoolModel", name := "begin", desc := "()V" } : Jvm.MethodName) ({ cls := "HillSchoolModel", name := "begin", desc := "()V" } : Jvm.MethodName)) ∈ zall := zmemG (zmj_0 46 rfl) rfl
theorem zw_48 : (Jvm.Cond.selects "HillSchoolModel" ({ cls := "HillSchoolModel", name := "readClause", desc := "()V" } : Jvm.MethodName) ({ cls := "HillSchoolModel", name := "readClause", desc := "()V" } : Jvm.MethodName)) ∈ zall := zmemG (zmj_0 48 rfl) rfl
theorem zw_1434 : (Jvm.Cond.code ({ cls := "HillSchoolModel", name := "law", desc := "()I" } : Jvm.MethodName) prog_13_method_54_code (3 : Nat) (Option.some Jvm.ClassFile.FieldType.int)) ∈ zall := zmemG (zmj_6 131 rfl) rfl
theorem zw_1435 : (Jvm.Cond.methodLink "HillSchoolModel" (314 : Nat) ({ cls := "HillSchoolModel", name := "begin", desc := "()V" } : Jvm.MethodName)) ∈ zall := zmemG (zmj_6 132 rfl) rfl
theorem zw_1437 : (Jvm.Cond.instanceMethod ({ cls := "HillSchoolModel", name := "begin", desc := "()V" } : Jvm.MethodName)) ∈ zall := zmemG (zmj_6 134 rfl) rfl
theorem zw_1455 : (Jvm.Cond.methodLink "HillSchoolModel" (317 : Nat) ({ cls := "HillSchoolModel", name := "readClause", desc := "()V" } : Jvm.MethodName)) ∈ zall := zmemG (zmj_6 152 rfl) rfl
theorem zw_1457 : (Jvm.Cond.instanceMethod ({ cls := "HillSchoolModel", name := "readClause", desc := "()V" } : Jvm.MethodName)) ∈ zall := zmemG (zmj_6 154 rfl) rfl
abbrev w_HM_law : List Cond := .code yX11_law cX11_law 3 (some .int) :: zall
abbrev rm_HM_law : Room := { frames := 8, cells := 0, slots := 0, locals := 171 }
theorem hd_HM_law : yX11_law.cls = "HillSchoolModel" ∧ yX11_law.cls ≠ "java/lang/invoke/MethodHandle" ∧ yX11_law.cls ≠ "java/lang/invoke/VarHandle" ∧ (parseMethodDescriptor yX11_law.desc).map (fun d => d.parameters.length) = some 0 := by decide +kernel
def wd_HM_law (cA : Nat → ClassId) (q0 q1 q2 q3 q4 q5 q6 q7 q8 q9 q10 q11 q12 q13 q14 q15 q16 q17 q18 q19 q20 q21 q22 q23 q24 q25 q26 q27 q28 q29 q30 q31 : Nat) (u0 u1 u2 u3 u4 u5 u6 u7 : Int) (i_tape : Nat → Int) (i_words : Nat → Int) (i_thrown : Int) (i_status : Int) (i_taped : Int) (i_from : Int) (i_to : Int) (i_sort : Int) (i_worth : Int) (i_fault : Int) (i_bad : Int) (i_nClauses : Int) (i_nCode : Int) (i_nLeaves : Int) (i_piled : Int) (i_opened : Int) (i_refusals : Nat → Int) (i_row : Nat → Int) (i_nClause : Nat → Int) (i_nOp : Nat → Int) (i_nArg : Nat → Int) (i_pile : Nat → Int) (i_pileAt : Nat → Int) : va_W := [(q0, .inr (11, [.int (Int32.ofInt i_thrown), .int (Int32.ofInt i_status), .ref q1, .ref q2, .ref q3, .ref q4, .int (Int32.ofInt u0), .ref q5, .int (Int32.ofInt i_taped), .int (Int32.ofInt i_from), .int (Int32.ofInt i_to), .int (Int32.ofInt i_sort), .long (Int64.ofInt i_worth), .int (Int32.ofInt i_fault), .int (Int32.ofInt i_bad), .int (Int32.ofInt i_nClauses), .ref q6, .int (Int32.ofInt i_nCode), .ref q7, .ref q8, .int (Int32.ofInt i_nLeaves), .ref q9, .ref q10, .int (Int32.ofInt i_piled), .int (Int32.ofInt i_opened), .ref q11, .int (Int32.ofInt u1), .ref q12, .ref q13, .int (Int32.ofInt u2), .long (Int64.ofInt u3), .long (Int64.ofInt u4), .ref q14, .ref q15, .ref q16, .ref q17, .ref q18, .int (Int32.ofInt u5), .ref q19, .ref q20, .ref q21, .ref q22, .ref q23, .ref q24, .ref q25, .ref q26, .ref q27, .ref q28, .ref q29, .ref q30, .long (Int64.ofInt u6), .ref q31, .int (Int32.ofInt u7)])), (q1, .inl (cA 0, 7, .inl (za i_refusals))), (q2, .inl (cA 0, 5580, .inl (za i_row))), (q5, .inl (cA 0, 400, .inl (za i_tape))), (q6, .inl (cA 0, 96, .inl (za i_nClause))), (q7, .inl (cA 0, 400, .inl (za i_nOp))), (q8, .inl (cA 0, 400, .inl (za i_nArg))), (q9, .inl (cA 0, 400, .inl (za i_pile))), (q10, .inl (cA 0, 400, .inl (za i_pileAt))), (q11, .inl (cA 2, 8, .inr (.inl (zl i_words))))]
def wf_HM_law (cA : Nat → ClassId) (q0 q1 q2 q3 q4 q5 q6 q7 q8 q9 q10 q11 q12 q13 q14 q15 q16 q17 q18 q19 q20 q21 q22 q23 q24 q25 q26 q27 q28 q29 q30 q31 : Nat) (u0 u1 u2 u3 u4 u5 u6 u7 : Int) (i_tape : Nat → Int) (i_words : Nat → Int) (o : Int × Int × Int × Int × Int × Int × Int × Int × Int × Int × Int × Int × Int × Int × Int × (Nat → Int) × (Nat → Int) × (Nat → Int) × (Nat → Int) × (Nat → Int) × (Nat → Int) × (Nat → Int)) : va_W := wd_HM_law cA q0 q1 q2 q3 q4 q5 q6 q7 q8 q9 q10 q11 q12 q13 q14 q15 q16 q17 q18 q19 q20 q21 q22 q23 q24 q25 q26 q27 q28 q29 q30 q31 u0 u1 u2 u3 u4 u5 u6 u7 i_tape i_words o.2.1 o.2.2.1 o.2.2.2.1 o.2.2.2.2.1 o.2.2.2.2.2.1 o.2.2.2.2.2.2.1 o.2.2.2.2.2.2.2.1 o.2.2.2.2.2.2.2.2.1 o.2.2.2.2.2.2.2.2.2.1 o.2.2.2.2.2.2.2.2.2.2.1 o.2.2.2.2.2.2.2.2.2.2.2.1 o.2.2.2.2.2.2.2.2.2.2.2.2.1 o.2.2.2.2.2.2.2.2.2.2.2.2.2.1 o.2.2.2.2.2.2.2.2.2.2.2.2.2.2.1 o.2.2.2.2.2.2.2.2.2.2.2.2.2.2.2.1 o.2.2.2.2.2.2.2.2.2.2.2.2.2.2.2.2.1 o.2.2.2.2.2.2.2.2.2.2.2.2.2.2.2.2.2.1 o.2.2.2.2.2.2.2.2.2.2.2.2.2.2.2.2.2.2.1 o.2.2.2.2.2.2.2.2.2.2.2.2.2.2.2.2.2.2.2.1 o.2.2.2.2.2.2.2.2.2.2.2.2.2.2.2.2.2.2.2.2.1 o.2.2.2.2.2.2.2.2.2.2.2.2.2.2.2.2.2.2.2.2.2
def f_HM_law_180_b (i_tape : Nat → Int) (i_words : Nat → Int) (k180 : Int → Int → Int → Int → Int → Int → Int → Int → Int → Int → Int → Int → Int → Int → Int → Int → (Nat → Int) → (Nat → Int) → (Nat → Int) → (Nat → Int) → (Nat → Int) → (Nat → Int) → (Nat → Int) → Option (Int × Int × Int × Int × Int × Int × Int × Int × Int × Int × Int × Int × Int × Int × Int × (Nat → Int) × (Nat → Int) × (Nat → Int) × (Nat → Int) × (Nat → Int) × (Nat → Int) × (Nat → Int))) (x1 : Int) (x2 : Int) (i_thrown : Int) (i_status : Int) (i_taped : Int) (i_from : Int) (i_to : Int) (i_sort : Int) (i_worth : Int) (i_fault : Int) (i_bad : Int) (i_nClauses : Int) (i_nCode : Int) (i_nLeaves : Int) (i_piled : Int) (i_opened : Int) (i_refusals : Nat → Int) (i_row : Nat → Int) (i_nClause : Nat → Int) (i_nOp : Nat → Int) (i_nArg : Nat → Int) (i_pile : Nat → Int) (i_pileAt : Nat → Int) : Option (Int × Int × Int × Int × Int × Int × Int × Int × Int × Int × Int × Int × Int × Int × Int × (Nat → Int) × (Nat → Int) × (Nat → Int) × (Nat → Int) × (Nat → Int) × (Nat → Int) × (Nat → Int)) :=
  if zi_w i_nCode ≤ zi_w x2 then
    zg 5580 i_row 3 fun v1 =>
    zn (v1 + 1) fun v2 =>
    zs 5580 i_row 3 v2 fun a3 =>
    zg 5580 a3 3 fun v4 =>
    zn (v4 - 1) fun v5 =>
    zd3 (f_HM_tell v5 i_status i_refusals) fun v6 v7 a8 =>
    some (v6, i_thrown, v7, i_taped, i_from, i_to, i_sort, i_worth, i_fault, i_bad, i_nClauses, i_nCode, i_nLeaves, i_piled, i_opened, a8, a3, i_nClause, i_nOp, i_nArg, i_pile, i_pileAt)
  else
    zn (x1 + 98) fun v9 =>
    zn (2 * x2) fun v10 =>
    zn (v9 + v10) fun v11 =>
    zg 400 i_nOp x2 fun v12 =>
    zs 5580 i_row v11 v12 fun a13 =>
    zn (x1 + 98) fun v14 =>
    zn (2 * x2) fun v15 =>
    zn (v14 + v15) fun v16 =>
    zn (v16 + 1) fun v17 =>
    zg 400 i_nArg x2 fun v18 =>
    zs 5580 a13 v17 v18 fun a19 =>
    zn (x2 + 1) fun v20 =>
    k180 x1 v20 i_thrown i_status i_taped i_from i_to i_sort i_worth i_fault i_bad i_nClauses i_nCode i_nLeaves i_piled i_opened i_refusals a19 i_nClause i_nOp i_nArg i_pile i_pileAt
def f_HM_law_180 (i_tape : Nat → Int) (i_words : Nat → Int) : Nat → Int → Int → Int → Int → Int → Int → Int → Int → Int → Int → Int → Int → Int → Int → Int → Int → (Nat → Int) → (Nat → Int) → (Nat → Int) → (Nat → Int) → (Nat → Int) → (Nat → Int) → (Nat → Int) → Option (Int × Int × Int × Int × Int × Int × Int × Int × Int × Int × Int × Int × Int × Int × Int × (Nat → Int) × (Nat → Int) × (Nat → Int) × (Nat → Int) × (Nat → Int) × (Nat → Int) × (Nat → Int))
  | 0 => fun _ _ _ _ _ _ _ _ _ _ _ _ _ _ _ _ _ _ _ _ _ _ _ => none
  | n + 1 => fun y0 y1 y2 y3 y4 y5 y6 y7 y8 y9 y10 y11 y12 y13 y14 y15 y16 y17 y18 y19 y20 y21 y22 => f_HM_law_180_b i_tape i_words (f_HM_law_180 i_tape i_words n) y0 y1 y2 y3 y4 y5 y6 y7 y8 y9 y10 y11 y12 y13 y14 y15 y16 y17 y18 y19 y20 y21 y22
def f_HM_law_145_b (i_tape : Nat → Int) (i_words : Nat → Int) (k145 : Int → Int → Int → Int → Int → Int → Int → Int → Int → Int → Int → Int → Int → Int → Int → Int → (Nat → Int) → (Nat → Int) → (Nat → Int) → (Nat → Int) → (Nat → Int) → (Nat → Int) → (Nat → Int) → Option (Int × Int × Int × Int × Int × Int × Int × Int × Int × Int × Int × Int × Int × Int × Int × (Nat → Int) × (Nat → Int) × (Nat → Int) × (Nat → Int) × (Nat → Int) × (Nat → Int) × (Nat → Int))) (x1 : Int) (x2 : Int) (i_thrown : Int) (i_status : Int) (i_taped : Int) (i_from : Int) (i_to : Int) (i_sort : Int) (i_worth : Int) (i_fault : Int) (i_bad : Int) (i_nClauses : Int) (i_nCode : Int) (i_nLeaves : Int) (i_piled : Int) (i_opened : Int) (i_refusals : Nat → Int) (i_row : Nat → Int) (i_nClause : Nat → Int) (i_nOp : Nat → Int) (i_nArg : Nat → Int) (i_pile : Nat → Int) (i_pileAt : Nat → Int) : Option (Int × Int × Int × Int × Int × Int × Int × Int × Int × Int × Int × Int × Int × Int × Int × (Nat → Int) × (Nat → Int) × (Nat → Int) × (Nat → Int) × (Nat → Int) × (Nat → Int) × (Nat → Int)) :=
  zn (8 * i_nClauses) fun v1 =>
  if zi_w v1 ≤ zi_w x2 then
    f_HM_law_180 i_tape i_words zfu x1 0 i_thrown i_status i_taped i_from i_to i_sort i_worth i_fault i_bad i_nClauses i_nCode i_nLeaves i_piled i_opened i_refusals i_row i_nClause i_nOp i_nArg i_pile i_pileAt
  else
    zn (x1 + 2) fun v2 =>
    zn (v2 + x2) fun v3 =>
    zg 96 i_nClause x2 fun v4 =>
    zs 5580 i_row v3 v4 fun a5 =>
    zn (x2 + 1) fun v6 =>
    k145 x1 v6 i_thrown i_status i_taped i_from i_to i_sort i_worth i_fault i_bad i_nClauses i_nCode i_nLeaves i_piled i_opened i_refusals a5 i_nClause i_nOp i_nArg i_pile i_pileAt
def f_HM_law_145 (i_tape : Nat → Int) (i_words : Nat → Int) : Nat → Int → Int → Int → Int → Int → Int → Int → Int → Int → Int → Int → Int → Int → Int → Int → Int → (Nat → Int) → (Nat → Int) → (Nat → Int) → (Nat → Int) → (Nat → Int) → (Nat → Int) → (Nat → Int) → Option (Int × Int × Int × Int × Int × Int × Int × Int × Int × Int × Int × Int × Int × Int × Int × (Nat → Int) × (Nat → Int) × (Nat → Int) × (Nat → Int) × (Nat → Int) × (Nat → Int) × (Nat → Int))
  | 0 => fun _ _ _ _ _ _ _ _ _ _ _ _ _ _ _ _ _ _ _ _ _ _ _ => none
  | n + 1 => fun y0 y1 y2 y3 y4 y5 y6 y7 y8 y9 y10 y11 y12 y13 y14 y15 y16 y17 y18 y19 y20 y21 y22 => f_HM_law_145_b i_tape i_words (f_HM_law_145 i_tape i_words n) y0 y1 y2 y3 y4 y5 y6 y7 y8 y9 y10 y11 y12 y13 y14 y15 y16 y17 y18 y19 y20 y21 y22
def f_HM_law_97 (i_tape : Nat → Int) (i_words : Nat → Int) (i_thrown : Int) (i_status : Int) (i_taped : Int) (i_from : Int) (i_to : Int) (i_sort : Int) (i_worth : Int) (i_fault : Int) (i_bad : Int) (i_nClauses : Int) (i_nCode : Int) (i_nLeaves : Int) (i_piled : Int) (i_opened : Int) (i_refusals : Nat → Int) (i_row : Nat → Int) (i_nClause : Nat → Int) (i_nOp : Nat → Int) (i_nArg : Nat → Int) (i_pile : Nat → Int) (i_pileAt : Nat → Int) : Option (Int × Int × Int × Int × Int × Int × Int × Int × Int × Int × Int × Int × Int × Int × Int × (Nat → Int) × (Nat → Int) × (Nat → Int) × (Nat → Int) × (Nat → Int) × (Nat → Int) × (Nat → Int)) :=
  if zi_w i_bad = 0 then
    zg 5580 i_row 3 fun v1 =>
    zn (900 * v1) fun v2 =>
    zn (180 + v2) fun v3 =>
    zn (v3 + 1) fun v4 =>
    zs 5580 i_row v4 i_nClauses fun a5 =>
    f_HM_law_145 i_tape i_words zfu v3 0 i_thrown i_status 0 i_from i_to i_sort i_worth i_fault i_bad i_nClauses i_nCode i_nLeaves i_piled i_opened i_refusals a5 i_nClause i_nOp i_nArg i_pile i_pileAt
  else
    zd3 (f_HM_tell (-6) i_status i_refusals) fun v6 v7 a8 =>
    some (v6, i_thrown, v7, 0, i_from, i_to, i_sort, i_worth, i_fault, i_bad, i_nClauses, i_nCode, i_nLeaves, i_piled, i_opened, a8, i_row, i_nClause, i_nOp, i_nArg, i_pile, i_pileAt)
def f_HM_law_78 (i_tape : Nat → Int) (i_words : Nat → Int) (i_thrown : Int) (i_status : Int) (i_taped : Int) (i_from : Int) (i_to : Int) (i_sort : Int) (i_worth : Int) (i_fault : Int) (i_bad : Int) (i_nClauses : Int) (i_nCode : Int) (i_nLeaves : Int) (i_piled : Int) (i_opened : Int) (i_refusals : Nat → Int) (i_row : Nat → Int) (i_nClause : Nat → Int) (i_nOp : Nat → Int) (i_nArg : Nat → Int) (i_pile : Nat → Int) (i_pileAt : Nat → Int) : Option (Int × Int × Int × Int × Int × Int × Int × Int × Int × Int × Int × Int × Int × Int × Int × (Nat → Int) × (Nat → Int) × (Nat → Int) × (Nat → Int) × (Nat → Int) × (Nat → Int) × (Nat → Int)) :=
  if zi_w i_bad ≠ 0 then
    f_HM_law_97 i_tape i_words i_thrown i_status i_taped i_from i_to i_sort i_worth i_fault i_bad i_nClauses i_nCode i_nLeaves i_piled i_opened i_refusals i_row i_nClause i_nOp i_nArg i_pile i_pileAt
  else
    if zi_w i_sort = 0 then
      f_HM_law_97 i_tape i_words i_thrown i_status i_taped i_from i_to i_sort i_worth i_fault i_bad i_nClauses i_nCode i_nLeaves i_piled i_opened i_refusals i_row i_nClause i_nOp i_nArg i_pile i_pileAt
    else
      zd6 (f_HM_must 0 i_taped i_tape i_from i_to i_sort i_worth i_fault i_bad) fun v1 v2 v3 v4 v5 v6 =>
      f_HM_law_97 i_tape i_words i_thrown i_status i_taped v1 v2 v3 v4 v5 v6 i_nClauses i_nCode i_nLeaves i_piled i_opened i_refusals i_row i_nClause i_nOp i_nArg i_pile i_pileAt
def f_HM_law_51_b (i_tape : Nat → Int) (i_words : Nat → Int) (k51 : Int → Int → Int → Int → Int → Int → Int → Int → Int → Int → Int → Int → Int → Int → (Nat → Int) → (Nat → Int) → (Nat → Int) → (Nat → Int) → (Nat → Int) → (Nat → Int) → (Nat → Int) → Option (Int × Int × Int × Int × Int × Int × Int × Int × Int × Int × Int × Int × Int × Int × Int × (Nat → Int) × (Nat → Int) × (Nat → Int) × (Nat → Int) × (Nat → Int) × (Nat → Int) × (Nat → Int))) (i_thrown : Int) (i_status : Int) (i_taped : Int) (i_from : Int) (i_to : Int) (i_sort : Int) (i_worth : Int) (i_fault : Int) (i_bad : Int) (i_nClauses : Int) (i_nCode : Int) (i_nLeaves : Int) (i_piled : Int) (i_opened : Int) (i_refusals : Nat → Int) (i_row : Nat → Int) (i_nClause : Nat → Int) (i_nOp : Nat → Int) (i_nArg : Nat → Int) (i_pile : Nat → Int) (i_pileAt : Nat → Int) : Option (Int × Int × Int × Int × Int × Int × Int × Int × Int × Int × Int × Int × Int × Int × Int × (Nat → Int) × (Nat → Int) × (Nat → Int) × (Nat → Int) × (Nat → Int) × (Nat → Int) × (Nat → Int)) :=
  if zi_w i_bad ≠ 0 then
    f_HM_law_78 i_tape i_words i_thrown i_status i_taped i_from i_to i_sort i_worth i_fault i_bad i_nClauses i_nCode i_nLeaves i_piled i_opened i_refusals i_row i_nClause i_nOp i_nArg i_pile i_pileAt
  else
    zd1 (f_HM_isSign 59 i_sort i_worth) fun v1 =>
    if zi_w v1 = 0 then
      f_HM_law_78 i_tape i_words i_thrown i_status i_taped i_from i_to i_sort i_worth i_fault i_bad i_nClauses i_nCode i_nLeaves i_piled i_opened i_refusals i_row i_nClause i_nOp i_nArg i_pile i_pileAt
    else
      zd4 (f_HM_next i_taped i_tape i_from i_to i_sort i_worth) fun v2 v3 v4 v5 =>
      zd16 (f_HM_readClause i_taped i_tape i_words v2 v3 v4 v5 i_fault i_bad i_nClauses i_nCode i_nLeaves i_piled i_opened i_nClause i_nOp i_nArg i_pile i_pileAt) fun v6 v7 v8 v9 v10 v11 v12 v13 v14 v15 v16 a17 a18 a19 a20 a21 =>
      k51 i_thrown i_status i_taped v6 v7 v8 v9 v10 v11 v12 v13 v14 v15 v16 i_refusals i_row a17 a18 a19 a20 a21
def f_HM_law_51 (i_tape : Nat → Int) (i_words : Nat → Int) : Nat → Int → Int → Int → Int → Int → Int → Int → Int → Int → Int → Int → Int → Int → Int → (Nat → Int) → (Nat → Int) → (Nat → Int) → (Nat → Int) → (Nat → Int) → (Nat → Int) → (Nat → Int) → Option (Int × Int × Int × Int × Int × Int × Int × Int × Int × Int × Int × Int × Int × Int × Int × (Nat → Int) × (Nat → Int) × (Nat → Int) × (Nat → Int) × (Nat → Int) × (Nat → Int) × (Nat → Int))
  | 0 => fun _ _ _ _ _ _ _ _ _ _ _ _ _ _ _ _ _ _ _ _ _ => none
  | n + 1 => fun y0 y1 y2 y3 y4 y5 y6 y7 y8 y9 y10 y11 y12 y13 y14 y15 y16 y17 y18 y19 y20 => f_HM_law_51_b i_tape i_words (f_HM_law_51 i_tape i_words n) y0 y1 y2 y3 y4 y5 y6 y7 y8 y9 y10 y11 y12 y13 y14 y15 y16 y17 y18 y19 y20
def f_HM_law (i_tape : Nat → Int) (i_words : Nat → Int) (i_thrown : Int) (i_status : Int) (i_taped : Int) (i_from : Int) (i_to : Int) (i_sort : Int) (i_worth : Int) (i_fault : Int) (i_bad : Int) (i_nClauses : Int) (i_nCode : Int) (i_nLeaves : Int) (i_piled : Int) (i_opened : Int) (i_refusals : Nat → Int) (i_row : Nat → Int) (i_nClause : Nat → Int) (i_nOp : Nat → Int) (i_nArg : Nat → Int) (i_pile : Nat → Int) (i_pileAt : Nat → Int) : Option (Int × Int × Int × Int × Int × Int × Int × Int × Int × Int × Int × Int × Int × Int × Int × (Nat → Int) × (Nat → Int) × (Nat → Int) × (Nat → Int) × (Nat → Int) × (Nat → Int) × (Nat → Int)) :=
  zg 5580 i_row 3 fun v1 =>
  if zi_w v1 ≠ zi_w 6 then
    zd6 (f_HM_begin i_taped i_tape i_from i_to i_sort i_worth i_fault i_bad) fun v2 v3 v4 v5 v6 v7 =>
    zd16 (f_HM_readClause i_taped i_tape i_words v2 v3 v4 v5 v6 v7 0 0 0 i_piled i_opened i_nClause i_nOp i_nArg i_pile i_pileAt) fun v8 v9 v10 v11 v12 v13 v14 v15 v16 v17 v18 a19 a20 a21 a22 a23 =>
    f_HM_law_51 i_tape i_words zfu 0 i_status i_taped v8 v9 v10 v11 v12 v13 v14 v15 v16 v17 v18 i_refusals i_row a19 a20 a21 a22 a23
  else
    zd3 (f_HM_tell (-5) i_status i_refusals) fun v24 v25 a26 =>
    some (v24, 0, v25, 0, i_from, i_to, i_sort, i_worth, i_fault, i_bad, i_nClauses, i_nCode, i_nLeaves, i_piled, i_opened, a26, i_row, i_nClause, i_nOp, i_nArg, i_pile, i_pileAt)
set_option maxHeartbeats 4000000 in
set_option maxRecDepth 100000 in
theorem c_HM_law (l : Launch) (ev : zEv) (dC : Nat → ClassId) (dI : Nat → Nat → Nat) (cA : Nat → ClassId) (q0 q1 q2 q3 q4 q5 q6 q7 q8 q9 q10 q11 q12 q13 q14 q15 q16 q17 q18 q19 q20 q21 q22 q23 q24 q25 q26 q27 q28 q29 q30 q31 : Nat) (u0 u1 u2 u3 u4 u5 u6 u7 : Int) {i_tape : Nat → Int} {i_words : Nat → Int} {i_thrown : Int} {i_status : Int} {i_taped : Int} {i_from : Int} {i_to : Int} {i_sort : Int} {i_worth : Int} {i_fault : Int} {i_bad : Int} {i_nClauses : Int} {i_nCode : Int} {i_nLeaves : Int} {i_piled : Int} {i_opened : Int} {i_refusals : Nat → Int} {i_row : Nat → Int} {i_nClause : Nat → Int} {i_nOp : Nat → Int} {i_nArg : Nat → Int} {i_pile : Nat → Int} {i_pileAt : Nat → Int} {out : Int × Int × Int × Int × Int × Int × Int × Int × Int × Int × Int × Int × Int × Int × Int × (Nat → Int) × (Nat → Int) × (Nat → Int) × (Nat → Int) × (Nat → Int) × (Nat → Int) × (Nat → Int)} (hf : f_HM_law i_tape i_words i_thrown i_status i_taped i_from i_to i_sort i_worth i_fault i_bad i_nClauses i_nCode i_nLeaves i_piled i_opened i_refusals i_row i_nClause i_nOp i_nArg i_pile i_pileAt = some out) : xc_I l ev (dC, dI) vwCl (tyl cA) yX11_law w_HM_law rm_HM_law [.ref q0] (wd_HM_law cA q0 q1 q2 q3 q4 q5 q6 q7 q8 q9 q10 q11 q12 q13 q14 q15 q16 q17 q18 q19 q20 q21 q22 q23 q24 q25 q26 q27 q28 q29 q30 q31 u0 u1 u2 u3 u4 u5 u6 u7 i_tape i_words i_thrown i_status i_taped i_from i_to i_sort i_worth i_fault i_bad i_nClauses i_nCode i_nLeaves i_piled i_opened i_refusals i_row i_nClause i_nOp i_nArg i_pile i_pileAt) (wf_HM_law cA q0 q1 q2 q3 q4 q5 q6 q7 q8 q9 q10 q11 q12 q13 q14 q15 q16 q17 q18 q19 q20 q21 q22 q23 q24 q25 q26 q27 q28 q29 q30 q31 u0 u1 u2 u3 u4 u5 u6 u7 i_tape i_words out) out.1 := by
  refine xv_startI (cc := cX11_law) (maxL := 3) (rt := .int) (by decide +kernel) rfl (Nat.le_of_ble_eq_true rfl) ?_
  intro p e s m args below meth c A Q H ls hx hb hml hts hown hK hA hP hD hS hl hE hret
  have hown : s.vm.findClass "HillSchoolModel" = some m.cls := hown
  have hz : ∀ w ∈ zall, w.before args s = true := fun w h => hts w (List.mem_cons_of_mem _ h)
  have hl : lv_has ls 3 [(0, .ref q0)] := hl
  have b_180 : ∀ (k180 : Int → Int → Int → Int → Int → Int → Int → Int → Int → Int → Int → Int → Int → Int → Int → Int → (Nat → Int) → (Nat → Int) → (Nat → Int) → (Nat → Int) → (Nat → Int) → (Nat → Int) → (Nat → Int) → Option (Int × Int × Int × Int × Int × Int × Int × Int × Int × Int × Int × Int × Int × Int × Int × (Nat → Int) × (Nat → Int) × (Nat → Int) × (Nat → Int) × (Nat → Int) × (Nat → Int) × (Nat → Int))) (_ : ∀ (x1 : Int) (x2 : Int) (i_thrown : Int) (i_status : Int) (i_taped : Int) (i_from : Int) (i_to : Int) (i_sort : Int) (i_worth : Int) (i_fault : Int) (i_bad : Int) (i_nClauses : Int) (i_nCode : Int) (i_nLeaves : Int) (i_piled : Int) (i_opened : Int) (i_refusals : Nat → Int) (i_row : Nat → Int) (i_nClause : Nat → Int) (i_nOp : Nat → Int) (i_nArg : Nat → Int) (i_pile : Nat → Int) (i_pileAt : Nat → Int) (H : Heap) (locs : List Loc) (ls : Array Slot), k180 x1 x2 i_thrown i_status i_taped i_from i_to i_sort i_worth i_fault i_bad i_nClauses i_nCode i_nLeaves i_piled i_opened i_refusals i_row i_nClause i_nOp i_nArg i_pile i_pileAt = some out → va_P (dC, dI) vwCl (wd_HM_law cA q0 q1 q2 q3 q4 q5 q6 q7 q8 q9 q10 q11 q12 q13 q14 q15 q16 q17 q18 q19 q20 q21 q22 q23 q24 q25 q26 q27 q28 q29 q30 q31 u0 u1 u2 u3 u4 u5 u6 u7 i_tape i_words i_thrown i_status i_taped i_from i_to i_sort i_worth i_fault i_bad i_nClauses i_nCode i_nLeaves i_piled i_opened i_refusals i_row i_nClause i_nOp i_nArg i_pile i_pileAt) H → va_D A (wd_HM_law cA q0 q1 q2 q3 q4 q5 q6 q7 q8 q9 q10 q11 q12 q13 q14 q15 q16 q17 q18 q19 q20 q21 q22 q23 q24 q25 q26 q27 q28 q29 q30 q31 u0 u1 u2 u3 u4 u5 u6 u7 i_tape i_words i_thrown i_status i_taped i_from i_to i_sort i_worth i_fault i_bad i_nClauses i_nCode i_nLeaves i_piled i_opened i_refusals i_row i_nClause i_nOp i_nArg i_pile i_pileAt) → va_S A s.heap H locs → lv_has ls 3 [(0, .ref q0), (1, .int (Int32.ofInt x1)), (2, .int (Int32.ofInt x2))] → W p l e rm_HM_law s m args below meth c H locs 0 0 Q (F0 m 180 ls [])), ∀ (x1 : Int) (x2 : Int) (i_thrown : Int) (i_status : Int) (i_taped : Int) (i_from : Int) (i_to : Int) (i_sort : Int) (i_worth : Int) (i_fault : Int) (i_bad : Int) (i_nClauses : Int) (i_nCode : Int) (i_nLeaves : Int) (i_piled : Int) (i_opened : Int) (i_refusals : Nat → Int) (i_row : Nat → Int) (i_nClause : Nat → Int) (i_nOp : Nat → Int) (i_nArg : Nat → Int) (i_pile : Nat → Int) (i_pileAt : Nat → Int) (H : Heap) (locs : List Loc) (ls : Array Slot), f_HM_law_180_b i_tape i_words k180 x1 x2 i_thrown i_status i_taped i_from i_to i_sort i_worth i_fault i_bad i_nClauses i_nCode i_nLeaves i_piled i_opened i_refusals i_row i_nClause i_nOp i_nArg i_pile i_pileAt = some out → va_P (dC, dI) vwCl (wd_HM_law cA q0 q1 q2 q3 q4 q5 q6 q7 q8 q9 q10 q11 q12 q13 q14 q15 q16 q17 q18 q19 q20 q21 q22 q23 q24 q25 q26 q27 q28 q29 q30 q31 u0 u1 u2 u3 u4 u5 u6 u7 i_tape i_words i_thrown i_status i_taped i_from i_to i_sort i_worth i_fault i_bad i_nClauses i_nCode i_nLeaves i_piled i_opened i_refusals i_row i_nClause i_nOp i_nArg i_pile i_pileAt) H → va_D A (wd_HM_law cA q0 q1 q2 q3 q4 q5 q6 q7 q8 q9 q10 q11 q12 q13 q14 q15 q16 q17 q18 q19 q20 q21 q22 q23 q24 q25 q26 q27 q28 q29 q30 q31 u0 u1 u2 u3 u4 u5 u6 u7 i_tape i_words i_thrown i_status i_taped i_from i_to i_sort i_worth i_fault i_bad i_nClauses i_nCode i_nLeaves i_piled i_opened i_refusals i_row i_nClause i_nOp i_nArg i_pile i_pileAt) → va_S A s.heap H locs → lv_has ls 3 [(0, .ref q0), (1, .int (Int32.ofInt x1)), (2, .int (Int32.ofInt x2))] → W p l e rm_HM_law s m args below meth c H locs 0 0 Q (F0 m 180 ls []) := by
    intro k180 ih180 x1 x2 i_thrown i_status i_taped i_from i_to i_sort i_worth i_fault i_bad i_nClauses i_nCode i_nLeaves i_piled i_opened i_refusals i_row i_nClause i_nOp i_nArg i_pile i_pileAt H locs ls hf hP hD hS hl
    unfold f_HM_law_180_b at hf
    refine lv_iload_n hx hb dX11_law_180 rfl (lv_at hl 2 rfl) ?_
    refine lv_aload_n hx hb dX11_law_181 rfl (lv_at hl 0 rfl) ?_
    refine va_get (D := (dC, dI)) (ci := 11) (v := .int (Int32.ofInt i_nCode)) (C := RX11) (T := TX11) (N := 53) hx hb hz zi_X11 hown hK hP 0 rfl rfl 17 (by decide) (hz _ zw_1182) (fun _ h9 => h9) rfl dX11_law_182 ?_
    refine xi_icmp_ge (tgt := 234) hx hb dX11_law_185 (by decide) hf (fun hf => ?_) (fun hf => ?_)
    · refine lv_aload_n hx hb dX11_law_234 rfl (lv_at hl 0 rfl) ?_
      refine va_get (D := (dC, dI)) (ci := 11) (v := .ref q2) (C := RX11) (T := TX11) (N := 53) hx hb hz zi_X11 hown hK hP 0 rfl rfl 3 (by decide) (hz _ zw_1168) (fun _ h9 => h9) rfl dX11_law_235 ?_
      refine lv_iconst (v := Int32.ofInt 3) hx hb dX11_law_238 rfl ?_
      refine lv_dup2_11 hx hb dX11_law_239 rfl rfl ?_
      refine xi_iald hx hb hK hP 2 0 rfl rfl dX11_law_240 hf (fun v1 hf => ?_)
      refine lv_iconst (v := Int32.ofInt 1) hx hb dX11_law_241 rfl ?_
      refine xi_iadd hx hb dX11_law_242 hf (fun v2 hf => ?_)
      refine xi_iast hx hb hK hP hD hS 2 0 rfl rfl dX11_law_243 hf (fun a3 H locs hP hD hS hf => ?_)
      have hP : va_P (dC, dI) vwCl (wd_HM_law cA q0 q1 q2 q3 q4 q5 q6 q7 q8 q9 q10 q11 q12 q13 q14 q15 q16 q17 q18 q19 q20 q21 q22 q23 q24 q25 q26 q27 q28 q29 q30 q31 u0 u1 u2 u3 u4 u5 u6 u7 i_tape i_words i_thrown i_status i_taped i_from i_to i_sort i_worth i_fault i_bad i_nClauses i_nCode i_nLeaves i_piled i_opened i_refusals a3 i_nClause i_nOp i_nArg i_pile i_pileAt) H := hP
      have hD : va_D A (wd_HM_law cA q0 q1 q2 q3 q4 q5 q6 q7 q8 q9 q10 q11 q12 q13 q14 q15 q16 q17 q18 q19 q20 q21 q22 q23 q24 q25 q26 q27 q28 q29 q30 q31 u0 u1 u2 u3 u4 u5 u6 u7 i_tape i_words i_thrown i_status i_taped i_from i_to i_sort i_worth i_fault i_bad i_nClauses i_nCode i_nLeaves i_piled i_opened i_refusals a3 i_nClause i_nOp i_nArg i_pile i_pileAt) := hD
      refine lv_aload_n hx hb dX11_law_244 rfl (lv_at hl 0 rfl) ?_
      refine lv_aload_n hx hb dX11_law_245 rfl (lv_at hl 0 rfl) ?_
      refine va_get (D := (dC, dI)) (ci := 11) (v := .ref q2) (C := RX11) (T := TX11) (N := 53) hx hb hz zi_X11 hown hK hP 0 rfl rfl 3 (by decide) (hz _ zw_1168) (fun _ h9 => h9) rfl dX11_law_246 ?_
      refine lv_iconst (v := Int32.ofInt 3) hx hb dX11_law_249 rfl ?_
      refine xi_iald hx hb hK hP 2 0 rfl rfl dX11_law_250 hf (fun v4 hf => ?_)
      refine lv_iconst (v := Int32.ofInt 1) hx hb dX11_law_251 rfl ?_
      refine xi_isub hx hb dX11_law_252 hf (fun v5 hf => ?_)
      refine xe_d3 hf (fun v6 v7 a8 hg hf => ?_)
      have hC : ([0, 1] : List Nat).map (fun i => (wd_HM_law cA q0 q1 q2 q3 q4 q5 q6 q7 q8 q9 q10 q11 q12 q13 q14 q15 q16 q17 q18 q19 q20 q21 q22 q23 q24 q25 q26 q27 q28 q29 q30 q31 u0 u1 u2 u3 u4 u5 u6 u7 i_tape i_words i_thrown i_status i_taped i_from i_to i_sort i_worth i_fault i_bad i_nClauses i_nCode i_nLeaves i_piled i_opened i_refusals a3 i_nClause i_nOp i_nArg i_pile i_pileAt)[i]?) = (wd_HM_tell cA q0 q1 q2 q3 q4 q5 q6 q7 q8 q9 q10 q11 q12 q13 q14 q15 q16 q17 q18 q19 q20 q21 q22 q23 q24 q25 q26 q27 q28 q29 q30 q31 i_thrown u0 i_taped i_from i_to i_sort i_worth i_fault i_bad i_nClauses i_nCode i_nLeaves i_piled i_opened u1 u2 u3 u4 u5 u6 u7 i_status i_refusals).map some := rfl
      refine xv_afterI (ws' := (wd_HM_law cA q0 q1 q2 q3 q4 q5 q6 q7 q8 q9 q10 q11 q12 q13 q14 q15 q16 q17 q18 q19 q20 q21 q22 q23 q24 q25 q26 q27 q28 q29 q30 q31 u0 u1 u2 u3 u4 u5 u6 u7 i_tape i_words i_thrown v7 i_taped i_from i_to i_sort i_worth i_fault i_bad i_nClauses i_nCode i_nLeaves i_piled i_opened a8 a3 i_nClause i_nOp i_nArg i_pile i_pileAt)) (isC := [0, 1]) (ps := [some 0, some 1, none, none, none, none, none, none, none, none]) (va_runV (As := [.int (Int32.ofInt v5)]) (rest := []) ⟨hx, hb, hml, hown, hts⟩ (c_HM_tell l ev dC dI cA q0 q1 q2 q3 q4 q5 q6 q7 q8 q9 q10 q11 q12 q13 q14 q15 q16 q17 q18 q19 q20 q21 q22 q23 q24 q25 q26 q27 q28 q29 q30 q31 i_thrown u0 i_taped i_from i_to i_sort i_worth i_fault i_bad i_nClauses i_nCode i_nLeaves i_piled i_opened u1 u2 u3 u4 u5 u6 u7 hg H.size) (cwV 1 hts (zgV zw_1332 zw_1334 zw_40 zw_115 zw_1335) rfl rfl rfl hd_HM_tell ⟨Nat.le_of_ble_eq_true rfl, Nat.le_of_ble_eq_true rfl⟩) (xv_preV (T := TX11) (N := 53) hE hA hS hK hP hD (isC := [0, 1]) (by decide +kernel) hC (q0 := 0) (ci := 11) rfl rfl) rfl rfl hl.1 rfl (lv_room (Nat.le_of_ble_eq_true rfl)) dX11_law_253 ⟨Nat.le_refl _, Nat.le_refl _⟩) hP hD hS hA (by decide +kernel) rfl hC rfl rfl (fun H locs hP hD hS => ?_)
      obtain rfl := Option.some.inj hf
      exact hret _ _ _ _ rfl dX11_law_256 hP hD hS
    · refine lv_aload_n hx hb dX11_law_188 rfl (lv_at hl 0 rfl) ?_
      refine va_get (D := (dC, dI)) (ci := 11) (v := .ref q2) (C := RX11) (T := TX11) (N := 53) hx hb hz zi_X11 hown hK hP 0 rfl rfl 3 (by decide) (hz _ zw_1168) (fun _ h9 => h9) rfl dX11_law_189 ?_
      refine lv_iload_n hx hb dX11_law_192 rfl (lv_at hl 1 rfl) ?_
      refine lv_bipush (v := Int32.ofInt 98) hx hb dX11_law_193 (by decide) ?_
      refine xi_iadd hx hb dX11_law_195 hf (fun v9 hf => ?_)
      refine lv_iconst (v := Int32.ofInt 2) hx hb dX11_law_196 rfl ?_
      refine lv_iload_n hx hb dX11_law_197 rfl (lv_at hl 2 rfl) ?_
      refine xi_imul hx hb dX11_law_198 hf (fun v10 hf => ?_)
      refine xi_iadd hx hb dX11_law_199 hf (fun v11 hf => ?_)
      refine lv_aload_n hx hb dX11_law_200 rfl (lv_at hl 0 rfl) ?_
      refine va_get (D := (dC, dI)) (ci := 11) (v := .ref q7) (C := RX11) (T := TX11) (N := 53) hx hb hz zi_X11 hown hK hP 0 rfl rfl 18 (by decide) (hz _ zw_1183) (fun _ h9 => h9) rfl dX11_law_201 ?_
      refine lv_iload_n hx hb dX11_law_204 rfl (lv_at hl 2 rfl) ?_
      refine xi_iald hx hb hK hP 5 0 rfl rfl dX11_law_205 hf (fun v12 hf => ?_)
      refine xi_iast hx hb hK hP hD hS 2 0 rfl rfl dX11_law_206 hf (fun a13 H locs hP hD hS hf => ?_)
      have hP : va_P (dC, dI) vwCl (wd_HM_law cA q0 q1 q2 q3 q4 q5 q6 q7 q8 q9 q10 q11 q12 q13 q14 q15 q16 q17 q18 q19 q20 q21 q22 q23 q24 q25 q26 q27 q28 q29 q30 q31 u0 u1 u2 u3 u4 u5 u6 u7 i_tape i_words i_thrown i_status i_taped i_from i_to i_sort i_worth i_fault i_bad i_nClauses i_nCode i_nLeaves i_piled i_opened i_refusals a13 i_nClause i_nOp i_nArg i_pile i_pileAt) H := hP
      have hD : va_D A (wd_HM_law cA q0 q1 q2 q3 q4 q5 q6 q7 q8 q9 q10 q11 q12 q13 q14 q15 q16 q17 q18 q19 q20 q21 q22 q23 q24 q25 q26 q27 q28 q29 q30 q31 u0 u1 u2 u3 u4 u5 u6 u7 i_tape i_words i_thrown i_status i_taped i_from i_to i_sort i_worth i_fault i_bad i_nClauses i_nCode i_nLeaves i_piled i_opened i_refusals a13 i_nClause i_nOp i_nArg i_pile i_pileAt) := hD
      refine lv_aload_n hx hb dX11_law_207 rfl (lv_at hl 0 rfl) ?_
      refine va_get (D := (dC, dI)) (ci := 11) (v := .ref q2) (C := RX11) (T := TX11) (N := 53) hx hb hz zi_X11 hown hK hP 0 rfl rfl 3 (by decide) (hz _ zw_1168) (fun _ h9 => h9) rfl dX11_law_208 ?_
      refine lv_iload_n hx hb dX11_law_211 rfl (lv_at hl 1 rfl) ?_
      refine lv_bipush (v := Int32.ofInt 98) hx hb dX11_law_212 (by decide) ?_
      refine xi_iadd hx hb dX11_law_214 hf (fun v14 hf => ?_)
      refine lv_iconst (v := Int32.ofInt 2) hx hb dX11_law_215 rfl ?_
      refine lv_iload_n hx hb dX11_law_216 rfl (lv_at hl 2 rfl) ?_
      refine xi_imul hx hb dX11_law_217 hf (fun v15 hf => ?_)
      refine xi_iadd hx hb dX11_law_218 hf (fun v16 hf => ?_)
      refine lv_iconst (v := Int32.ofInt 1) hx hb dX11_law_219 rfl ?_
      refine xi_iadd hx hb dX11_law_220 hf (fun v17 hf => ?_)
      refine lv_aload_n hx hb dX11_law_221 rfl (lv_at hl 0 rfl) ?_
      refine va_get (D := (dC, dI)) (ci := 11) (v := .ref q8) (C := RX11) (T := TX11) (N := 53) hx hb hz zi_X11 hown hK hP 0 rfl rfl 19 (by decide) (hz _ zw_1184) (fun _ h9 => h9) rfl dX11_law_222 ?_
      refine lv_iload_n hx hb dX11_law_225 rfl (lv_at hl 2 rfl) ?_
      refine xi_iald hx hb hK hP 6 0 rfl rfl dX11_law_226 hf (fun v18 hf => ?_)
      refine xi_iast hx hb hK hP hD hS 2 0 rfl rfl dX11_law_227 hf (fun a19 H locs hP hD hS hf => ?_)
      have hP : va_P (dC, dI) vwCl (wd_HM_law cA q0 q1 q2 q3 q4 q5 q6 q7 q8 q9 q10 q11 q12 q13 q14 q15 q16 q17 q18 q19 q20 q21 q22 q23 q24 q25 q26 q27 q28 q29 q30 q31 u0 u1 u2 u3 u4 u5 u6 u7 i_tape i_words i_thrown i_status i_taped i_from i_to i_sort i_worth i_fault i_bad i_nClauses i_nCode i_nLeaves i_piled i_opened i_refusals a19 i_nClause i_nOp i_nArg i_pile i_pileAt) H := hP
      have hD : va_D A (wd_HM_law cA q0 q1 q2 q3 q4 q5 q6 q7 q8 q9 q10 q11 q12 q13 q14 q15 q16 q17 q18 q19 q20 q21 q22 q23 q24 q25 q26 q27 q28 q29 q30 q31 u0 u1 u2 u3 u4 u5 u6 u7 i_tape i_words i_thrown i_status i_taped i_from i_to i_sort i_worth i_fault i_bad i_nClauses i_nCode i_nLeaves i_piled i_opened i_refusals a19 i_nClause i_nOp i_nArg i_pile i_pileAt) := hD
      refine xi_iinc hx hb dX11_law_228 hl (k := 2) rfl (by decide) hf (fun v20 ls hl hf => ?_)
      have hl : lv_has ls 3 [(2, .int (Int32.ofInt v20)), (0, .ref q0), (1, .int (Int32.ofInt x1))] := hl
      refine lv_goto (tgt := 180) hx hb dX11_law_231 (by decide) ?_
      exact ih180 _ _ _ _ _ _ _ _ _ _ _ _ _ _ _ _ _ _ _ _ _ _ _ _ _ _ hf hP hD hS (lv_sub hl [1, 2, 0] rfl)
  have l_180 : ∀ (n : Nat), ∀ (x1 : Int) (x2 : Int) (i_thrown : Int) (i_status : Int) (i_taped : Int) (i_from : Int) (i_to : Int) (i_sort : Int) (i_worth : Int) (i_fault : Int) (i_bad : Int) (i_nClauses : Int) (i_nCode : Int) (i_nLeaves : Int) (i_piled : Int) (i_opened : Int) (i_refusals : Nat → Int) (i_row : Nat → Int) (i_nClause : Nat → Int) (i_nOp : Nat → Int) (i_nArg : Nat → Int) (i_pile : Nat → Int) (i_pileAt : Nat → Int) (H : Heap) (locs : List Loc) (ls : Array Slot), f_HM_law_180 i_tape i_words n x1 x2 i_thrown i_status i_taped i_from i_to i_sort i_worth i_fault i_bad i_nClauses i_nCode i_nLeaves i_piled i_opened i_refusals i_row i_nClause i_nOp i_nArg i_pile i_pileAt = some out → va_P (dC, dI) vwCl (wd_HM_law cA q0 q1 q2 q3 q4 q5 q6 q7 q8 q9 q10 q11 q12 q13 q14 q15 q16 q17 q18 q19 q20 q21 q22 q23 q24 q25 q26 q27 q28 q29 q30 q31 u0 u1 u2 u3 u4 u5 u6 u7 i_tape i_words i_thrown i_status i_taped i_from i_to i_sort i_worth i_fault i_bad i_nClauses i_nCode i_nLeaves i_piled i_opened i_refusals i_row i_nClause i_nOp i_nArg i_pile i_pileAt) H → va_D A (wd_HM_law cA q0 q1 q2 q3 q4 q5 q6 q7 q8 q9 q10 q11 q12 q13 q14 q15 q16 q17 q18 q19 q20 q21 q22 q23 q24 q25 q26 q27 q28 q29 q30 q31 u0 u1 u2 u3 u4 u5 u6 u7 i_tape i_words i_thrown i_status i_taped i_from i_to i_sort i_worth i_fault i_bad i_nClauses i_nCode i_nLeaves i_piled i_opened i_refusals i_row i_nClause i_nOp i_nArg i_pile i_pileAt) → va_S A s.heap H locs → lv_has ls 3 [(0, .ref q0), (1, .int (Int32.ofInt x1)), (2, .int (Int32.ofInt x2))] → W p l e rm_HM_law s m args below meth c H locs 0 0 Q (F0 m 180 ls []) := by
    intro n
    induction n with
    | zero => intro x1 x2 i_thrown i_status i_taped i_from i_to i_sort i_worth i_fault i_bad i_nClauses i_nCode i_nLeaves i_piled i_opened i_refusals i_row i_nClause i_nOp i_nArg i_pile i_pileAt H locs ls hf hP hD hS hl; exact nomatch hf
    | succ n ih => intro x1 x2 i_thrown i_status i_taped i_from i_to i_sort i_worth i_fault i_bad i_nClauses i_nCode i_nLeaves i_piled i_opened i_refusals i_row i_nClause i_nOp i_nArg i_pile i_pileAt H locs ls hf hP hD hS hl; exact b_180 (f_HM_law_180 i_tape i_words n) ih x1 x2 i_thrown i_status i_taped i_from i_to i_sort i_worth i_fault i_bad i_nClauses i_nCode i_nLeaves i_piled i_opened i_refusals i_row i_nClause i_nOp i_nArg i_pile i_pileAt H locs ls hf hP hD hS hl
  have b_145 : ∀ (k145 : Int → Int → Int → Int → Int → Int → Int → Int → Int → Int → Int → Int → Int → Int → Int → Int → (Nat → Int) → (Nat → Int) → (Nat → Int) → (Nat → Int) → (Nat → Int) → (Nat → Int) → (Nat → Int) → Option (Int × Int × Int × Int × Int × Int × Int × Int × Int × Int × Int × Int × Int × Int × Int × (Nat → Int) × (Nat → Int) × (Nat → Int) × (Nat → Int) × (Nat → Int) × (Nat → Int) × (Nat → Int))) (_ : ∀ (x1 : Int) (x2 : Int) (i_thrown : Int) (i_status : Int) (i_taped : Int) (i_from : Int) (i_to : Int) (i_sort : Int) (i_worth : Int) (i_fault : Int) (i_bad : Int) (i_nClauses : Int) (i_nCode : Int) (i_nLeaves : Int) (i_piled : Int) (i_opened : Int) (i_refusals : Nat → Int) (i_row : Nat → Int) (i_nClause : Nat → Int) (i_nOp : Nat → Int) (i_nArg : Nat → Int) (i_pile : Nat → Int) (i_pileAt : Nat → Int) (H : Heap) (locs : List Loc) (ls : Array Slot), k145 x1 x2 i_thrown i_status i_taped i_from i_to i_sort i_worth i_fault i_bad i_nClauses i_nCode i_nLeaves i_piled i_opened i_refusals i_row i_nClause i_nOp i_nArg i_pile i_pileAt = some out → va_P (dC, dI) vwCl (wd_HM_law cA q0 q1 q2 q3 q4 q5 q6 q7 q8 q9 q10 q11 q12 q13 q14 q15 q16 q17 q18 q19 q20 q21 q22 q23 q24 q25 q26 q27 q28 q29 q30 q31 u0 u1 u2 u3 u4 u5 u6 u7 i_tape i_words i_thrown i_status i_taped i_from i_to i_sort i_worth i_fault i_bad i_nClauses i_nCode i_nLeaves i_piled i_opened i_refusals i_row i_nClause i_nOp i_nArg i_pile i_pileAt) H → va_D A (wd_HM_law cA q0 q1 q2 q3 q4 q5 q6 q7 q8 q9 q10 q11 q12 q13 q14 q15 q16 q17 q18 q19 q20 q21 q22 q23 q24 q25 q26 q27 q28 q29 q30 q31 u0 u1 u2 u3 u4 u5 u6 u7 i_tape i_words i_thrown i_status i_taped i_from i_to i_sort i_worth i_fault i_bad i_nClauses i_nCode i_nLeaves i_piled i_opened i_refusals i_row i_nClause i_nOp i_nArg i_pile i_pileAt) → va_S A s.heap H locs → lv_has ls 3 [(0, .ref q0), (1, .int (Int32.ofInt x1)), (2, .int (Int32.ofInt x2))] → W p l e rm_HM_law s m args below meth c H locs 0 0 Q (F0 m 145 ls [])), ∀ (x1 : Int) (x2 : Int) (i_thrown : Int) (i_status : Int) (i_taped : Int) (i_from : Int) (i_to : Int) (i_sort : Int) (i_worth : Int) (i_fault : Int) (i_bad : Int) (i_nClauses : Int) (i_nCode : Int) (i_nLeaves : Int) (i_piled : Int) (i_opened : Int) (i_refusals : Nat → Int) (i_row : Nat → Int) (i_nClause : Nat → Int) (i_nOp : Nat → Int) (i_nArg : Nat → Int) (i_pile : Nat → Int) (i_pileAt : Nat → Int) (H : Heap) (locs : List Loc) (ls : Array Slot), f_HM_law_145_b i_tape i_words k145 x1 x2 i_thrown i_status i_taped i_from i_to i_sort i_worth i_fault i_bad i_nClauses i_nCode i_nLeaves i_piled i_opened i_refusals i_row i_nClause i_nOp i_nArg i_pile i_pileAt = some out → va_P (dC, dI) vwCl (wd_HM_law cA q0 q1 q2 q3 q4 q5 q6 q7 q8 q9 q10 q11 q12 q13 q14 q15 q16 q17 q18 q19 q20 q21 q22 q23 q24 q25 q26 q27 q28 q29 q30 q31 u0 u1 u2 u3 u4 u5 u6 u7 i_tape i_words i_thrown i_status i_taped i_from i_to i_sort i_worth i_fault i_bad i_nClauses i_nCode i_nLeaves i_piled i_opened i_refusals i_row i_nClause i_nOp i_nArg i_pile i_pileAt) H → va_D A (wd_HM_law cA q0 q1 q2 q3 q4 q5 q6 q7 q8 q9 q10 q11 q12 q13 q14 q15 q16 q17 q18 q19 q20 q21 q22 q23 q24 q25 q26 q27 q28 q29 q30 q31 u0 u1 u2 u3 u4 u5 u6 u7 i_tape i_words i_thrown i_status i_taped i_from i_to i_sort i_worth i_fault i_bad i_nClauses i_nCode i_nLeaves i_piled i_opened i_refusals i_row i_nClause i_nOp i_nArg i_pile i_pileAt) → va_S A s.heap H locs → lv_has ls 3 [(0, .ref q0), (1, .int (Int32.ofInt x1)), (2, .int (Int32.ofInt x2))] → W p l e rm_HM_law s m args below meth c H locs 0 0 Q (F0 m 145 ls []) := by
    intro k145 ih145 x1 x2 i_thrown i_status i_taped i_from i_to i_sort i_worth i_fault i_bad i_nClauses i_nCode i_nLeaves i_piled i_opened i_refusals i_row i_nClause i_nOp i_nArg i_pile i_pileAt H locs ls hf hP hD hS hl
    unfold f_HM_law_145_b at hf
    refine lv_iload_n hx hb dX11_law_145 rfl (lv_at hl 2 rfl) ?_
    refine lv_bipush (v := Int32.ofInt 8) hx hb dX11_law_146 (by decide) ?_
    refine lv_aload_n hx hb dX11_law_148 rfl (lv_at hl 0 rfl) ?_
    refine va_get (D := (dC, dI)) (ci := 11) (v := .int (Int32.ofInt i_nClauses)) (C := RX11) (T := TX11) (N := 53) hx hb hz zi_X11 hown hK hP 0 rfl rfl 15 (by decide) (hz _ zw_1180) (fun _ h9 => h9) rfl dX11_law_149 ?_
    refine xi_imul hx hb dX11_law_152 hf (fun v1 hf => ?_)
    refine xi_icmp_ge (tgt := 178) hx hb dX11_law_153 (by decide) hf (fun hf => ?_) (fun hf => ?_)
    · refine lv_iconst (v := Int32.ofInt 0) hx hb dX11_law_178 rfl ?_
      refine lv_istore_n (lv' := [(2, .int (Int32.ofInt 0)), (0, .ref q0), (1, .int (Int32.ofInt x1))]) hx hb dX11_law_179 rfl hl (by decide) rfl (fun ls hl => ?_)
      exact l_180  _ _ _ _ _ _ _ _ _ _ _ _ _ _ _ _ _ _ _ _ _ _ _ _ _ _ _ hf hP hD hS (lv_sub hl [1, 2, 0] rfl)
    · refine lv_aload_n hx hb dX11_law_156 rfl (lv_at hl 0 rfl) ?_
      refine va_get (D := (dC, dI)) (ci := 11) (v := .ref q2) (C := RX11) (T := TX11) (N := 53) hx hb hz zi_X11 hown hK hP 0 rfl rfl 3 (by decide) (hz _ zw_1168) (fun _ h9 => h9) rfl dX11_law_157 ?_
      refine lv_iload_n hx hb dX11_law_160 rfl (lv_at hl 1 rfl) ?_
      refine lv_iconst (v := Int32.ofInt 2) hx hb dX11_law_161 rfl ?_
      refine xi_iadd hx hb dX11_law_162 hf (fun v2 hf => ?_)
      refine lv_iload_n hx hb dX11_law_163 rfl (lv_at hl 2 rfl) ?_
      refine xi_iadd hx hb dX11_law_164 hf (fun v3 hf => ?_)
      refine lv_aload_n hx hb dX11_law_165 rfl (lv_at hl 0 rfl) ?_
      refine va_get (D := (dC, dI)) (ci := 11) (v := .ref q6) (C := RX11) (T := TX11) (N := 53) hx hb hz zi_X11 hown hK hP 0 rfl rfl 16 (by decide) (hz _ zw_1181) (fun _ h9 => h9) rfl dX11_law_166 ?_
      refine lv_iload_n hx hb dX11_law_169 rfl (lv_at hl 2 rfl) ?_
      refine xi_iald hx hb hK hP 4 0 rfl rfl dX11_law_170 hf (fun v4 hf => ?_)
      refine xi_iast hx hb hK hP hD hS 2 0 rfl rfl dX11_law_171 hf (fun a5 H locs hP hD hS hf => ?_)
      have hP : va_P (dC, dI) vwCl (wd_HM_law cA q0 q1 q2 q3 q4 q5 q6 q7 q8 q9 q10 q11 q12 q13 q14 q15 q16 q17 q18 q19 q20 q21 q22 q23 q24 q25 q26 q27 q28 q29 q30 q31 u0 u1 u2 u3 u4 u5 u6 u7 i_tape i_words i_thrown i_status i_taped i_from i_to i_sort i_worth i_fault i_bad i_nClauses i_nCode i_nLeaves i_piled i_opened i_refusals a5 i_nClause i_nOp i_nArg i_pile i_pileAt) H := hP
      have hD : va_D A (wd_HM_law cA q0 q1 q2 q3 q4 q5 q6 q7 q8 q9 q10 q11 q12 q13 q14 q15 q16 q17 q18 q19 q20 q21 q22 q23 q24 q25 q26 q27 q28 q29 q30 q31 u0 u1 u2 u3 u4 u5 u6 u7 i_tape i_words i_thrown i_status i_taped i_from i_to i_sort i_worth i_fault i_bad i_nClauses i_nCode i_nLeaves i_piled i_opened i_refusals a5 i_nClause i_nOp i_nArg i_pile i_pileAt) := hD
      refine xi_iinc hx hb dX11_law_172 hl (k := 2) rfl (by decide) hf (fun v6 ls hl hf => ?_)
      have hl : lv_has ls 3 [(2, .int (Int32.ofInt v6)), (0, .ref q0), (1, .int (Int32.ofInt x1))] := hl
      refine lv_goto (tgt := 145) hx hb dX11_law_175 (by decide) ?_
      exact ih145 _ _ _ _ _ _ _ _ _ _ _ _ _ _ _ _ _ _ _ _ _ _ _ _ _ _ hf hP hD hS (lv_sub hl [1, 2, 0] rfl)
  have l_145 : ∀ (n : Nat), ∀ (x1 : Int) (x2 : Int) (i_thrown : Int) (i_status : Int) (i_taped : Int) (i_from : Int) (i_to : Int) (i_sort : Int) (i_worth : Int) (i_fault : Int) (i_bad : Int) (i_nClauses : Int) (i_nCode : Int) (i_nLeaves : Int) (i_piled : Int) (i_opened : Int) (i_refusals : Nat → Int) (i_row : Nat → Int) (i_nClause : Nat → Int) (i_nOp : Nat → Int) (i_nArg : Nat → Int) (i_pile : Nat → Int) (i_pileAt : Nat → Int) (H : Heap) (locs : List Loc) (ls : Array Slot), f_HM_law_145 i_tape i_words n x1 x2 i_thrown i_status i_taped i_from i_to i_sort i_worth i_fault i_bad i_nClauses i_nCode i_nLeaves i_piled i_opened i_refusals i_row i_nClause i_nOp i_nArg i_pile i_pileAt = some out → va_P (dC, dI) vwCl (wd_HM_law cA q0 q1 q2 q3 q4 q5 q6 q7 q8 q9 q10 q11 q12 q13 q14 q15 q16 q17 q18 q19 q20 q21 q22 q23 q24 q25 q26 q27 q28 q29 q30 q31 u0 u1 u2 u3 u4 u5 u6 u7 i_tape i_words i_thrown i_status i_taped i_from i_to i_sort i_worth i_fault i_bad i_nClauses i_nCode i_nLeaves i_piled i_opened i_refusals i_row i_nClause i_nOp i_nArg i_pile i_pileAt) H → va_D A (wd_HM_law cA q0 q1 q2 q3 q4 q5 q6 q7 q8 q9 q10 q11 q12 q13 q14 q15 q16 q17 q18 q19 q20 q21 q22 q23 q24 q25 q26 q27 q28 q29 q30 q31 u0 u1 u2 u3 u4 u5 u6 u7 i_tape i_words i_thrown i_status i_taped i_from i_to i_sort i_worth i_fault i_bad i_nClauses i_nCode i_nLeaves i_piled i_opened i_refusals i_row i_nClause i_nOp i_nArg i_pile i_pileAt) → va_S A s.heap H locs → lv_has ls 3 [(0, .ref q0), (1, .int (Int32.ofInt x1)), (2, .int (Int32.ofInt x2))] → W p l e rm_HM_law s m args below meth c H locs 0 0 Q (F0 m 145 ls []) := by
    intro n
    induction n with
    | zero => intro x1 x2 i_thrown i_status i_taped i_from i_to i_sort i_worth i_fault i_bad i_nClauses i_nCode i_nLeaves i_piled i_opened i_refusals i_row i_nClause i_nOp i_nArg i_pile i_pileAt H locs ls hf hP hD hS hl; exact nomatch hf
    | succ n ih => intro x1 x2 i_thrown i_status i_taped i_from i_to i_sort i_worth i_fault i_bad i_nClauses i_nCode i_nLeaves i_piled i_opened i_refusals i_row i_nClause i_nOp i_nArg i_pile i_pileAt H locs ls hf hP hD hS hl; exact b_145 (f_HM_law_145 i_tape i_words n) ih x1 x2 i_thrown i_status i_taped i_from i_to i_sort i_worth i_fault i_bad i_nClauses i_nCode i_nLeaves i_piled i_opened i_refusals i_row i_nClause i_nOp i_nArg i_pile i_pileAt H locs ls hf hP hD hS hl
  have b_97 : ∀ (i_thrown : Int) (i_status : Int) (i_taped : Int) (i_from : Int) (i_to : Int) (i_sort : Int) (i_worth : Int) (i_fault : Int) (i_bad : Int) (i_nClauses : Int) (i_nCode : Int) (i_nLeaves : Int) (i_piled : Int) (i_opened : Int) (i_refusals : Nat → Int) (i_row : Nat → Int) (i_nClause : Nat → Int) (i_nOp : Nat → Int) (i_nArg : Nat → Int) (i_pile : Nat → Int) (i_pileAt : Nat → Int) (H : Heap) (locs : List Loc) (ls : Array Slot), f_HM_law_97 i_tape i_words i_thrown i_status i_taped i_from i_to i_sort i_worth i_fault i_bad i_nClauses i_nCode i_nLeaves i_piled i_opened i_refusals i_row i_nClause i_nOp i_nArg i_pile i_pileAt = some out → va_P (dC, dI) vwCl (wd_HM_law cA q0 q1 q2 q3 q4 q5 q6 q7 q8 q9 q10 q11 q12 q13 q14 q15 q16 q17 q18 q19 q20 q21 q22 q23 q24 q25 q26 q27 q28 q29 q30 q31 u0 u1 u2 u3 u4 u5 u6 u7 i_tape i_words i_thrown i_status i_taped i_from i_to i_sort i_worth i_fault i_bad i_nClauses i_nCode i_nLeaves i_piled i_opened i_refusals i_row i_nClause i_nOp i_nArg i_pile i_pileAt) H → va_D A (wd_HM_law cA q0 q1 q2 q3 q4 q5 q6 q7 q8 q9 q10 q11 q12 q13 q14 q15 q16 q17 q18 q19 q20 q21 q22 q23 q24 q25 q26 q27 q28 q29 q30 q31 u0 u1 u2 u3 u4 u5 u6 u7 i_tape i_words i_thrown i_status i_taped i_from i_to i_sort i_worth i_fault i_bad i_nClauses i_nCode i_nLeaves i_piled i_opened i_refusals i_row i_nClause i_nOp i_nArg i_pile i_pileAt) → va_S A s.heap H locs → lv_has ls 3 [(0, .ref q0)] → W p l e rm_HM_law s m args below meth c H locs 0 0 Q (F0 m 97 ls []) := by
    intro i_thrown i_status i_taped i_from i_to i_sort i_worth i_fault i_bad i_nClauses i_nCode i_nLeaves i_piled i_opened i_refusals i_row i_nClause i_nOp i_nArg i_pile i_pileAt H locs ls hf hP hD hS hl
    unfold f_HM_law_97 at hf
    refine lv_aload_n hx hb dX11_law_97 rfl (lv_at hl 0 rfl) ?_
    refine lv_iconst (v := Int32.ofInt 0) hx hb dX11_law_98 rfl ?_
    refine va_put (D := (dC, dI)) (ci := 11) (v := .int (Int32.ofInt 0)) (ty := .int) (C := RX11) (T := TX11) (N := 53) hx hb hz zi_X11 tyX11 tyX11_ok nmX11 hown hK hP hD hS 0 rfl rfl 8 (by decide) (hz _ zw_1173) (fun _ h9 => h9) rfl (by decide +kernel) rfl rfl (Nat.le_of_ble_eq_true rfl) dX11_law_99 (fun H locs hP hD hS => ?_)
    have hP : va_P (dC, dI) vwCl (wd_HM_law cA q0 q1 q2 q3 q4 q5 q6 q7 q8 q9 q10 q11 q12 q13 q14 q15 q16 q17 q18 q19 q20 q21 q22 q23 q24 q25 q26 q27 q28 q29 q30 q31 u0 u1 u2 u3 u4 u5 u6 u7 i_tape i_words i_thrown i_status 0 i_from i_to i_sort i_worth i_fault i_bad i_nClauses i_nCode i_nLeaves i_piled i_opened i_refusals i_row i_nClause i_nOp i_nArg i_pile i_pileAt) H := hP
    have hD : va_D A (wd_HM_law cA q0 q1 q2 q3 q4 q5 q6 q7 q8 q9 q10 q11 q12 q13 q14 q15 q16 q17 q18 q19 q20 q21 q22 q23 q24 q25 q26 q27 q28 q29 q30 q31 u0 u1 u2 u3 u4 u5 u6 u7 i_tape i_words i_thrown i_status 0 i_from i_to i_sort i_worth i_fault i_bad i_nClauses i_nCode i_nLeaves i_piled i_opened i_refusals i_row i_nClause i_nOp i_nArg i_pile i_pileAt) := hD
    refine lv_aload_n hx hb dX11_law_102 rfl (lv_at hl 0 rfl) ?_
    refine va_get (D := (dC, dI)) (ci := 11) (v := .int (Int32.ofInt i_bad)) (C := RX11) (T := TX11) (N := 53) hx hb hz zi_X11 hown hK hP 0 rfl rfl 14 (by decide) (hz _ zw_1179) (fun _ h9 => h9) rfl dX11_law_103 ?_
    refine xi_if_eq (tgt := 116) hx hb dX11_law_106 (by decide) hf (fun hf => ?_) (fun hf => ?_)
    · refine lv_sipush (v := Int32.ofInt 180) hx hb dX11_law_116 (by decide) ?_
      refine lv_sipush (v := Int32.ofInt 900) hx hb dX11_law_119 (by decide) ?_
      refine lv_aload_n hx hb dX11_law_122 rfl (lv_at hl 0 rfl) ?_
      refine va_get (D := (dC, dI)) (ci := 11) (v := .ref q2) (C := RX11) (T := TX11) (N := 53) hx hb hz zi_X11 hown hK hP 0 rfl rfl 3 (by decide) (hz _ zw_1168) (fun _ h9 => h9) rfl dX11_law_123 ?_
      refine lv_iconst (v := Int32.ofInt 3) hx hb dX11_law_126 rfl ?_
      refine xi_iald hx hb hK hP 2 0 rfl rfl dX11_law_127 hf (fun v1 hf => ?_)
      refine xi_imul hx hb dX11_law_128 hf (fun v2 hf => ?_)
      refine xi_iadd hx hb dX11_law_129 hf (fun v3 hf => ?_)
      refine lv_istore_n (lv' := [(1, .int (Int32.ofInt v3)), (0, .ref q0)]) hx hb dX11_law_130 rfl hl (by decide) rfl (fun ls hl => ?_)
      refine lv_aload_n hx hb dX11_law_131 rfl (lv_at hl 1 rfl) ?_
      refine va_get (D := (dC, dI)) (ci := 11) (v := .ref q2) (C := RX11) (T := TX11) (N := 53) hx hb hz zi_X11 hown hK hP 0 rfl rfl 3 (by decide) (hz _ zw_1168) (fun _ h9 => h9) rfl dX11_law_132 ?_
      refine lv_iload_n hx hb dX11_law_135 rfl (lv_at hl 0 rfl) ?_
      refine lv_iconst (v := Int32.ofInt 1) hx hb dX11_law_136 rfl ?_
      refine xi_iadd hx hb dX11_law_137 hf (fun v4 hf => ?_)
      refine lv_aload_n hx hb dX11_law_138 rfl (lv_at hl 1 rfl) ?_
      refine va_get (D := (dC, dI)) (ci := 11) (v := .int (Int32.ofInt i_nClauses)) (C := RX11) (T := TX11) (N := 53) hx hb hz zi_X11 hown hK hP 0 rfl rfl 15 (by decide) (hz _ zw_1180) (fun _ h9 => h9) rfl dX11_law_139 ?_
      refine xi_iast hx hb hK hP hD hS 2 0 rfl rfl dX11_law_142 hf (fun a5 H locs hP hD hS hf => ?_)
      have hP : va_P (dC, dI) vwCl (wd_HM_law cA q0 q1 q2 q3 q4 q5 q6 q7 q8 q9 q10 q11 q12 q13 q14 q15 q16 q17 q18 q19 q20 q21 q22 q23 q24 q25 q26 q27 q28 q29 q30 q31 u0 u1 u2 u3 u4 u5 u6 u7 i_tape i_words i_thrown i_status 0 i_from i_to i_sort i_worth i_fault i_bad i_nClauses i_nCode i_nLeaves i_piled i_opened i_refusals a5 i_nClause i_nOp i_nArg i_pile i_pileAt) H := hP
      have hD : va_D A (wd_HM_law cA q0 q1 q2 q3 q4 q5 q6 q7 q8 q9 q10 q11 q12 q13 q14 q15 q16 q17 q18 q19 q20 q21 q22 q23 q24 q25 q26 q27 q28 q29 q30 q31 u0 u1 u2 u3 u4 u5 u6 u7 i_tape i_words i_thrown i_status 0 i_from i_to i_sort i_worth i_fault i_bad i_nClauses i_nCode i_nLeaves i_piled i_opened i_refusals a5 i_nClause i_nOp i_nArg i_pile i_pileAt) := hD
      refine lv_iconst (v := Int32.ofInt 0) hx hb dX11_law_143 rfl ?_
      refine lv_istore_n (lv' := [(2, .int (Int32.ofInt 0)), (1, .int (Int32.ofInt v3)), (0, .ref q0)]) hx hb dX11_law_144 rfl hl (by decide) rfl (fun ls hl => ?_)
      exact l_145  _ _ _ _ _ _ _ _ _ _ _ _ _ _ _ _ _ _ _ _ _ _ _ _ _ _ _ hf hP hD hS (lv_sub hl [2, 1, 0] rfl)
    · refine lv_aload_n hx hb dX11_law_109 rfl (lv_at hl 0 rfl) ?_
      refine lv_bipush (v := Int32.ofInt (-6)) hx hb dX11_law_110 (by decide) ?_
      refine xe_d3 hf (fun v6 v7 a8 hg hf => ?_)
      have hC : ([0, 1] : List Nat).map (fun i => (wd_HM_law cA q0 q1 q2 q3 q4 q5 q6 q7 q8 q9 q10 q11 q12 q13 q14 q15 q16 q17 q18 q19 q20 q21 q22 q23 q24 q25 q26 q27 q28 q29 q30 q31 u0 u1 u2 u3 u4 u5 u6 u7 i_tape i_words i_thrown i_status 0 i_from i_to i_sort i_worth i_fault i_bad i_nClauses i_nCode i_nLeaves i_piled i_opened i_refusals i_row i_nClause i_nOp i_nArg i_pile i_pileAt)[i]?) = (wd_HM_tell cA q0 q1 q2 q3 q4 q5 q6 q7 q8 q9 q10 q11 q12 q13 q14 q15 q16 q17 q18 q19 q20 q21 q22 q23 q24 q25 q26 q27 q28 q29 q30 q31 i_thrown u0 0 i_from i_to i_sort i_worth i_fault i_bad i_nClauses i_nCode i_nLeaves i_piled i_opened u1 u2 u3 u4 u5 u6 u7 i_status i_refusals).map some := rfl
      refine xv_afterI (ws' := (wd_HM_law cA q0 q1 q2 q3 q4 q5 q6 q7 q8 q9 q10 q11 q12 q13 q14 q15 q16 q17 q18 q19 q20 q21 q22 q23 q24 q25 q26 q27 q28 q29 q30 q31 u0 u1 u2 u3 u4 u5 u6 u7 i_tape i_words i_thrown v7 0 i_from i_to i_sort i_worth i_fault i_bad i_nClauses i_nCode i_nLeaves i_piled i_opened a8 i_row i_nClause i_nOp i_nArg i_pile i_pileAt)) (isC := [0, 1]) (ps := [some 0, some 1, none, none, none, none, none, none, none, none]) (va_runV (As := [.int (Int32.ofInt (-6))]) (rest := []) ⟨hx, hb, hml, hown, hts⟩ (c_HM_tell l ev dC dI cA q0 q1 q2 q3 q4 q5 q6 q7 q8 q9 q10 q11 q12 q13 q14 q15 q16 q17 q18 q19 q20 q21 q22 q23 q24 q25 q26 q27 q28 q29 q30 q31 i_thrown u0 0 i_from i_to i_sort i_worth i_fault i_bad i_nClauses i_nCode i_nLeaves i_piled i_opened u1 u2 u3 u4 u5 u6 u7 hg H.size) (cwV 1 hts (zgV zw_1332 zw_1334 zw_40 zw_115 zw_1335) rfl rfl rfl hd_HM_tell ⟨Nat.le_of_ble_eq_true rfl, Nat.le_of_ble_eq_true rfl⟩) (xv_preV (T := TX11) (N := 53) hE hA hS hK hP hD (isC := [0, 1]) (by decide +kernel) hC (q0 := 0) (ci := 11) rfl rfl) rfl rfl hl.1 rfl (lv_room (Nat.le_of_ble_eq_true rfl)) dX11_law_112 ⟨Nat.le_refl _, Nat.le_refl _⟩) hP hD hS hA (by decide +kernel) rfl hC rfl rfl (fun H locs hP hD hS => ?_)
      obtain rfl := Option.some.inj hf
      exact hret _ _ _ _ rfl dX11_law_115 hP hD hS
  have b_78 : ∀ (i_thrown : Int) (i_status : Int) (i_taped : Int) (i_from : Int) (i_to : Int) (i_sort : Int) (i_worth : Int) (i_fault : Int) (i_bad : Int) (i_nClauses : Int) (i_nCode : Int) (i_nLeaves : Int) (i_piled : Int) (i_opened : Int) (i_refusals : Nat → Int) (i_row : Nat → Int) (i_nClause : Nat → Int) (i_nOp : Nat → Int) (i_nArg : Nat → Int) (i_pile : Nat → Int) (i_pileAt : Nat → Int) (H : Heap) (locs : List Loc) (ls : Array Slot), f_HM_law_78 i_tape i_words i_thrown i_status i_taped i_from i_to i_sort i_worth i_fault i_bad i_nClauses i_nCode i_nLeaves i_piled i_opened i_refusals i_row i_nClause i_nOp i_nArg i_pile i_pileAt = some out → va_P (dC, dI) vwCl (wd_HM_law cA q0 q1 q2 q3 q4 q5 q6 q7 q8 q9 q10 q11 q12 q13 q14 q15 q16 q17 q18 q19 q20 q21 q22 q23 q24 q25 q26 q27 q28 q29 q30 q31 u0 u1 u2 u3 u4 u5 u6 u7 i_tape i_words i_thrown i_status i_taped i_from i_to i_sort i_worth i_fault i_bad i_nClauses i_nCode i_nLeaves i_piled i_opened i_refusals i_row i_nClause i_nOp i_nArg i_pile i_pileAt) H → va_D A (wd_HM_law cA q0 q1 q2 q3 q4 q5 q6 q7 q8 q9 q10 q11 q12 q13 q14 q15 q16 q17 q18 q19 q20 q21 q22 q23 q24 q25 q26 q27 q28 q29 q30 q31 u0 u1 u2 u3 u4 u5 u6 u7 i_tape i_words i_thrown i_status i_taped i_from i_to i_sort i_worth i_fault i_bad i_nClauses i_nCode i_nLeaves i_piled i_opened i_refusals i_row i_nClause i_nOp i_nArg i_pile i_pileAt) → va_S A s.heap H locs → lv_has ls 3 [(0, .ref q0)] → W p l e rm_HM_law s m args below meth c H locs 0 0 Q (F0 m 78 ls []) := by
    intro i_thrown i_status i_taped i_from i_to i_sort i_worth i_fault i_bad i_nClauses i_nCode i_nLeaves i_piled i_opened i_refusals i_row i_nClause i_nOp i_nArg i_pile i_pileAt H locs ls hf hP hD hS hl
    unfold f_HM_law_78 at hf
    refine lv_aload_n hx hb dX11_law_78 rfl (lv_at hl 0 rfl) ?_
    refine va_get (D := (dC, dI)) (ci := 11) (v := .int (Int32.ofInt i_bad)) (C := RX11) (T := TX11) (N := 53) hx hb hz zi_X11 hown hK hP 0 rfl rfl 14 (by decide) (hz _ zw_1179) (fun _ h9 => h9) rfl dX11_law_79 ?_
    refine xi_if_ne (tgt := 97) hx hb dX11_law_82 (by decide) hf (fun hf => ?_) (fun hf => ?_)
    · exact b_97  _ _ _ _ _ _ _ _ _ _ _ _ _ _ _ _ _ _ _ _ _ _ _ _ hf hP hD hS (lv_sub hl [0] rfl)
    · refine lv_aload_n hx hb dX11_law_85 rfl (lv_at hl 0 rfl) ?_
      refine va_get (D := (dC, dI)) (ci := 11) (v := .int (Int32.ofInt i_sort)) (C := RX11) (T := TX11) (N := 53) hx hb hz zi_X11 hown hK hP 0 rfl rfl 11 (by decide) (hz _ zw_1176) (fun _ h9 => h9) rfl dX11_law_86 ?_
      refine xi_if_eq (tgt := 97) hx hb dX11_law_89 (by decide) hf (fun hf => ?_) (fun hf => ?_)
      · exact b_97  _ _ _ _ _ _ _ _ _ _ _ _ _ _ _ _ _ _ _ _ _ _ _ _ hf hP hD hS (lv_sub hl [0] rfl)
      · refine lv_aload_n hx hb dX11_law_92 rfl (lv_at hl 0 rfl) ?_
        refine lv_iconst (v := Int32.ofInt 0) hx hb dX11_law_93 rfl ?_
        refine xe_d6 hf (fun v1 v2 v3 v4 v5 v6 hg hf => ?_)
        have hC : ([0, 3] : List Nat).map (fun i => (wd_HM_law cA q0 q1 q2 q3 q4 q5 q6 q7 q8 q9 q10 q11 q12 q13 q14 q15 q16 q17 q18 q19 q20 q21 q22 q23 q24 q25 q26 q27 q28 q29 q30 q31 u0 u1 u2 u3 u4 u5 u6 u7 i_tape i_words i_thrown i_status i_taped i_from i_to i_sort i_worth i_fault i_bad i_nClauses i_nCode i_nLeaves i_piled i_opened i_refusals i_row i_nClause i_nOp i_nArg i_pile i_pileAt)[i]?) = (wd_HM_must cA q0 q1 q2 q3 q4 q5 q6 q7 q8 q9 q10 q11 q12 q13 q14 q15 q16 q17 q18 q19 q20 q21 q22 q23 q24 q25 q26 q27 q28 q29 q30 q31 i_thrown i_status u0 i_nClauses i_nCode i_nLeaves i_piled i_opened u1 u2 u3 u4 u5 u6 u7 i_taped i_tape i_from i_to i_sort i_worth i_fault i_bad).map some := rfl
        refine xv_afterV (ws' := (wd_HM_law cA q0 q1 q2 q3 q4 q5 q6 q7 q8 q9 q10 q11 q12 q13 q14 q15 q16 q17 q18 q19 q20 q21 q22 q23 q24 q25 q26 q27 q28 q29 q30 q31 u0 u1 u2 u3 u4 u5 u6 u7 i_tape i_words i_thrown i_status i_taped v1 v2 v3 v4 v5 v6 i_nClauses i_nCode i_nLeaves i_piled i_opened i_refusals i_row i_nClause i_nOp i_nArg i_pile i_pileAt)) (isC := [0, 3]) (ps := [some 0, none, none, some 1, none, none, none, none, none, none]) (va_runV (As := [.int (Int32.ofInt 0)]) (rest := []) ⟨hx, hb, hml, hown, hts⟩ (c_HM_must l ev dC dI cA q0 q1 q2 q3 q4 q5 q6 q7 q8 q9 q10 q11 q12 q13 q14 q15 q16 q17 q18 q19 q20 q21 q22 q23 q24 q25 q26 q27 q28 q29 q30 q31 i_thrown i_status u0 i_nClauses i_nCode i_nLeaves i_piled i_opened u1 u2 u3 u4 u5 u6 u7 hg H.size) (cwV 1 hts (zgV zw_1465 zw_1467 zw_50 zw_115 zw_1468) rfl rfl rfl hd_HM_must ⟨Nat.le_of_ble_eq_true rfl, Nat.le_of_ble_eq_true rfl⟩) (xv_preV (T := TX11) (N := 53) hE hA hS hK hP hD (isC := [0, 3]) (by decide +kernel) hC (q0 := 0) (ci := 11) rfl rfl) rfl rfl hl.1 rfl (lv_room (Nat.le_of_ble_eq_true rfl)) dX11_law_94 ⟨Nat.le_refl _, Nat.le_refl _⟩) hP hD hS hA (by decide +kernel) rfl hC rfl rfl (fun H locs hP hD hS => ?_)
        exact b_97  _ _ _ _ _ _ _ _ _ _ _ _ _ _ _ _ _ _ _ _ _ _ _ _ hf hP hD hS (lv_sub hl [0] rfl)
  have b_51 : ∀ (k51 : Int → Int → Int → Int → Int → Int → Int → Int → Int → Int → Int → Int → Int → Int → (Nat → Int) → (Nat → Int) → (Nat → Int) → (Nat → Int) → (Nat → Int) → (Nat → Int) → (Nat → Int) → Option (Int × Int × Int × Int × Int × Int × Int × Int × Int × Int × Int × Int × Int × Int × Int × (Nat → Int) × (Nat → Int) × (Nat → Int) × (Nat → Int) × (Nat → Int) × (Nat → Int) × (Nat → Int))) (_ : ∀ (i_thrown : Int) (i_status : Int) (i_taped : Int) (i_from : Int) (i_to : Int) (i_sort : Int) (i_worth : Int) (i_fault : Int) (i_bad : Int) (i_nClauses : Int) (i_nCode : Int) (i_nLeaves : Int) (i_piled : Int) (i_opened : Int) (i_refusals : Nat → Int) (i_row : Nat → Int) (i_nClause : Nat → Int) (i_nOp : Nat → Int) (i_nArg : Nat → Int) (i_pile : Nat → Int) (i_pileAt : Nat → Int) (H : Heap) (locs : List Loc) (ls : Array Slot), k51 i_thrown i_status i_taped i_from i_to i_sort i_worth i_fault i_bad i_nClauses i_nCode i_nLeaves i_piled i_opened i_refusals i_row i_nClause i_nOp i_nArg i_pile i_pileAt = some out → va_P (dC, dI) vwCl (wd_HM_law cA q0 q1 q2 q3 q4 q5 q6 q7 q8 q9 q10 q11 q12 q13 q14 q15 q16 q17 q18 q19 q20 q21 q22 q23 q24 q25 q26 q27 q28 q29 q30 q31 u0 u1 u2 u3 u4 u5 u6 u7 i_tape i_words i_thrown i_status i_taped i_from i_to i_sort i_worth i_fault i_bad i_nClauses i_nCode i_nLeaves i_piled i_opened i_refusals i_row i_nClause i_nOp i_nArg i_pile i_pileAt) H → va_D A (wd_HM_law cA q0 q1 q2 q3 q4 q5 q6 q7 q8 q9 q10 q11 q12 q13 q14 q15 q16 q17 q18 q19 q20 q21 q22 q23 q24 q25 q26 q27 q28 q29 q30 q31 u0 u1 u2 u3 u4 u5 u6 u7 i_tape i_words i_thrown i_status i_taped i_from i_to i_sort i_worth i_fault i_bad i_nClauses i_nCode i_nLeaves i_piled i_opened i_refusals i_row i_nClause i_nOp i_nArg i_pile i_pileAt) → va_S A s.heap H locs → lv_has ls 3 [(0, .ref q0)] → W p l e rm_HM_law s m args below meth c H locs 0 0 Q (F0 m 51 ls [])), ∀ (i_thrown : Int) (i_status : Int) (i_taped : Int) (i_from : Int) (i_to : Int) (i_sort : Int) (i_worth : Int) (i_fault : Int) (i_bad : Int) (i_nClauses : Int) (i_nCode : Int) (i_nLeaves : Int) (i_piled : Int) (i_opened : Int) (i_refusals : Nat → Int) (i_row : Nat → Int) (i_nClause : Nat → Int) (i_nOp : Nat → Int) (i_nArg : Nat → Int) (i_pile : Nat → Int) (i_pileAt : Nat → Int) (H : Heap) (locs : List Loc) (ls : Array Slot), f_HM_law_51_b i_tape i_words k51 i_thrown i_status i_taped i_from i_to i_sort i_worth i_fault i_bad i_nClauses i_nCode i_nLeaves i_piled i_opened i_refusals i_row i_nClause i_nOp i_nArg i_pile i_pileAt = some out → va_P (dC, dI) vwCl (wd_HM_law cA q0 q1 q2 q3 q4 q5 q6 q7 q8 q9 q10 q11 q12 q13 q14 q15 q16 q17 q18 q19 q20 q21 q22 q23 q24 q25 q26 q27 q28 q29 q30 q31 u0 u1 u2 u3 u4 u5 u6 u7 i_tape i_words i_thrown i_status i_taped i_from i_to i_sort i_worth i_fault i_bad i_nClauses i_nCode i_nLeaves i_piled i_opened i_refusals i_row i_nClause i_nOp i_nArg i_pile i_pileAt) H → va_D A (wd_HM_law cA q0 q1 q2 q3 q4 q5 q6 q7 q8 q9 q10 q11 q12 q13 q14 q15 q16 q17 q18 q19 q20 q21 q22 q23 q24 q25 q26 q27 q28 q29 q30 q31 u0 u1 u2 u3 u4 u5 u6 u7 i_tape i_words i_thrown i_status i_taped i_from i_to i_sort i_worth i_fault i_bad i_nClauses i_nCode i_nLeaves i_piled i_opened i_refusals i_row i_nClause i_nOp i_nArg i_pile i_pileAt) → va_S A s.heap H locs → lv_has ls 3 [(0, .ref q0)] → W p l e rm_HM_law s m args below meth c H locs 0 0 Q (F0 m 51 ls []) := by
    intro k51 ih51 i_thrown i_status i_taped i_from i_to i_sort i_worth i_fault i_bad i_nClauses i_nCode i_nLeaves i_piled i_opened i_refusals i_row i_nClause i_nOp i_nArg i_pile i_pileAt H locs ls hf hP hD hS hl
    unfold f_HM_law_51_b at hf
    refine lv_aload_n hx hb dX11_law_51 rfl (lv_at hl 0 rfl) ?_
    refine va_get (D := (dC, dI)) (ci := 11) (v := .int (Int32.ofInt i_bad)) (C := RX11) (T := TX11) (N := 53) hx hb hz zi_X11 hown hK hP 0 rfl rfl 14 (by decide) (hz _ zw_1179) (fun _ h9 => h9) rfl dX11_law_52 ?_
    refine xi_if_ne (tgt := 78) hx hb dX11_law_55 (by decide) hf (fun hf => ?_) (fun hf => ?_)
    · exact b_78  _ _ _ _ _ _ _ _ _ _ _ _ _ _ _ _ _ _ _ _ _ _ _ _ hf hP hD hS (lv_sub hl [0] rfl)
    · refine lv_aload_n hx hb dX11_law_58 rfl (lv_at hl 0 rfl) ?_
      refine lv_bipush (v := Int32.ofInt 59) hx hb dX11_law_59 (by decide) ?_
      refine xe_d1 hf (fun v1 hg hf => ?_)
      have hC : ([0] : List Nat).map (fun i => (wd_HM_law cA q0 q1 q2 q3 q4 q5 q6 q7 q8 q9 q10 q11 q12 q13 q14 q15 q16 q17 q18 q19 q20 q21 q22 q23 q24 q25 q26 q27 q28 q29 q30 q31 u0 u1 u2 u3 u4 u5 u6 u7 i_tape i_words i_thrown i_status i_taped i_from i_to i_sort i_worth i_fault i_bad i_nClauses i_nCode i_nLeaves i_piled i_opened i_refusals i_row i_nClause i_nOp i_nArg i_pile i_pileAt)[i]?) = (wd_HM_isSign cA q0 q1 q2 q3 q4 q5 q6 q7 q8 q9 q10 q11 q12 q13 q14 q15 q16 q17 q18 q19 q20 q21 q22 q23 q24 q25 q26 q27 q28 q29 q30 q31 i_thrown i_status u0 i_taped i_from i_to i_fault i_bad i_nClauses i_nCode i_nLeaves i_piled i_opened u1 u2 u3 u4 u5 u6 u7 i_sort i_worth).map some := rfl
      refine xv_afterI (ws' := (wd_HM_law cA q0 q1 q2 q3 q4 q5 q6 q7 q8 q9 q10 q11 q12 q13 q14 q15 q16 q17 q18 q19 q20 q21 q22 q23 q24 q25 q26 q27 q28 q29 q30 q31 u0 u1 u2 u3 u4 u5 u6 u7 i_tape i_words i_thrown i_status i_taped i_from i_to i_sort i_worth i_fault i_bad i_nClauses i_nCode i_nLeaves i_piled i_opened i_refusals i_row i_nClause i_nOp i_nArg i_pile i_pileAt)) (isC := [0]) (ps := [some 0, none, none, none, none, none, none, none, none, none]) (va_runV (As := [.int (Int32.ofInt 59)]) (rest := []) ⟨hx, hb, hml, hown, hts⟩ (c_HM_isSign l ev dC dI cA q0 q1 q2 q3 q4 q5 q6 q7 q8 q9 q10 q11 q12 q13 q14 q15 q16 q17 q18 q19 q20 q21 q22 q23 q24 q25 q26 q27 q28 q29 q30 q31 i_thrown i_status u0 i_taped i_from i_to i_fault i_bad i_nClauses i_nCode i_nLeaves i_piled i_opened u1 u2 u3 u4 u5 u6 u7 hg H.size) (cwV 1 hts (zgV zw_1482 zw_1484 zw_54 zw_115 zw_1485) rfl rfl rfl hd_HM_isSign ⟨Nat.le_of_ble_eq_true rfl, Nat.le_of_ble_eq_true rfl⟩) (xv_preV (T := TX11) (N := 53) hE hA hS hK hP hD (isC := [0]) (by decide +kernel) hC (q0 := 0) (ci := 11) rfl rfl) rfl rfl hl.1 rfl (lv_room (Nat.le_of_ble_eq_true rfl)) dX11_law_61 ⟨Nat.le_refl _, Nat.le_refl _⟩) hP hD hS hA (by decide +kernel) rfl hC rfl rfl (fun H locs hP hD hS => ?_)
      refine xi_if_eq (tgt := 78) hx hb dX11_law_64 (by decide) hf (fun hf => ?_) (fun hf => ?_)
      · exact b_78  _ _ _ _ _ _ _ _ _ _ _ _ _ _ _ _ _ _ _ _ _ _ _ _ hf hP hD hS (lv_sub hl [0] rfl)
      · refine lv_aload_n hx hb dX11_law_67 rfl (lv_at hl 0 rfl) ?_
        refine xe_d4 hf (fun v2 v3 v4 v5 hg hf => ?_)
        have hC : ([0, 3] : List Nat).map (fun i => (wd_HM_law cA q0 q1 q2 q3 q4 q5 q6 q7 q8 q9 q10 q11 q12 q13 q14 q15 q16 q17 q18 q19 q20 q21 q22 q23 q24 q25 q26 q27 q28 q29 q30 q31 u0 u1 u2 u3 u4 u5 u6 u7 i_tape i_words i_thrown i_status i_taped i_from i_to i_sort i_worth i_fault i_bad i_nClauses i_nCode i_nLeaves i_piled i_opened i_refusals i_row i_nClause i_nOp i_nArg i_pile i_pileAt)[i]?) = (wd_HM_next cA q0 q1 q2 q3 q4 q5 q6 q7 q8 q9 q10 q11 q12 q13 q14 q15 q16 q17 q18 q19 q20 q21 q22 q23 q24 q25 q26 q27 q28 q29 q30 q31 i_thrown i_status u0 i_fault i_bad i_nClauses i_nCode i_nLeaves i_piled i_opened u1 u2 u3 u4 u5 u6 u7 i_taped i_tape i_from i_to i_sort i_worth).map some := rfl
        refine xv_afterV (ws' := (wd_HM_law cA q0 q1 q2 q3 q4 q5 q6 q7 q8 q9 q10 q11 q12 q13 q14 q15 q16 q17 q18 q19 q20 q21 q22 q23 q24 q25 q26 q27 q28 q29 q30 q31 u0 u1 u2 u3 u4 u5 u6 u7 i_tape i_words i_thrown i_status i_taped v2 v3 v4 v5 i_fault i_bad i_nClauses i_nCode i_nLeaves i_piled i_opened i_refusals i_row i_nClause i_nOp i_nArg i_pile i_pileAt)) (isC := [0, 3]) (ps := [some 0, none, none, some 1, none, none, none, none, none, none]) (va_runV (As := []) (rest := []) ⟨hx, hb, hml, hown, hts⟩ (c_HM_next l ev dC dI cA q0 q1 q2 q3 q4 q5 q6 q7 q8 q9 q10 q11 q12 q13 q14 q15 q16 q17 q18 q19 q20 q21 q22 q23 q24 q25 q26 q27 q28 q29 q30 q31 i_thrown i_status u0 i_fault i_bad i_nClauses i_nCode i_nLeaves i_piled i_opened u1 u2 u3 u4 u5 u6 u7 hg H.size) (cwV 0 hts (zgV zw_1439 zw_1441 zw_47 zw_115 zw_1442) rfl rfl rfl hd_HM_next ⟨Nat.le_of_ble_eq_true rfl, Nat.le_of_ble_eq_true rfl⟩) (xv_preV (T := TX11) (N := 53) hE hA hS hK hP hD (isC := [0, 3]) (by decide +kernel) hC (q0 := 0) (ci := 11) rfl rfl) rfl rfl hl.1 rfl (lv_room (Nat.le_of_ble_eq_true rfl)) dX11_law_68 ⟨Nat.le_refl _, Nat.le_refl _⟩) hP hD hS hA (by decide +kernel) rfl hC rfl rfl (fun H locs hP hD hS => ?_)
        refine lv_aload_n hx hb dX11_law_71 rfl (lv_at hl 0 rfl) ?_
        refine xe_d16 hf (fun v6 v7 v8 v9 v10 v11 v12 v13 v14 v15 v16 a17 a18 a19 a20 a21 hg hf => ?_)
        have hC : ([0, 3, 4, 5, 6, 7, 8, 9] : List Nat).map (fun i => (wd_HM_law cA q0 q1 q2 q3 q4 q5 q6 q7 q8 q9 q10 q11 q12 q13 q14 q15 q16 q17 q18 q19 q20 q21 q22 q23 q24 q25 q26 q27 q28 q29 q30 q31 u0 u1 u2 u3 u4 u5 u6 u7 i_tape i_words i_thrown i_status i_taped v2 v3 v4 v5 i_fault i_bad i_nClauses i_nCode i_nLeaves i_piled i_opened i_refusals i_row i_nClause i_nOp i_nArg i_pile i_pileAt)[i]?) = (wd_HM_readClause cA q0 q1 q2 q3 q4 q5 q6 q7 q8 q9 q10 q11 q12 q13 q14 q15 q16 q17 q18 q19 q20 q21 q22 q23 q24 q25 q26 q27 q28 q29 q30 q31 i_thrown i_status u0 u1 u2 u3 u4 u5 u6 u7 i_taped i_tape i_words v2 v3 v4 v5 i_fault i_bad i_nClauses i_nCode i_nLeaves i_piled i_opened i_nClause i_nOp i_nArg i_pile i_pileAt).map some := rfl
        refine xv_afterV (ws' := (wd_HM_law cA q0 q1 q2 q3 q4 q5 q6 q7 q8 q9 q10 q11 q12 q13 q14 q15 q16 q17 q18 q19 q20 q21 q22 q23 q24 q25 q26 q27 q28 q29 q30 q31 u0 u1 u2 u3 u4 u5 u6 u7 i_tape i_words i_thrown i_status i_taped v6 v7 v8 v9 v10 v11 v12 v13 v14 v15 v16 i_refusals i_row a17 a18 a19 a20 a21)) (isC := [0, 3, 4, 5, 6, 7, 8, 9]) (ps := [some 0, none, none, some 1, some 2, some 3, some 4, some 5, some 6, some 7]) (va_runV (As := []) (rest := []) ⟨hx, hb, hml, hown, hts⟩ (c_HM_readClause l ev dC dI cA q0 q1 q2 q3 q4 q5 q6 q7 q8 q9 q10 q11 q12 q13 q14 q15 q16 q17 q18 q19 q20 q21 q22 q23 q24 q25 q26 q27 q28 q29 q30 q31 i_thrown i_status u0 u1 u2 u3 u4 u5 u6 u7 hg H.size) (cwV 0 hts (zgV zw_1455 zw_1457 zw_48 zw_115 zw_1458) rfl rfl rfl hd_HM_readClause ⟨Nat.le_of_ble_eq_true rfl, Nat.le_of_ble_eq_true rfl⟩) (xv_preV (T := TX11) (N := 53) hE hA hS hK hP hD (isC := [0, 3, 4, 5, 6, 7, 8, 9]) (by decide +kernel) hC (q0 := 0) (ci := 11) rfl rfl) rfl rfl hl.1 rfl (lv_room (Nat.le_of_ble_eq_true rfl)) dX11_law_72 ⟨Nat.le_refl _, Nat.le_refl _⟩) hP hD hS hA (by decide +kernel) rfl hC rfl rfl (fun H locs hP hD hS => ?_)
        refine lv_goto (tgt := 51) hx hb dX11_law_75 (by decide) ?_
        exact ih51 _ _ _ _ _ _ _ _ _ _ _ _ _ _ _ _ _ _ _ _ _ _ _ _ hf hP hD hS (lv_sub hl [0] rfl)
  have l_51 : ∀ (n : Nat), ∀ (i_thrown : Int) (i_status : Int) (i_taped : Int) (i_from : Int) (i_to : Int) (i_sort : Int) (i_worth : Int) (i_fault : Int) (i_bad : Int) (i_nClauses : Int) (i_nCode : Int) (i_nLeaves : Int) (i_piled : Int) (i_opened : Int) (i_refusals : Nat → Int) (i_row : Nat → Int) (i_nClause : Nat → Int) (i_nOp : Nat → Int) (i_nArg : Nat → Int) (i_pile : Nat → Int) (i_pileAt : Nat → Int) (H : Heap) (locs : List Loc) (ls : Array Slot), f_HM_law_51 i_tape i_words n i_thrown i_status i_taped i_from i_to i_sort i_worth i_fault i_bad i_nClauses i_nCode i_nLeaves i_piled i_opened i_refusals i_row i_nClause i_nOp i_nArg i_pile i_pileAt = some out → va_P (dC, dI) vwCl (wd_HM_law cA q0 q1 q2 q3 q4 q5 q6 q7 q8 q9 q10 q11 q12 q13 q14 q15 q16 q17 q18 q19 q20 q21 q22 q23 q24 q25 q26 q27 q28 q29 q30 q31 u0 u1 u2 u3 u4 u5 u6 u7 i_tape i_words i_thrown i_status i_taped i_from i_to i_sort i_worth i_fault i_bad i_nClauses i_nCode i_nLeaves i_piled i_opened i_refusals i_row i_nClause i_nOp i_nArg i_pile i_pileAt) H → va_D A (wd_HM_law cA q0 q1 q2 q3 q4 q5 q6 q7 q8 q9 q10 q11 q12 q13 q14 q15 q16 q17 q18 q19 q20 q21 q22 q23 q24 q25 q26 q27 q28 q29 q30 q31 u0 u1 u2 u3 u4 u5 u6 u7 i_tape i_words i_thrown i_status i_taped i_from i_to i_sort i_worth i_fault i_bad i_nClauses i_nCode i_nLeaves i_piled i_opened i_refusals i_row i_nClause i_nOp i_nArg i_pile i_pileAt) → va_S A s.heap H locs → lv_has ls 3 [(0, .ref q0)] → W p l e rm_HM_law s m args below meth c H locs 0 0 Q (F0 m 51 ls []) := by
    intro n
    induction n with
    | zero => intro i_thrown i_status i_taped i_from i_to i_sort i_worth i_fault i_bad i_nClauses i_nCode i_nLeaves i_piled i_opened i_refusals i_row i_nClause i_nOp i_nArg i_pile i_pileAt H locs ls hf hP hD hS hl; exact nomatch hf
    | succ n ih => intro i_thrown i_status i_taped i_from i_to i_sort i_worth i_fault i_bad i_nClauses i_nCode i_nLeaves i_piled i_opened i_refusals i_row i_nClause i_nOp i_nArg i_pile i_pileAt H locs ls hf hP hD hS hl; exact b_51 (f_HM_law_51 i_tape i_words n) ih i_thrown i_status i_taped i_from i_to i_sort i_worth i_fault i_bad i_nClauses i_nCode i_nLeaves i_piled i_opened i_refusals i_row i_nClause i_nOp i_nArg i_pile i_pileAt H locs ls hf hP hD hS hl
  unfold f_HM_law at hf
  refine lv_aload_n hx hb dX11_law_0 rfl (lv_at hl 0 rfl) ?_
  refine lv_iconst (v := Int32.ofInt 0) hx hb dX11_law_1 rfl ?_
  refine va_put (D := (dC, dI)) (ci := 11) (v := .int (Int32.ofInt 0)) (ty := .int) (C := RX11) (T := TX11) (N := 53) hx hb hz zi_X11 tyX11 tyX11_ok nmX11 hown hK hP hD hS 0 rfl rfl 0 (by decide) (hz _ zw_1165) (fun _ h9 => h9) rfl (by decide +kernel) rfl rfl (Nat.le_of_ble_eq_true rfl) dX11_law_2 (fun H locs hP hD hS => ?_)
  have hP : va_P (dC, dI) vwCl (wd_HM_law cA q0 q1 q2 q3 q4 q5 q6 q7 q8 q9 q10 q11 q12 q13 q14 q15 q16 q17 q18 q19 q20 q21 q22 q23 q24 q25 q26 q27 q28 q29 q30 q31 u0 u1 u2 u3 u4 u5 u6 u7 i_tape i_words 0 i_status i_taped i_from i_to i_sort i_worth i_fault i_bad i_nClauses i_nCode i_nLeaves i_piled i_opened i_refusals i_row i_nClause i_nOp i_nArg i_pile i_pileAt) H := hP
  have hD : va_D A (wd_HM_law cA q0 q1 q2 q3 q4 q5 q6 q7 q8 q9 q10 q11 q12 q13 q14 q15 q16 q17 q18 q19 q20 q21 q22 q23 q24 q25 q26 q27 q28 q29 q30 q31 u0 u1 u2 u3 u4 u5 u6 u7 i_tape i_words 0 i_status i_taped i_from i_to i_sort i_worth i_fault i_bad i_nClauses i_nCode i_nLeaves i_piled i_opened i_refusals i_row i_nClause i_nOp i_nArg i_pile i_pileAt) := hD
  refine lv_aload_n hx hb dX11_law_5 rfl (lv_at hl 0 rfl) ?_
  refine va_get (D := (dC, dI)) (ci := 11) (v := .ref q2) (C := RX11) (T := TX11) (N := 53) hx hb hz zi_X11 hown hK hP 0 rfl rfl 3 (by decide) (hz _ zw_1168) (fun _ h9 => h9) rfl dX11_law_6 ?_
  refine lv_iconst (v := Int32.ofInt 3) hx hb dX11_law_9 rfl ?_
  refine xi_iald hx hb hK hP 2 0 rfl rfl dX11_law_10 hf (fun v1 hf => ?_)
  refine lv_bipush (v := Int32.ofInt 6) hx hb dX11_law_11 (by decide) ?_
  refine xi_icmp_ne (tgt := 28) hx hb dX11_law_13 (by decide) hf (fun hf => ?_) (fun hf => ?_)
  · refine lv_aload_n hx hb dX11_law_28 rfl (lv_at hl 0 rfl) ?_
    refine xe_d6 hf (fun v2 v3 v4 v5 v6 v7 hg hf => ?_)
    have hC : ([0, 3] : List Nat).map (fun i => (wd_HM_law cA q0 q1 q2 q3 q4 q5 q6 q7 q8 q9 q10 q11 q12 q13 q14 q15 q16 q17 q18 q19 q20 q21 q22 q23 q24 q25 q26 q27 q28 q29 q30 q31 u0 u1 u2 u3 u4 u5 u6 u7 i_tape i_words 0 i_status i_taped i_from i_to i_sort i_worth i_fault i_bad i_nClauses i_nCode i_nLeaves i_piled i_opened i_refusals i_row i_nClause i_nOp i_nArg i_pile i_pileAt)[i]?) = (wd_HM_begin cA q0 q1 q2 q3 q4 q5 q6 q7 q8 q9 q10 q11 q12 q13 q14 q15 q16 q17 q18 q19 q20 q21 q22 q23 q24 q25 q26 q27 q28 q29 q30 q31 0 i_status u0 i_nClauses i_nCode i_nLeaves i_piled i_opened u1 u2 u3 u4 u5 u6 u7 i_taped i_tape i_from i_to i_sort i_worth i_fault i_bad).map some := rfl
    refine xv_afterV (ws' := (wd_HM_law cA q0 q1 q2 q3 q4 q5 q6 q7 q8 q9 q10 q11 q12 q13 q14 q15 q16 q17 q18 q19 q20 q21 q22 q23 q24 q25 q26 q27 q28 q29 q30 q31 u0 u1 u2 u3 u4 u5 u6 u7 i_tape i_words 0 i_status i_taped v2 v3 v4 v5 v6 v7 i_nClauses i_nCode i_nLeaves i_piled i_opened i_refusals i_row i_nClause i_nOp i_nArg i_pile i_pileAt)) (isC := [0, 3]) (ps := [some 0, none, none, some 1, none, none, none, none, none, none]) (va_runV (As := []) (rest := []) ⟨hx, hb, hml, hown, hts⟩ (c_HM_begin l ev dC dI cA q0 q1 q2 q3 q4 q5 q6 q7 q8 q9 q10 q11 q12 q13 q14 q15 q16 q17 q18 q19 q20 q21 q22 q23 q24 q25 q26 q27 q28 q29 q30 q31 0 i_status u0 i_nClauses i_nCode i_nLeaves i_piled i_opened u1 u2 u3 u4 u5 u6 u7 hg H.size) (cwV 0 hts (zgV zw_1435 zw_1437 zw_46 zw_115 zw_1438) rfl rfl rfl hd_HM_begin ⟨Nat.le_of_ble_eq_true rfl, Nat.le_of_ble_eq_true rfl⟩) (xv_preV (T := TX11) (N := 53) hE hA hS hK hP hD (isC := [0, 3]) (by decide +kernel) hC (q0 := 0) (ci := 11) rfl rfl) rfl rfl hl.1 rfl (lv_room (Nat.le_of_ble_eq_true rfl)) dX11_law_29 ⟨Nat.le_refl _, Nat.le_refl _⟩) hP hD hS hA (by decide +kernel) rfl hC rfl rfl (fun H locs hP hD hS => ?_)
    refine lv_aload_n hx hb dX11_law_32 rfl (lv_at hl 0 rfl) ?_
    refine lv_iconst (v := Int32.ofInt 0) hx hb dX11_law_33 rfl ?_
    refine va_put (D := (dC, dI)) (ci := 11) (v := .int (Int32.ofInt 0)) (ty := .int) (C := RX11) (T := TX11) (N := 53) hx hb hz zi_X11 tyX11 tyX11_ok nmX11 hown hK hP hD hS 0 rfl rfl 15 (by decide) (hz _ zw_1180) (fun _ h9 => h9) rfl (by decide +kernel) rfl rfl (Nat.le_of_ble_eq_true rfl) dX11_law_34 (fun H locs hP hD hS => ?_)
    have hP : va_P (dC, dI) vwCl (wd_HM_law cA q0 q1 q2 q3 q4 q5 q6 q7 q8 q9 q10 q11 q12 q13 q14 q15 q16 q17 q18 q19 q20 q21 q22 q23 q24 q25 q26 q27 q28 q29 q30 q31 u0 u1 u2 u3 u4 u5 u6 u7 i_tape i_words 0 i_status i_taped v2 v3 v4 v5 v6 v7 0 i_nCode i_nLeaves i_piled i_opened i_refusals i_row i_nClause i_nOp i_nArg i_pile i_pileAt) H := hP
    have hD : va_D A (wd_HM_law cA q0 q1 q2 q3 q4 q5 q6 q7 q8 q9 q10 q11 q12 q13 q14 q15 q16 q17 q18 q19 q20 q21 q22 q23 q24 q25 q26 q27 q28 q29 q30 q31 u0 u1 u2 u3 u4 u5 u6 u7 i_tape i_words 0 i_status i_taped v2 v3 v4 v5 v6 v7 0 i_nCode i_nLeaves i_piled i_opened i_refusals i_row i_nClause i_nOp i_nArg i_pile i_pileAt) := hD
    refine lv_aload_n hx hb dX11_law_37 rfl (lv_at hl 0 rfl) ?_
    refine lv_iconst (v := Int32.ofInt 0) hx hb dX11_law_38 rfl ?_
    refine va_put (D := (dC, dI)) (ci := 11) (v := .int (Int32.ofInt 0)) (ty := .int) (C := RX11) (T := TX11) (N := 53) hx hb hz zi_X11 tyX11 tyX11_ok nmX11 hown hK hP hD hS 0 rfl rfl 17 (by decide) (hz _ zw_1182) (fun _ h9 => h9) rfl (by decide +kernel) rfl rfl (Nat.le_of_ble_eq_true rfl) dX11_law_39 (fun H locs hP hD hS => ?_)
    have hP : va_P (dC, dI) vwCl (wd_HM_law cA q0 q1 q2 q3 q4 q5 q6 q7 q8 q9 q10 q11 q12 q13 q14 q15 q16 q17 q18 q19 q20 q21 q22 q23 q24 q25 q26 q27 q28 q29 q30 q31 u0 u1 u2 u3 u4 u5 u6 u7 i_tape i_words 0 i_status i_taped v2 v3 v4 v5 v6 v7 0 0 i_nLeaves i_piled i_opened i_refusals i_row i_nClause i_nOp i_nArg i_pile i_pileAt) H := hP
    have hD : va_D A (wd_HM_law cA q0 q1 q2 q3 q4 q5 q6 q7 q8 q9 q10 q11 q12 q13 q14 q15 q16 q17 q18 q19 q20 q21 q22 q23 q24 q25 q26 q27 q28 q29 q30 q31 u0 u1 u2 u3 u4 u5 u6 u7 i_tape i_words 0 i_status i_taped v2 v3 v4 v5 v6 v7 0 0 i_nLeaves i_piled i_opened i_refusals i_row i_nClause i_nOp i_nArg i_pile i_pileAt) := hD
    refine lv_aload_n hx hb dX11_law_42 rfl (lv_at hl 0 rfl) ?_
    refine lv_iconst (v := Int32.ofInt 0) hx hb dX11_law_43 rfl ?_
    refine va_put (D := (dC, dI)) (ci := 11) (v := .int (Int32.ofInt 0)) (ty := .int) (C := RX11) (T := TX11) (N := 53) hx hb hz zi_X11 tyX11 tyX11_ok nmX11 hown hK hP hD hS 0 rfl rfl 20 (by decide) (hz _ zw_1185) (fun _ h9 => h9) rfl (by decide +kernel) rfl rfl (Nat.le_of_ble_eq_true rfl) dX11_law_44 (fun H locs hP hD hS => ?_)
    have hP : va_P (dC, dI) vwCl (wd_HM_law cA q0 q1 q2 q3 q4 q5 q6 q7 q8 q9 q10 q11 q12 q13 q14 q15 q16 q17 q18 q19 q20 q21 q22 q23 q24 q25 q26 q27 q28 q29 q30 q31 u0 u1 u2 u3 u4 u5 u6 u7 i_tape i_words 0 i_status i_taped v2 v3 v4 v5 v6 v7 0 0 0 i_piled i_opened i_refusals i_row i_nClause i_nOp i_nArg i_pile i_pileAt) H := hP
    have hD : va_D A (wd_HM_law cA q0 q1 q2 q3 q4 q5 q6 q7 q8 q9 q10 q11 q12 q13 q14 q15 q16 q17 q18 q19 q20 q21 q22 q23 q24 q25 q26 q27 q28 q29 q30 q31 u0 u1 u2 u3 u4 u5 u6 u7 i_tape i_words 0 i_status i_taped v2 v3 v4 v5 v6 v7 0 0 0 i_piled i_opened i_refusals i_row i_nClause i_nOp i_nArg i_pile i_pileAt) := hD
    refine lv_aload_n hx hb dX11_law_47 rfl (lv_at hl 0 rfl) ?_
    refine xe_d16 hf (fun v8 v9 v10 v11 v12 v13 v14 v15 v16 v17 v18 a19 a20 a21 a22 a23 hg hf => ?_)
    have hC : ([0, 3, 4, 5, 6, 7, 8, 9] : List Nat).map (fun i => (wd_HM_law cA q0 q1 q2 q3 q4 q5 q6 q7 q8 q9 q10 q11 q12 q13 q14 q15 q16 q17 q18 q19 q20 q21 q22 q23 q24 q25 q26 q27 q28 q29 q30 q31 u0 u1 u2 u3 u4 u5 u6 u7 i_tape i_words 0 i_status i_taped v2 v3 v4 v5 v6 v7 0 0 0 i_piled i_opened i_refusals i_row i_nClause i_nOp i_nArg i_pile i_pileAt)[i]?) = (wd_HM_readClause cA q0 q1 q2 q3 q4 q5 q6 q7 q8 q9 q10 q11 q12 q13 q14 q15 q16 q17 q18 q19 q20 q21 q22 q23 q24 q25 q26 q27 q28 q29 q30 q31 0 i_status u0 u1 u2 u3 u4 u5 u6 u7 i_taped i_tape i_words v2 v3 v4 v5 v6 v7 0 0 0 i_piled i_opened i_nClause i_nOp i_nArg i_pile i_pileAt).map some := rfl
    refine xv_afterV (ws' := (wd_HM_law cA q0 q1 q2 q3 q4 q5 q6 q7 q8 q9 q10 q11 q12 q13 q14 q15 q16 q17 q18 q19 q20 q21 q22 q23 q24 q25 q26 q27 q28 q29 q30 q31 u0 u1 u2 u3 u4 u5 u6 u7 i_tape i_words 0 i_status i_taped v8 v9 v10 v11 v12 v13 v14 v15 v16 v17 v18 i_refusals i_row a19 a20 a21 a22 a23)) (isC := [0, 3, 4, 5, 6, 7, 8, 9]) (ps := [some 0, none, none, some 1, some 2, some 3, some 4, some 5, some 6, some 7]) (va_runV (As := []) (rest := []) ⟨hx, hb, hml, hown, hts⟩ (c_HM_readClause l ev dC dI cA q0 q1 q2 q3 q4 q5 q6 q7 q8 q9 q10 q11 q12 q13 q14 q15 q16 q17 q18 q19 q20 q21 q22 q23 q24 q25 q26 q27 q28 q29 q30 q31 0 i_status u0 u1 u2 u3 u4 u5 u6 u7 hg H.size) (cwV 0 hts (zgV zw_1455 zw_1457 zw_48 zw_115 zw_1458) rfl rfl rfl hd_HM_readClause ⟨Nat.le_of_ble_eq_true rfl, Nat.le_of_ble_eq_true rfl⟩) (xv_preV (T := TX11) (N := 53) hE hA hS hK hP hD (isC := [0, 3, 4, 5, 6, 7, 8, 9]) (by decide +kernel) hC (q0 := 0) (ci := 11) rfl rfl) rfl rfl hl.1 rfl (lv_room (Nat.le_of_ble_eq_true rfl)) dX11_law_48 ⟨Nat.le_refl _, Nat.le_refl _⟩) hP hD hS hA (by decide +kernel) rfl hC rfl rfl (fun H locs hP hD hS => ?_)
    exact l_51  _ _ _ _ _ _ _ _ _ _ _ _ _ _ _ _ _ _ _ _ _ _ _ _ _ hf hP hD hS (lv_sub hl [0] rfl)
  · refine lv_aload_n hx hb dX11_law_16 rfl (lv_at hl 0 rfl) ?_
    refine lv_iconst (v := Int32.ofInt 0) hx hb dX11_law_17 rfl ?_
    refine va_put (D := (dC, dI)) (ci := 11) (v := .int (Int32.ofInt 0)) (ty := .int) (C := RX11) (T := TX11) (N := 53) hx hb hz zi_X11 tyX11 tyX11_ok nmX11 hown hK hP hD hS 0 rfl rfl 8 (by decide) (hz _ zw_1173) (fun _ h9 => h9) rfl (by decide +kernel) rfl rfl (Nat.le_of_ble_eq_true rfl) dX11_law_18 (fun H locs hP hD hS => ?_)
    have hP : va_P (dC, dI) vwCl (wd_HM_law cA q0 q1 q2 q3 q4 q5 q6 q7 q8 q9 q10 q11 q12 q13 q14 q15 q16 q17 q18 q19 q20 q21 q22 q23 q24 q25 q26 q27 q28 q29 q30 q31 u0 u1 u2 u3 u4 u5 u6 u7 i_tape i_words 0 i_status 0 i_from i_to i_sort i_worth i_fault i_bad i_nClauses i_nCode i_nLeaves i_piled i_opened i_refusals i_row i_nClause i_nOp i_nArg i_pile i_pileAt) H := hP
    have hD : va_D A (wd_HM_law cA q0 q1 q2 q3 q4 q5 q6 q7 q8 q9 q10 q11 q12 q13 q14 q15 q16 q17 q18 q19 q20 q21 q22 q23 q24 q25 q26 q27 q28 q29 q30 q31 u0 u1 u2 u3 u4 u5 u6 u7 i_tape i_words 0 i_status 0 i_from i_to i_sort i_worth i_fault i_bad i_nClauses i_nCode i_nLeaves i_piled i_opened i_refusals i_row i_nClause i_nOp i_nArg i_pile i_pileAt) := hD
    refine lv_aload_n hx hb dX11_law_21 rfl (lv_at hl 0 rfl) ?_
    refine lv_bipush (v := Int32.ofInt (-5)) hx hb dX11_law_22 (by decide) ?_
    refine xe_d3 hf (fun v24 v25 a26 hg hf => ?_)
    have hC : ([0, 1] : List Nat).map (fun i => (wd_HM_law cA q0 q1 q2 q3 q4 q5 q6 q7 q8 q9 q10 q11 q12 q13 q14 q15 q16 q17 q18 q19 q20 q21 q22 q23 q24 q25 q26 q27 q28 q29 q30 q31 u0 u1 u2 u3 u4 u5 u6 u7 i_tape i_words 0 i_status 0 i_from i_to i_sort i_worth i_fault i_bad i_nClauses i_nCode i_nLeaves i_piled i_opened i_refusals i_row i_nClause i_nOp i_nArg i_pile i_pileAt)[i]?) = (wd_HM_tell cA q0 q1 q2 q3 q4 q5 q6 q7 q8 q9 q10 q11 q12 q13 q14 q15 q16 q17 q18 q19 q20 q21 q22 q23 q24 q25 q26 q27 q28 q29 q30 q31 0 u0 0 i_from i_to i_sort i_worth i_fault i_bad i_nClauses i_nCode i_nLeaves i_piled i_opened u1 u2 u3 u4 u5 u6 u7 i_status i_refusals).map some := rfl
    refine xv_afterI (ws' := (wd_HM_law cA q0 q1 q2 q3 q4 q5 q6 q7 q8 q9 q10 q11 q12 q13 q14 q15 q16 q17 q18 q19 q20 q21 q22 q23 q24 q25 q26 q27 q28 q29 q30 q31 u0 u1 u2 u3 u4 u5 u6 u7 i_tape i_words 0 v25 0 i_from i_to i_sort i_worth i_fault i_bad i_nClauses i_nCode i_nLeaves i_piled i_opened a26 i_row i_nClause i_nOp i_nArg i_pile i_pileAt)) (isC := [0, 1]) (ps := [some 0, some 1, none, none, none, none, none, none, none, none]) (va_runV (As := [.int (Int32.ofInt (-5))]) (rest := []) ⟨hx, hb, hml, hown, hts⟩ (c_HM_tell l ev dC dI cA q0 q1 q2 q3 q4 q5 q6 q7 q8 q9 q10 q11 q12 q13 q14 q15 q16 q17 q18 q19 q20 q21 q22 q23 q24 q25 q26 q27 q28 q29 q30 q31 0 u0 0 i_from i_to i_sort i_worth i_fault i_bad i_nClauses i_nCode i_nLeaves i_piled i_opened u1 u2 u3 u4 u5 u6 u7 hg H.size) (cwV 1 hts (zgV zw_1332 zw_1334 zw_40 zw_115 zw_1335) rfl rfl rfl hd_HM_tell ⟨Nat.le_of_ble_eq_true rfl, Nat.le_of_ble_eq_true rfl⟩) (xv_preV (T := TX11) (N := 53) hE hA hS hK hP hD (isC := [0, 1]) (by decide +kernel) hC (q0 := 0) (ci := 11) rfl rfl) rfl rfl hl.1 rfl (lv_room (Nat.le_of_ble_eq_true rfl)) dX11_law_24 ⟨Nat.le_refl _, Nat.le_refl _⟩) hP hD hS hA (by decide +kernel) rfl hC rfl rfl (fun H locs hP hD hS => ?_)
    obtain rfl := Option.some.inj hf
    exact hret _ _ _ _ rfl dX11_law_27 hP hD hS
