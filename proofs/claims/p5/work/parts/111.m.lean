theorem dX11_back_0 : decode cX11_back 0 = .ok (.aload_n 0, 1) := by decide +kernel
theorem dX11_back_1 : decode cX11_back 1 = .ok (.iconst 0, 1) := by decide +kernel
theorem dX11_back_2 : decode cX11_back 2 = .ok (.putfield 126, 3) := by decide +kernel
theorem dX11_back_5 : decode cX11_back 5 = .ok (.iload_n 1, 1) := by decide +kernel
theorem dX11_back_6 : decode cX11_back 6 = .ok (.i2l, 1) := by decide +kernel
theorem dX11_back_7 : decode cX11_back 7 = .ok (.lconst 0, 1) := by decide +kernel
theorem dX11_back_8 : decode cX11_back 8 = .ok (.lconst 1, 1) := by decide +kernel
theorem dX11_back_9 : decode cX11_back 9 = .ok (.invokestatic 132, 3) := by decide +kernel
theorem dX11_back_12 : decode cX11_back 12 = .ok (.ifCond .ne 9, 3) := by decide +kernel
theorem dX11_back_15 : decode cX11_back 15 = .ok (.aload_n 0, 1) := by decide +kernel
theorem dX11_back_16 : decode cX11_back 16 = .ok (.iconst (-1), 1) := by decide +kernel
theorem dX11_back_17 : decode cX11_back 17 = .ok (.invokevirtual 136, 3) := by decide +kernel
theorem dX11_back_20 : decode cX11_back 20 = .ok (.ireturn, 1) := by decide +kernel
theorem dX11_back_21 : decode cX11_back 21 = .ok (.aload_n 0, 1) := by decide +kernel
theorem dX11_back_22 : decode cX11_back 22 = .ok (.getfield 19, 3) := by decide +kernel
theorem dX11_back_25 : decode cX11_back 25 = .ok (.iload_n 1, 1) := by decide +kernel
theorem dX11_back_26 : decode cX11_back 26 = .ok (.baload, 1) := by decide +kernel
theorem dX11_back_27 : decode cX11_back 27 = .ok (.ifCond .ne 10, 3) := by decide +kernel
theorem dX11_back_30 : decode cX11_back 30 = .ok (.aload_n 0, 1) := by decide +kernel
theorem dX11_back_31 : decode cX11_back 31 = .ok (.bipush (-2), 2) := by decide +kernel
theorem dX11_back_33 : decode cX11_back 33 = .ok (.invokevirtual 136, 3) := by decide +kernel
theorem dX11_back_36 : decode cX11_back 36 = .ok (.ireturn, 1) := by decide +kernel
theorem dX11_back_37 : decode cX11_back 37 = .ok (.iconst 0, 1) := by decide +kernel
theorem dX11_back_38 : decode cX11_back 38 = .ok (.istore_n 2, 1) := by decide +kernel
theorem dX11_back_39 : decode cX11_back 39 = .ok (.iload_n 2, 1) := by decide +kernel
theorem dX11_back_40 : decode cX11_back 40 = .ok (.sipush 5580, 3) := by decide +kernel
theorem dX11_back_43 : decode cX11_back 43 = .ok (.if_icmp .ge 27, 3) := by decide +kernel
theorem dX11_back_46 : decode cX11_back 46 = .ok (.aload_n 0, 1) := by decide +kernel
theorem dX11_back_47 : decode cX11_back 47 = .ok (.getfield 13, 3) := by decide +kernel
theorem dX11_back_50 : decode cX11_back 50 = .ok (.iload_n 2, 1) := by decide +kernel
theorem dX11_back_51 : decode cX11_back 51 = .ok (.aload_n 0, 1) := by decide +kernel
theorem dX11_back_52 : decode cX11_back 52 = .ok (.getfield 16, 3) := by decide +kernel
theorem dX11_back_55 : decode cX11_back 55 = .ok (.sipush 5580, 3) := by decide +kernel
theorem dX11_back_58 : decode cX11_back 58 = .ok (.iload_n 1, 1) := by decide +kernel
theorem dX11_back_59 : decode cX11_back 59 = .ok (.imul, 1) := by decide +kernel
theorem dX11_back_60 : decode cX11_back 60 = .ok (.iload_n 2, 1) := by decide +kernel
theorem dX11_back_61 : decode cX11_back 61 = .ok (.iadd, 1) := by decide +kernel
theorem dX11_back_62 : decode cX11_back 62 = .ok (.iaload, 1) := by decide +kernel
theorem dX11_back_63 : decode cX11_back 63 = .ok (.iastore, 1) := by decide +kernel
theorem dX11_back_64 : decode cX11_back 64 = .ok (.iinc 2 1, 3) := by decide +kernel
theorem dX11_back_67 : decode cX11_back 67 = .ok (.goto (-28), 3) := by decide +kernel
theorem dX11_back_70 : decode cX11_back 70 = .ok (.aload_n 0, 1) := by decide +kernel
theorem dX11_back_71 : decode cX11_back 71 = .ok (.iconst 0, 1) := by decide +kernel
theorem dX11_back_72 : decode cX11_back 72 = .ok (.invokevirtual 136, 3) := by decide +kernel
theorem dX11_back_75 : decode cX11_back 75 = .ok (.ireturn, 1) := by decide +kernel
theorem zw_1339 : (Jvm.Cond.code ({ cls := "HillSchoolModel", name := "back", desc := "(I)I" } : Jvm.MethodName) prog_13_method_9_code (3 : Nat) (Option.some Jvm.ClassFile.FieldType.int)) ∈ zall := zmemG (zmj_6 36 rfl) rfl
abbrev w_HM_back : List Cond := .code yX11_back cX11_back 3 (some .int) :: zall
abbrev rm_HM_back : Room := { frames := 1, cells := 0, slots := 0, locals := 25 }
theorem hd_HM_back : yX11_back.cls = "HillSchoolModel" ∧ yX11_back.cls ≠ "java/lang/invoke/MethodHandle" ∧ yX11_back.cls ≠ "java/lang/invoke/VarHandle" ∧ (parseMethodDescriptor yX11_back.desc).map (fun d => d.parameters.length) = some 1 := by decide +kernel
def wd_HM_back (cA : Nat → ClassId) (q0 q1 q2 q3 q4 q5 q6 q7 q8 q9 q10 q11 q12 q13 q14 q15 q16 q17 q18 q19 q20 q21 q22 q23 q24 q25 q26 q27 q28 q29 q30 q31 : Nat) (u0 u1 u2 u3 u4 u5 u6 u7 u8 u9 u10 u11 u12 u13 u14 u15 u16 u17 u18 u19 : Int) (i_images : Nat → Int) (i_isKept : Nat → Int) (i_thrown : Int) (i_status : Int) (i_refusals : Nat → Int) (i_row : Nat → Int) : va_W := [(q0, .inr (11, [.int (Int32.ofInt i_thrown), .int (Int32.ofInt i_status), .ref q1, .ref q2, .ref q3, .ref q4, .int (Int32.ofInt u0), .ref q5, .int (Int32.ofInt u1), .int (Int32.ofInt u2), .int (Int32.ofInt u3), .int (Int32.ofInt u4), .long (Int64.ofInt u5), .int (Int32.ofInt u6), .int (Int32.ofInt u7), .int (Int32.ofInt u8), .ref q6, .int (Int32.ofInt u9), .ref q7, .ref q8, .int (Int32.ofInt u10), .ref q9, .ref q10, .int (Int32.ofInt u11), .int (Int32.ofInt u12), .ref q11, .int (Int32.ofInt u13), .ref q12, .ref q13, .int (Int32.ofInt u14), .long (Int64.ofInt u15), .long (Int64.ofInt u16), .ref q14, .ref q15, .ref q16, .ref q17, .ref q18, .int (Int32.ofInt u17), .ref q19, .ref q20, .ref q21, .ref q22, .ref q23, .ref q24, .ref q25, .ref q26, .ref q27, .ref q28, .ref q29, .ref q30, .long (Int64.ofInt u18), .ref q31, .int (Int32.ofInt u19)])), (q1, .inl (cA 0, 7, .inl (za i_refusals))), (q2, .inl (cA 0, 5580, .inl (za i_row))), (q3, .inl (cA 0, 11160, .inl (za i_images))), (q4, .inl (cA 1, 2, .inl (za i_isKept)))]
def wf_HM_back (cA : Nat → ClassId) (q0 q1 q2 q3 q4 q5 q6 q7 q8 q9 q10 q11 q12 q13 q14 q15 q16 q17 q18 q19 q20 q21 q22 q23 q24 q25 q26 q27 q28 q29 q30 q31 : Nat) (u0 u1 u2 u3 u4 u5 u6 u7 u8 u9 u10 u11 u12 u13 u14 u15 u16 u17 u18 u19 : Int) (i_images : Nat → Int) (i_isKept : Nat → Int) (o : Int × Int × Int × (Nat → Int) × (Nat → Int)) : va_W := wd_HM_back cA q0 q1 q2 q3 q4 q5 q6 q7 q8 q9 q10 q11 q12 q13 q14 q15 q16 q17 q18 q19 q20 q21 q22 q23 q24 q25 q26 q27 q28 q29 q30 q31 u0 u1 u2 u3 u4 u5 u6 u7 u8 u9 u10 u11 u12 u13 u14 u15 u16 u17 u18 u19 i_images i_isKept o.2.1 o.2.2.1 o.2.2.2.1 o.2.2.2.2
def f_HM_back_39_b (i_images : Nat → Int) (i_isKept : Nat → Int) (k39 : Int → Int → Int → Int → (Nat → Int) → (Nat → Int) → Option (Int × Int × Int × (Nat → Int) × (Nat → Int))) (x1 : Int) (x2 : Int) (i_thrown : Int) (i_status : Int) (i_refusals : Nat → Int) (i_row : Nat → Int) : Option (Int × Int × Int × (Nat → Int) × (Nat → Int)) :=
  if zi_w 5580 ≤ zi_w x2 then
    zd3 (f_HM_tell 0 i_status i_refusals) fun v1 v2 a3 =>
    some (v1, i_thrown, v2, a3, i_row)
  else
    zn (5580 * x1) fun v4 =>
    zn (v4 + x2) fun v5 =>
    zg 11160 i_images v5 fun v6 =>
    zs 5580 i_row x2 v6 fun a7 =>
    zn (x2 + 1) fun v8 =>
    k39 x1 v8 i_thrown i_status i_refusals a7
def f_HM_back_39 (i_images : Nat → Int) (i_isKept : Nat → Int) : Nat → Int → Int → Int → Int → (Nat → Int) → (Nat → Int) → Option (Int × Int × Int × (Nat → Int) × (Nat → Int))
  | 0 => fun _ _ _ _ _ _ => none
  | n + 1 => fun y0 y1 y2 y3 y4 y5 => f_HM_back_39_b i_images i_isKept (f_HM_back_39 i_images i_isKept n) y0 y1 y2 y3 y4 y5
def f_HM_back (x1 : Int) (i_images : Nat → Int) (i_isKept : Nat → Int) (i_thrown : Int) (i_status : Int) (i_refusals : Nat → Int) (i_row : Nat → Int) : Option (Int × Int × Int × (Nat → Int) × (Nat → Int)) :=
  zn (zi_w x1) fun v1 =>
  zd1 (f_HM_in v1 0 1) fun v2 =>
  if zi_w v2 ≠ 0 then
    zg 2 i_isKept x1 fun v3 =>
    if zi_w v3 ≠ 0 then
      f_HM_back_39 i_images i_isKept zfu x1 0 0 i_status i_refusals i_row
    else
      zd3 (f_HM_tell (-2) i_status i_refusals) fun v4 v5 a6 =>
      some (v4, 0, v5, a6, i_row)
  else
    zd3 (f_HM_tell (-1) i_status i_refusals) fun v7 v8 a9 =>
    some (v7, 0, v8, a9, i_row)
set_option maxHeartbeats 4000000 in
set_option maxRecDepth 100000 in
theorem c_HM_back (l : Launch) (ev : zEv) (dC : Nat → ClassId) (dI : Nat → Nat → Nat) (cA : Nat → ClassId) (q0 q1 q2 q3 q4 q5 q6 q7 q8 q9 q10 q11 q12 q13 q14 q15 q16 q17 q18 q19 q20 q21 q22 q23 q24 q25 q26 q27 q28 q29 q30 q31 : Nat) (u0 u1 u2 u3 u4 u5 u6 u7 u8 u9 u10 u11 u12 u13 u14 u15 u16 u17 u18 u19 : Int) {x1 : Int} {i_images : Nat → Int} {i_isKept : Nat → Int} {i_thrown : Int} {i_status : Int} {i_refusals : Nat → Int} {i_row : Nat → Int} {out : Int × Int × Int × (Nat → Int) × (Nat → Int)} (hf : f_HM_back x1 i_images i_isKept i_thrown i_status i_refusals i_row = some out) : xc_I l ev (dC, dI) vwCl (tyl cA) yX11_back w_HM_back rm_HM_back [.ref q0, .int (Int32.ofInt x1)] (wd_HM_back cA q0 q1 q2 q3 q4 q5 q6 q7 q8 q9 q10 q11 q12 q13 q14 q15 q16 q17 q18 q19 q20 q21 q22 q23 q24 q25 q26 q27 q28 q29 q30 q31 u0 u1 u2 u3 u4 u5 u6 u7 u8 u9 u10 u11 u12 u13 u14 u15 u16 u17 u18 u19 i_images i_isKept i_thrown i_status i_refusals i_row) (wf_HM_back cA q0 q1 q2 q3 q4 q5 q6 q7 q8 q9 q10 q11 q12 q13 q14 q15 q16 q17 q18 q19 q20 q21 q22 q23 q24 q25 q26 q27 q28 q29 q30 q31 u0 u1 u2 u3 u4 u5 u6 u7 u8 u9 u10 u11 u12 u13 u14 u15 u16 u17 u18 u19 i_images i_isKept out) out.1 := by
  refine xv_startI (cc := cX11_back) (maxL := 3) (rt := .int) (by decide +kernel) rfl (Nat.le_of_ble_eq_true rfl) ?_
  intro p e s m args below meth c A Q H ls hx hb hml hts hown hK hA hP hD hS hl hE hret
  have hown : s.vm.findClass "HillSchoolModel" = some m.cls := hown
  have hz : ∀ w ∈ zall, w.before args s = true := fun w h => hts w (List.mem_cons_of_mem _ h)
  have hl : lv_has ls 3 [(0, .ref q0), (1, .int (Int32.ofInt x1))] := hl
  have b_39 : ∀ (k39 : Int → Int → Int → Int → (Nat → Int) → (Nat → Int) → Option (Int × Int × Int × (Nat → Int) × (Nat → Int))) (_ : ∀ (x1 : Int) (x2 : Int) (i_thrown : Int) (i_status : Int) (i_refusals : Nat → Int) (i_row : Nat → Int) (H : Heap) (locs : List Loc) (ls : Array Slot), k39 x1 x2 i_thrown i_status i_refusals i_row = some out → va_P (dC, dI) vwCl (wd_HM_back cA q0 q1 q2 q3 q4 q5 q6 q7 q8 q9 q10 q11 q12 q13 q14 q15 q16 q17 q18 q19 q20 q21 q22 q23 q24 q25 q26 q27 q28 q29 q30 q31 u0 u1 u2 u3 u4 u5 u6 u7 u8 u9 u10 u11 u12 u13 u14 u15 u16 u17 u18 u19 i_images i_isKept i_thrown i_status i_refusals i_row) H → va_D A (wd_HM_back cA q0 q1 q2 q3 q4 q5 q6 q7 q8 q9 q10 q11 q12 q13 q14 q15 q16 q17 q18 q19 q20 q21 q22 q23 q24 q25 q26 q27 q28 q29 q30 q31 u0 u1 u2 u3 u4 u5 u6 u7 u8 u9 u10 u11 u12 u13 u14 u15 u16 u17 u18 u19 i_images i_isKept i_thrown i_status i_refusals i_row) → va_S A s.heap H locs → lv_has ls 3 [(0, .ref q0), (1, .int (Int32.ofInt x1)), (2, .int (Int32.ofInt x2))] → W p l e rm_HM_back s m args below meth c H locs 0 0 Q (F0 m 39 ls [])), ∀ (x1 : Int) (x2 : Int) (i_thrown : Int) (i_status : Int) (i_refusals : Nat → Int) (i_row : Nat → Int) (H : Heap) (locs : List Loc) (ls : Array Slot), f_HM_back_39_b i_images i_isKept k39 x1 x2 i_thrown i_status i_refusals i_row = some out → va_P (dC, dI) vwCl (wd_HM_back cA q0 q1 q2 q3 q4 q5 q6 q7 q8 q9 q10 q11 q12 q13 q14 q15 q16 q17 q18 q19 q20 q21 q22 q23 q24 q25 q26 q27 q28 q29 q30 q31 u0 u1 u2 u3 u4 u5 u6 u7 u8 u9 u10 u11 u12 u13 u14 u15 u16 u17 u18 u19 i_images i_isKept i_thrown i_status i_refusals i_row) H → va_D A (wd_HM_back cA q0 q1 q2 q3 q4 q5 q6 q7 q8 q9 q10 q11 q12 q13 q14 q15 q16 q17 q18 q19 q20 q21 q22 q23 q24 q25 q26 q27 q28 q29 q30 q31 u0 u1 u2 u3 u4 u5 u6 u7 u8 u9 u10 u11 u12 u13 u14 u15 u16 u17 u18 u19 i_images i_isKept i_thrown i_status i_refusals i_row) → va_S A s.heap H locs → lv_has ls 3 [(0, .ref q0), (1, .int (Int32.ofInt x1)), (2, .int (Int32.ofInt x2))] → W p l e rm_HM_back s m args below meth c H locs 0 0 Q (F0 m 39 ls []) := by
    intro k39 ih39 x1 x2 i_thrown i_status i_refusals i_row H locs ls hf hP hD hS hl
    unfold f_HM_back_39_b at hf
    refine lv_iload_n hx hb dX11_back_39 rfl (lv_at hl 2 rfl) ?_
    refine lv_sipush (v := Int32.ofInt 5580) hx hb dX11_back_40 (by decide) ?_
    refine xi_icmp_ge (tgt := 70) hx hb dX11_back_43 (by decide) hf (fun hf => ?_) (fun hf => ?_)
    · refine lv_aload_n hx hb dX11_back_70 rfl (lv_at hl 0 rfl) ?_
      refine lv_iconst (v := Int32.ofInt 0) hx hb dX11_back_71 rfl ?_
      refine xe_d3 hf (fun v1 v2 a3 hg hf => ?_)
      have hC : ([0, 1] : List Nat).map (fun i => (wd_HM_back cA q0 q1 q2 q3 q4 q5 q6 q7 q8 q9 q10 q11 q12 q13 q14 q15 q16 q17 q18 q19 q20 q21 q22 q23 q24 q25 q26 q27 q28 q29 q30 q31 u0 u1 u2 u3 u4 u5 u6 u7 u8 u9 u10 u11 u12 u13 u14 u15 u16 u17 u18 u19 i_images i_isKept i_thrown i_status i_refusals i_row)[i]?) = (wd_HM_tell cA q0 q1 q2 q3 q4 q5 q6 q7 q8 q9 q10 q11 q12 q13 q14 q15 q16 q17 q18 q19 q20 q21 q22 q23 q24 q25 q26 q27 q28 q29 q30 q31 i_thrown u0 u1 u2 u3 u4 u5 u6 u7 u8 u9 u10 u11 u12 u13 u14 u15 u16 u17 u18 u19 i_status i_refusals).map some := rfl
      refine xv_afterI (ws' := (wd_HM_back cA q0 q1 q2 q3 q4 q5 q6 q7 q8 q9 q10 q11 q12 q13 q14 q15 q16 q17 q18 q19 q20 q21 q22 q23 q24 q25 q26 q27 q28 q29 q30 q31 u0 u1 u2 u3 u4 u5 u6 u7 u8 u9 u10 u11 u12 u13 u14 u15 u16 u17 u18 u19 i_images i_isKept i_thrown v2 a3 i_row)) (isC := [0, 1]) (ps := [some 0, some 1, none, none, none]) (va_runV (As := [.int (Int32.ofInt 0)]) (rest := []) ⟨hx, hb, hml, hown, hts⟩ (c_HM_tell l ev dC dI cA q0 q1 q2 q3 q4 q5 q6 q7 q8 q9 q10 q11 q12 q13 q14 q15 q16 q17 q18 q19 q20 q21 q22 q23 q24 q25 q26 q27 q28 q29 q30 q31 i_thrown u0 u1 u2 u3 u4 u5 u6 u7 u8 u9 u10 u11 u12 u13 u14 u15 u16 u17 u18 u19 hg H.size) (cwV 1 hts (zgV zw_1332 zw_1334 zw_40 zw_115 zw_1335) rfl rfl rfl hd_HM_tell ⟨Nat.le_of_ble_eq_true rfl, Nat.le_of_ble_eq_true rfl⟩) (xv_preV (T := TX11) (N := 53) hE hA hS hK hP hD (isC := [0, 1]) (by decide +kernel) hC (q0 := 0) (ci := 11) rfl rfl) rfl rfl hl.1 rfl (lv_room (Nat.le_of_ble_eq_true rfl)) dX11_back_72 ⟨Nat.le_refl _, Nat.le_refl _⟩) hP hD hS hA (by decide +kernel) rfl hC rfl rfl (fun H locs hP hD hS => ?_)
      obtain rfl := Option.some.inj hf
      exact hret _ _ _ _ rfl dX11_back_75 hP hD hS
    · refine lv_aload_n hx hb dX11_back_46 rfl (lv_at hl 0 rfl) ?_
      refine va_get (D := (dC, dI)) (ci := 11) (v := .ref q2) (C := RX11) (T := TX11) (N := 53) hx hb hz zi_X11 hown hK hP 0 rfl rfl 3 (by decide) (hz _ zw_1168) (fun _ h9 => h9) rfl dX11_back_47 ?_
      refine lv_iload_n hx hb dX11_back_50 rfl (lv_at hl 2 rfl) ?_
      refine lv_aload_n hx hb dX11_back_51 rfl (lv_at hl 0 rfl) ?_
      refine va_get (D := (dC, dI)) (ci := 11) (v := .ref q3) (C := RX11) (T := TX11) (N := 53) hx hb hz zi_X11 hown hK hP 0 rfl rfl 4 (by decide) (hz _ zw_1169) (fun _ h9 => h9) rfl dX11_back_52 ?_
      refine lv_sipush (v := Int32.ofInt 5580) hx hb dX11_back_55 (by decide) ?_
      refine lv_iload_n hx hb dX11_back_58 rfl (lv_at hl 1 rfl) ?_
      refine xi_imul hx hb dX11_back_59 hf (fun v4 hf => ?_)
      refine lv_iload_n hx hb dX11_back_60 rfl (lv_at hl 2 rfl) ?_
      refine xi_iadd hx hb dX11_back_61 hf (fun v5 hf => ?_)
      refine xi_iald hx hb hK hP 3 0 rfl rfl dX11_back_62 hf (fun v6 hf => ?_)
      refine xi_iast hx hb hK hP hD hS 2 0 rfl rfl dX11_back_63 hf (fun a7 H locs hP hD hS hf => ?_)
      have hP : va_P (dC, dI) vwCl (wd_HM_back cA q0 q1 q2 q3 q4 q5 q6 q7 q8 q9 q10 q11 q12 q13 q14 q15 q16 q17 q18 q19 q20 q21 q22 q23 q24 q25 q26 q27 q28 q29 q30 q31 u0 u1 u2 u3 u4 u5 u6 u7 u8 u9 u10 u11 u12 u13 u14 u15 u16 u17 u18 u19 i_images i_isKept i_thrown i_status i_refusals a7) H := hP
      have hD : va_D A (wd_HM_back cA q0 q1 q2 q3 q4 q5 q6 q7 q8 q9 q10 q11 q12 q13 q14 q15 q16 q17 q18 q19 q20 q21 q22 q23 q24 q25 q26 q27 q28 q29 q30 q31 u0 u1 u2 u3 u4 u5 u6 u7 u8 u9 u10 u11 u12 u13 u14 u15 u16 u17 u18 u19 i_images i_isKept i_thrown i_status i_refusals a7) := hD
      refine xi_iinc hx hb dX11_back_64 hl (k := 2) rfl (by decide) hf (fun v8 ls hl hf => ?_)
      have hl : lv_has ls 3 [(2, .int (Int32.ofInt v8)), (0, .ref q0), (1, .int (Int32.ofInt x1))] := hl
      refine lv_goto (tgt := 39) hx hb dX11_back_67 (by decide) ?_
      exact ih39 _ _ _ _ _ _ _ _ _ hf hP hD hS (lv_sub hl [1, 2, 0] rfl)
  have l_39 : ∀ (n : Nat), ∀ (x1 : Int) (x2 : Int) (i_thrown : Int) (i_status : Int) (i_refusals : Nat → Int) (i_row : Nat → Int) (H : Heap) (locs : List Loc) (ls : Array Slot), f_HM_back_39 i_images i_isKept n x1 x2 i_thrown i_status i_refusals i_row = some out → va_P (dC, dI) vwCl (wd_HM_back cA q0 q1 q2 q3 q4 q5 q6 q7 q8 q9 q10 q11 q12 q13 q14 q15 q16 q17 q18 q19 q20 q21 q22 q23 q24 q25 q26 q27 q28 q29 q30 q31 u0 u1 u2 u3 u4 u5 u6 u7 u8 u9 u10 u11 u12 u13 u14 u15 u16 u17 u18 u19 i_images i_isKept i_thrown i_status i_refusals i_row) H → va_D A (wd_HM_back cA q0 q1 q2 q3 q4 q5 q6 q7 q8 q9 q10 q11 q12 q13 q14 q15 q16 q17 q18 q19 q20 q21 q22 q23 q24 q25 q26 q27 q28 q29 q30 q31 u0 u1 u2 u3 u4 u5 u6 u7 u8 u9 u10 u11 u12 u13 u14 u15 u16 u17 u18 u19 i_images i_isKept i_thrown i_status i_refusals i_row) → va_S A s.heap H locs → lv_has ls 3 [(0, .ref q0), (1, .int (Int32.ofInt x1)), (2, .int (Int32.ofInt x2))] → W p l e rm_HM_back s m args below meth c H locs 0 0 Q (F0 m 39 ls []) := by
    intro n
    induction n with
    | zero => intro x1 x2 i_thrown i_status i_refusals i_row H locs ls hf hP hD hS hl; exact nomatch hf
    | succ n ih => intro x1 x2 i_thrown i_status i_refusals i_row H locs ls hf hP hD hS hl; exact b_39 (f_HM_back_39 i_images i_isKept n) ih x1 x2 i_thrown i_status i_refusals i_row H locs ls hf hP hD hS hl
  unfold f_HM_back at hf
  refine lv_aload_n hx hb dX11_back_0 rfl (lv_at hl 0 rfl) ?_
  refine lv_iconst (v := Int32.ofInt 0) hx hb dX11_back_1 rfl ?_
  refine va_put (D := (dC, dI)) (ci := 11) (v := .int (Int32.ofInt 0)) (ty := .int) (C := RX11) (T := TX11) (N := 53) hx hb hz zi_X11 tyX11 tyX11_ok nmX11 hown hK hP hD hS 0 rfl rfl 0 (by decide) (hz _ zw_1165) (fun _ h9 => h9) rfl (by decide +kernel) rfl rfl (Nat.le_of_ble_eq_true rfl) dX11_back_2 (fun H locs hP hD hS => ?_)
  have hP : va_P (dC, dI) vwCl (wd_HM_back cA q0 q1 q2 q3 q4 q5 q6 q7 q8 q9 q10 q11 q12 q13 q14 q15 q16 q17 q18 q19 q20 q21 q22 q23 q24 q25 q26 q27 q28 q29 q30 q31 u0 u1 u2 u3 u4 u5 u6 u7 u8 u9 u10 u11 u12 u13 u14 u15 u16 u17 u18 u19 i_images i_isKept 0 i_status i_refusals i_row) H := hP
  have hD : va_D A (wd_HM_back cA q0 q1 q2 q3 q4 q5 q6 q7 q8 q9 q10 q11 q12 q13 q14 q15 q16 q17 q18 q19 q20 q21 q22 q23 q24 q25 q26 q27 q28 q29 q30 q31 u0 u1 u2 u3 u4 u5 u6 u7 u8 u9 u10 u11 u12 u13 u14 u15 u16 u17 u18 u19 i_images i_isKept 0 i_status i_refusals i_row) := hD
  refine lv_iload_n hx hb dX11_back_5 rfl (lv_at hl 1 rfl) ?_
  refine xi_i2l hx hb dX11_back_6 hf (fun v1 hf => ?_)
  refine lv_lconst (v := Int64.ofInt 0) hx hb dX11_back_7 (by decide) ?_
  refine lv_lconst (v := Int64.ofInt 1) hx hb dX11_back_8 (by decide) ?_
  refine xe_d1 hf (fun v2 hg hf => ?_)
  have hC : ([] : List Nat).map (fun i => (wd_HM_back cA q0 q1 q2 q3 q4 q5 q6 q7 q8 q9 q10 q11 q12 q13 q14 q15 q16 q17 q18 q19 q20 q21 q22 q23 q24 q25 q26 q27 q28 q29 q30 q31 u0 u1 u2 u3 u4 u5 u6 u7 u8 u9 u10 u11 u12 u13 u14 u15 u16 u17 u18 u19 i_images i_isKept 0 i_status i_refusals i_row)[i]?) = (wd_HM_in cA).map some := rfl
  refine xv_afterI (ws' := (wd_HM_back cA q0 q1 q2 q3 q4 q5 q6 q7 q8 q9 q10 q11 q12 q13 q14 q15 q16 q17 q18 q19 q20 q21 q22 q23 q24 q25 q26 q27 q28 q29 q30 q31 u0 u1 u2 u3 u4 u5 u6 u7 u8 u9 u10 u11 u12 u13 u14 u15 u16 u17 u18 u19 i_images i_isKept 0 i_status i_refusals i_row)) (isC := []) (ps := [none, none, none, none, none]) (va_runS (As := [.long (Int64.ofInt v1), .long (Int64.ofInt 0), .long (Int64.ofInt 1)]) (rest := []) ⟨hx, hb, hml, hown, hts⟩ (c_HM_in l ev dC dI cA hg H.size) (va_cwS 3 hts (zgS zw_1329 zw_1330 zw_115 zw_1331) rfl rfl rfl hd_HM_in.2 ⟨Nat.le_of_ble_eq_true rfl, Nat.le_of_ble_eq_true rfl⟩) (xv_preS hE hA hS hK hP hD (isC := []) (by decide +kernel) hC) rfl rfl hl.1 rfl (lv_room (Nat.le_of_ble_eq_true rfl)) dX11_back_9 ⟨Nat.le_refl _, Nat.le_refl _⟩) hP hD hS hA (by decide +kernel) rfl hC rfl rfl (fun H locs hP hD hS => ?_)
  refine xi_if_ne (tgt := 21) hx hb dX11_back_12 (by decide) hf (fun hf => ?_) (fun hf => ?_)
  · refine lv_aload_n hx hb dX11_back_21 rfl (lv_at hl 0 rfl) ?_
    refine va_get (D := (dC, dI)) (ci := 11) (v := .ref q4) (C := RX11) (T := TX11) (N := 53) hx hb hz zi_X11 hown hK hP 0 rfl rfl 5 (by decide) (hz _ zw_1170) (fun _ h9 => h9) rfl dX11_back_22 ?_
    refine lv_iload_n hx hb dX11_back_25 rfl (lv_at hl 1 rfl) ?_
    refine xi_zald hx hb hK hP 4 1 rfl rfl dX11_back_26 hf (fun v3 hf => ?_)
    refine xi_if_ne (tgt := 37) hx hb dX11_back_27 (by decide) hf (fun hf => ?_) (fun hf => ?_)
    · refine lv_iconst (v := Int32.ofInt 0) hx hb dX11_back_37 rfl ?_
      refine lv_istore_n (lv' := [(2, .int (Int32.ofInt 0)), (0, .ref q0), (1, .int (Int32.ofInt x1))]) hx hb dX11_back_38 rfl hl (by decide) rfl (fun ls hl => ?_)
      exact l_39  _ _ _ _ _ _ _ _ _ _ hf hP hD hS (lv_sub hl [1, 2, 0] rfl)
    · refine lv_aload_n hx hb dX11_back_30 rfl (lv_at hl 0 rfl) ?_
      refine lv_bipush (v := Int32.ofInt (-2)) hx hb dX11_back_31 (by decide) ?_
      refine xe_d3 hf (fun v4 v5 a6 hg hf => ?_)
      have hC : ([0, 1] : List Nat).map (fun i => (wd_HM_back cA q0 q1 q2 q3 q4 q5 q6 q7 q8 q9 q10 q11 q12 q13 q14 q15 q16 q17 q18 q19 q20 q21 q22 q23 q24 q25 q26 q27 q28 q29 q30 q31 u0 u1 u2 u3 u4 u5 u6 u7 u8 u9 u10 u11 u12 u13 u14 u15 u16 u17 u18 u19 i_images i_isKept 0 i_status i_refusals i_row)[i]?) = (wd_HM_tell cA q0 q1 q2 q3 q4 q5 q6 q7 q8 q9 q10 q11 q12 q13 q14 q15 q16 q17 q18 q19 q20 q21 q22 q23 q24 q25 q26 q27 q28 q29 q30 q31 0 u0 u1 u2 u3 u4 u5 u6 u7 u8 u9 u10 u11 u12 u13 u14 u15 u16 u17 u18 u19 i_status i_refusals).map some := rfl
      refine xv_afterI (ws' := (wd_HM_back cA q0 q1 q2 q3 q4 q5 q6 q7 q8 q9 q10 q11 q12 q13 q14 q15 q16 q17 q18 q19 q20 q21 q22 q23 q24 q25 q26 q27 q28 q29 q30 q31 u0 u1 u2 u3 u4 u5 u6 u7 u8 u9 u10 u11 u12 u13 u14 u15 u16 u17 u18 u19 i_images i_isKept 0 v5 a6 i_row)) (isC := [0, 1]) (ps := [some 0, some 1, none, none, none]) (va_runV (As := [.int (Int32.ofInt (-2))]) (rest := []) ⟨hx, hb, hml, hown, hts⟩ (c_HM_tell l ev dC dI cA q0 q1 q2 q3 q4 q5 q6 q7 q8 q9 q10 q11 q12 q13 q14 q15 q16 q17 q18 q19 q20 q21 q22 q23 q24 q25 q26 q27 q28 q29 q30 q31 0 u0 u1 u2 u3 u4 u5 u6 u7 u8 u9 u10 u11 u12 u13 u14 u15 u16 u17 u18 u19 hg H.size) (cwV 1 hts (zgV zw_1332 zw_1334 zw_40 zw_115 zw_1335) rfl rfl rfl hd_HM_tell ⟨Nat.le_of_ble_eq_true rfl, Nat.le_of_ble_eq_true rfl⟩) (xv_preV (T := TX11) (N := 53) hE hA hS hK hP hD (isC := [0, 1]) (by decide +kernel) hC (q0 := 0) (ci := 11) rfl rfl) rfl rfl hl.1 rfl (lv_room (Nat.le_of_ble_eq_true rfl)) dX11_back_33 ⟨Nat.le_refl _, Nat.le_refl _⟩) hP hD hS hA (by decide +kernel) rfl hC rfl rfl (fun H locs hP hD hS => ?_)
      obtain rfl := Option.some.inj hf
      exact hret _ _ _ _ rfl dX11_back_36 hP hD hS
  · refine lv_aload_n hx hb dX11_back_15 rfl (lv_at hl 0 rfl) ?_
    refine lv_iconst (v := Int32.ofInt (-1)) hx hb dX11_back_16 rfl ?_
    refine xe_d3 hf (fun v7 v8 a9 hg hf => ?_)
    have hC : ([0, 1] : List Nat).map (fun i => (wd_HM_back cA q0 q1 q2 q3 q4 q5 q6 q7 q8 q9 q10 q11 q12 q13 q14 q15 q16 q17 q18 q19 q20 q21 q22 q23 q24 q25 q26 q27 q28 q29 q30 q31 u0 u1 u2 u3 u4 u5 u6 u7 u8 u9 u10 u11 u12 u13 u14 u15 u16 u17 u18 u19 i_images i_isKept 0 i_status i_refusals i_row)[i]?) = (wd_HM_tell cA q0 q1 q2 q3 q4 q5 q6 q7 q8 q9 q10 q11 q12 q13 q14 q15 q16 q17 q18 q19 q20 q21 q22 q23 q24 q25 q26 q27 q28 q29 q30 q31 0 u0 u1 u2 u3 u4 u5 u6 u7 u8 u9 u10 u11 u12 u13 u14 u15 u16 u17 u18 u19 i_status i_refusals).map some := rfl
    refine xv_afterI (ws' := (wd_HM_back cA q0 q1 q2 q3 q4 q5 q6 q7 q8 q9 q10 q11 q12 q13 q14 q15 q16 q17 q18 q19 q20 q21 q22 q23 q24 q25 q26 q27 q28 q29 q30 q31 u0 u1 u2 u3 u4 u5 u6 u7 u8 u9 u10 u11 u12 u13 u14 u15 u16 u17 u18 u19 i_images i_isKept 0 v8 a9 i_row)) (isC := [0, 1]) (ps := [some 0, some 1, none, none, none]) (va_runV (As := [.int (Int32.ofInt (-1))]) (rest := []) ⟨hx, hb, hml, hown, hts⟩ (c_HM_tell l ev dC dI cA q0 q1 q2 q3 q4 q5 q6 q7 q8 q9 q10 q11 q12 q13 q14 q15 q16 q17 q18 q19 q20 q21 q22 q23 q24 q25 q26 q27 q28 q29 q30 q31 0 u0 u1 u2 u3 u4 u5 u6 u7 u8 u9 u10 u11 u12 u13 u14 u15 u16 u17 u18 u19 hg H.size) (cwV 1 hts (zgV zw_1332 zw_1334 zw_40 zw_115 zw_1335) rfl rfl rfl hd_HM_tell ⟨Nat.le_of_ble_eq_true rfl, Nat.le_of_ble_eq_true rfl⟩) (xv_preV (T := TX11) (N := 53) hE hA hS hK hP hD (isC := [0, 1]) (by decide +kernel) hC (q0 := 0) (ci := 11) rfl rfl) rfl rfl hl.1 rfl (lv_room (Nat.le_of_ble_eq_true rfl)) dX11_back_17 ⟨Nat.le_refl _, Nat.le_refl _⟩) hP hD hS hA (by decide +kernel) rfl hC rfl rfl (fun H locs hP hD hS => ?_)
    obtain rfl := Option.some.inj hf
    exact hret _ _ _ _ rfl dX11_back_20 hP hD hS
theorem dX11_columns_0 : decode cX11_columns 0 = .ok (.aload_n 0, 1) := by decide +kernel
theorem dX11_columns_1 : decode cX11_columns 1 = .ok (.getfield 13, 3) := by decide +kernel
theorem dX11_columns_4 : decode cX11_columns 4 = .ok (.iconst 0, 1) := by decide +kernel
theorem dX11_columns_5 : decode cX11_columns 5 = .ok (.iaload, 1) := by decide +kernel
theorem dX11_columns_6 : decode cX11_columns 6 = .ok (.ireturn, 1) := by decide +kernel
theorem zw_1347 : (Jvm.Cond.code ({ cls := "HillSchoolModel", name := "columns", desc := "()I" } : Jvm.MethodName) prog_13_method_10_code (1 : Nat) (Option.some Jvm.ClassFile.FieldType.int)) ∈ zall := zmemG (zmj_6 44 rfl) rfl
abbrev w_HM_columns : List Cond := .code yX11_columns cX11_columns 1 (some .int) :: zall
abbrev rm_HM_columns : Room := { frames := 0, cells := 0, slots := 0, locals := 0 }
theorem hd_HM_columns : yX11_columns.cls = "HillSchoolModel" ∧ yX11_columns.cls ≠ "java/lang/invoke/MethodHandle" ∧ yX11_columns.cls ≠ "java/lang/invoke/VarHandle" ∧ (parseMethodDescriptor yX11_columns.desc).map (fun d => d.parameters.length) = some 0 := by decide +kernel
def wd_HM_columns (cA : Nat → ClassId) (q0 q1 q2 q3 q4 q5 q6 q7 q8 q9 q10 q11 q12 q13 q14 q15 q16 q17 q18 q19 q20 q21 q22 q23 q24 q25 q26 q27 q28 q29 q30 q31 : Nat) (u0 u1 u2 u3 u4 u5 u6 u7 u8 u9 u10 u11 u12 u13 u14 u15 u16 u17 u18 u19 u20 u21 : Int) (i_row : Nat → Int)  : va_W := [(q0, .inr (11, [.int (Int32.ofInt u0), .int (Int32.ofInt u1), .ref q1, .ref q2, .ref q3, .ref q4, .int (Int32.ofInt u2), .ref q5, .int (Int32.ofInt u3), .int (Int32.ofInt u4), .int (Int32.ofInt u5), .int (Int32.ofInt u6), .long (Int64.ofInt u7), .int (Int32.ofInt u8), .int (Int32.ofInt u9), .int (Int32.ofInt u10), .ref q6, .int (Int32.ofInt u11), .ref q7, .ref q8, .int (Int32.ofInt u12), .ref q9, .ref q10, .int (Int32.ofInt u13), .int (Int32.ofInt u14), .ref q11, .int (Int32.ofInt u15), .ref q12, .ref q13, .int (Int32.ofInt u16), .long (Int64.ofInt u17), .long (Int64.ofInt u18), .ref q14, .ref q15, .ref q16, .ref q17, .ref q18, .int (Int32.ofInt u19), .ref q19, .ref q20, .ref q21, .ref q22, .ref q23, .ref q24, .ref q25, .ref q26, .ref q27, .ref q28, .ref q29, .ref q30, .long (Int64.ofInt u20), .ref q31, .int (Int32.ofInt u21)])), (q2, .inl (cA 0, 5580, .inl (za i_row)))]
def wf_HM_columns (cA : Nat → ClassId) (q0 q1 q2 q3 q4 q5 q6 q7 q8 q9 q10 q11 q12 q13 q14 q15 q16 q17 q18 q19 q20 q21 q22 q23 q24 q25 q26 q27 q28 q29 q30 q31 : Nat) (u0 u1 u2 u3 u4 u5 u6 u7 u8 u9 u10 u11 u12 u13 u14 u15 u16 u17 u18 u19 u20 u21 : Int) (i_row : Nat → Int) (o : Int) : va_W := wd_HM_columns cA q0 q1 q2 q3 q4 q5 q6 q7 q8 q9 q10 q11 q12 q13 q14 q15 q16 q17 q18 q19 q20 q21 q22 q23 q24 q25 q26 q27 q28 q29 q30 q31 u0 u1 u2 u3 u4 u5 u6 u7 u8 u9 u10 u11 u12 u13 u14 u15 u16 u17 u18 u19 u20 u21 i_row
def f_HM_columns (i_row : Nat → Int) : Option (Int) :=
  zg 5580 i_row 0 fun v1 =>
  some v1
set_option maxHeartbeats 4000000 in
set_option maxRecDepth 100000 in
theorem c_HM_columns (l : Launch) (ev : zEv) (dC : Nat → ClassId) (dI : Nat → Nat → Nat) (cA : Nat → ClassId) (q0 q1 q2 q3 q4 q5 q6 q7 q8 q9 q10 q11 q12 q13 q14 q15 q16 q17 q18 q19 q20 q21 q22 q23 q24 q25 q26 q27 q28 q29 q30 q31 : Nat) (u0 u1 u2 u3 u4 u5 u6 u7 u8 u9 u10 u11 u12 u13 u14 u15 u16 u17 u18 u19 u20 u21 : Int) {i_row : Nat → Int} {out : Int} (hf : f_HM_columns i_row = some out) : xc_I l ev (dC, dI) vwCl (tyl cA) yX11_columns w_HM_columns rm_HM_columns [.ref q0] (wd_HM_columns cA q0 q1 q2 q3 q4 q5 q6 q7 q8 q9 q10 q11 q12 q13 q14 q15 q16 q17 q18 q19 q20 q21 q22 q23 q24 q25 q26 q27 q28 q29 q30 q31 u0 u1 u2 u3 u4 u5 u6 u7 u8 u9 u10 u11 u12 u13 u14 u15 u16 u17 u18 u19 u20 u21 i_row) (wf_HM_columns cA q0 q1 q2 q3 q4 q5 q6 q7 q8 q9 q10 q11 q12 q13 q14 q15 q16 q17 q18 q19 q20 q21 q22 q23 q24 q25 q26 q27 q28 q29 q30 q31 u0 u1 u2 u3 u4 u5 u6 u7 u8 u9 u10 u11 u12 u13 u14 u15 u16 u17 u18 u19 u20 u21 i_row out) out := by
  refine xv_startI (cc := cX11_columns) (maxL := 1) (rt := .int) (by decide +kernel) rfl (Nat.le_of_ble_eq_true rfl) ?_
  intro p e s m args below meth c A Q H ls hx hb hml hts hown hK hA hP hD hS hl hE hret
  have hown : s.vm.findClass "HillSchoolModel" = some m.cls := hown
  have hz : ∀ w ∈ zall, w.before args s = true := fun w h => hts w (List.mem_cons_of_mem _ h)
  have hl : lv_has ls 1 [(0, .ref q0)] := hl
  unfold f_HM_columns at hf
  refine lv_aload_n hx hb dX11_columns_0 rfl (lv_at hl 0 rfl) ?_
  refine va_get (D := (dC, dI)) (ci := 11) (v := .ref q2) (C := RX11) (T := TX11) (N := 53) hx hb hz zi_X11 hown hK hP 0 rfl rfl 3 (by decide) (hz _ zw_1168) (fun _ h9 => h9) rfl dX11_columns_1 ?_
  refine lv_iconst (v := Int32.ofInt 0) hx hb dX11_columns_4 rfl ?_
  refine xi_iald hx hb hK hP 1 0 rfl rfl dX11_columns_5 hf (fun v1 hf => ?_)
  obtain rfl := Option.some.inj hf
  exact hret _ _ _ _ rfl dX11_columns_6 hP hD hS
theorem dX11_column_0 : decode cX11_column 0 = .ok (.aload_n 0, 1) := by decide +kernel
theorem dX11_column_1 : decode cX11_column 1 = .ok (.iconst 0, 1) := by decide +kernel
theorem dX11_column_2 : decode cX11_column 2 = .ok (.putfield 126, 3) := by decide +kernel
theorem dX11_column_5 : decode cX11_column 5 = .ok (.aload_n 0, 1) := by decide +kernel
theorem dX11_column_6 : decode cX11_column 6 = .ok (.invokevirtual 140, 3) := by decide +kernel
theorem dX11_column_9 : decode cX11_column 9 = .ok (.istore_n 1, 1) := by decide +kernel
theorem dX11_column_10 : decode cX11_column 10 = .ok (.iload_n 1, 1) := by decide +kernel
theorem dX11_column_11 : decode cX11_column 11 = .ok (.bipush 12, 2) := by decide +kernel
theorem dX11_column_13 : decode cX11_column 13 = .ok (.if_icmp .ne 10, 3) := by decide +kernel
theorem dX11_column_16 : decode cX11_column 16 = .ok (.aload_n 0, 1) := by decide +kernel
theorem dX11_column_17 : decode cX11_column 17 = .ok (.bipush (-5), 2) := by decide +kernel
theorem dX11_column_19 : decode cX11_column 19 = .ok (.invokevirtual 136, 3) := by decide +kernel
theorem dX11_column_22 : decode cX11_column 22 = .ok (.ireturn, 1) := by decide +kernel
theorem dX11_column_23 : decode cX11_column 23 = .ok (.aload_n 0, 1) := by decide +kernel
theorem dX11_column_24 : decode cX11_column 24 = .ok (.getfield 13, 3) := by decide +kernel
theorem dX11_column_27 : decode cX11_column 27 = .ok (.bipush 9, 2) := by decide +kernel
theorem dX11_column_29 : decode cX11_column 29 = .ok (.iload_n 1, 1) := by decide +kernel
theorem dX11_column_30 : decode cX11_column 30 = .ok (.iadd, 1) := by decide +kernel
theorem dX11_column_31 : decode cX11_column 31 = .ok (.iconst 0, 1) := by decide +kernel
theorem dX11_column_32 : decode cX11_column 32 = .ok (.iastore, 1) := by decide +kernel
theorem dX11_column_33 : decode cX11_column 33 = .ok (.aload_n 0, 1) := by decide +kernel
theorem dX11_column_34 : decode cX11_column 34 = .ok (.getfield 13, 3) := by decide +kernel
theorem dX11_column_37 : decode cX11_column 37 = .ok (.sipush 141, 3) := by decide +kernel
theorem dX11_column_40 : decode cX11_column 40 = .ok (.iload_n 1, 1) := by decide +kernel
theorem dX11_column_41 : decode cX11_column 41 = .ok (.iadd, 1) := by decide +kernel
theorem dX11_column_42 : decode cX11_column 42 = .ok (.iconst (-1), 1) := by decide +kernel
theorem dX11_column_43 : decode cX11_column 43 = .ok (.iastore, 1) := by decide +kernel
theorem dX11_column_44 : decode cX11_column 44 = .ok (.aload_n 0, 1) := by decide +kernel
theorem dX11_column_45 : decode cX11_column 45 = .ok (.getfield 13, 3) := by decide +kernel
theorem dX11_column_48 : decode cX11_column 48 = .ok (.iconst 0, 1) := by decide +kernel
theorem dX11_column_49 : decode cX11_column 49 = .ok (.dup2, 1) := by decide +kernel
theorem dX11_column_50 : decode cX11_column 50 = .ok (.iaload, 1) := by decide +kernel
theorem dX11_column_51 : decode cX11_column 51 = .ok (.iconst 1, 1) := by decide +kernel
theorem dX11_column_52 : decode cX11_column 52 = .ok (.iadd, 1) := by decide +kernel
theorem dX11_column_53 : decode cX11_column 53 = .ok (.iastore, 1) := by decide +kernel
theorem dX11_column_54 : decode cX11_column 54 = .ok (.aload_n 0, 1) := by decide +kernel
theorem dX11_column_55 : decode cX11_column 55 = .ok (.iload_n 1, 1) := by decide +kernel
theorem dX11_column_56 : decode cX11_column 56 = .ok (.invokevirtual 136, 3) := by decide +kernel
theorem dX11_column_59 : decode cX11_column 59 = .ok (.ireturn, 1) := by decide +kernel
theorem zw_41 : (Jvm.Cond.selects "HillSchoolModel" ({ cls := "HillSchoolModel", name := "columns", desc := "()I" } : Jvm.MethodName) ({ cls := "HillSchoolModel", name := "columns", desc := "()I" } : Jvm.MethodName)) ∈ zall := zmemG (zmj_0 41 rfl) rfl
theorem zw_1343 : (Jvm.Cond.code ({ cls := "HillSchoolModel", name := "column", desc := "()I" } : Jvm.MethodName) prog_13_method_13_code (2 : Nat) (Option.some Jvm.ClassFile.FieldType.int)) ∈ zall := zmemG (zmj_6 40 rfl) rfl
theorem zw_1344 : (Jvm.Cond.methodLink "HillSchoolModel" (140 : Nat) ({ cls := "HillSchoolModel", name := "columns", desc := "()I" } : Jvm.MethodName)) ∈ zall := zmemG (zmj_6 41 rfl) rfl
theorem zw_1346 : (Jvm.Cond.instanceMethod ({ cls := "HillSchoolModel", name := "columns", desc := "()I" } : Jvm.MethodName)) ∈ zall := zmemG (zmj_6 43 rfl) rfl
abbrev w_HM_column : List Cond := .code yX11_column cX11_column 2 (some .int) :: zall
abbrev rm_HM_column : Room := { frames := 1, cells := 0, slots := 0, locals := 21 }
theorem hd_HM_column : yX11_column.cls = "HillSchoolModel" ∧ yX11_column.cls ≠ "java/lang/invoke/MethodHandle" ∧ yX11_column.cls ≠ "java/lang/invoke/VarHandle" ∧ (parseMethodDescriptor yX11_column.desc).map (fun d => d.parameters.length) = some 0 := by decide +kernel
def wd_HM_column (cA : Nat → ClassId) (q0 q1 q2 q3 q4 q5 q6 q7 q8 q9 q10 q11 q12 q13 q14 q15 q16 q17 q18 q19 q20 q21 q22 q23 q24 q25 q26 q27 q28 q29 q30 q31 : Nat) (u0 u1 u2 u3 u4 u5 u6 u7 u8 u9 u10 u11 u12 u13 u14 u15 u16 u17 u18 u19 : Int)  (i_thrown : Int) (i_status : Int) (i_refusals : Nat → Int) (i_row : Nat → Int) : va_W := [(q0, .inr (11, [.int (Int32.ofInt i_thrown), .int (Int32.ofInt i_status), .ref q1, .ref q2, .ref q3, .ref q4, .int (Int32.ofInt u0), .ref q5, .int (Int32.ofInt u1), .int (Int32.ofInt u2), .int (Int32.ofInt u3), .int (Int32.ofInt u4), .long (Int64.ofInt u5), .int (Int32.ofInt u6), .int (Int32.ofInt u7), .int (Int32.ofInt u8), .ref q6, .int (Int32.ofInt u9), .ref q7, .ref q8, .int (Int32.ofInt u10), .ref q9, .ref q10, .int (Int32.ofInt u11), .int (Int32.ofInt u12), .ref q11, .int (Int32.ofInt u13), .ref q12, .ref q13, .int (Int32.ofInt u14), .long (Int64.ofInt u15), .long (Int64.ofInt u16), .ref q14, .ref q15, .ref q16, .ref q17, .ref q18, .int (Int32.ofInt u17), .ref q19, .ref q20, .ref q21, .ref q22, .ref q23, .ref q24, .ref q25, .ref q26, .ref q27, .ref q28, .ref q29, .ref q30, .long (Int64.ofInt u18), .ref q31, .int (Int32.ofInt u19)])), (q1, .inl (cA 0, 7, .inl (za i_refusals))), (q2, .inl (cA 0, 5580, .inl (za i_row)))]
def wf_HM_column (cA : Nat → ClassId) (q0 q1 q2 q3 q4 q5 q6 q7 q8 q9 q10 q11 q12 q13 q14 q15 q16 q17 q18 q19 q20 q21 q22 q23 q24 q25 q26 q27 q28 q29 q30 q31 : Nat) (u0 u1 u2 u3 u4 u5 u6 u7 u8 u9 u10 u11 u12 u13 u14 u15 u16 u17 u18 u19 : Int)  (o : Int × Int × Int × (Nat → Int) × (Nat → Int)) : va_W := wd_HM_column cA q0 q1 q2 q3 q4 q5 q6 q7 q8 q9 q10 q11 q12 q13 q14 q15 q16 q17 q18 q19 q20 q21 q22 q23 q24 q25 q26 q27 q28 q29 q30 q31 u0 u1 u2 u3 u4 u5 u6 u7 u8 u9 u10 u11 u12 u13 u14 u15 u16 u17 u18 u19 o.2.1 o.2.2.1 o.2.2.2.1 o.2.2.2.2
def f_HM_column (i_thrown : Int) (i_status : Int) (i_refusals : Nat → Int) (i_row : Nat → Int) : Option (Int × Int × Int × (Nat → Int) × (Nat → Int)) :=
  zd1 (f_HM_columns i_row) fun v1 =>
  if zi_w v1 ≠ zi_w 12 then
    zn (9 + v1) fun v2 =>
    zs 5580 i_row v2 0 fun a3 =>
    zn (141 + v1) fun v4 =>
    zs 5580 a3 v4 (-1) fun a5 =>
    zg 5580 a5 0 fun v6 =>
    zn (v6 + 1) fun v7 =>
    zs 5580 a5 0 v7 fun a8 =>
    zd3 (f_HM_tell v1 i_status i_refusals) fun v9 v10 a11 =>
    some (v9, 0, v10, a11, a8)
  else
    zd3 (f_HM_tell (-5) i_status i_refusals) fun v12 v13 a14 =>
    some (v12, 0, v13, a14, i_row)
set_option maxHeartbeats 4000000 in
set_option maxRecDepth 100000 in
theorem c_HM_column (l : Launch) (ev : zEv) (dC : Nat → ClassId) (dI : Nat → Nat → Nat) (cA : Nat → ClassId) (q0 q1 q2 q3 q4 q5 q6 q7 q8 q9 q10 q11 q12 q13 q14 q15 q16 q17 q18 q19 q20 q21 q22 q23 q24 q25 q26 q27 q28 q29 q30 q31 : Nat) (u0 u1 u2 u3 u4 u5 u6 u7 u8 u9 u10 u11 u12 u13 u14 u15 u16 u17 u18 u19 : Int) {i_thrown : Int} {i_status : Int} {i_refusals : Nat → Int} {i_row : Nat → Int} {out : Int × Int × Int × (Nat → Int) × (Nat → Int)} (hf : f_HM_column i_thrown i_status i_refusals i_row = some out) : xc_I l ev (dC, dI) vwCl (tyl cA) yX11_column w_HM_column rm_HM_column [.ref q0] (wd_HM_column cA q0 q1 q2 q3 q4 q5 q6 q7 q8 q9 q10 q11 q12 q13 q14 q15 q16 q17 q18 q19 q20 q21 q22 q23 q24 q25 q26 q27 q28 q29 q30 q31 u0 u1 u2 u3 u4 u5 u6 u7 u8 u9 u10 u11 u12 u13 u14 u15 u16 u17 u18 u19 i_thrown i_status i_refusals i_row) (wf_HM_column cA q0 q1 q2 q3 q4 q5 q6 q7 q8 q9 q10 q11 q12 q13 q14 q15 q16 q17 q18 q19 q20 q21 q22 q23 q24 q25 q26 q27 q28 q29 q30 q31 u0 u1 u2 u3 u4 u5 u6 u7 u8 u9 u10 u11 u12 u13 u14 u15 u16 u17 u18 u19 out) out.1 := by
  refine xv_startI (cc := cX11_column) (maxL := 2) (rt := .int) (by decide +kernel) rfl (Nat.le_of_ble_eq_true rfl) ?_
  intro p e s m args below meth c A Q H ls hx hb hml hts hown hK hA hP hD hS hl hE hret
  have hown : s.vm.findClass "HillSchoolModel" = some m.cls := hown
  have hz : ∀ w ∈ zall, w.before args s = true := fun w h => hts w (List.mem_cons_of_mem _ h)
  have hl : lv_has ls 2 [(0, .ref q0)] := hl
  unfold f_HM_column at hf
  refine lv_aload_n hx hb dX11_column_0 rfl (lv_at hl 0 rfl) ?_
  refine lv_iconst (v := Int32.ofInt 0) hx hb dX11_column_1 rfl ?_
  refine va_put (D := (dC, dI)) (ci := 11) (v := .int (Int32.ofInt 0)) (ty := .int) (C := RX11) (T := TX11) (N := 53) hx hb hz zi_X11 tyX11 tyX11_ok nmX11 hown hK hP hD hS 0 rfl rfl 0 (by decide) (hz _ zw_1165) (fun _ h9 => h9) rfl (by decide +kernel) rfl rfl (Nat.le_of_ble_eq_true rfl) dX11_column_2 (fun H locs hP hD hS => ?_)
  have hP : va_P (dC, dI) vwCl (wd_HM_column cA q0 q1 q2 q3 q4 q5 q6 q7 q8 q9 q10 q11 q12 q13 q14 q15 q16 q17 q18 q19 q20 q21 q22 q23 q24 q25 q26 q27 q28 q29 q30 q31 u0 u1 u2 u3 u4 u5 u6 u7 u8 u9 u10 u11 u12 u13 u14 u15 u16 u17 u18 u19 0 i_status i_refusals i_row) H := hP
  have hD : va_D A (wd_HM_column cA q0 q1 q2 q3 q4 q5 q6 q7 q8 q9 q10 q11 q12 q13 q14 q15 q16 q17 q18 q19 q20 q21 q22 q23 q24 q25 q26 q27 q28 q29 q30 q31 u0 u1 u2 u3 u4 u5 u6 u7 u8 u9 u10 u11 u12 u13 u14 u15 u16 u17 u18 u19 0 i_status i_refusals i_row) := hD
  refine lv_aload_n hx hb dX11_column_5 rfl (lv_at hl 0 rfl) ?_
  refine xe_d1 hf (fun v1 hg hf => ?_)
  have hC : ([0, 2] : List Nat).map (fun i => (wd_HM_column cA q0 q1 q2 q3 q4 q5 q6 q7 q8 q9 q10 q11 q12 q13 q14 q15 q16 q17 q18 q19 q20 q21 q22 q23 q24 q25 q26 q27 q28 q29 q30 q31 u0 u1 u2 u3 u4 u5 u6 u7 u8 u9 u10 u11 u12 u13 u14 u15 u16 u17 u18 u19 0 i_status i_refusals i_row)[i]?) = (wd_HM_columns cA q0 q1 q2 q3 q4 q5 q6 q7 q8 q9 q10 q11 q12 q13 q14 q15 q16 q17 q18 q19 q20 q21 q22 q23 q24 q25 q26 q27 q28 q29 q30 q31 0 i_status u0 u1 u2 u3 u4 u5 u6 u7 u8 u9 u10 u11 u12 u13 u14 u15 u16 u17 u18 u19 i_row).map some := rfl
  refine xv_afterI (ws' := (wd_HM_column cA q0 q1 q2 q3 q4 q5 q6 q7 q8 q9 q10 q11 q12 q13 q14 q15 q16 q17 q18 q19 q20 q21 q22 q23 q24 q25 q26 q27 q28 q29 q30 q31 u0 u1 u2 u3 u4 u5 u6 u7 u8 u9 u10 u11 u12 u13 u14 u15 u16 u17 u18 u19 0 i_status i_refusals i_row)) (isC := [0, 2]) (ps := [some 0, none, some 1]) (va_runV (As := []) (rest := []) ⟨hx, hb, hml, hown, hts⟩ (c_HM_columns l ev dC dI cA q0 q1 q2 q3 q4 q5 q6 q7 q8 q9 q10 q11 q12 q13 q14 q15 q16 q17 q18 q19 q20 q21 q22 q23 q24 q25 q26 q27 q28 q29 q30 q31 0 i_status u0 u1 u2 u3 u4 u5 u6 u7 u8 u9 u10 u11 u12 u13 u14 u15 u16 u17 u18 u19 hg H.size) (cwV 0 hts (zgV zw_1344 zw_1346 zw_41 zw_115 zw_1347) rfl rfl rfl hd_HM_columns ⟨Nat.le_of_ble_eq_true rfl, Nat.le_of_ble_eq_true rfl⟩) (xv_preV (T := TX11) (N := 53) hE hA hS hK hP hD (isC := [0, 2]) (by decide +kernel) hC (q0 := 0) (ci := 11) rfl rfl) rfl rfl hl.1 rfl (lv_room (Nat.le_of_ble_eq_true rfl)) dX11_column_6 ⟨Nat.le_refl _, Nat.le_refl _⟩) hP hD hS hA (by decide +kernel) rfl hC rfl rfl (fun H locs hP hD hS => ?_)
  refine lv_istore_n (lv' := [(1, .int (Int32.ofInt v1)), (0, .ref q0)]) hx hb dX11_column_9 rfl hl (by decide) rfl (fun ls hl => ?_)
  refine lv_iload_n hx hb dX11_column_10 rfl (lv_at hl 0 rfl) ?_
  refine lv_bipush (v := Int32.ofInt 12) hx hb dX11_column_11 (by decide) ?_
  refine xi_icmp_ne (tgt := 23) hx hb dX11_column_13 (by decide) hf (fun hf => ?_) (fun hf => ?_)
  · refine lv_aload_n hx hb dX11_column_23 rfl (lv_at hl 1 rfl) ?_
    refine va_get (D := (dC, dI)) (ci := 11) (v := .ref q2) (C := RX11) (T := TX11) (N := 53) hx hb hz zi_X11 hown hK hP 0 rfl rfl 3 (by decide) (hz _ zw_1168) (fun _ h9 => h9) rfl dX11_column_24 ?_
    refine lv_bipush (v := Int32.ofInt 9) hx hb dX11_column_27 (by decide) ?_
    refine lv_iload_n hx hb dX11_column_29 rfl (lv_at hl 0 rfl) ?_
    refine xi_iadd hx hb dX11_column_30 hf (fun v2 hf => ?_)
    refine lv_iconst (v := Int32.ofInt 0) hx hb dX11_column_31 rfl ?_
    refine xi_iast hx hb hK hP hD hS 2 0 rfl rfl dX11_column_32 hf (fun a3 H locs hP hD hS hf => ?_)
    have hP : va_P (dC, dI) vwCl (wd_HM_column cA q0 q1 q2 q3 q4 q5 q6 q7 q8 q9 q10 q11 q12 q13 q14 q15 q16 q17 q18 q19 q20 q21 q22 q23 q24 q25 q26 q27 q28 q29 q30 q31 u0 u1 u2 u3 u4 u5 u6 u7 u8 u9 u10 u11 u12 u13 u14 u15 u16 u17 u18 u19 0 i_status i_refusals a3) H := hP
    have hD : va_D A (wd_HM_column cA q0 q1 q2 q3 q4 q5 q6 q7 q8 q9 q10 q11 q12 q13 q14 q15 q16 q17 q18 q19 q20 q21 q22 q23 q24 q25 q26 q27 q28 q29 q30 q31 u0 u1 u2 u3 u4 u5 u6 u7 u8 u9 u10 u11 u12 u13 u14 u15 u16 u17 u18 u19 0 i_status i_refusals a3) := hD
    refine lv_aload_n hx hb dX11_column_33 rfl (lv_at hl 1 rfl) ?_
    refine va_get (D := (dC, dI)) (ci := 11) (v := .ref q2) (C := RX11) (T := TX11) (N := 53) hx hb hz zi_X11 hown hK hP 0 rfl rfl 3 (by decide) (hz _ zw_1168) (fun _ h9 => h9) rfl dX11_column_34 ?_
    refine lv_sipush (v := Int32.ofInt 141) hx hb dX11_column_37 (by decide) ?_
    refine lv_iload_n hx hb dX11_column_40 rfl (lv_at hl 0 rfl) ?_
    refine xi_iadd hx hb dX11_column_41 hf (fun v4 hf => ?_)
    refine lv_iconst (v := Int32.ofInt (-1)) hx hb dX11_column_42 rfl ?_
    refine xi_iast hx hb hK hP hD hS 2 0 rfl rfl dX11_column_43 hf (fun a5 H locs hP hD hS hf => ?_)
    have hP : va_P (dC, dI) vwCl (wd_HM_column cA q0 q1 q2 q3 q4 q5 q6 q7 q8 q9 q10 q11 q12 q13 q14 q15 q16 q17 q18 q19 q20 q21 q22 q23 q24 q25 q26 q27 q28 q29 q30 q31 u0 u1 u2 u3 u4 u5 u6 u7 u8 u9 u10 u11 u12 u13 u14 u15 u16 u17 u18 u19 0 i_status i_refusals a5) H := hP
    have hD : va_D A (wd_HM_column cA q0 q1 q2 q3 q4 q5 q6 q7 q8 q9 q10 q11 q12 q13 q14 q15 q16 q17 q18 q19 q20 q21 q22 q23 q24 q25 q26 q27 q28 q29 q30 q31 u0 u1 u2 u3 u4 u5 u6 u7 u8 u9 u10 u11 u12 u13 u14 u15 u16 u17 u18 u19 0 i_status i_refusals a5) := hD
    refine lv_aload_n hx hb dX11_column_44 rfl (lv_at hl 1 rfl) ?_
    refine va_get (D := (dC, dI)) (ci := 11) (v := .ref q2) (C := RX11) (T := TX11) (N := 53) hx hb hz zi_X11 hown hK hP 0 rfl rfl 3 (by decide) (hz _ zw_1168) (fun _ h9 => h9) rfl dX11_column_45 ?_
    refine lv_iconst (v := Int32.ofInt 0) hx hb dX11_column_48 rfl ?_
    refine lv_dup2_11 hx hb dX11_column_49 rfl rfl ?_
    refine xi_iald hx hb hK hP 2 0 rfl rfl dX11_column_50 hf (fun v6 hf => ?_)
    refine lv_iconst (v := Int32.ofInt 1) hx hb dX11_column_51 rfl ?_
    refine xi_iadd hx hb dX11_column_52 hf (fun v7 hf => ?_)
    refine xi_iast hx hb hK hP hD hS 2 0 rfl rfl dX11_column_53 hf (fun a8 H locs hP hD hS hf => ?_)
    have hP : va_P (dC, dI) vwCl (wd_HM_column cA q0 q1 q2 q3 q4 q5 q6 q7 q8 q9 q10 q11 q12 q13 q14 q15 q16 q17 q18 q19 q20 q21 q22 q23 q24 q25 q26 q27 q28 q29 q30 q31 u0 u1 u2 u3 u4 u5 u6 u7 u8 u9 u10 u11 u12 u13 u14 u15 u16 u17 u18 u19 0 i_status i_refusals a8) H := hP
    have hD : va_D A (wd_HM_column cA q0 q1 q2 q3 q4 q5 q6 q7 q8 q9 q10 q11 q12 q13 q14 q15 q16 q17 q18 q19 q20 q21 q22 q23 q24 q25 q26 q27 q28 q29 q30 q31 u0 u1 u2 u3 u4 u5 u6 u7 u8 u9 u10 u11 u12 u13 u14 u15 u16 u17 u18 u19 0 i_status i_refusals a8) := hD
    refine lv_aload_n hx hb dX11_column_54 rfl (lv_at hl 1 rfl) ?_
    refine lv_iload_n hx hb dX11_column_55 rfl (lv_at hl 0 rfl) ?_
    refine xe_d3 hf (fun v9 v10 a11 hg hf => ?_)
    have hC : ([0, 1] : List Nat).map (fun i => (wd_HM_column cA q0 q1 q2 q3 q4 q5 q6 q7 q8 q9 q10 q11 q12 q13 q14 q15 q16 q17 q18 q19 q20 q21 q22 q23 q24 q25 q26 q27 q28 q29 q30 q31 u0 u1 u2 u3 u4 u5 u6 u7 u8 u9 u10 u11 u12 u13 u14 u15 u16 u17 u18 u19 0 i_status i_refusals a8)[i]?) = (wd_HM_tell cA q0 q1 q2 q3 q4 q5 q6 q7 q8 q9 q10 q11 q12 q13 q14 q15 q16 q17 q18 q19 q20 q21 q22 q23 q24 q25 q26 q27 q28 q29 q30 q31 0 u0 u1 u2 u3 u4 u5 u6 u7 u8 u9 u10 u11 u12 u13 u14 u15 u16 u17 u18 u19 i_status i_refusals).map some := rfl
    refine xv_afterI (ws' := (wd_HM_column cA q0 q1 q2 q3 q4 q5 q6 q7 q8 q9 q10 q11 q12 q13 q14 q15 q16 q17 q18 q19 q20 q21 q22 q23 q24 q25 q26 q27 q28 q29 q30 q31 u0 u1 u2 u3 u4 u5 u6 u7 u8 u9 u10 u11 u12 u13 u14 u15 u16 u17 u18 u19 0 v10 a11 a8)) (isC := [0, 1]) (ps := [some 0, some 1, none]) (va_runV (As := [.int (Int32.ofInt v1)]) (rest := []) ⟨hx, hb, hml, hown, hts⟩ (c_HM_tell l ev dC dI cA q0 q1 q2 q3 q4 q5 q6 q7 q8 q9 q10 q11 q12 q13 q14 q15 q16 q17 q18 q19 q20 q21 q22 q23 q24 q25 q26 q27 q28 q29 q30 q31 0 u0 u1 u2 u3 u4 u5 u6 u7 u8 u9 u10 u11 u12 u13 u14 u15 u16 u17 u18 u19 hg H.size) (cwV 1 hts (zgV zw_1332 zw_1334 zw_40 zw_115 zw_1335) rfl rfl rfl hd_HM_tell ⟨Nat.le_of_ble_eq_true rfl, Nat.le_of_ble_eq_true rfl⟩) (xv_preV (T := TX11) (N := 53) hE hA hS hK hP hD (isC := [0, 1]) (by decide +kernel) hC (q0 := 0) (ci := 11) rfl rfl) rfl rfl hl.1 rfl (lv_room (Nat.le_of_ble_eq_true rfl)) dX11_column_56 ⟨Nat.le_refl _, Nat.le_refl _⟩) hP hD hS hA (by decide +kernel) rfl hC rfl rfl (fun H locs hP hD hS => ?_)
    obtain rfl := Option.some.inj hf
    exact hret _ _ _ _ rfl dX11_column_59 hP hD hS
  · refine lv_aload_n hx hb dX11_column_16 rfl (lv_at hl 1 rfl) ?_
    refine lv_bipush (v := Int32.ofInt (-5)) hx hb dX11_column_17 (by decide) ?_
    refine xe_d3 hf (fun v12 v13 a14 hg hf => ?_)
    have hC : ([0, 1] : List Nat).map (fun i => (wd_HM_column cA q0 q1 q2 q3 q4 q5 q6 q7 q8 q9 q10 q11 q12 q13 q14 q15 q16 q17 q18 q19 q20 q21 q22 q23 q24 q25 q26 q27 q28 q29 q30 q31 u0 u1 u2 u3 u4 u5 u6 u7 u8 u9 u10 u11 u12 u13 u14 u15 u16 u17 u18 u19 0 i_status i_refusals i_row)[i]?) = (wd_HM_tell cA q0 q1 q2 q3 q4 q5 q6 q7 q8 q9 q10 q11 q12 q13 q14 q15 q16 q17 q18 q19 q20 q21 q22 q23 q24 q25 q26 q27 q28 q29 q30 q31 0 u0 u1 u2 u3 u4 u5 u6 u7 u8 u9 u10 u11 u12 u13 u14 u15 u16 u17 u18 u19 i_status i_refusals).map some := rfl
    refine xv_afterI (ws' := (wd_HM_column cA q0 q1 q2 q3 q4 q5 q6 q7 q8 q9 q10 q11 q12 q13 q14 q15 q16 q17 q18 q19 q20 q21 q22 q23 q24 q25 q26 q27 q28 q29 q30 q31 u0 u1 u2 u3 u4 u5 u6 u7 u8 u9 u10 u11 u12 u13 u14 u15 u16 u17 u18 u19 0 v13 a14 i_row)) (isC := [0, 1]) (ps := [some 0, some 1, none]) (va_runV (As := [.int (Int32.ofInt (-5))]) (rest := []) ⟨hx, hb, hml, hown, hts⟩ (c_HM_tell l ev dC dI cA q0 q1 q2 q3 q4 q5 q6 q7 q8 q9 q10 q11 q12 q13 q14 q15 q16 q17 q18 q19 q20 q21 q22 q23 q24 q25 q26 q27 q28 q29 q30 q31 0 u0 u1 u2 u3 u4 u5 u6 u7 u8 u9 u10 u11 u12 u13 u14 u15 u16 u17 u18 u19 hg H.size) (cwV 1 hts (zgV zw_1332 zw_1334 zw_40 zw_115 zw_1335) rfl rfl rfl hd_HM_tell ⟨Nat.le_of_ble_eq_true rfl, Nat.le_of_ble_eq_true rfl⟩) (xv_preV (T := TX11) (N := 53) hE hA hS hK hP hD (isC := [0, 1]) (by decide +kernel) hC (q0 := 0) (ci := 11) rfl rfl) rfl rfl hl.1 rfl (lv_room (Nat.le_of_ble_eq_true rfl)) dX11_column_19 ⟨Nat.le_refl _, Nat.le_refl _⟩) hP hD hS hA (by decide +kernel) rfl hC rfl rfl (fun H locs hP hD hS => ?_)
    obtain rfl := Option.some.inj hf
    exact hret _ _ _ _ rfl dX11_column_22 hP hD hS
theorem dX11_isWeight_0 : decode cX11_isWeight 0 = .ok (.iload_n 0, 1) := by decide +kernel
theorem dX11_isWeight_1 : decode cX11_isWeight 1 = .ok (.i2l, 1) := by decide +kernel
theorem dX11_isWeight_2 : decode cX11_isWeight 2 = .ok (.lconst 1, 1) := by decide +kernel
theorem dX11_isWeight_3 : decode cX11_isWeight 3 = .ok (.ldc2_w 144, 3) := by decide +kernel
theorem dX11_isWeight_6 : decode cX11_isWeight 6 = .ok (.invokestatic 132, 3) := by decide +kernel
theorem dX11_isWeight_9 : decode cX11_isWeight 9 = .ok (.ireturn, 1) := by decide +kernel
theorem zw_1354 : (Jvm.Cond.code ({ cls := "HillSchoolModel", name := "isWeight", desc := "(I)Z" } : Jvm.MethodName) prog_13_method_14_code (1 : Nat) (Option.some Jvm.ClassFile.FieldType.boolean)) ∈ zall := zmemG (zmj_6 51 rfl) rfl
theorem zw_1355 : (Jvm.Cond.constantLong "HillSchoolModel" (144 : Nat) (30 : Int64)) ∈ zall := zmemG (zmj_6 52 rfl) rfl
abbrev w_HM_isWeight : List Cond := .code yX11_isWeight cX11_isWeight 1 (some .boolean) :: zall
abbrev rm_HM_isWeight : Room := { frames := 1, cells := 0, slots := 0, locals := 25 }
theorem hd_HM_isWeight : yX11_isWeight.cls = yX11_isWeight.cls ∧ yX11_isWeight.cls ≠ "java/lang/invoke/MethodHandle" ∧ yX11_isWeight.cls ≠ "java/lang/invoke/VarHandle" ∧ (parseMethodDescriptor yX11_isWeight.desc).map (fun d => d.parameters.length) = some 1 := by decide +kernel
def wd_HM_isWeight (cA : Nat → ClassId)   : va_W := []
def wf_HM_isWeight (cA : Nat → ClassId)  (o : Int) : va_W := wd_HM_isWeight cA
def f_HM_isWeight (x0 : Int) : Option (Int) :=
  zn (zi_w x0) fun v1 =>
  zd1 (f_HM_in v1 1 30) fun v2 =>
  if ¬ (zi_w v2 = 0 ∨ zi_w v2 = 1) then none else
  some v2
set_option maxHeartbeats 4000000 in
set_option maxRecDepth 100000 in
theorem c_HM_isWeight (l : Launch) (ev : zEv) (dC : Nat → ClassId) (dI : Nat → Nat → Nat) (cA : Nat → ClassId) {x0 : Int} {out : Int} (hf : f_HM_isWeight x0 = some out) : xc_I l ev (dC, dI) vwCl (tyl cA) yX11_isWeight w_HM_isWeight rm_HM_isWeight [.int (Int32.ofInt x0)] (wd_HM_isWeight cA) (wf_HM_isWeight cA out) out := by
  refine xv_startI (cc := cX11_isWeight) (maxL := 1) (rt := .boolean) (by decide +kernel) rfl (Nat.le_of_ble_eq_true rfl) ?_
  intro p e s m args below meth c A Q H ls hx hb hml hts hown hK hA hP hD hS hl hE hret
  have hown : s.vm.findClass "HillSchoolModel" = some m.cls := hown
  have hz : ∀ w ∈ zall, w.before args s = true := fun w h => hts w (List.mem_cons_of_mem _ h)
  have hl : lv_has ls 1 [(0, .int (Int32.ofInt x0))] := hl
  unfold f_HM_isWeight at hf
  refine lv_iload_n hx hb dX11_isWeight_0 rfl (lv_at hl 0 rfl) ?_
  refine xi_i2l hx hb dX11_isWeight_1 hf (fun v1 hf => ?_)
  refine lv_lconst (v := Int64.ofInt 1) hx hb dX11_isWeight_2 (by decide) ?_
  refine lv_ldc2 (v := Int64.ofInt 30) hx hb hown (hz _ zw_1355) dX11_isWeight_3 ?_
  refine xe_d1 hf (fun v2 hg hf => ?_)
  have hC : ([] : List Nat).map (fun i => (wd_HM_isWeight cA)[i]?) = (wd_HM_in cA).map some := rfl
  refine xv_afterI (ws' := (wd_HM_isWeight cA)) (isC := []) (ps := []) (va_runS (As := [.long (Int64.ofInt v1), .long (Int64.ofInt 1), .long (Int64.ofInt 30)]) (rest := []) ⟨hx, hb, hml, hown, hts⟩ (c_HM_in l ev dC dI cA hg H.size) (va_cwS 3 hts (zgS zw_1329 zw_1330 zw_115 zw_1331) rfl rfl rfl hd_HM_in.2 ⟨Nat.le_of_ble_eq_true rfl, Nat.le_of_ble_eq_true rfl⟩) (xv_preS hE hA hS hK hP hD (isC := []) (by decide +kernel) hC) rfl rfl hl.1 rfl (lv_room (Nat.le_of_ble_eq_true rfl)) dX11_isWeight_6 ⟨Nat.le_refl _, Nat.le_refl _⟩) hP hD hS hA (by decide +kernel) rfl hC rfl rfl (fun H locs hP hD hS => ?_)
  obtain ⟨hzb, hf⟩ := xz_q hf
  obtain rfl := Option.some.inj hf
  exact hret _ _ _ _ (zz_bool hzb) dX11_isWeight_9 hP hD hS
theorem dX11_isColumn_0 : decode cX11_isColumn 0 = .ok (.iload_n 1, 1) := by decide +kernel
theorem dX11_isColumn_1 : decode cX11_isColumn 1 = .ok (.i2l, 1) := by decide +kernel
theorem dX11_isColumn_2 : decode cX11_isColumn 2 = .ok (.lconst 0, 1) := by decide +kernel
theorem dX11_isColumn_3 : decode cX11_isColumn 3 = .ok (.aload_n 0, 1) := by decide +kernel
theorem dX11_isColumn_4 : decode cX11_isColumn 4 = .ok (.invokevirtual 140, 3) := by decide +kernel
theorem dX11_isColumn_7 : decode cX11_isColumn 7 = .ok (.i2l, 1) := by decide +kernel
theorem dX11_isColumn_8 : decode cX11_isColumn 8 = .ok (.lconst 1, 1) := by decide +kernel
theorem dX11_isColumn_9 : decode cX11_isColumn 9 = .ok (.lsub, 1) := by decide +kernel
theorem dX11_isColumn_10 : decode cX11_isColumn 10 = .ok (.invokestatic 132, 3) := by decide +kernel
theorem dX11_isColumn_13 : decode cX11_isColumn 13 = .ok (.ireturn, 1) := by decide +kernel
theorem zw_1359 : (Jvm.Cond.code ({ cls := "HillSchoolModel", name := "isColumn", desc := "(I)Z" } : Jvm.MethodName) prog_13_method_11_code (2 : Nat) (Option.some Jvm.ClassFile.FieldType.boolean)) ∈ zall := zmemG (zmj_6 56 rfl) rfl
abbrev w_HM_isColumn : List Cond := .code yX11_isColumn cX11_isColumn 2 (some .boolean) :: zall
abbrev rm_HM_isColumn : Room := { frames := 1, cells := 0, slots := 0, locals := 25 }
theorem hd_HM_isColumn : yX11_isColumn.cls = "HillSchoolModel" ∧ yX11_isColumn.cls ≠ "java/lang/invoke/MethodHandle" ∧ yX11_isColumn.cls ≠ "java/lang/invoke/VarHandle" ∧ (parseMethodDescriptor yX11_isColumn.desc).map (fun d => d.parameters.length) = some 1 := by decide +kernel
def wd_HM_isColumn (cA : Nat → ClassId) (q0 q1 q2 q3 q4 q5 q6 q7 q8 q9 q10 q11 q12 q13 q14 q15 q16 q17 q18 q19 q20 q21 q22 q23 q24 q25 q26 q27 q28 q29 q30 q31 : Nat) (u0 u1 u2 u3 u4 u5 u6 u7 u8 u9 u10 u11 u12 u13 u14 u15 u16 u17 u18 u19 u20 u21 : Int) (i_row : Nat → Int)  : va_W := [(q0, .inr (11, [.int (Int32.ofInt u0), .int (Int32.ofInt u1), .ref q1, .ref q2, .ref q3, .ref q4, .int (Int32.ofInt u2), .ref q5, .int (Int32.ofInt u3), .int (Int32.ofInt u4), .int (Int32.ofInt u5), .int (Int32.ofInt u6), .long (Int64.ofInt u7), .int (Int32.ofInt u8), .int (Int32.ofInt u9), .int (Int32.ofInt u10), .ref q6, .int (Int32.ofInt u11), .ref q7, .ref q8, .int (Int32.ofInt u12), .ref q9, .ref q10, .int (Int32.ofInt u13), .int (Int32.ofInt u14), .ref q11, .int (Int32.ofInt u15), .ref q12, .ref q13, .int (Int32.ofInt u16), .long (Int64.ofInt u17), .long (Int64.ofInt u18), .ref q14, .ref q15, .ref q16, .ref q17, .ref q18, .int (Int32.ofInt u19), .ref q19, .ref q20, .ref q21, .ref q22, .ref q23, .ref q24, .ref q25, .ref q26, .ref q27, .ref q28, .ref q29, .ref q30, .long (Int64.ofInt u20), .ref q31, .int (Int32.ofInt u21)])), (q2, .inl (cA 0, 5580, .inl (za i_row)))]
def wf_HM_isColumn (cA : Nat → ClassId) (q0 q1 q2 q3 q4 q5 q6 q7 q8 q9 q10 q11 q12 q13 q14 q15 q16 q17 q18 q19 q20 q21 q22 q23 q24 q25 q26 q27 q28 q29 q30 q31 : Nat) (u0 u1 u2 u3 u4 u5 u6 u7 u8 u9 u10 u11 u12 u13 u14 u15 u16 u17 u18 u19 u20 u21 : Int) (i_row : Nat → Int) (o : Int) : va_W := wd_HM_isColumn cA q0 q1 q2 q3 q4 q5 q6 q7 q8 q9 q10 q11 q12 q13 q14 q15 q16 q17 q18 q19 q20 q21 q22 q23 q24 q25 q26 q27 q28 q29 q30 q31 u0 u1 u2 u3 u4 u5 u6 u7 u8 u9 u10 u11 u12 u13 u14 u15 u16 u17 u18 u19 u20 u21 i_row
def f_HM_isColumn (x1 : Int) (i_row : Nat → Int) : Option (Int) :=
  zn (zi_w x1) fun v1 =>
  zd1 (f_HM_columns i_row) fun v2 =>
  zn (zi_w v2) fun v3 =>
  zn (v3 - 1) fun v4 =>
  zd1 (f_HM_in v1 0 v4) fun v5 =>
  if ¬ (zi_w v5 = 0 ∨ zi_w v5 = 1) then none else
  some v5
set_option maxHeartbeats 4000000 in
set_option maxRecDepth 100000 in
theorem c_HM_isColumn (l : Launch) (ev : zEv) (dC : Nat → ClassId) (dI : Nat → Nat → Nat) (cA : Nat → ClassId) (q0 q1 q2 q3 q4 q5 q6 q7 q8 q9 q10 q11 q12 q13 q14 q15 q16 q17 q18 q19 q20 q21 q22 q23 q24 q25 q26 q27 q28 q29 q30 q31 : Nat) (u0 u1 u2 u3 u4 u5 u6 u7 u8 u9 u10 u11 u12 u13 u14 u15 u16 u17 u18 u19 u20 u21 : Int) {x1 : Int} {i_row : Nat → Int} {out : Int} (hf : f_HM_isColumn x1 i_row = some out) : xc_I l ev (dC, dI) vwCl (tyl cA) yX11_isColumn w_HM_isColumn rm_HM_isColumn [.ref q0, .int (Int32.ofInt x1)] (wd_HM_isColumn cA q0 q1 q2 q3 q4 q5 q6 q7 q8 q9 q10 q11 q12 q13 q14 q15 q16 q17 q18 q19 q20 q21 q22 q23 q24 q25 q26 q27 q28 q29 q30 q31 u0 u1 u2 u3 u4 u5 u6 u7 u8 u9 u10 u11 u12 u13 u14 u15 u16 u17 u18 u19 u20 u21 i_row) (wf_HM_isColumn cA q0 q1 q2 q3 q4 q5 q6 q7 q8 q9 q10 q11 q12 q13 q14 q15 q16 q17 q18 q19 q20 q21 q22 q23 q24 q25 q26 q27 q28 q29 q30 q31 u0 u1 u2 u3 u4 u5 u6 u7 u8 u9 u10 u11 u12 u13 u14 u15 u16 u17 u18 u19 u20 u21 i_row out) out := by
  refine xv_startI (cc := cX11_isColumn) (maxL := 2) (rt := .boolean) (by decide +kernel) rfl (Nat.le_of_ble_eq_true rfl) ?_
  intro p e s m args below meth c A Q H ls hx hb hml hts hown hK hA hP hD hS hl hE hret
  have hown : s.vm.findClass "HillSchoolModel" = some m.cls := hown
  have hz : ∀ w ∈ zall, w.before args s = true := fun w h => hts w (List.mem_cons_of_mem _ h)
  have hl : lv_has ls 2 [(0, .ref q0), (1, .int (Int32.ofInt x1))] := hl
  unfold f_HM_isColumn at hf
  refine lv_iload_n hx hb dX11_isColumn_0 rfl (lv_at hl 1 rfl) ?_
  refine xi_i2l hx hb dX11_isColumn_1 hf (fun v1 hf => ?_)
  refine lv_lconst (v := Int64.ofInt 0) hx hb dX11_isColumn_2 (by decide) ?_
  refine lv_aload_n hx hb dX11_isColumn_3 rfl (lv_at hl 0 rfl) ?_
  refine xe_d1 hf (fun v2 hg hf => ?_)
  have hC : ([0, 1] : List Nat).map (fun i => (wd_HM_isColumn cA q0 q1 q2 q3 q4 q5 q6 q7 q8 q9 q10 q11 q12 q13 q14 q15 q16 q17 q18 q19 q20 q21 q22 q23 q24 q25 q26 q27 q28 q29 q30 q31 u0 u1 u2 u3 u4 u5 u6 u7 u8 u9 u10 u11 u12 u13 u14 u15 u16 u17 u18 u19 u20 u21 i_row)[i]?) = (wd_HM_columns cA q0 q1 q2 q3 q4 q5 q6 q7 q8 q9 q10 q11 q12 q13 q14 q15 q16 q17 q18 q19 q20 q21 q22 q23 q24 q25 q26 q27 q28 q29 q30 q31 u0 u1 u2 u3 u4 u5 u6 u7 u8 u9 u10 u11 u12 u13 u14 u15 u16 u17 u18 u19 u20 u21 i_row).map some := rfl
  refine xv_afterI (ws' := (wd_HM_isColumn cA q0 q1 q2 q3 q4 q5 q6 q7 q8 q9 q10 q11 q12 q13 q14 q15 q16 q17 q18 q19 q20 q21 q22 q23 q24 q25 q26 q27 q28 q29 q30 q31 u0 u1 u2 u3 u4 u5 u6 u7 u8 u9 u10 u11 u12 u13 u14 u15 u16 u17 u18 u19 u20 u21 i_row)) (isC := [0, 1]) (ps := [some 0, some 1]) (va_runV (As := []) (rest := [.long (Int64.ofInt 0), .long (Int64.ofInt v1)]) ⟨hx, hb, hml, hown, hts⟩ (c_HM_columns l ev dC dI cA q0 q1 q2 q3 q4 q5 q6 q7 q8 q9 q10 q11 q12 q13 q14 q15 q16 q17 q18 q19 q20 q21 q22 q23 q24 q25 q26 q27 q28 q29 q30 q31 u0 u1 u2 u3 u4 u5 u6 u7 u8 u9 u10 u11 u12 u13 u14 u15 u16 u17 u18 u19 u20 u21 hg H.size) (cwV 0 hts (zgV zw_1344 zw_1346 zw_41 zw_115 zw_1347) rfl rfl rfl hd_HM_columns ⟨Nat.le_of_ble_eq_true rfl, Nat.le_of_ble_eq_true rfl⟩) (xv_preV (T := TX11) (N := 53) hE hA hS hK hP hD (isC := [0, 1]) (by decide +kernel) hC (q0 := 0) (ci := 11) rfl rfl) rfl rfl hl.1 rfl (lv_room (Nat.le_of_ble_eq_true rfl)) dX11_isColumn_4 ⟨Nat.le_refl _, Nat.le_refl _⟩) hP hD hS hA (by decide +kernel) rfl hC rfl rfl (fun H locs hP hD hS => ?_)
  refine xi_i2l hx hb dX11_isColumn_7 hf (fun v3 hf => ?_)
  refine lv_lconst (v := Int64.ofInt 1) hx hb dX11_isColumn_8 (by decide) ?_
  refine xl_lsub hx hb dX11_isColumn_9 hf (fun v4 hf => ?_)
  refine xe_d1 hf (fun v5 hg hf => ?_)
  have hC : ([] : List Nat).map (fun i => (wd_HM_isColumn cA q0 q1 q2 q3 q4 q5 q6 q7 q8 q9 q10 q11 q12 q13 q14 q15 q16 q17 q18 q19 q20 q21 q22 q23 q24 q25 q26 q27 q28 q29 q30 q31 u0 u1 u2 u3 u4 u5 u6 u7 u8 u9 u10 u11 u12 u13 u14 u15 u16 u17 u18 u19 u20 u21 i_row)[i]?) = (wd_HM_in cA).map some := rfl
  refine xv_afterI (ws' := (wd_HM_isColumn cA q0 q1 q2 q3 q4 q5 q6 q7 q8 q9 q10 q11 q12 q13 q14 q15 q16 q17 q18 q19 q20 q21 q22 q23 q24 q25 q26 q27 q28 q29 q30 q31 u0 u1 u2 u3 u4 u5 u6 u7 u8 u9 u10 u11 u12 u13 u14 u15 u16 u17 u18 u19 u20 u21 i_row)) (isC := []) (ps := [none, none]) (va_runS (As := [.long (Int64.ofInt v1), .long (Int64.ofInt 0), .long (Int64.ofInt v4)]) (rest := []) ⟨hx, hb, hml, hown, hts⟩ (c_HM_in l ev dC dI cA hg H.size) (va_cwS 3 hts (zgS zw_1329 zw_1330 zw_115 zw_1331) rfl rfl rfl hd_HM_in.2 ⟨Nat.le_of_ble_eq_true rfl, Nat.le_of_ble_eq_true rfl⟩) (xv_preS hE hA hS hK hP hD (isC := []) (by decide +kernel) hC) rfl rfl hl.1 rfl (lv_room (Nat.le_of_ble_eq_true rfl)) dX11_isColumn_10 ⟨Nat.le_refl _, Nat.le_refl _⟩) hP hD hS hA (by decide +kernel) rfl hC rfl rfl (fun H locs hP hD hS => ?_)
  obtain ⟨hzb, hf⟩ := xz_q hf
  obtain rfl := Option.some.inj hf
  exact hret _ _ _ _ (zz_bool hzb) dX11_isColumn_13 hP hD hS
theorem dX11_stone_0 : decode cX11_stone 0 = .ok (.aload_n 0, 1) := by decide +kernel
theorem dX11_stone_1 : decode cX11_stone 1 = .ok (.iconst 0, 1) := by decide +kernel
theorem dX11_stone_2 : decode cX11_stone 2 = .ok (.putfield 126, 3) := by decide +kernel
theorem dX11_stone_5 : decode cX11_stone 5 = .ok (.iload_n 2, 1) := by decide +kernel
theorem dX11_stone_6 : decode cX11_stone 6 = .ok (.invokestatic 146, 3) := by decide +kernel
theorem dX11_stone_9 : decode cX11_stone 9 = .ok (.ifCond .ne 9, 3) := by decide +kernel
theorem dX11_stone_12 : decode cX11_stone 12 = .ok (.aload_n 0, 1) := by decide +kernel
theorem dX11_stone_13 : decode cX11_stone 13 = .ok (.iconst (-1), 1) := by decide +kernel
theorem dX11_stone_14 : decode cX11_stone 14 = .ok (.invokevirtual 136, 3) := by decide +kernel
theorem dX11_stone_17 : decode cX11_stone 17 = .ok (.ireturn, 1) := by decide +kernel
theorem dX11_stone_18 : decode cX11_stone 18 = .ok (.aload_n 0, 1) := by decide +kernel
theorem dX11_stone_19 : decode cX11_stone 19 = .ok (.iload_n 1, 1) := by decide +kernel
theorem dX11_stone_20 : decode cX11_stone 20 = .ok (.invokevirtual 150, 3) := by decide +kernel
theorem dX11_stone_23 : decode cX11_stone 23 = .ok (.ifCond .ne 10, 3) := by decide +kernel
theorem dX11_stone_26 : decode cX11_stone 26 = .ok (.aload_n 0, 1) := by decide +kernel
theorem dX11_stone_27 : decode cX11_stone 27 = .ok (.bipush (-2), 2) := by decide +kernel
theorem dX11_stone_29 : decode cX11_stone 29 = .ok (.invokevirtual 136, 3) := by decide +kernel
theorem dX11_stone_32 : decode cX11_stone 32 = .ok (.ireturn, 1) := by decide +kernel
theorem dX11_stone_33 : decode cX11_stone 33 = .ok (.aload_n 0, 1) := by decide +kernel
theorem dX11_stone_34 : decode cX11_stone 34 = .ok (.getfield 13, 3) := by decide +kernel
theorem dX11_stone_37 : decode cX11_stone 37 = .ok (.bipush 9, 2) := by decide +kernel
theorem dX11_stone_39 : decode cX11_stone 39 = .ok (.iload_n 1, 1) := by decide +kernel
theorem dX11_stone_40 : decode cX11_stone 40 = .ok (.iadd, 1) := by decide +kernel
theorem dX11_stone_41 : decode cX11_stone 41 = .ok (.iaload, 1) := by decide +kernel
theorem dX11_stone_42 : decode cX11_stone 42 = .ok (.istore_n 3, 1) := by decide +kernel
theorem dX11_stone_43 : decode cX11_stone 43 = .ok (.iload_n 3, 1) := by decide +kernel
theorem dX11_stone_44 : decode cX11_stone 44 = .ok (.bipush 10, 2) := by decide +kernel
theorem dX11_stone_46 : decode cX11_stone 46 = .ok (.if_icmp .ne 10, 3) := by decide +kernel
theorem dX11_stone_49 : decode cX11_stone 49 = .ok (.aload_n 0, 1) := by decide +kernel
theorem dX11_stone_50 : decode cX11_stone 50 = .ok (.bipush (-5), 2) := by decide +kernel
theorem dX11_stone_52 : decode cX11_stone 52 = .ok (.invokevirtual 136, 3) := by decide +kernel
theorem dX11_stone_55 : decode cX11_stone 55 = .ok (.ireturn, 1) := by decide +kernel
theorem dX11_stone_56 : decode cX11_stone 56 = .ok (.aload_n 0, 1) := by decide +kernel
theorem dX11_stone_57 : decode cX11_stone 57 = .ok (.getfield 13, 3) := by decide +kernel
theorem dX11_stone_60 : decode cX11_stone 60 = .ok (.bipush 21, 2) := by decide +kernel
theorem dX11_stone_62 : decode cX11_stone 62 = .ok (.bipush 10, 2) := by decide +kernel
theorem dX11_stone_64 : decode cX11_stone 64 = .ok (.iload_n 1, 1) := by decide +kernel
theorem dX11_stone_65 : decode cX11_stone 65 = .ok (.imul, 1) := by decide +kernel
theorem dX11_stone_66 : decode cX11_stone 66 = .ok (.iadd, 1) := by decide +kernel
theorem dX11_stone_67 : decode cX11_stone 67 = .ok (.iload_n 3, 1) := by decide +kernel
theorem dX11_stone_68 : decode cX11_stone 68 = .ok (.iadd, 1) := by decide +kernel
theorem dX11_stone_69 : decode cX11_stone 69 = .ok (.iload_n 2, 1) := by decide +kernel
theorem dX11_stone_70 : decode cX11_stone 70 = .ok (.iastore, 1) := by decide +kernel
theorem dX11_stone_71 : decode cX11_stone 71 = .ok (.aload_n 0, 1) := by decide +kernel
theorem dX11_stone_72 : decode cX11_stone 72 = .ok (.getfield 13, 3) := by decide +kernel
theorem dX11_stone_75 : decode cX11_stone 75 = .ok (.bipush 9, 2) := by decide +kernel
theorem dX11_stone_77 : decode cX11_stone 77 = .ok (.iload_n 1, 1) := by decide +kernel
theorem dX11_stone_78 : decode cX11_stone 78 = .ok (.iadd, 1) := by decide +kernel
theorem dX11_stone_79 : decode cX11_stone 79 = .ok (.dup2, 1) := by decide +kernel
theorem dX11_stone_80 : decode cX11_stone 80 = .ok (.iaload, 1) := by decide +kernel
theorem dX11_stone_81 : decode cX11_stone 81 = .ok (.iconst 1, 1) := by decide +kernel
theorem dX11_stone_82 : decode cX11_stone 82 = .ok (.iadd, 1) := by decide +kernel
theorem dX11_stone_83 : decode cX11_stone 83 = .ok (.iastore, 1) := by decide +kernel
theorem dX11_stone_84 : decode cX11_stone 84 = .ok (.aload_n 0, 1) := by decide +kernel
theorem dX11_stone_85 : decode cX11_stone 85 = .ok (.iload_n 3, 1) := by decide +kernel
theorem dX11_stone_86 : decode cX11_stone 86 = .ok (.iconst 1, 1) := by decide +kernel
theorem dX11_stone_87 : decode cX11_stone 87 = .ok (.iadd, 1) := by decide +kernel
theorem dX11_stone_88 : decode cX11_stone 88 = .ok (.invokevirtual 136, 3) := by decide +kernel
theorem dX11_stone_91 : decode cX11_stone 91 = .ok (.ireturn, 1) := by decide +kernel
theorem zw_42 : (Jvm.Cond.selects "HillSchoolModel" ({ cls := "HillSchoolModel", name := "isColumn", desc := "(I)Z" } : Jvm.MethodName) ({ cls := "HillSchoolModel", name := "isColumn", desc := "(I)Z" } : Jvm.MethodName)) ∈ zall := zmemG (zmj_0 42 rfl) rfl
theorem zw_1351 : (Jvm.Cond.code ({ cls := "HillSchoolModel", name := "stone", desc := "(II)I" } : Jvm.MethodName) prog_13_method_15_code (4 : Nat) (Option.some Jvm.ClassFile.FieldType.int)) ∈ zall := zmemG (zmj_6 48 rfl) rfl
theorem zw_1352 : (Jvm.Cond.methodLink "HillSchoolModel" (146 : Nat) ({ cls := "HillSchoolModel", name := "isWeight", desc := "(I)Z" } : Jvm.MethodName)) ∈ zall := zmemG (zmj_6 49 rfl) rfl
theorem zw_1353 : (Jvm.Cond.static ({ cls := "HillSchoolModel", name := "isWeight", desc := "(I)Z" } : Jvm.MethodName)) ∈ zall := zmemG (zmj_6 50 rfl) rfl
theorem zw_1356 : (Jvm.Cond.methodLink "HillSchoolModel" (150 : Nat) ({ cls := "HillSchoolModel", name := "isColumn", desc := "(I)Z" } : Jvm.MethodName)) ∈ zall := zmemG (zmj_6 53 rfl) rfl
theorem zw_1358 : (Jvm.Cond.instanceMethod ({ cls := "HillSchoolModel", name := "isColumn", desc := "(I)Z" } : Jvm.MethodName)) ∈ zall := zmemG (zmj_6 55 rfl) rfl
abbrev w_HM_stone : List Cond := .code yX11_stone cX11_stone 4 (some .int) :: zall
abbrev rm_HM_stone : Room := { frames := 2, cells := 0, slots := 0, locals := 46 }
theorem hd_HM_stone : yX11_stone.cls = "HillSchoolModel" ∧ yX11_stone.cls ≠ "java/lang/invoke/MethodHandle" ∧ yX11_stone.cls ≠ "java/lang/invoke/VarHandle" ∧ (parseMethodDescriptor yX11_stone.desc).map (fun d => d.parameters.length) = some 2 := by decide +kernel
def wd_HM_stone (cA : Nat → ClassId) (q0 q1 q2 q3 q4 q5 q6 q7 q8 q9 q10 q11 q12 q13 q14 q15 q16 q17 q18 q19 q20 q21 q22 q23 q24 q25 q26 q27 q28 q29 q30 q31 : Nat) (u0 u1 u2 u3 u4 u5 u6 u7 u8 u9 u10 u11 u12 u13 u14 u15 u16 u17 u18 u19 : Int)  (i_thrown : Int) (i_status : Int) (i_refusals : Nat → Int) (i_row : Nat → Int) : va_W := [(q0, .inr (11, [.int (Int32.ofInt i_thrown), .int (Int32.ofInt i_status), .ref q1, .ref q2, .ref q3, .ref q4, .int (Int32.ofInt u0), .ref q5, .int (Int32.ofInt u1), .int (Int32.ofInt u2), .int (Int32.ofInt u3), .int (Int32.ofInt u4), .long (Int64.ofInt u5), .int (Int32.ofInt u6), .int (Int32.ofInt u7), .int (Int32.ofInt u8), .ref q6, .int (Int32.ofInt u9), .ref q7, .ref q8, .int (Int32.ofInt u10), .ref q9, .ref q10, .int (Int32.ofInt u11), .int (Int32.ofInt u12), .ref q11, .int (Int32.ofInt u13), .ref q12, .ref q13, .int (Int32.ofInt u14), .long (Int64.ofInt u15), .long (Int64.ofInt u16), .ref q14, .ref q15, .ref q16, .ref q17, .ref q18, .int (Int32.ofInt u17), .ref q19, .ref q20, .ref q21, .ref q22, .ref q23, .ref q24, .ref q25, .ref q26, .ref q27, .ref q28, .ref q29, .ref q30, .long (Int64.ofInt u18), .ref q31, .int (Int32.ofInt u19)])), (q1, .inl (cA 0, 7, .inl (za i_refusals))), (q2, .inl (cA 0, 5580, .inl (za i_row)))]
def wf_HM_stone (cA : Nat → ClassId) (q0 q1 q2 q3 q4 q5 q6 q7 q8 q9 q10 q11 q12 q13 q14 q15 q16 q17 q18 q19 q20 q21 q22 q23 q24 q25 q26 q27 q28 q29 q30 q31 : Nat) (u0 u1 u2 u3 u4 u5 u6 u7 u8 u9 u10 u11 u12 u13 u14 u15 u16 u17 u18 u19 : Int)  (o : Int × Int × Int × (Nat → Int) × (Nat → Int)) : va_W := wd_HM_stone cA q0 q1 q2 q3 q4 q5 q6 q7 q8 q9 q10 q11 q12 q13 q14 q15 q16 q17 q18 q19 q20 q21 q22 q23 q24 q25 q26 q27 q28 q29 q30 q31 u0 u1 u2 u3 u4 u5 u6 u7 u8 u9 u10 u11 u12 u13 u14 u15 u16 u17 u18 u19 o.2.1 o.2.2.1 o.2.2.2.1 o.2.2.2.2
def f_HM_stone (x1 : Int) (x2 : Int) (i_thrown : Int) (i_status : Int) (i_refusals : Nat → Int) (i_row : Nat → Int) : Option (Int × Int × Int × (Nat → Int) × (Nat → Int)) :=
  zd1 (f_HM_isWeight x2) fun v1 =>
  if zi_w v1 ≠ 0 then
    zd1 (f_HM_isColumn x1 i_row) fun v2 =>
    if zi_w v2 ≠ 0 then
      zn (9 + x1) fun v3 =>
      zg 5580 i_row v3 fun v4 =>
      if zi_w v4 ≠ zi_w 10 then
        zn (10 * x1) fun v5 =>
        zn (21 + v5) fun v6 =>
        zn (v6 + v4) fun v7 =>
        zs 5580 i_row v7 x2 fun a8 =>
        zn (9 + x1) fun v9 =>
        zg 5580 a8 v9 fun v10 =>
        zn (v10 + 1) fun v11 =>
        zs 5580 a8 v9 v11 fun a12 =>
        zn (v4 + 1) fun v13 =>
        zd3 (f_HM_tell v13 i_status i_refusals) fun v14 v15 a16 =>
        some (v14, 0, v15, a16, a12)
      else
        zd3 (f_HM_tell (-5) i_status i_refusals) fun v17 v18 a19 =>
        some (v17, 0, v18, a19, i_row)
    else
      zd3 (f_HM_tell (-2) i_status i_refusals) fun v20 v21 a22 =>
      some (v20, 0, v21, a22, i_row)
  else
    zd3 (f_HM_tell (-1) i_status i_refusals) fun v23 v24 a25 =>
    some (v23, 0, v24, a25, i_row)
set_option maxHeartbeats 4000000 in
set_option maxRecDepth 100000 in
theorem c_HM_stone (l : Launch) (ev : zEv) (dC : Nat → ClassId) (dI : Nat → Nat → Nat) (cA : Nat → ClassId) (q0 q1 q2 q3 q4 q5 q6 q7 q8 q9 q10 q11 q12 q13 q14 q15 q16 q17 q18 q19 q20 q21 q22 q23 q24 q25 q26 q27 q28 q29 q30 q31 : Nat) (u0 u1 u2 u3 u4 u5 u6 u7 u8 u9 u10 u11 u12 u13 u14 u15 u16 u17 u18 u19 : Int) {x1 x2 : Int} {i_thrown : Int} {i_status : Int} {i_refusals : Nat → Int} {i_row : Nat → Int} {out : Int × Int × Int × (Nat → Int) × (Nat → Int)} (hf : f_HM_stone x1 x2 i_thrown i_status i_refusals i_row = some out) : xc_I l ev (dC, dI) vwCl (tyl cA) yX11_stone w_HM_stone rm_HM_stone [.ref q0, .int (Int32.ofInt x1), .int (Int32.ofInt x2)] (wd_HM_stone cA q0 q1 q2 q3 q4 q5 q6 q7 q8 q9 q10 q11 q12 q13 q14 q15 q16 q17 q18 q19 q20 q21 q22 q23 q24 q25 q26 q27 q28 q29 q30 q31 u0 u1 u2 u3 u4 u5 u6 u7 u8 u9 u10 u11 u12 u13 u14 u15 u16 u17 u18 u19 i_thrown i_status i_refusals i_row) (wf_HM_stone cA q0 q1 q2 q3 q4 q5 q6 q7 q8 q9 q10 q11 q12 q13 q14 q15 q16 q17 q18 q19 q20 q21 q22 q23 q24 q25 q26 q27 q28 q29 q30 q31 u0 u1 u2 u3 u4 u5 u6 u7 u8 u9 u10 u11 u12 u13 u14 u15 u16 u17 u18 u19 out) out.1 := by
  refine xv_startI (cc := cX11_stone) (maxL := 4) (rt := .int) (by decide +kernel) rfl (Nat.le_of_ble_eq_true rfl) ?_
  intro p e s m args below meth c A Q H ls hx hb hml hts hown hK hA hP hD hS hl hE hret
  have hown : s.vm.findClass "HillSchoolModel" = some m.cls := hown
  have hz : ∀ w ∈ zall, w.before args s = true := fun w h => hts w (List.mem_cons_of_mem _ h)
  have hl : lv_has ls 4 [(0, .ref q0), (1, .int (Int32.ofInt x1)), (2, .int (Int32.ofInt x2))] := hl
  unfold f_HM_stone at hf
  refine lv_aload_n hx hb dX11_stone_0 rfl (lv_at hl 0 rfl) ?_
  refine lv_iconst (v := Int32.ofInt 0) hx hb dX11_stone_1 rfl ?_
  refine va_put (D := (dC, dI)) (ci := 11) (v := .int (Int32.ofInt 0)) (ty := .int) (C := RX11) (T := TX11) (N := 53) hx hb hz zi_X11 tyX11 tyX11_ok nmX11 hown hK hP hD hS 0 rfl rfl 0 (by decide) (hz _ zw_1165) (fun _ h9 => h9) rfl (by decide +kernel) rfl rfl (Nat.le_of_ble_eq_true rfl) dX11_stone_2 (fun H locs hP hD hS => ?_)
  have hP : va_P (dC, dI) vwCl (wd_HM_stone cA q0 q1 q2 q3 q4 q5 q6 q7 q8 q9 q10 q11 q12 q13 q14 q15 q16 q17 q18 q19 q20 q21 q22 q23 q24 q25 q26 q27 q28 q29 q30 q31 u0 u1 u2 u3 u4 u5 u6 u7 u8 u9 u10 u11 u12 u13 u14 u15 u16 u17 u18 u19 0 i_status i_refusals i_row) H := hP
  have hD : va_D A (wd_HM_stone cA q0 q1 q2 q3 q4 q5 q6 q7 q8 q9 q10 q11 q12 q13 q14 q15 q16 q17 q18 q19 q20 q21 q22 q23 q24 q25 q26 q27 q28 q29 q30 q31 u0 u1 u2 u3 u4 u5 u6 u7 u8 u9 u10 u11 u12 u13 u14 u15 u16 u17 u18 u19 0 i_status i_refusals i_row) := hD
  refine lv_iload_n hx hb dX11_stone_5 rfl (lv_at hl 2 rfl) ?_
  refine xe_d1 hf (fun v1 hg hf => ?_)
  have hC : ([] : List Nat).map (fun i => (wd_HM_stone cA q0 q1 q2 q3 q4 q5 q6 q7 q8 q9 q10 q11 q12 q13 q14 q15 q16 q17 q18 q19 q20 q21 q22 q23 q24 q25 q26 q27 q28 q29 q30 q31 u0 u1 u2 u3 u4 u5 u6 u7 u8 u9 u10 u11 u12 u13 u14 u15 u16 u17 u18 u19 0 i_status i_refusals i_row)[i]?) = (wd_HM_isWeight cA).map some := rfl
  refine xv_afterI (ws' := (wd_HM_stone cA q0 q1 q2 q3 q4 q5 q6 q7 q8 q9 q10 q11 q12 q13 q14 q15 q16 q17 q18 q19 q20 q21 q22 q23 q24 q25 q26 q27 q28 q29 q30 q31 u0 u1 u2 u3 u4 u5 u6 u7 u8 u9 u10 u11 u12 u13 u14 u15 u16 u17 u18 u19 0 i_status i_refusals i_row)) (isC := []) (ps := [none, none, none]) (va_runS (As := [.int (Int32.ofInt x2)]) (rest := []) ⟨hx, hb, hml, hown, hts⟩ (c_HM_isWeight l ev dC dI cA hg H.size) (va_cwS 1 hts (zgS zw_1352 zw_1353 zw_115 zw_1354) rfl rfl rfl hd_HM_isWeight.2 ⟨Nat.le_of_ble_eq_true rfl, Nat.le_of_ble_eq_true rfl⟩) (xv_preS hE hA hS hK hP hD (isC := []) (by decide +kernel) hC) rfl rfl hl.1 rfl (lv_room (Nat.le_of_ble_eq_true rfl)) dX11_stone_6 ⟨Nat.le_refl _, Nat.le_refl _⟩) hP hD hS hA (by decide +kernel) rfl hC rfl rfl (fun H locs hP hD hS => ?_)
  refine xi_if_ne (tgt := 18) hx hb dX11_stone_9 (by decide) hf (fun hf => ?_) (fun hf => ?_)
  · refine lv_aload_n hx hb dX11_stone_18 rfl (lv_at hl 0 rfl) ?_
    refine lv_iload_n hx hb dX11_stone_19 rfl (lv_at hl 1 rfl) ?_
    refine xe_d1 hf (fun v2 hg hf => ?_)
    have hC : ([0, 2] : List Nat).map (fun i => (wd_HM_stone cA q0 q1 q2 q3 q4 q5 q6 q7 q8 q9 q10 q11 q12 q13 q14 q15 q16 q17 q18 q19 q20 q21 q22 q23 q24 q25 q26 q27 q28 q29 q30 q31 u0 u1 u2 u3 u4 u5 u6 u7 u8 u9 u10 u11 u12 u13 u14 u15 u16 u17 u18 u19 0 i_status i_refusals i_row)[i]?) = (wd_HM_isColumn cA q0 q1 q2 q3 q4 q5 q6 q7 q8 q9 q10 q11 q12 q13 q14 q15 q16 q17 q18 q19 q20 q21 q22 q23 q24 q25 q26 q27 q28 q29 q30 q31 0 i_status u0 u1 u2 u3 u4 u5 u6 u7 u8 u9 u10 u11 u12 u13 u14 u15 u16 u17 u18 u19 i_row).map some := rfl
    refine xv_afterI (ws' := (wd_HM_stone cA q0 q1 q2 q3 q4 q5 q6 q7 q8 q9 q10 q11 q12 q13 q14 q15 q16 q17 q18 q19 q20 q21 q22 q23 q24 q25 q26 q27 q28 q29 q30 q31 u0 u1 u2 u3 u4 u5 u6 u7 u8 u9 u10 u11 u12 u13 u14 u15 u16 u17 u18 u19 0 i_status i_refusals i_row)) (isC := [0, 2]) (ps := [some 0, none, some 1]) (va_runV (As := [.int (Int32.ofInt x1)]) (rest := []) ⟨hx, hb, hml, hown, hts⟩ (c_HM_isColumn l ev dC dI cA q0 q1 q2 q3 q4 q5 q6 q7 q8 q9 q10 q11 q12 q13 q14 q15 q16 q17 q18 q19 q20 q21 q22 q23 q24 q25 q26 q27 q28 q29 q30 q31 0 i_status u0 u1 u2 u3 u4 u5 u6 u7 u8 u9 u10 u11 u12 u13 u14 u15 u16 u17 u18 u19 hg H.size) (cwV 1 hts (zgV zw_1356 zw_1358 zw_42 zw_115 zw_1359) rfl rfl rfl hd_HM_isColumn ⟨Nat.le_of_ble_eq_true rfl, Nat.le_of_ble_eq_true rfl⟩) (xv_preV (T := TX11) (N := 53) hE hA hS hK hP hD (isC := [0, 2]) (by decide +kernel) hC (q0 := 0) (ci := 11) rfl rfl) rfl rfl hl.1 rfl (lv_room (Nat.le_of_ble_eq_true rfl)) dX11_stone_20 ⟨Nat.le_refl _, Nat.le_refl _⟩) hP hD hS hA (by decide +kernel) rfl hC rfl rfl (fun H locs hP hD hS => ?_)
    refine xi_if_ne (tgt := 33) hx hb dX11_stone_23 (by decide) hf (fun hf => ?_) (fun hf => ?_)
    · refine lv_aload_n hx hb dX11_stone_33 rfl (lv_at hl 0 rfl) ?_
      refine va_get (D := (dC, dI)) (ci := 11) (v := .ref q2) (C := RX11) (T := TX11) (N := 53) hx hb hz zi_X11 hown hK hP 0 rfl rfl 3 (by decide) (hz _ zw_1168) (fun _ h9 => h9) rfl dX11_stone_34 ?_
      refine lv_bipush (v := Int32.ofInt 9) hx hb dX11_stone_37 (by decide) ?_
      refine lv_iload_n hx hb dX11_stone_39 rfl (lv_at hl 1 rfl) ?_
      refine xi_iadd hx hb dX11_stone_40 hf (fun v3 hf => ?_)
      refine xi_iald hx hb hK hP 2 0 rfl rfl dX11_stone_41 hf (fun v4 hf => ?_)
      refine lv_istore_n (lv' := [(3, .int (Int32.ofInt v4)), (0, .ref q0), (1, .int (Int32.ofInt x1)), (2, .int (Int32.ofInt x2))]) hx hb dX11_stone_42 rfl hl (by decide) rfl (fun ls hl => ?_)
      refine lv_iload_n hx hb dX11_stone_43 rfl (lv_at hl 0 rfl) ?_
      refine lv_bipush (v := Int32.ofInt 10) hx hb dX11_stone_44 (by decide) ?_
      refine xi_icmp_ne (tgt := 56) hx hb dX11_stone_46 (by decide) hf (fun hf => ?_) (fun hf => ?_)
      · refine lv_aload_n hx hb dX11_stone_56 rfl (lv_at hl 1 rfl) ?_
        refine va_get (D := (dC, dI)) (ci := 11) (v := .ref q2) (C := RX11) (T := TX11) (N := 53) hx hb hz zi_X11 hown hK hP 0 rfl rfl 3 (by decide) (hz _ zw_1168) (fun _ h9 => h9) rfl dX11_stone_57 ?_
        refine lv_bipush (v := Int32.ofInt 21) hx hb dX11_stone_60 (by decide) ?_
        refine lv_bipush (v := Int32.ofInt 10) hx hb dX11_stone_62 (by decide) ?_
        refine lv_iload_n hx hb dX11_stone_64 rfl (lv_at hl 2 rfl) ?_
        refine xi_imul hx hb dX11_stone_65 hf (fun v5 hf => ?_)
        refine xi_iadd hx hb dX11_stone_66 hf (fun v6 hf => ?_)
        refine lv_iload_n hx hb dX11_stone_67 rfl (lv_at hl 0 rfl) ?_
        refine xi_iadd hx hb dX11_stone_68 hf (fun v7 hf => ?_)
        refine lv_iload_n hx hb dX11_stone_69 rfl (lv_at hl 3 rfl) ?_
        refine xi_iast hx hb hK hP hD hS 2 0 rfl rfl dX11_stone_70 hf (fun a8 H locs hP hD hS hf => ?_)
        have hP : va_P (dC, dI) vwCl (wd_HM_stone cA q0 q1 q2 q3 q4 q5 q6 q7 q8 q9 q10 q11 q12 q13 q14 q15 q16 q17 q18 q19 q20 q21 q22 q23 q24 q25 q26 q27 q28 q29 q30 q31 u0 u1 u2 u3 u4 u5 u6 u7 u8 u9 u10 u11 u12 u13 u14 u15 u16 u17 u18 u19 0 i_status i_refusals a8) H := hP
        have hD : va_D A (wd_HM_stone cA q0 q1 q2 q3 q4 q5 q6 q7 q8 q9 q10 q11 q12 q13 q14 q15 q16 q17 q18 q19 q20 q21 q22 q23 q24 q25 q26 q27 q28 q29 q30 q31 u0 u1 u2 u3 u4 u5 u6 u7 u8 u9 u10 u11 u12 u13 u14 u15 u16 u17 u18 u19 0 i_status i_refusals a8) := hD
        refine lv_aload_n hx hb dX11_stone_71 rfl (lv_at hl 1 rfl) ?_
        refine va_get (D := (dC, dI)) (ci := 11) (v := .ref q2) (C := RX11) (T := TX11) (N := 53) hx hb hz zi_X11 hown hK hP 0 rfl rfl 3 (by decide) (hz _ zw_1168) (fun _ h9 => h9) rfl dX11_stone_72 ?_
        refine lv_bipush (v := Int32.ofInt 9) hx hb dX11_stone_75 (by decide) ?_
        refine lv_iload_n hx hb dX11_stone_77 rfl (lv_at hl 2 rfl) ?_
        refine xi_iadd hx hb dX11_stone_78 hf (fun v9 hf => ?_)
        refine lv_dup2_11 hx hb dX11_stone_79 rfl rfl ?_
        refine xi_iald hx hb hK hP 2 0 rfl rfl dX11_stone_80 hf (fun v10 hf => ?_)
        refine lv_iconst (v := Int32.ofInt 1) hx hb dX11_stone_81 rfl ?_
        refine xi_iadd hx hb dX11_stone_82 hf (fun v11 hf => ?_)
        refine xi_iast hx hb hK hP hD hS 2 0 rfl rfl dX11_stone_83 hf (fun a12 H locs hP hD hS hf => ?_)
        have hP : va_P (dC, dI) vwCl (wd_HM_stone cA q0 q1 q2 q3 q4 q5 q6 q7 q8 q9 q10 q11 q12 q13 q14 q15 q16 q17 q18 q19 q20 q21 q22 q23 q24 q25 q26 q27 q28 q29 q30 q31 u0 u1 u2 u3 u4 u5 u6 u7 u8 u9 u10 u11 u12 u13 u14 u15 u16 u17 u18 u19 0 i_status i_refusals a12) H := hP
        have hD : va_D A (wd_HM_stone cA q0 q1 q2 q3 q4 q5 q6 q7 q8 q9 q10 q11 q12 q13 q14 q15 q16 q17 q18 q19 q20 q21 q22 q23 q24 q25 q26 q27 q28 q29 q30 q31 u0 u1 u2 u3 u4 u5 u6 u7 u8 u9 u10 u11 u12 u13 u14 u15 u16 u17 u18 u19 0 i_status i_refusals a12) := hD
        refine lv_aload_n hx hb dX11_stone_84 rfl (lv_at hl 1 rfl) ?_
        refine lv_iload_n hx hb dX11_stone_85 rfl (lv_at hl 0 rfl) ?_
        refine lv_iconst (v := Int32.ofInt 1) hx hb dX11_stone_86 rfl ?_
        refine xi_iadd hx hb dX11_stone_87 hf (fun v13 hf => ?_)
        refine xe_d3 hf (fun v14 v15 a16 hg hf => ?_)
        have hC : ([0, 1] : List Nat).map (fun i => (wd_HM_stone cA q0 q1 q2 q3 q4 q5 q6 q7 q8 q9 q10 q11 q12 q13 q14 q15 q16 q17 q18 q19 q20 q21 q22 q23 q24 q25 q26 q27 q28 q29 q30 q31 u0 u1 u2 u3 u4 u5 u6 u7 u8 u9 u10 u11 u12 u13 u14 u15 u16 u17 u18 u19 0 i_status i_refusals a12)[i]?) = (wd_HM_tell cA q0 q1 q2 q3 q4 q5 q6 q7 q8 q9 q10 q11 q12 q13 q14 q15 q16 q17 q18 q19 q20 q21 q22 q23 q24 q25 q26 q27 q28 q29 q30 q31 0 u0 u1 u2 u3 u4 u5 u6 u7 u8 u9 u10 u11 u12 u13 u14 u15 u16 u17 u18 u19 i_status i_refusals).map some := rfl
        refine xv_afterI (ws' := (wd_HM_stone cA q0 q1 q2 q3 q4 q5 q6 q7 q8 q9 q10 q11 q12 q13 q14 q15 q16 q17 q18 q19 q20 q21 q22 q23 q24 q25 q26 q27 q28 q29 q30 q31 u0 u1 u2 u3 u4 u5 u6 u7 u8 u9 u10 u11 u12 u13 u14 u15 u16 u17 u18 u19 0 v15 a16 a12)) (isC := [0, 1]) (ps := [some 0, some 1, none]) (va_runV (As := [.int (Int32.ofInt v13)]) (rest := []) ⟨hx, hb, hml, hown, hts⟩ (c_HM_tell l ev dC dI cA q0 q1 q2 q3 q4 q5 q6 q7 q8 q9 q10 q11 q12 q13 q14 q15 q16 q17 q18 q19 q20 q21 q22 q23 q24 q25 q26 q27 q28 q29 q30 q31 0 u0 u1 u2 u3 u4 u5 u6 u7 u8 u9 u10 u11 u12 u13 u14 u15 u16 u17 u18 u19 hg H.size) (cwV 1 hts (zgV zw_1332 zw_1334 zw_40 zw_115 zw_1335) rfl rfl rfl hd_HM_tell ⟨Nat.le_of_ble_eq_true rfl, Nat.le_of_ble_eq_true rfl⟩) (xv_preV (T := TX11) (N := 53) hE hA hS hK hP hD (isC := [0, 1]) (by decide +kernel) hC (q0 := 0) (ci := 11) rfl rfl) rfl rfl hl.1 rfl (lv_room (Nat.le_of_ble_eq_true rfl)) dX11_stone_88 ⟨Nat.le_refl _, Nat.le_refl _⟩) hP hD hS hA (by decide +kernel) rfl hC rfl rfl (fun H locs hP hD hS => ?_)
        obtain rfl := Option.some.inj hf
        exact hret _ _ _ _ rfl dX11_stone_91 hP hD hS
      · refine lv_aload_n hx hb dX11_stone_49 rfl (lv_at hl 1 rfl) ?_
        refine lv_bipush (v := Int32.ofInt (-5)) hx hb dX11_stone_50 (by decide) ?_
        refine xe_d3 hf (fun v17 v18 a19 hg hf => ?_)
        have hC : ([0, 1] : List Nat).map (fun i => (wd_HM_stone cA q0 q1 q2 q3 q4 q5 q6 q7 q8 q9 q10 q11 q12 q13 q14 q15 q16 q17 q18 q19 q20 q21 q22 q23 q24 q25 q26 q27 q28 q29 q30 q31 u0 u1 u2 u3 u4 u5 u6 u7 u8 u9 u10 u11 u12 u13 u14 u15 u16 u17 u18 u19 0 i_status i_refusals i_row)[i]?) = (wd_HM_tell cA q0 q1 q2 q3 q4 q5 q6 q7 q8 q9 q10 q11 q12 q13 q14 q15 q16 q17 q18 q19 q20 q21 q22 q23 q24 q25 q26 q27 q28 q29 q30 q31 0 u0 u1 u2 u3 u4 u5 u6 u7 u8 u9 u10 u11 u12 u13 u14 u15 u16 u17 u18 u19 i_status i_refusals).map some := rfl
        refine xv_afterI (ws' := (wd_HM_stone cA q0 q1 q2 q3 q4 q5 q6 q7 q8 q9 q10 q11 q12 q13 q14 q15 q16 q17 q18 q19 q20 q21 q22 q23 q24 q25 q26 q27 q28 q29 q30 q31 u0 u1 u2 u3 u4 u5 u6 u7 u8 u9 u10 u11 u12 u13 u14 u15 u16 u17 u18 u19 0 v18 a19 i_row)) (isC := [0, 1]) (ps := [some 0, some 1, none]) (va_runV (As := [.int (Int32.ofInt (-5))]) (rest := []) ⟨hx, hb, hml, hown, hts⟩ (c_HM_tell l ev dC dI cA q0 q1 q2 q3 q4 q5 q6 q7 q8 q9 q10 q11 q12 q13 q14 q15 q16 q17 q18 q19 q20 q21 q22 q23 q24 q25 q26 q27 q28 q29 q30 q31 0 u0 u1 u2 u3 u4 u5 u6 u7 u8 u9 u10 u11 u12 u13 u14 u15 u16 u17 u18 u19 hg H.size) (cwV 1 hts (zgV zw_1332 zw_1334 zw_40 zw_115 zw_1335) rfl rfl rfl hd_HM_tell ⟨Nat.le_of_ble_eq_true rfl, Nat.le_of_ble_eq_true rfl⟩) (xv_preV (T := TX11) (N := 53) hE hA hS hK hP hD (isC := [0, 1]) (by decide +kernel) hC (q0 := 0) (ci := 11) rfl rfl) rfl rfl hl.1 rfl (lv_room (Nat.le_of_ble_eq_true rfl)) dX11_stone_52 ⟨Nat.le_refl _, Nat.le_refl _⟩) hP hD hS hA (by decide +kernel) rfl hC rfl rfl (fun H locs hP hD hS => ?_)
        obtain rfl := Option.some.inj hf
        exact hret _ _ _ _ rfl dX11_stone_55 hP hD hS
    · refine lv_aload_n hx hb dX11_stone_26 rfl (lv_at hl 0 rfl) ?_
      refine lv_bipush (v := Int32.ofInt (-2)) hx hb dX11_stone_27 (by decide) ?_
      refine xe_d3 hf (fun v20 v21 a22 hg hf => ?_)
      have hC : ([0, 1] : List Nat).map (fun i => (wd_HM_stone cA q0 q1 q2 q3 q4 q5 q6 q7 q8 q9 q10 q11 q12 q13 q14 q15 q16 q17 q18 q19 q20 q21 q22 q23 q24 q25 q26 q27 q28 q29 q30 q31 u0 u1 u2 u3 u4 u5 u6 u7 u8 u9 u10 u11 u12 u13 u14 u15 u16 u17 u18 u19 0 i_status i_refusals i_row)[i]?) = (wd_HM_tell cA q0 q1 q2 q3 q4 q5 q6 q7 q8 q9 q10 q11 q12 q13 q14 q15 q16 q17 q18 q19 q20 q21 q22 q23 q24 q25 q26 q27 q28 q29 q30 q31 0 u0 u1 u2 u3 u4 u5 u6 u7 u8 u9 u10 u11 u12 u13 u14 u15 u16 u17 u18 u19 i_status i_refusals).map some := rfl
      refine xv_afterI (ws' := (wd_HM_stone cA q0 q1 q2 q3 q4 q5 q6 q7 q8 q9 q10 q11 q12 q13 q14 q15 q16 q17 q18 q19 q20 q21 q22 q23 q24 q25 q26 q27 q28 q29 q30 q31 u0 u1 u2 u3 u4 u5 u6 u7 u8 u9 u10 u11 u12 u13 u14 u15 u16 u17 u18 u19 0 v21 a22 i_row)) (isC := [0, 1]) (ps := [some 0, some 1, none]) (va_runV (As := [.int (Int32.ofInt (-2))]) (rest := []) ⟨hx, hb, hml, hown, hts⟩ (c_HM_tell l ev dC dI cA q0 q1 q2 q3 q4 q5 q6 q7 q8 q9 q10 q11 q12 q13 q14 q15 q16 q17 q18 q19 q20 q21 q22 q23 q24 q25 q26 q27 q28 q29 q30 q31 0 u0 u1 u2 u3 u4 u5 u6 u7 u8 u9 u10 u11 u12 u13 u14 u15 u16 u17 u18 u19 hg H.size) (cwV 1 hts (zgV zw_1332 zw_1334 zw_40 zw_115 zw_1335) rfl rfl rfl hd_HM_tell ⟨Nat.le_of_ble_eq_true rfl, Nat.le_of_ble_eq_true rfl⟩) (xv_preV (T := TX11) (N := 53) hE hA hS hK hP hD (isC := [0, 1]) (by decide +kernel) hC (q0 := 0) (ci := 11) rfl rfl) rfl rfl hl.1 rfl (lv_room (Nat.le_of_ble_eq_true rfl)) dX11_stone_29 ⟨Nat.le_refl _, Nat.le_refl _⟩) hP hD hS hA (by decide +kernel) rfl hC rfl rfl (fun H locs hP hD hS => ?_)
      obtain rfl := Option.some.inj hf
      exact hret _ _ _ _ rfl dX11_stone_32 hP hD hS
  · refine lv_aload_n hx hb dX11_stone_12 rfl (lv_at hl 0 rfl) ?_
    refine lv_iconst (v := Int32.ofInt (-1)) hx hb dX11_stone_13 rfl ?_
    refine xe_d3 hf (fun v23 v24 a25 hg hf => ?_)
    have hC : ([0, 1] : List Nat).map (fun i => (wd_HM_stone cA q0 q1 q2 q3 q4 q5 q6 q7 q8 q9 q10 q11 q12 q13 q14 q15 q16 q17 q18 q19 q20 q21 q22 q23 q24 q25 q26 q27 q28 q29 q30 q31 u0 u1 u2 u3 u4 u5 u6 u7 u8 u9 u10 u11 u12 u13 u14 u15 u16 u17 u18 u19 0 i_status i_refusals i_row)[i]?) = (wd_HM_tell cA q0 q1 q2 q3 q4 q5 q6 q7 q8 q9 q10 q11 q12 q13 q14 q15 q16 q17 q18 q19 q20 q21 q22 q23 q24 q25 q26 q27 q28 q29 q30 q31 0 u0 u1 u2 u3 u4 u5 u6 u7 u8 u9 u10 u11 u12 u13 u14 u15 u16 u17 u18 u19 i_status i_refusals).map some := rfl
    refine xv_afterI (ws' := (wd_HM_stone cA q0 q1 q2 q3 q4 q5 q6 q7 q8 q9 q10 q11 q12 q13 q14 q15 q16 q17 q18 q19 q20 q21 q22 q23 q24 q25 q26 q27 q28 q29 q30 q31 u0 u1 u2 u3 u4 u5 u6 u7 u8 u9 u10 u11 u12 u13 u14 u15 u16 u17 u18 u19 0 v24 a25 i_row)) (isC := [0, 1]) (ps := [some 0, some 1, none]) (va_runV (As := [.int (Int32.ofInt (-1))]) (rest := []) ⟨hx, hb, hml, hown, hts⟩ (c_HM_tell l ev dC dI cA q0 q1 q2 q3 q4 q5 q6 q7 q8 q9 q10 q11 q12 q13 q14 q15 q16 q17 q18 q19 q20 q21 q22 q23 q24 q25 q26 q27 q28 q29 q30 q31 0 u0 u1 u2 u3 u4 u5 u6 u7 u8 u9 u10 u11 u12 u13 u14 u15 u16 u17 u18 u19 hg H.size) (cwV 1 hts (zgV zw_1332 zw_1334 zw_40 zw_115 zw_1335) rfl rfl rfl hd_HM_tell ⟨Nat.le_of_ble_eq_true rfl, Nat.le_of_ble_eq_true rfl⟩) (xv_preV (T := TX11) (N := 53) hE hA hS hK hP hD (isC := [0, 1]) (by decide +kernel) hC (q0 := 0) (ci := 11) rfl rfl) rfl rfl hl.1 rfl (lv_room (Nat.le_of_ble_eq_true rfl)) dX11_stone_14 ⟨Nat.le_refl _, Nat.le_refl _⟩) hP hD hS hA (by decide +kernel) rfl hC rfl rfl (fun H locs hP hD hS => ?_)
    obtain rfl := Option.some.inj hf
    exact hret _ _ _ _ rfl dX11_stone_17 hP hD hS
theorem dX11_lift_0 : decode cX11_lift 0 = .ok (.aload_n 0, 1) := by decide +kernel
theorem dX11_lift_1 : decode cX11_lift 1 = .ok (.iconst 0, 1) := by decide +kernel
theorem dX11_lift_2 : decode cX11_lift 2 = .ok (.putfield 126, 3) := by decide +kernel
theorem dX11_lift_5 : decode cX11_lift 5 = .ok (.aload_n 0, 1) := by decide +kernel
theorem dX11_lift_6 : decode cX11_lift 6 = .ok (.iload_n 1, 1) := by decide +kernel
theorem dX11_lift_7 : decode cX11_lift 7 = .ok (.invokevirtual 150, 3) := by decide +kernel
theorem dX11_lift_10 : decode cX11_lift 10 = .ok (.ifCond .ne 10, 3) := by decide +kernel
theorem dX11_lift_13 : decode cX11_lift 13 = .ok (.aload_n 0, 1) := by decide +kernel
theorem dX11_lift_14 : decode cX11_lift 14 = .ok (.bipush (-2), 2) := by decide +kernel
theorem dX11_lift_16 : decode cX11_lift 16 = .ok (.invokevirtual 136, 3) := by decide +kernel
theorem dX11_lift_19 : decode cX11_lift 19 = .ok (.ireturn, 1) := by decide +kernel
theorem dX11_lift_20 : decode cX11_lift 20 = .ok (.aload_n 0, 1) := by decide +kernel
theorem dX11_lift_21 : decode cX11_lift 21 = .ok (.getfield 13, 3) := by decide +kernel
theorem dX11_lift_24 : decode cX11_lift 24 = .ok (.bipush 9, 2) := by decide +kernel
theorem dX11_lift_26 : decode cX11_lift 26 = .ok (.iload_n 1, 1) := by decide +kernel
theorem dX11_lift_27 : decode cX11_lift 27 = .ok (.iadd, 1) := by decide +kernel
theorem dX11_lift_28 : decode cX11_lift 28 = .ok (.iaload, 1) := by decide +kernel
theorem dX11_lift_29 : decode cX11_lift 29 = .ok (.istore_n 2, 1) := by decide +kernel
theorem dX11_lift_30 : decode cX11_lift 30 = .ok (.iload_n 2, 1) := by decide +kernel
theorem dX11_lift_31 : decode cX11_lift 31 = .ok (.ifCond .ne 10, 3) := by decide +kernel
theorem dX11_lift_34 : decode cX11_lift 34 = .ok (.aload_n 0, 1) := by decide +kernel
theorem dX11_lift_35 : decode cX11_lift 35 = .ok (.bipush (-3), 2) := by decide +kernel
theorem dX11_lift_37 : decode cX11_lift 37 = .ok (.invokevirtual 136, 3) := by decide +kernel
theorem dX11_lift_40 : decode cX11_lift 40 = .ok (.ireturn, 1) := by decide +kernel
theorem dX11_lift_41 : decode cX11_lift 41 = .ok (.aload_n 0, 1) := by decide +kernel
theorem dX11_lift_42 : decode cX11_lift 42 = .ok (.getfield 13, 3) := by decide +kernel
theorem dX11_lift_45 : decode cX11_lift 45 = .ok (.bipush 9, 2) := by decide +kernel
theorem dX11_lift_47 : decode cX11_lift 47 = .ok (.iload_n 1, 1) := by decide +kernel
theorem dX11_lift_48 : decode cX11_lift 48 = .ok (.iadd, 1) := by decide +kernel
theorem dX11_lift_49 : decode cX11_lift 49 = .ok (.dup2, 1) := by decide +kernel
theorem dX11_lift_50 : decode cX11_lift 50 = .ok (.iaload, 1) := by decide +kernel
theorem dX11_lift_51 : decode cX11_lift 51 = .ok (.iconst 1, 1) := by decide +kernel
theorem dX11_lift_52 : decode cX11_lift 52 = .ok (.isub, 1) := by decide +kernel
theorem dX11_lift_53 : decode cX11_lift 53 = .ok (.iastore, 1) := by decide +kernel
theorem dX11_lift_54 : decode cX11_lift 54 = .ok (.aload_n 0, 1) := by decide +kernel
theorem dX11_lift_55 : decode cX11_lift 55 = .ok (.aload_n 0, 1) := by decide +kernel
theorem dX11_lift_56 : decode cX11_lift 56 = .ok (.getfield 13, 3) := by decide +kernel
theorem dX11_lift_59 : decode cX11_lift 59 = .ok (.bipush 21, 2) := by decide +kernel
theorem dX11_lift_61 : decode cX11_lift 61 = .ok (.bipush 10, 2) := by decide +kernel
theorem dX11_lift_63 : decode cX11_lift 63 = .ok (.iload_n 1, 1) := by decide +kernel
theorem dX11_lift_64 : decode cX11_lift 64 = .ok (.imul, 1) := by decide +kernel
theorem dX11_lift_65 : decode cX11_lift 65 = .ok (.iadd, 1) := by decide +kernel
theorem dX11_lift_66 : decode cX11_lift 66 = .ok (.iload_n 2, 1) := by decide +kernel
theorem dX11_lift_67 : decode cX11_lift 67 = .ok (.iadd, 1) := by decide +kernel
theorem dX11_lift_68 : decode cX11_lift 68 = .ok (.iconst 1, 1) := by decide +kernel
theorem dX11_lift_69 : decode cX11_lift 69 = .ok (.isub, 1) := by decide +kernel
theorem dX11_lift_70 : decode cX11_lift 70 = .ok (.iaload, 1) := by decide +kernel
theorem dX11_lift_71 : decode cX11_lift 71 = .ok (.invokevirtual 136, 3) := by decide +kernel
theorem dX11_lift_74 : decode cX11_lift 74 = .ok (.ireturn, 1) := by decide +kernel
theorem zw_1363 : (Jvm.Cond.code ({ cls := "HillSchoolModel", name := "lift", desc := "(I)I" } : Jvm.MethodName) prog_13_method_16_code (3 : Nat) (Option.some Jvm.ClassFile.FieldType.int)) ∈ zall := zmemG (zmj_6 60 rfl) rfl
abbrev w_HM_lift : List Cond := .code yX11_lift cX11_lift 3 (some .int) :: zall
abbrev rm_HM_lift : Room := { frames := 2, cells := 0, slots := 0, locals := 46 }
theorem hd_HM_lift : yX11_lift.cls = "HillSchoolModel" ∧ yX11_lift.cls ≠ "java/lang/invoke/MethodHandle" ∧ yX11_lift.cls ≠ "java/lang/invoke/VarHandle" ∧ (parseMethodDescriptor yX11_lift.desc).map (fun d => d.parameters.length) = some 1 := by decide +kernel
def wd_HM_lift (cA : Nat → ClassId) (q0 q1 q2 q3 q4 q5 q6 q7 q8 q9 q10 q11 q12 q13 q14 q15 q16 q17 q18 q19 q20 q21 q22 q23 q24 q25 q26 q27 q28 q29 q30 q31 : Nat) (u0 u1 u2 u3 u4 u5 u6 u7 u8 u9 u10 u11 u12 u13 u14 u15 u16 u17 u18 u19 : Int)  (i_thrown : Int) (i_status : Int) (i_refusals : Nat → Int) (i_row : Nat → Int) : va_W := [(q0, .inr (11, [.int (Int32.ofInt i_thrown), .int (Int32.ofInt i_status), .ref q1, .ref q2, .ref q3, .ref q4, .int (Int32.ofInt u0), .ref q5, .int (Int32.ofInt u1), .int (Int32.ofInt u2), .int (Int32.ofInt u3), .int (Int32.ofInt u4), .long (Int64.ofInt u5), .int (Int32.ofInt u6), .int (Int32.ofInt u7), .int (Int32.ofInt u8), .ref q6, .int (Int32.ofInt u9), .ref q7, .ref q8, .int (Int32.ofInt u10), .ref q9, .ref q10, .int (Int32.ofInt u11), .int (Int32.ofInt u12), .ref q11, .int (Int32.ofInt u13), .ref q12, .ref q13, .int (Int32.ofInt u14), .long (Int64.ofInt u15), .long (Int64.ofInt u16), .ref q14, .ref q15, .ref q16, .ref q17, .ref q18, .int (Int32.ofInt u17), .ref q19, .ref q20, .ref q21, .ref q22, .ref q23, .ref q24, .ref q25, .ref q26, .ref q27, .ref q28, .ref q29, .ref q30, .long (Int64.ofInt u18), .ref q31, .int (Int32.ofInt u19)])), (q1, .inl (cA 0, 7, .inl (za i_refusals))), (q2, .inl (cA 0, 5580, .inl (za i_row)))]
def wf_HM_lift (cA : Nat → ClassId) (q0 q1 q2 q3 q4 q5 q6 q7 q8 q9 q10 q11 q12 q13 q14 q15 q16 q17 q18 q19 q20 q21 q22 q23 q24 q25 q26 q27 q28 q29 q30 q31 : Nat) (u0 u1 u2 u3 u4 u5 u6 u7 u8 u9 u10 u11 u12 u13 u14 u15 u16 u17 u18 u19 : Int)  (o : Int × Int × Int × (Nat → Int) × (Nat → Int)) : va_W := wd_HM_lift cA q0 q1 q2 q3 q4 q5 q6 q7 q8 q9 q10 q11 q12 q13 q14 q15 q16 q17 q18 q19 q20 q21 q22 q23 q24 q25 q26 q27 q28 q29 q30 q31 u0 u1 u2 u3 u4 u5 u6 u7 u8 u9 u10 u11 u12 u13 u14 u15 u16 u17 u18 u19 o.2.1 o.2.2.1 o.2.2.2.1 o.2.2.2.2
def f_HM_lift (x1 : Int) (i_thrown : Int) (i_status : Int) (i_refusals : Nat → Int) (i_row : Nat → Int) : Option (Int × Int × Int × (Nat → Int) × (Nat → Int)) :=
  zd1 (f_HM_isColumn x1 i_row) fun v1 =>
  if zi_w v1 ≠ 0 then
    zn (9 + x1) fun v2 =>
    zg 5580 i_row v2 fun v3 =>
    if zi_w v3 ≠ 0 then
      zn (9 + x1) fun v4 =>
      zg 5580 i_row v4 fun v5 =>
      zn (v5 - 1) fun v6 =>
      zs 5580 i_row v4 v6 fun a7 =>
      zn (10 * x1) fun v8 =>
      zn (21 + v8) fun v9 =>
      zn (v9 + v3) fun v10 =>
      zn (v10 - 1) fun v11 =>
      zg 5580 a7 v11 fun v12 =>
      zd3 (f_HM_tell v12 i_status i_refusals) fun v13 v14 a15 =>
      some (v13, 0, v14, a15, a7)
    else
      zd3 (f_HM_tell (-3) i_status i_refusals) fun v16 v17 a18 =>
      some (v16, 0, v17, a18, i_row)
  else
    zd3 (f_HM_tell (-2) i_status i_refusals) fun v19 v20 a21 =>
    some (v19, 0, v20, a21, i_row)
set_option maxHeartbeats 4000000 in
set_option maxRecDepth 100000 in
theorem c_HM_lift (l : Launch) (ev : zEv) (dC : Nat → ClassId) (dI : Nat → Nat → Nat) (cA : Nat → ClassId) (q0 q1 q2 q3 q4 q5 q6 q7 q8 q9 q10 q11 q12 q13 q14 q15 q16 q17 q18 q19 q20 q21 q22 q23 q24 q25 q26 q27 q28 q29 q30 q31 : Nat) (u0 u1 u2 u3 u4 u5 u6 u7 u8 u9 u10 u11 u12 u13 u14 u15 u16 u17 u18 u19 : Int) {x1 : Int} {i_thrown : Int} {i_status : Int} {i_refusals : Nat → Int} {i_row : Nat → Int} {out : Int × Int × Int × (Nat → Int) × (Nat → Int)} (hf : f_HM_lift x1 i_thrown i_status i_refusals i_row = some out) : xc_I l ev (dC, dI) vwCl (tyl cA) yX11_lift w_HM_lift rm_HM_lift [.ref q0, .int (Int32.ofInt x1)] (wd_HM_lift cA q0 q1 q2 q3 q4 q5 q6 q7 q8 q9 q10 q11 q12 q13 q14 q15 q16 q17 q18 q19 q20 q21 q22 q23 q24 q25 q26 q27 q28 q29 q30 q31 u0 u1 u2 u3 u4 u5 u6 u7 u8 u9 u10 u11 u12 u13 u14 u15 u16 u17 u18 u19 i_thrown i_status i_refusals i_row) (wf_HM_lift cA q0 q1 q2 q3 q4 q5 q6 q7 q8 q9 q10 q11 q12 q13 q14 q15 q16 q17 q18 q19 q20 q21 q22 q23 q24 q25 q26 q27 q28 q29 q30 q31 u0 u1 u2 u3 u4 u5 u6 u7 u8 u9 u10 u11 u12 u13 u14 u15 u16 u17 u18 u19 out) out.1 := by
  refine xv_startI (cc := cX11_lift) (maxL := 3) (rt := .int) (by decide +kernel) rfl (Nat.le_of_ble_eq_true rfl) ?_
  intro p e s m args below meth c A Q H ls hx hb hml hts hown hK hA hP hD hS hl hE hret
  have hown : s.vm.findClass "HillSchoolModel" = some m.cls := hown
  have hz : ∀ w ∈ zall, w.before args s = true := fun w h => hts w (List.mem_cons_of_mem _ h)
  have hl : lv_has ls 3 [(0, .ref q0), (1, .int (Int32.ofInt x1))] := hl
  unfold f_HM_lift at hf
  refine lv_aload_n hx hb dX11_lift_0 rfl (lv_at hl 0 rfl) ?_
  refine lv_iconst (v := Int32.ofInt 0) hx hb dX11_lift_1 rfl ?_
  refine va_put (D := (dC, dI)) (ci := 11) (v := .int (Int32.ofInt 0)) (ty := .int) (C := RX11) (T := TX11) (N := 53) hx hb hz zi_X11 tyX11 tyX11_ok nmX11 hown hK hP hD hS 0 rfl rfl 0 (by decide) (hz _ zw_1165) (fun _ h9 => h9) rfl (by decide +kernel) rfl rfl (Nat.le_of_ble_eq_true rfl) dX11_lift_2 (fun H locs hP hD hS => ?_)
  have hP : va_P (dC, dI) vwCl (wd_HM_lift cA q0 q1 q2 q3 q4 q5 q6 q7 q8 q9 q10 q11 q12 q13 q14 q15 q16 q17 q18 q19 q20 q21 q22 q23 q24 q25 q26 q27 q28 q29 q30 q31 u0 u1 u2 u3 u4 u5 u6 u7 u8 u9 u10 u11 u12 u13 u14 u15 u16 u17 u18 u19 0 i_status i_refusals i_row) H := hP
  have hD : va_D A (wd_HM_lift cA q0 q1 q2 q3 q4 q5 q6 q7 q8 q9 q10 q11 q12 q13 q14 q15 q16 q17 q18 q19 q20 q21 q22 q23 q24 q25 q26 q27 q28 q29 q30 q31 u0 u1 u2 u3 u4 u5 u6 u7 u8 u9 u10 u11 u12 u13 u14 u15 u16 u17 u18 u19 0 i_status i_refusals i_row) := hD
  refine lv_aload_n hx hb dX11_lift_5 rfl (lv_at hl 0 rfl) ?_
  refine lv_iload_n hx hb dX11_lift_6 rfl (lv_at hl 1 rfl) ?_
  refine xe_d1 hf (fun v1 hg hf => ?_)
  have hC : ([0, 2] : List Nat).map (fun i => (wd_HM_lift cA q0 q1 q2 q3 q4 q5 q6 q7 q8 q9 q10 q11 q12 q13 q14 q15 q16 q17 q18 q19 q20 q21 q22 q23 q24 q25 q26 q27 q28 q29 q30 q31 u0 u1 u2 u3 u4 u5 u6 u7 u8 u9 u10 u11 u12 u13 u14 u15 u16 u17 u18 u19 0 i_status i_refusals i_row)[i]?) = (wd_HM_isColumn cA q0 q1 q2 q3 q4 q5 q6 q7 q8 q9 q10 q11 q12 q13 q14 q15 q16 q17 q18 q19 q20 q21 q22 q23 q24 q25 q26 q27 q28 q29 q30 q31 0 i_status u0 u1 u2 u3 u4 u5 u6 u7 u8 u9 u10 u11 u12 u13 u14 u15 u16 u17 u18 u19 i_row).map some := rfl
  refine xv_afterI (ws' := (wd_HM_lift cA q0 q1 q2 q3 q4 q5 q6 q7 q8 q9 q10 q11 q12 q13 q14 q15 q16 q17 q18 q19 q20 q21 q22 q23 q24 q25 q26 q27 q28 q29 q30 q31 u0 u1 u2 u3 u4 u5 u6 u7 u8 u9 u10 u11 u12 u13 u14 u15 u16 u17 u18 u19 0 i_status i_refusals i_row)) (isC := [0, 2]) (ps := [some 0, none, some 1]) (va_runV (As := [.int (Int32.ofInt x1)]) (rest := []) ⟨hx, hb, hml, hown, hts⟩ (c_HM_isColumn l ev dC dI cA q0 q1 q2 q3 q4 q5 q6 q7 q8 q9 q10 q11 q12 q13 q14 q15 q16 q17 q18 q19 q20 q21 q22 q23 q24 q25 q26 q27 q28 q29 q30 q31 0 i_status u0 u1 u2 u3 u4 u5 u6 u7 u8 u9 u10 u11 u12 u13 u14 u15 u16 u17 u18 u19 hg H.size) (cwV 1 hts (zgV zw_1356 zw_1358 zw_42 zw_115 zw_1359) rfl rfl rfl hd_HM_isColumn ⟨Nat.le_of_ble_eq_true rfl, Nat.le_of_ble_eq_true rfl⟩) (xv_preV (T := TX11) (N := 53) hE hA hS hK hP hD (isC := [0, 2]) (by decide +kernel) hC (q0 := 0) (ci := 11) rfl rfl) rfl rfl hl.1 rfl (lv_room (Nat.le_of_ble_eq_true rfl)) dX11_lift_7 ⟨Nat.le_refl _, Nat.le_refl _⟩) hP hD hS hA (by decide +kernel) rfl hC rfl rfl (fun H locs hP hD hS => ?_)
  refine xi_if_ne (tgt := 20) hx hb dX11_lift_10 (by decide) hf (fun hf => ?_) (fun hf => ?_)
  · refine lv_aload_n hx hb dX11_lift_20 rfl (lv_at hl 0 rfl) ?_
    refine va_get (D := (dC, dI)) (ci := 11) (v := .ref q2) (C := RX11) (T := TX11) (N := 53) hx hb hz zi_X11 hown hK hP 0 rfl rfl 3 (by decide) (hz _ zw_1168) (fun _ h9 => h9) rfl dX11_lift_21 ?_
    refine lv_bipush (v := Int32.ofInt 9) hx hb dX11_lift_24 (by decide) ?_
    refine lv_iload_n hx hb dX11_lift_26 rfl (lv_at hl 1 rfl) ?_
    refine xi_iadd hx hb dX11_lift_27 hf (fun v2 hf => ?_)
    refine xi_iald hx hb hK hP 2 0 rfl rfl dX11_lift_28 hf (fun v3 hf => ?_)
    refine lv_istore_n (lv' := [(2, .int (Int32.ofInt v3)), (0, .ref q0), (1, .int (Int32.ofInt x1))]) hx hb dX11_lift_29 rfl hl (by decide) rfl (fun ls hl => ?_)
    refine lv_iload_n hx hb dX11_lift_30 rfl (lv_at hl 0 rfl) ?_
    refine xi_if_ne (tgt := 41) hx hb dX11_lift_31 (by decide) hf (fun hf => ?_) (fun hf => ?_)
    · refine lv_aload_n hx hb dX11_lift_41 rfl (lv_at hl 1 rfl) ?_
      refine va_get (D := (dC, dI)) (ci := 11) (v := .ref q2) (C := RX11) (T := TX11) (N := 53) hx hb hz zi_X11 hown hK hP 0 rfl rfl 3 (by decide) (hz _ zw_1168) (fun _ h9 => h9) rfl dX11_lift_42 ?_
      refine lv_bipush (v := Int32.ofInt 9) hx hb dX11_lift_45 (by decide) ?_
      refine lv_iload_n hx hb dX11_lift_47 rfl (lv_at hl 2 rfl) ?_
      refine xi_iadd hx hb dX11_lift_48 hf (fun v4 hf => ?_)
      refine lv_dup2_11 hx hb dX11_lift_49 rfl rfl ?_
      refine xi_iald hx hb hK hP 2 0 rfl rfl dX11_lift_50 hf (fun v5 hf => ?_)
      refine lv_iconst (v := Int32.ofInt 1) hx hb dX11_lift_51 rfl ?_
      refine xi_isub hx hb dX11_lift_52 hf (fun v6 hf => ?_)
      refine xi_iast hx hb hK hP hD hS 2 0 rfl rfl dX11_lift_53 hf (fun a7 H locs hP hD hS hf => ?_)
      have hP : va_P (dC, dI) vwCl (wd_HM_lift cA q0 q1 q2 q3 q4 q5 q6 q7 q8 q9 q10 q11 q12 q13 q14 q15 q16 q17 q18 q19 q20 q21 q22 q23 q24 q25 q26 q27 q28 q29 q30 q31 u0 u1 u2 u3 u4 u5 u6 u7 u8 u9 u10 u11 u12 u13 u14 u15 u16 u17 u18 u19 0 i_status i_refusals a7) H := hP
      have hD : va_D A (wd_HM_lift cA q0 q1 q2 q3 q4 q5 q6 q7 q8 q9 q10 q11 q12 q13 q14 q15 q16 q17 q18 q19 q20 q21 q22 q23 q24 q25 q26 q27 q28 q29 q30 q31 u0 u1 u2 u3 u4 u5 u6 u7 u8 u9 u10 u11 u12 u13 u14 u15 u16 u17 u18 u19 0 i_status i_refusals a7) := hD
      refine lv_aload_n hx hb dX11_lift_54 rfl (lv_at hl 1 rfl) ?_
      refine lv_aload_n hx hb dX11_lift_55 rfl (lv_at hl 1 rfl) ?_
      refine va_get (D := (dC, dI)) (ci := 11) (v := .ref q2) (C := RX11) (T := TX11) (N := 53) hx hb hz zi_X11 hown hK hP 0 rfl rfl 3 (by decide) (hz _ zw_1168) (fun _ h9 => h9) rfl dX11_lift_56 ?_
      refine lv_bipush (v := Int32.ofInt 21) hx hb dX11_lift_59 (by decide) ?_
      refine lv_bipush (v := Int32.ofInt 10) hx hb dX11_lift_61 (by decide) ?_
      refine lv_iload_n hx hb dX11_lift_63 rfl (lv_at hl 2 rfl) ?_
      refine xi_imul hx hb dX11_lift_64 hf (fun v8 hf => ?_)
      refine xi_iadd hx hb dX11_lift_65 hf (fun v9 hf => ?_)
      refine lv_iload_n hx hb dX11_lift_66 rfl (lv_at hl 0 rfl) ?_
      refine xi_iadd hx hb dX11_lift_67 hf (fun v10 hf => ?_)
      refine lv_iconst (v := Int32.ofInt 1) hx hb dX11_lift_68 rfl ?_
      refine xi_isub hx hb dX11_lift_69 hf (fun v11 hf => ?_)
      refine xi_iald hx hb hK hP 2 0 rfl rfl dX11_lift_70 hf (fun v12 hf => ?_)
      refine xe_d3 hf (fun v13 v14 a15 hg hf => ?_)
      have hC : ([0, 1] : List Nat).map (fun i => (wd_HM_lift cA q0 q1 q2 q3 q4 q5 q6 q7 q8 q9 q10 q11 q12 q13 q14 q15 q16 q17 q18 q19 q20 q21 q22 q23 q24 q25 q26 q27 q28 q29 q30 q31 u0 u1 u2 u3 u4 u5 u6 u7 u8 u9 u10 u11 u12 u13 u14 u15 u16 u17 u18 u19 0 i_status i_refusals a7)[i]?) = (wd_HM_tell cA q0 q1 q2 q3 q4 q5 q6 q7 q8 q9 q10 q11 q12 q13 q14 q15 q16 q17 q18 q19 q20 q21 q22 q23 q24 q25 q26 q27 q28 q29 q30 q31 0 u0 u1 u2 u3 u4 u5 u6 u7 u8 u9 u10 u11 u12 u13 u14 u15 u16 u17 u18 u19 i_status i_refusals).map some := rfl
      refine xv_afterI (ws' := (wd_HM_lift cA q0 q1 q2 q3 q4 q5 q6 q7 q8 q9 q10 q11 q12 q13 q14 q15 q16 q17 q18 q19 q20 q21 q22 q23 q24 q25 q26 q27 q28 q29 q30 q31 u0 u1 u2 u3 u4 u5 u6 u7 u8 u9 u10 u11 u12 u13 u14 u15 u16 u17 u18 u19 0 v14 a15 a7)) (isC := [0, 1]) (ps := [some 0, some 1, none]) (va_runV (As := [.int (Int32.ofInt v12)]) (rest := []) ⟨hx, hb, hml, hown, hts⟩ (c_HM_tell l ev dC dI cA q0 q1 q2 q3 q4 q5 q6 q7 q8 q9 q10 q11 q12 q13 q14 q15 q16 q17 q18 q19 q20 q21 q22 q23 q24 q25 q26 q27 q28 q29 q30 q31 0 u0 u1 u2 u3 u4 u5 u6 u7 u8 u9 u10 u11 u12 u13 u14 u15 u16 u17 u18 u19 hg H.size) (cwV 1 hts (zgV zw_1332 zw_1334 zw_40 zw_115 zw_1335) rfl rfl rfl hd_HM_tell ⟨Nat.le_of_ble_eq_true rfl, Nat.le_of_ble_eq_true rfl⟩) (xv_preV (T := TX11) (N := 53) hE hA hS hK hP hD (isC := [0, 1]) (by decide +kernel) hC (q0 := 0) (ci := 11) rfl rfl) rfl rfl hl.1 rfl (lv_room (Nat.le_of_ble_eq_true rfl)) dX11_lift_71 ⟨Nat.le_refl _, Nat.le_refl _⟩) hP hD hS hA (by decide +kernel) rfl hC rfl rfl (fun H locs hP hD hS => ?_)
      obtain rfl := Option.some.inj hf
      exact hret _ _ _ _ rfl dX11_lift_74 hP hD hS
    · refine lv_aload_n hx hb dX11_lift_34 rfl (lv_at hl 1 rfl) ?_
      refine lv_bipush (v := Int32.ofInt (-3)) hx hb dX11_lift_35 (by decide) ?_
      refine xe_d3 hf (fun v16 v17 a18 hg hf => ?_)
      have hC : ([0, 1] : List Nat).map (fun i => (wd_HM_lift cA q0 q1 q2 q3 q4 q5 q6 q7 q8 q9 q10 q11 q12 q13 q14 q15 q16 q17 q18 q19 q20 q21 q22 q23 q24 q25 q26 q27 q28 q29 q30 q31 u0 u1 u2 u3 u4 u5 u6 u7 u8 u9 u10 u11 u12 u13 u14 u15 u16 u17 u18 u19 0 i_status i_refusals i_row)[i]?) = (wd_HM_tell cA q0 q1 q2 q3 q4 q5 q6 q7 q8 q9 q10 q11 q12 q13 q14 q15 q16 q17 q18 q19 q20 q21 q22 q23 q24 q25 q26 q27 q28 q29 q30 q31 0 u0 u1 u2 u3 u4 u5 u6 u7 u8 u9 u10 u11 u12 u13 u14 u15 u16 u17 u18 u19 i_status i_refusals).map some := rfl
      refine xv_afterI (ws' := (wd_HM_lift cA q0 q1 q2 q3 q4 q5 q6 q7 q8 q9 q10 q11 q12 q13 q14 q15 q16 q17 q18 q19 q20 q21 q22 q23 q24 q25 q26 q27 q28 q29 q30 q31 u0 u1 u2 u3 u4 u5 u6 u7 u8 u9 u10 u11 u12 u13 u14 u15 u16 u17 u18 u19 0 v17 a18 i_row)) (isC := [0, 1]) (ps := [some 0, some 1, none]) (va_runV (As := [.int (Int32.ofInt (-3))]) (rest := []) ⟨hx, hb, hml, hown, hts⟩ (c_HM_tell l ev dC dI cA q0 q1 q2 q3 q4 q5 q6 q7 q8 q9 q10 q11 q12 q13 q14 q15 q16 q17 q18 q19 q20 q21 q22 q23 q24 q25 q26 q27 q28 q29 q30 q31 0 u0 u1 u2 u3 u4 u5 u6 u7 u8 u9 u10 u11 u12 u13 u14 u15 u16 u17 u18 u19 hg H.size) (cwV 1 hts (zgV zw_1332 zw_1334 zw_40 zw_115 zw_1335) rfl rfl rfl hd_HM_tell ⟨Nat.le_of_ble_eq_true rfl, Nat.le_of_ble_eq_true rfl⟩) (xv_preV (T := TX11) (N := 53) hE hA hS hK hP hD (isC := [0, 1]) (by decide +kernel) hC (q0 := 0) (ci := 11) rfl rfl) rfl rfl hl.1 rfl (lv_room (Nat.le_of_ble_eq_true rfl)) dX11_lift_37 ⟨Nat.le_refl _, Nat.le_refl _⟩) hP hD hS hA (by decide +kernel) rfl hC rfl rfl (fun H locs hP hD hS => ?_)
      obtain rfl := Option.some.inj hf
      exact hret _ _ _ _ rfl dX11_lift_40 hP hD hS
  · refine lv_aload_n hx hb dX11_lift_13 rfl (lv_at hl 0 rfl) ?_
    refine lv_bipush (v := Int32.ofInt (-2)) hx hb dX11_lift_14 (by decide) ?_
    refine xe_d3 hf (fun v19 v20 a21 hg hf => ?_)
    have hC : ([0, 1] : List Nat).map (fun i => (wd_HM_lift cA q0 q1 q2 q3 q4 q5 q6 q7 q8 q9 q10 q11 q12 q13 q14 q15 q16 q17 q18 q19 q20 q21 q22 q23 q24 q25 q26 q27 q28 q29 q30 q31 u0 u1 u2 u3 u4 u5 u6 u7 u8 u9 u10 u11 u12 u13 u14 u15 u16 u17 u18 u19 0 i_status i_refusals i_row)[i]?) = (wd_HM_tell cA q0 q1 q2 q3 q4 q5 q6 q7 q8 q9 q10 q11 q12 q13 q14 q15 q16 q17 q18 q19 q20 q21 q22 q23 q24 q25 q26 q27 q28 q29 q30 q31 0 u0 u1 u2 u3 u4 u5 u6 u7 u8 u9 u10 u11 u12 u13 u14 u15 u16 u17 u18 u19 i_status i_refusals).map some := rfl
    refine xv_afterI (ws' := (wd_HM_lift cA q0 q1 q2 q3 q4 q5 q6 q7 q8 q9 q10 q11 q12 q13 q14 q15 q16 q17 q18 q19 q20 q21 q22 q23 q24 q25 q26 q27 q28 q29 q30 q31 u0 u1 u2 u3 u4 u5 u6 u7 u8 u9 u10 u11 u12 u13 u14 u15 u16 u17 u18 u19 0 v20 a21 i_row)) (isC := [0, 1]) (ps := [some 0, some 1, none]) (va_runV (As := [.int (Int32.ofInt (-2))]) (rest := []) ⟨hx, hb, hml, hown, hts⟩ (c_HM_tell l ev dC dI cA q0 q1 q2 q3 q4 q5 q6 q7 q8 q9 q10 q11 q12 q13 q14 q15 q16 q17 q18 q19 q20 q21 q22 q23 q24 q25 q26 q27 q28 q29 q30 q31 0 u0 u1 u2 u3 u4 u5 u6 u7 u8 u9 u10 u11 u12 u13 u14 u15 u16 u17 u18 u19 hg H.size) (cwV 1 hts (zgV zw_1332 zw_1334 zw_40 zw_115 zw_1335) rfl rfl rfl hd_HM_tell ⟨Nat.le_of_ble_eq_true rfl, Nat.le_of_ble_eq_true rfl⟩) (xv_preV (T := TX11) (N := 53) hE hA hS hK hP hD (isC := [0, 1]) (by decide +kernel) hC (q0 := 0) (ci := 11) rfl rfl) rfl rfl hl.1 rfl (lv_room (Nat.le_of_ble_eq_true rfl)) dX11_lift_16 ⟨Nat.le_refl _, Nat.le_refl _⟩) hP hD hS hA (by decide +kernel) rfl hC rfl rfl (fun H locs hP hD hS => ?_)
    obtain rfl := Option.some.inj hf
    exact hret _ _ _ _ rfl dX11_lift_19 hP hD hS
theorem dX11_of_0 : decode cX11_of 0 = .ok (.aload_n 0, 1) := by decide +kernel
theorem dX11_of_1 : decode cX11_of 1 = .ok (.iconst 0, 1) := by decide +kernel
theorem dX11_of_2 : decode cX11_of 2 = .ok (.putfield 126, 3) := by decide +kernel
theorem dX11_of_5 : decode cX11_of 5 = .ok (.aload_n 0, 1) := by decide +kernel
theorem dX11_of_6 : decode cX11_of 6 = .ok (.iload_n 1, 1) := by decide +kernel
theorem dX11_of_7 : decode cX11_of 7 = .ok (.invokevirtual 150, 3) := by decide +kernel
theorem dX11_of_10 : decode cX11_of 10 = .ok (.ifCond .ne 5, 3) := by decide +kernel
theorem dX11_of_13 : decode cX11_of 13 = .ok (.iconst (-1), 1) := by decide +kernel
theorem dX11_of_14 : decode cX11_of 14 = .ok (.ireturn, 1) := by decide +kernel
theorem dX11_of_15 : decode cX11_of 15 = .ok (.iload_n 2, 1) := by decide +kernel
theorem dX11_of_16 : decode cX11_of 16 = .ok (.iconst (-1), 1) := by decide +kernel
theorem dX11_of_17 : decode cX11_of 17 = .ok (.if_icmp .ne 15, 3) := by decide +kernel
theorem dX11_of_20 : decode cX11_of 20 = .ok (.aload_n 0, 1) := by decide +kernel
theorem dX11_of_21 : decode cX11_of 21 = .ok (.getfield 13, 3) := by decide +kernel
theorem dX11_of_24 : decode cX11_of 24 = .ok (.bipush 9, 2) := by decide +kernel
theorem dX11_of_26 : decode cX11_of 26 = .ok (.iload_n 1, 1) := by decide +kernel
theorem dX11_of_27 : decode cX11_of 27 = .ok (.iadd, 1) := by decide +kernel
theorem dX11_of_28 : decode cX11_of 28 = .ok (.iaload, 1) := by decide +kernel
theorem dX11_of_29 : decode cX11_of 29 = .ok (.goto 42, 3) := by decide +kernel
theorem dX11_of_32 : decode cX11_of 32 = .ok (.iload_n 2, 1) := by decide +kernel
theorem dX11_of_33 : decode cX11_of 33 = .ok (.i2l, 1) := by decide +kernel
theorem dX11_of_34 : decode cX11_of 34 = .ok (.lconst 0, 1) := by decide +kernel
theorem dX11_of_35 : decode cX11_of 35 = .ok (.aload_n 0, 1) := by decide +kernel
theorem dX11_of_36 : decode cX11_of 36 = .ok (.getfield 13, 3) := by decide +kernel
theorem dX11_of_39 : decode cX11_of 39 = .ok (.bipush 9, 2) := by decide +kernel
theorem dX11_of_41 : decode cX11_of 41 = .ok (.iload_n 1, 1) := by decide +kernel
theorem dX11_of_42 : decode cX11_of 42 = .ok (.iadd, 1) := by decide +kernel
theorem dX11_of_43 : decode cX11_of 43 = .ok (.iaload, 1) := by decide +kernel
theorem dX11_of_44 : decode cX11_of 44 = .ok (.i2l, 1) := by decide +kernel
theorem dX11_of_45 : decode cX11_of 45 = .ok (.lconst 1, 1) := by decide +kernel
theorem dX11_of_46 : decode cX11_of 46 = .ok (.lsub, 1) := by decide +kernel
theorem dX11_of_47 : decode cX11_of 47 = .ok (.invokestatic 132, 3) := by decide +kernel
theorem dX11_of_50 : decode cX11_of 50 = .ok (.ifCond .eq 20, 3) := by decide +kernel
theorem dX11_of_53 : decode cX11_of 53 = .ok (.aload_n 0, 1) := by decide +kernel
theorem dX11_of_54 : decode cX11_of 54 = .ok (.getfield 13, 3) := by decide +kernel
theorem dX11_of_57 : decode cX11_of 57 = .ok (.bipush 21, 2) := by decide +kernel
theorem dX11_of_59 : decode cX11_of 59 = .ok (.bipush 10, 2) := by decide +kernel
theorem dX11_of_61 : decode cX11_of 61 = .ok (.iload_n 1, 1) := by decide +kernel
theorem dX11_of_62 : decode cX11_of 62 = .ok (.imul, 1) := by decide +kernel
theorem dX11_of_63 : decode cX11_of 63 = .ok (.iadd, 1) := by decide +kernel
theorem dX11_of_64 : decode cX11_of 64 = .ok (.iload_n 2, 1) := by decide +kernel
theorem dX11_of_65 : decode cX11_of 65 = .ok (.iadd, 1) := by decide +kernel
theorem dX11_of_66 : decode cX11_of 66 = .ok (.iaload, 1) := by decide +kernel
theorem dX11_of_67 : decode cX11_of 67 = .ok (.goto 4, 3) := by decide +kernel
theorem dX11_of_70 : decode cX11_of 70 = .ok (.iconst (-1), 1) := by decide +kernel
theorem dX11_of_71 : decode cX11_of 71 = .ok (.ireturn, 1) := by decide +kernel
theorem zw_1367 : (Jvm.Cond.code ({ cls := "HillSchoolModel", name := "of", desc := "(II)I" } : Jvm.MethodName) prog_13_method_17_code (3 : Nat) (Option.some Jvm.ClassFile.FieldType.int)) ∈ zall := zmemG (zmj_6 64 rfl) rfl
abbrev w_HM_of : List Cond := .code yX11_of cX11_of 3 (some .int) :: zall
abbrev rm_HM_of : Room := { frames := 2, cells := 0, slots := 0, locals := 46 }
theorem hd_HM_of : yX11_of.cls = "HillSchoolModel" ∧ yX11_of.cls ≠ "java/lang/invoke/MethodHandle" ∧ yX11_of.cls ≠ "java/lang/invoke/VarHandle" ∧ (parseMethodDescriptor yX11_of.desc).map (fun d => d.parameters.length) = some 2 := by decide +kernel
def wd_HM_of (cA : Nat → ClassId) (q0 q1 q2 q3 q4 q5 q6 q7 q8 q9 q10 q11 q12 q13 q14 q15 q16 q17 q18 q19 q20 q21 q22 q23 q24 q25 q26 q27 q28 q29 q30 q31 : Nat) (u0 u1 u2 u3 u4 u5 u6 u7 u8 u9 u10 u11 u12 u13 u14 u15 u16 u17 u18 u19 u20 : Int) (i_row : Nat → Int) (i_thrown : Int) : va_W := [(q0, .inr (11, [.int (Int32.ofInt i_thrown), .int (Int32.ofInt u0), .ref q1, .ref q2, .ref q3, .ref q4, .int (Int32.ofInt u1), .ref q5, .int (Int32.ofInt u2), .int (Int32.ofInt u3), .int (Int32.ofInt u4), .int (Int32.ofInt u5), .long (Int64.ofInt u6), .int (Int32.ofInt u7), .int (Int32.ofInt u8), .int (Int32.ofInt u9), .ref q6, .int (Int32.ofInt u10), .ref q7, .ref q8, .int (Int32.ofInt u11), .ref q9, .ref q10, .int (Int32.ofInt u12), .int (Int32.ofInt u13), .ref q11, .int (Int32.ofInt u14), .ref q12, .ref q13, .int (Int32.ofInt u15), .long (Int64.ofInt u16), .long (Int64.ofInt u17), .ref q14, .ref q15, .ref q16, .ref q17, .ref q18, .int (Int32.ofInt u18), .ref q19, .ref q20, .ref q21, .ref q22, .ref q23, .ref q24, .ref q25, .ref q26, .ref q27, .ref q28, .ref q29, .ref q30, .long (Int64.ofInt u19), .ref q31, .int (Int32.ofInt u20)])), (q2, .inl (cA 0, 5580, .inl (za i_row)))]
def wf_HM_of (cA : Nat → ClassId) (q0 q1 q2 q3 q4 q5 q6 q7 q8 q9 q10 q11 q12 q13 q14 q15 q16 q17 q18 q19 q20 q21 q22 q23 q24 q25 q26 q27 q28 q29 q30 q31 : Nat) (u0 u1 u2 u3 u4 u5 u6 u7 u8 u9 u10 u11 u12 u13 u14 u15 u16 u17 u18 u19 u20 : Int) (i_row : Nat → Int) (o : Int × Int) : va_W := wd_HM_of cA q0 q1 q2 q3 q4 q5 q6 q7 q8 q9 q10 q11 q12 q13 q14 q15 q16 q17 q18 q19 q20 q21 q22 q23 q24 q25 q26 q27 q28 q29 q30 q31 u0 u1 u2 u3 u4 u5 u6 u7 u8 u9 u10 u11 u12 u13 u14 u15 u16 u17 u18 u19 u20 i_row o.2
def f_HM_of (x1 : Int) (x2 : Int) (i_row : Nat → Int) (i_thrown : Int) : Option (Int × Int) :=
  zd1 (f_HM_isColumn x1 i_row) fun v1 =>
  if zi_w v1 ≠ 0 then
    if zi_w x2 ≠ zi_w (-1) then
      zn (zi_w x2) fun v2 =>
      zn (9 + x1) fun v3 =>
      zg 5580 i_row v3 fun v4 =>
      zn (zi_w v4) fun v5 =>
      zn (v5 - 1) fun v6 =>
      zd1 (f_HM_in v2 0 v6) fun v7 =>
      if zi_w v7 = 0 then
        some ((-1), 0)
      else
        zn (10 * x1) fun v8 =>
        zn (21 + v8) fun v9 =>
        zn (v9 + x2) fun v10 =>
        zg 5580 i_row v10 fun v11 =>
        some (v11, 0)
    else
      zn (9 + x1) fun v12 =>
      zg 5580 i_row v12 fun v13 =>
      some (v13, 0)
  else
    some ((-1), 0)
set_option maxHeartbeats 4000000 in
set_option maxRecDepth 100000 in
theorem c_HM_of (l : Launch) (ev : zEv) (dC : Nat → ClassId) (dI : Nat → Nat → Nat) (cA : Nat → ClassId) (q0 q1 q2 q3 q4 q5 q6 q7 q8 q9 q10 q11 q12 q13 q14 q15 q16 q17 q18 q19 q20 q21 q22 q23 q24 q25 q26 q27 q28 q29 q30 q31 : Nat) (u0 u1 u2 u3 u4 u5 u6 u7 u8 u9 u10 u11 u12 u13 u14 u15 u16 u17 u18 u19 u20 : Int) {x1 x2 : Int} {i_row : Nat → Int} {i_thrown : Int} {out : Int × Int} (hf : f_HM_of x1 x2 i_row i_thrown = some out) : xc_I l ev (dC, dI) vwCl (tyl cA) yX11_of w_HM_of rm_HM_of [.ref q0, .int (Int32.ofInt x1), .int (Int32.ofInt x2)] (wd_HM_of cA q0 q1 q2 q3 q4 q5 q6 q7 q8 q9 q10 q11 q12 q13 q14 q15 q16 q17 q18 q19 q20 q21 q22 q23 q24 q25 q26 q27 q28 q29 q30 q31 u0 u1 u2 u3 u4 u5 u6 u7 u8 u9 u10 u11 u12 u13 u14 u15 u16 u17 u18 u19 u20 i_row i_thrown) (wf_HM_of cA q0 q1 q2 q3 q4 q5 q6 q7 q8 q9 q10 q11 q12 q13 q14 q15 q16 q17 q18 q19 q20 q21 q22 q23 q24 q25 q26 q27 q28 q29 q30 q31 u0 u1 u2 u3 u4 u5 u6 u7 u8 u9 u10 u11 u12 u13 u14 u15 u16 u17 u18 u19 u20 i_row out) out.1 := by
  refine xv_startI (cc := cX11_of) (maxL := 3) (rt := .int) (by decide +kernel) rfl (Nat.le_of_ble_eq_true rfl) ?_
  intro p e s m args below meth c A Q H ls hx hb hml hts hown hK hA hP hD hS hl hE hret
  have hown : s.vm.findClass "HillSchoolModel" = some m.cls := hown
  have hz : ∀ w ∈ zall, w.before args s = true := fun w h => hts w (List.mem_cons_of_mem _ h)
  have hl : lv_has ls 3 [(0, .ref q0), (1, .int (Int32.ofInt x1)), (2, .int (Int32.ofInt x2))] := hl
  unfold f_HM_of at hf
  refine lv_aload_n hx hb dX11_of_0 rfl (lv_at hl 0 rfl) ?_
  refine lv_iconst (v := Int32.ofInt 0) hx hb dX11_of_1 rfl ?_
  refine va_put (D := (dC, dI)) (ci := 11) (v := .int (Int32.ofInt 0)) (ty := .int) (C := RX11) (T := TX11) (N := 53) hx hb hz zi_X11 tyX11 tyX11_ok nmX11 hown hK hP hD hS 0 rfl rfl 0 (by decide) (hz _ zw_1165) (fun _ h9 => h9) rfl (by decide +kernel) rfl rfl (Nat.le_of_ble_eq_true rfl) dX11_of_2 (fun H locs hP hD hS => ?_)
  have hP : va_P (dC, dI) vwCl (wd_HM_of cA q0 q1 q2 q3 q4 q5 q6 q7 q8 q9 q10 q11 q12 q13 q14 q15 q16 q17 q18 q19 q20 q21 q22 q23 q24 q25 q26 q27 q28 q29 q30 q31 u0 u1 u2 u3 u4 u5 u6 u7 u8 u9 u10 u11 u12 u13 u14 u15 u16 u17 u18 u19 u20 i_row 0) H := hP
  have hD : va_D A (wd_HM_of cA q0 q1 q2 q3 q4 q5 q6 q7 q8 q9 q10 q11 q12 q13 q14 q15 q16 q17 q18 q19 q20 q21 q22 q23 q24 q25 q26 q27 q28 q29 q30 q31 u0 u1 u2 u3 u4 u5 u6 u7 u8 u9 u10 u11 u12 u13 u14 u15 u16 u17 u18 u19 u20 i_row 0) := hD
  refine lv_aload_n hx hb dX11_of_5 rfl (lv_at hl 0 rfl) ?_
  refine lv_iload_n hx hb dX11_of_6 rfl (lv_at hl 1 rfl) ?_
  refine xe_d1 hf (fun v1 hg hf => ?_)
  have hC : ([0, 1] : List Nat).map (fun i => (wd_HM_of cA q0 q1 q2 q3 q4 q5 q6 q7 q8 q9 q10 q11 q12 q13 q14 q15 q16 q17 q18 q19 q20 q21 q22 q23 q24 q25 q26 q27 q28 q29 q30 q31 u0 u1 u2 u3 u4 u5 u6 u7 u8 u9 u10 u11 u12 u13 u14 u15 u16 u17 u18 u19 u20 i_row 0)[i]?) = (wd_HM_isColumn cA q0 q1 q2 q3 q4 q5 q6 q7 q8 q9 q10 q11 q12 q13 q14 q15 q16 q17 q18 q19 q20 q21 q22 q23 q24 q25 q26 q27 q28 q29 q30 q31 0 u0 u1 u2 u3 u4 u5 u6 u7 u8 u9 u10 u11 u12 u13 u14 u15 u16 u17 u18 u19 u20 i_row).map some := rfl
  refine xv_afterI (ws' := (wd_HM_of cA q0 q1 q2 q3 q4 q5 q6 q7 q8 q9 q10 q11 q12 q13 q14 q15 q16 q17 q18 q19 q20 q21 q22 q23 q24 q25 q26 q27 q28 q29 q30 q31 u0 u1 u2 u3 u4 u5 u6 u7 u8 u9 u10 u11 u12 u13 u14 u15 u16 u17 u18 u19 u20 i_row 0)) (isC := [0, 1]) (ps := [some 0, some 1]) (va_runV (As := [.int (Int32.ofInt x1)]) (rest := []) ⟨hx, hb, hml, hown, hts⟩ (c_HM_isColumn l ev dC dI cA q0 q1 q2 q3 q4 q5 q6 q7 q8 q9 q10 q11 q12 q13 q14 q15 q16 q17 q18 q19 q20 q21 q22 q23 q24 q25 q26 q27 q28 q29 q30 q31 0 u0 u1 u2 u3 u4 u5 u6 u7 u8 u9 u10 u11 u12 u13 u14 u15 u16 u17 u18 u19 u20 hg H.size) (cwV 1 hts (zgV zw_1356 zw_1358 zw_42 zw_115 zw_1359) rfl rfl rfl hd_HM_isColumn ⟨Nat.le_of_ble_eq_true rfl, Nat.le_of_ble_eq_true rfl⟩) (xv_preV (T := TX11) (N := 53) hE hA hS hK hP hD (isC := [0, 1]) (by decide +kernel) hC (q0 := 0) (ci := 11) rfl rfl) rfl rfl hl.1 rfl (lv_room (Nat.le_of_ble_eq_true rfl)) dX11_of_7 ⟨Nat.le_refl _, Nat.le_refl _⟩) hP hD hS hA (by decide +kernel) rfl hC rfl rfl (fun H locs hP hD hS => ?_)
  refine xi_if_ne (tgt := 15) hx hb dX11_of_10 (by decide) hf (fun hf => ?_) (fun hf => ?_)
  · refine lv_iload_n hx hb dX11_of_15 rfl (lv_at hl 2 rfl) ?_
    refine lv_iconst (v := Int32.ofInt (-1)) hx hb dX11_of_16 rfl ?_
    refine xi_icmp_ne (tgt := 32) hx hb dX11_of_17 (by decide) hf (fun hf => ?_) (fun hf => ?_)
    · refine lv_iload_n hx hb dX11_of_32 rfl (lv_at hl 2 rfl) ?_
      refine xi_i2l hx hb dX11_of_33 hf (fun v2 hf => ?_)
      refine lv_lconst (v := Int64.ofInt 0) hx hb dX11_of_34 (by decide) ?_
      refine lv_aload_n hx hb dX11_of_35 rfl (lv_at hl 0 rfl) ?_
      refine va_get (D := (dC, dI)) (ci := 11) (v := .ref q2) (C := RX11) (T := TX11) (N := 53) hx hb hz zi_X11 hown hK hP 0 rfl rfl 3 (by decide) (hz _ zw_1168) (fun _ h9 => h9) rfl dX11_of_36 ?_
      refine lv_bipush (v := Int32.ofInt 9) hx hb dX11_of_39 (by decide) ?_
      refine lv_iload_n hx hb dX11_of_41 rfl (lv_at hl 1 rfl) ?_
      refine xi_iadd hx hb dX11_of_42 hf (fun v3 hf => ?_)
      refine xi_iald hx hb hK hP 1 0 rfl rfl dX11_of_43 hf (fun v4 hf => ?_)
      refine xi_i2l hx hb dX11_of_44 hf (fun v5 hf => ?_)
      refine lv_lconst (v := Int64.ofInt 1) hx hb dX11_of_45 (by decide) ?_
      refine xl_lsub hx hb dX11_of_46 hf (fun v6 hf => ?_)
      refine xe_d1 hf (fun v7 hg hf => ?_)
      have hC : ([] : List Nat).map (fun i => (wd_HM_of cA q0 q1 q2 q3 q4 q5 q6 q7 q8 q9 q10 q11 q12 q13 q14 q15 q16 q17 q18 q19 q20 q21 q22 q23 q24 q25 q26 q27 q28 q29 q30 q31 u0 u1 u2 u3 u4 u5 u6 u7 u8 u9 u10 u11 u12 u13 u14 u15 u16 u17 u18 u19 u20 i_row 0)[i]?) = (wd_HM_in cA).map some := rfl
      refine xv_afterI (ws' := (wd_HM_of cA q0 q1 q2 q3 q4 q5 q6 q7 q8 q9 q10 q11 q12 q13 q14 q15 q16 q17 q18 q19 q20 q21 q22 q23 q24 q25 q26 q27 q28 q29 q30 q31 u0 u1 u2 u3 u4 u5 u6 u7 u8 u9 u10 u11 u12 u13 u14 u15 u16 u17 u18 u19 u20 i_row 0)) (isC := []) (ps := [none, none]) (va_runS (As := [.long (Int64.ofInt v2), .long (Int64.ofInt 0), .long (Int64.ofInt v6)]) (rest := []) ⟨hx, hb, hml, hown, hts⟩ (c_HM_in l ev dC dI cA hg H.size) (va_cwS 3 hts (zgS zw_1329 zw_1330 zw_115 zw_1331) rfl rfl rfl hd_HM_in.2 ⟨Nat.le_of_ble_eq_true rfl, Nat.le_of_ble_eq_true rfl⟩) (xv_preS hE hA hS hK hP hD (isC := []) (by decide +kernel) hC) rfl rfl hl.1 rfl (lv_room (Nat.le_of_ble_eq_true rfl)) dX11_of_47 ⟨Nat.le_refl _, Nat.le_refl _⟩) hP hD hS hA (by decide +kernel) rfl hC rfl rfl (fun H locs hP hD hS => ?_)
      refine xi_if_eq (tgt := 70) hx hb dX11_of_50 (by decide) hf (fun hf => ?_) (fun hf => ?_)
      · refine lv_iconst (v := Int32.ofInt (-1)) hx hb dX11_of_70 rfl ?_
        obtain rfl := Option.some.inj hf
        exact hret _ _ _ _ rfl dX11_of_71 hP hD hS
      · refine lv_aload_n hx hb dX11_of_53 rfl (lv_at hl 0 rfl) ?_
        refine va_get (D := (dC, dI)) (ci := 11) (v := .ref q2) (C := RX11) (T := TX11) (N := 53) hx hb hz zi_X11 hown hK hP 0 rfl rfl 3 (by decide) (hz _ zw_1168) (fun _ h9 => h9) rfl dX11_of_54 ?_
        refine lv_bipush (v := Int32.ofInt 21) hx hb dX11_of_57 (by decide) ?_
        refine lv_bipush (v := Int32.ofInt 10) hx hb dX11_of_59 (by decide) ?_
        refine lv_iload_n hx hb dX11_of_61 rfl (lv_at hl 1 rfl) ?_
        refine xi_imul hx hb dX11_of_62 hf (fun v8 hf => ?_)
        refine xi_iadd hx hb dX11_of_63 hf (fun v9 hf => ?_)
        refine lv_iload_n hx hb dX11_of_64 rfl (lv_at hl 2 rfl) ?_
        refine xi_iadd hx hb dX11_of_65 hf (fun v10 hf => ?_)
        refine xi_iald hx hb hK hP 1 0 rfl rfl dX11_of_66 hf (fun v11 hf => ?_)
        refine lv_goto (tgt := 71) hx hb dX11_of_67 (by decide) ?_
        obtain rfl := Option.some.inj hf
        exact hret _ _ _ _ rfl dX11_of_71 hP hD hS
    · refine lv_aload_n hx hb dX11_of_20 rfl (lv_at hl 0 rfl) ?_
      refine va_get (D := (dC, dI)) (ci := 11) (v := .ref q2) (C := RX11) (T := TX11) (N := 53) hx hb hz zi_X11 hown hK hP 0 rfl rfl 3 (by decide) (hz _ zw_1168) (fun _ h9 => h9) rfl dX11_of_21 ?_
      refine lv_bipush (v := Int32.ofInt 9) hx hb dX11_of_24 (by decide) ?_
      refine lv_iload_n hx hb dX11_of_26 rfl (lv_at hl 1 rfl) ?_
      refine xi_iadd hx hb dX11_of_27 hf (fun v12 hf => ?_)
      refine xi_iald hx hb hK hP 1 0 rfl rfl dX11_of_28 hf (fun v13 hf => ?_)
      refine lv_goto (tgt := 71) hx hb dX11_of_29 (by decide) ?_
      obtain rfl := Option.some.inj hf
      exact hret _ _ _ _ rfl dX11_of_71 hP hD hS
  · refine lv_iconst (v := Int32.ofInt (-1)) hx hb dX11_of_13 rfl ?_
    obtain rfl := Option.some.inj hf
    exact hret _ _ _ _ rfl dX11_of_14 hP hD hS
theorem dX11_weight_0 : decode cX11_weight 0 = .ok (.aload_n 0, 1) := by decide +kernel
theorem dX11_weight_1 : decode cX11_weight 1 = .ok (.iconst 0, 1) := by decide +kernel
theorem dX11_weight_2 : decode cX11_weight 2 = .ok (.putfield 126, 3) := by decide +kernel
theorem dX11_weight_5 : decode cX11_weight 5 = .ok (.aload_n 0, 1) := by decide +kernel
theorem dX11_weight_6 : decode cX11_weight 6 = .ok (.iload_n 1, 1) := by decide +kernel
theorem dX11_weight_7 : decode cX11_weight 7 = .ok (.invokevirtual 150, 3) := by decide +kernel
theorem dX11_weight_10 : decode cX11_weight 10 = .ok (.ifCond .ne 5, 3) := by decide +kernel
theorem dX11_weight_13 : decode cX11_weight 13 = .ok (.iconst (-1), 1) := by decide +kernel
theorem dX11_weight_14 : decode cX11_weight 14 = .ok (.ireturn, 1) := by decide +kernel
theorem dX11_weight_15 : decode cX11_weight 15 = .ok (.iconst 0, 1) := by decide +kernel
theorem dX11_weight_16 : decode cX11_weight 16 = .ok (.istore_n 2, 1) := by decide +kernel
theorem dX11_weight_17 : decode cX11_weight 17 = .ok (.iconst 0, 1) := by decide +kernel
theorem dX11_weight_18 : decode cX11_weight 18 = .ok (.istore_n 3, 1) := by decide +kernel
theorem dX11_weight_19 : decode cX11_weight 19 = .ok (.iload_n 3, 1) := by decide +kernel
theorem dX11_weight_20 : decode cX11_weight 20 = .ok (.aload_n 0, 1) := by decide +kernel
theorem dX11_weight_21 : decode cX11_weight 21 = .ok (.getfield 13, 3) := by decide +kernel
theorem dX11_weight_24 : decode cX11_weight 24 = .ok (.bipush 9, 2) := by decide +kernel
theorem dX11_weight_26 : decode cX11_weight 26 = .ok (.iload_n 1, 1) := by decide +kernel
theorem dX11_weight_27 : decode cX11_weight 27 = .ok (.iadd, 1) := by decide +kernel
theorem dX11_weight_28 : decode cX11_weight 28 = .ok (.iaload, 1) := by decide +kernel
theorem dX11_weight_29 : decode cX11_weight 29 = .ok (.if_icmp .ge 26, 3) := by decide +kernel
theorem dX11_weight_32 : decode cX11_weight 32 = .ok (.iload_n 2, 1) := by decide +kernel
theorem dX11_weight_33 : decode cX11_weight 33 = .ok (.aload_n 0, 1) := by decide +kernel
theorem dX11_weight_34 : decode cX11_weight 34 = .ok (.getfield 13, 3) := by decide +kernel
theorem dX11_weight_37 : decode cX11_weight 37 = .ok (.bipush 21, 2) := by decide +kernel
theorem dX11_weight_39 : decode cX11_weight 39 = .ok (.bipush 10, 2) := by decide +kernel
theorem dX11_weight_41 : decode cX11_weight 41 = .ok (.iload_n 1, 1) := by decide +kernel
theorem dX11_weight_42 : decode cX11_weight 42 = .ok (.imul, 1) := by decide +kernel
theorem dX11_weight_43 : decode cX11_weight 43 = .ok (.iadd, 1) := by decide +kernel
theorem dX11_weight_44 : decode cX11_weight 44 = .ok (.iload_n 3, 1) := by decide +kernel
theorem dX11_weight_45 : decode cX11_weight 45 = .ok (.iadd, 1) := by decide +kernel
theorem dX11_weight_46 : decode cX11_weight 46 = .ok (.iaload, 1) := by decide +kernel
theorem dX11_weight_47 : decode cX11_weight 47 = .ok (.iadd, 1) := by decide +kernel
theorem dX11_weight_48 : decode cX11_weight 48 = .ok (.istore_n 2, 1) := by decide +kernel
theorem dX11_weight_49 : decode cX11_weight 49 = .ok (.iinc 3 1, 3) := by decide +kernel
theorem dX11_weight_52 : decode cX11_weight 52 = .ok (.goto (-33), 3) := by decide +kernel
theorem dX11_weight_55 : decode cX11_weight 55 = .ok (.iload_n 2, 1) := by decide +kernel
theorem dX11_weight_56 : decode cX11_weight 56 = .ok (.ireturn, 1) := by decide +kernel
theorem zw_1371 : (Jvm.Cond.code ({ cls := "HillSchoolModel", name := "weight", desc := "(I)I" } : Jvm.MethodName) prog_13_method_18_code (4 : Nat) (Option.some Jvm.ClassFile.FieldType.int)) ∈ zall := zmemG (zmj_6 68 rfl) rfl
abbrev w_HM_weight : List Cond := .code yX11_weight cX11_weight 4 (some .int) :: zall
abbrev rm_HM_weight : Room := { frames := 2, cells := 0, slots := 0, locals := 46 }
theorem hd_HM_weight : yX11_weight.cls = "HillSchoolModel" ∧ yX11_weight.cls ≠ "java/lang/invoke/MethodHandle" ∧ yX11_weight.cls ≠ "java/lang/invoke/VarHandle" ∧ (parseMethodDescriptor yX11_weight.desc).map (fun d => d.parameters.length) = some 1 := by decide +kernel
def wd_HM_weight (cA : Nat → ClassId) (q0 q1 q2 q3 q4 q5 q6 q7 q8 q9 q10 q11 q12 q13 q14 q15 q16 q17 q18 q19 q20 q21 q22 q23 q24 q25 q26 q27 q28 q29 q30 q31 : Nat) (u0 u1 u2 u3 u4 u5 u6 u7 u8 u9 u10 u11 u12 u13 u14 u15 u16 u17 u18 u19 u20 : Int) (i_row : Nat → Int) (i_thrown : Int) : va_W := [(q0, .inr (11, [.int (Int32.ofInt i_thrown), .int (Int32.ofInt u0), .ref q1, .ref q2, .ref q3, .ref q4, .int (Int32.ofInt u1), .ref q5, .int (Int32.ofInt u2), .int (Int32.ofInt u3), .int (Int32.ofInt u4), .int (Int32.ofInt u5), .long (Int64.ofInt u6), .int (Int32.ofInt u7), .int (Int32.ofInt u8), .int (Int32.ofInt u9), .ref q6, .int (Int32.ofInt u10), .ref q7, .ref q8, .int (Int32.ofInt u11), .ref q9, .ref q10, .int (Int32.ofInt u12), .int (Int32.ofInt u13), .ref q11, .int (Int32.ofInt u14), .ref q12, .ref q13, .int (Int32.ofInt u15), .long (Int64.ofInt u16), .long (Int64.ofInt u17), .ref q14, .ref q15, .ref q16, .ref q17, .ref q18, .int (Int32.ofInt u18), .ref q19, .ref q20, .ref q21, .ref q22, .ref q23, .ref q24, .ref q25, .ref q26, .ref q27, .ref q28, .ref q29, .ref q30, .long (Int64.ofInt u19), .ref q31, .int (Int32.ofInt u20)])), (q2, .inl (cA 0, 5580, .inl (za i_row)))]
def wf_HM_weight (cA : Nat → ClassId) (q0 q1 q2 q3 q4 q5 q6 q7 q8 q9 q10 q11 q12 q13 q14 q15 q16 q17 q18 q19 q20 q21 q22 q23 q24 q25 q26 q27 q28 q29 q30 q31 : Nat) (u0 u1 u2 u3 u4 u5 u6 u7 u8 u9 u10 u11 u12 u13 u14 u15 u16 u17 u18 u19 u20 : Int) (i_row : Nat → Int) (o : Int × Int) : va_W := wd_HM_weight cA q0 q1 q2 q3 q4 q5 q6 q7 q8 q9 q10 q11 q12 q13 q14 q15 q16 q17 q18 q19 q20 q21 q22 q23 q24 q25 q26 q27 q28 q29 q30 q31 u0 u1 u2 u3 u4 u5 u6 u7 u8 u9 u10 u11 u12 u13 u14 u15 u16 u17 u18 u19 u20 i_row o.2
def f_HM_weight_19_b (i_row : Nat → Int) (k19 : Int → Int → Int → Int → Option (Int × Int)) (x1 : Int) (x2 : Int) (x3 : Int) (i_thrown : Int) : Option (Int × Int) :=
  zn (9 + x1) fun v1 =>
  zg 5580 i_row v1 fun v2 =>
  if zi_w v2 ≤ zi_w x3 then
    some (x2, i_thrown)
  else
    zn (10 * x1) fun v3 =>
    zn (21 + v3) fun v4 =>
    zn (v4 + x3) fun v5 =>
    zg 5580 i_row v5 fun v6 =>
    zn (x2 + v6) fun v7 =>
    zn (x3 + 1) fun v8 =>
    k19 x1 v7 v8 i_thrown
def f_HM_weight_19 (i_row : Nat → Int) : Nat → Int → Int → Int → Int → Option (Int × Int)
  | 0 => fun _ _ _ _ => none
  | n + 1 => fun y0 y1 y2 y3 => f_HM_weight_19_b i_row (f_HM_weight_19 i_row n) y0 y1 y2 y3
def f_HM_weight (x1 : Int) (i_row : Nat → Int) (i_thrown : Int) : Option (Int × Int) :=
  zd1 (f_HM_isColumn x1 i_row) fun v1 =>
  if zi_w v1 ≠ 0 then
    f_HM_weight_19 i_row zfu x1 0 0 0
  else
    some ((-1), 0)
set_option maxHeartbeats 4000000 in
set_option maxRecDepth 100000 in
theorem c_HM_weight (l : Launch) (ev : zEv) (dC : Nat → ClassId) (dI : Nat → Nat → Nat) (cA : Nat → ClassId) (q0 q1 q2 q3 q4 q5 q6 q7 q8 q9 q10 q11 q12 q13 q14 q15 q16 q17 q18 q19 q20 q21 q22 q23 q24 q25 q26 q27 q28 q29 q30 q31 : Nat) (u0 u1 u2 u3 u4 u5 u6 u7 u8 u9 u10 u11 u12 u13 u14 u15 u16 u17 u18 u19 u20 : Int) {x1 : Int} {i_row : Nat → Int} {i_thrown : Int} {out : Int × Int} (hf : f_HM_weight x1 i_row i_thrown = some out) : xc_I l ev (dC, dI) vwCl (tyl cA) yX11_weight w_HM_weight rm_HM_weight [.ref q0, .int (Int32.ofInt x1)] (wd_HM_weight cA q0 q1 q2 q3 q4 q5 q6 q7 q8 q9 q10 q11 q12 q13 q14 q15 q16 q17 q18 q19 q20 q21 q22 q23 q24 q25 q26 q27 q28 q29 q30 q31 u0 u1 u2 u3 u4 u5 u6 u7 u8 u9 u10 u11 u12 u13 u14 u15 u16 u17 u18 u19 u20 i_row i_thrown) (wf_HM_weight cA q0 q1 q2 q3 q4 q5 q6 q7 q8 q9 q10 q11 q12 q13 q14 q15 q16 q17 q18 q19 q20 q21 q22 q23 q24 q25 q26 q27 q28 q29 q30 q31 u0 u1 u2 u3 u4 u5 u6 u7 u8 u9 u10 u11 u12 u13 u14 u15 u16 u17 u18 u19 u20 i_row out) out.1 := by
  refine xv_startI (cc := cX11_weight) (maxL := 4) (rt := .int) (by decide +kernel) rfl (Nat.le_of_ble_eq_true rfl) ?_
  intro p e s m args below meth c A Q H ls hx hb hml hts hown hK hA hP hD hS hl hE hret
  have hown : s.vm.findClass "HillSchoolModel" = some m.cls := hown
  have hz : ∀ w ∈ zall, w.before args s = true := fun w h => hts w (List.mem_cons_of_mem _ h)
  have hl : lv_has ls 4 [(0, .ref q0), (1, .int (Int32.ofInt x1))] := hl
  have b_19 : ∀ (k19 : Int → Int → Int → Int → Option (Int × Int)) (_ : ∀ (x1 : Int) (x2 : Int) (x3 : Int) (i_thrown : Int) (H : Heap) (locs : List Loc) (ls : Array Slot), k19 x1 x2 x3 i_thrown = some out → va_P (dC, dI) vwCl (wd_HM_weight cA q0 q1 q2 q3 q4 q5 q6 q7 q8 q9 q10 q11 q12 q13 q14 q15 q16 q17 q18 q19 q20 q21 q22 q23 q24 q25 q26 q27 q28 q29 q30 q31 u0 u1 u2 u3 u4 u5 u6 u7 u8 u9 u10 u11 u12 u13 u14 u15 u16 u17 u18 u19 u20 i_row i_thrown) H → va_D A (wd_HM_weight cA q0 q1 q2 q3 q4 q5 q6 q7 q8 q9 q10 q11 q12 q13 q14 q15 q16 q17 q18 q19 q20 q21 q22 q23 q24 q25 q26 q27 q28 q29 q30 q31 u0 u1 u2 u3 u4 u5 u6 u7 u8 u9 u10 u11 u12 u13 u14 u15 u16 u17 u18 u19 u20 i_row i_thrown) → va_S A s.heap H locs → lv_has ls 4 [(0, .ref q0), (1, .int (Int32.ofInt x1)), (2, .int (Int32.ofInt x2)), (3, .int (Int32.ofInt x3))] → W p l e rm_HM_weight s m args below meth c H locs 0 0 Q (F0 m 19 ls [])), ∀ (x1 : Int) (x2 : Int) (x3 : Int) (i_thrown : Int) (H : Heap) (locs : List Loc) (ls : Array Slot), f_HM_weight_19_b i_row k19 x1 x2 x3 i_thrown = some out → va_P (dC, dI) vwCl (wd_HM_weight cA q0 q1 q2 q3 q4 q5 q6 q7 q8 q9 q10 q11 q12 q13 q14 q15 q16 q17 q18 q19 q20 q21 q22 q23 q24 q25 q26 q27 q28 q29 q30 q31 u0 u1 u2 u3 u4 u5 u6 u7 u8 u9 u10 u11 u12 u13 u14 u15 u16 u17 u18 u19 u20 i_row i_thrown) H → va_D A (wd_HM_weight cA q0 q1 q2 q3 q4 q5 q6 q7 q8 q9 q10 q11 q12 q13 q14 q15 q16 q17 q18 q19 q20 q21 q22 q23 q24 q25 q26 q27 q28 q29 q30 q31 u0 u1 u2 u3 u4 u5 u6 u7 u8 u9 u10 u11 u12 u13 u14 u15 u16 u17 u18 u19 u20 i_row i_thrown) → va_S A s.heap H locs → lv_has ls 4 [(0, .ref q0), (1, .int (Int32.ofInt x1)), (2, .int (Int32.ofInt x2)), (3, .int (Int32.ofInt x3))] → W p l e rm_HM_weight s m args below meth c H locs 0 0 Q (F0 m 19 ls []) := by
    intro k19 ih19 x1 x2 x3 i_thrown H locs ls hf hP hD hS hl
    unfold f_HM_weight_19_b at hf
    refine lv_iload_n hx hb dX11_weight_19 rfl (lv_at hl 3 rfl) ?_
    refine lv_aload_n hx hb dX11_weight_20 rfl (lv_at hl 0 rfl) ?_
    refine va_get (D := (dC, dI)) (ci := 11) (v := .ref q2) (C := RX11) (T := TX11) (N := 53) hx hb hz zi_X11 hown hK hP 0 rfl rfl 3 (by decide) (hz _ zw_1168) (fun _ h9 => h9) rfl dX11_weight_21 ?_
    refine lv_bipush (v := Int32.ofInt 9) hx hb dX11_weight_24 (by decide) ?_
    refine lv_iload_n hx hb dX11_weight_26 rfl (lv_at hl 1 rfl) ?_
    refine xi_iadd hx hb dX11_weight_27 hf (fun v1 hf => ?_)
    refine xi_iald hx hb hK hP 1 0 rfl rfl dX11_weight_28 hf (fun v2 hf => ?_)
    refine xi_icmp_ge (tgt := 55) hx hb dX11_weight_29 (by decide) hf (fun hf => ?_) (fun hf => ?_)
    · refine lv_iload_n hx hb dX11_weight_55 rfl (lv_at hl 2 rfl) ?_
      obtain rfl := Option.some.inj hf
      exact hret _ _ _ _ rfl dX11_weight_56 hP hD hS
    · refine lv_iload_n hx hb dX11_weight_32 rfl (lv_at hl 2 rfl) ?_
      refine lv_aload_n hx hb dX11_weight_33 rfl (lv_at hl 0 rfl) ?_
      refine va_get (D := (dC, dI)) (ci := 11) (v := .ref q2) (C := RX11) (T := TX11) (N := 53) hx hb hz zi_X11 hown hK hP 0 rfl rfl 3 (by decide) (hz _ zw_1168) (fun _ h9 => h9) rfl dX11_weight_34 ?_
      refine lv_bipush (v := Int32.ofInt 21) hx hb dX11_weight_37 (by decide) ?_
      refine lv_bipush (v := Int32.ofInt 10) hx hb dX11_weight_39 (by decide) ?_
      refine lv_iload_n hx hb dX11_weight_41 rfl (lv_at hl 1 rfl) ?_
      refine xi_imul hx hb dX11_weight_42 hf (fun v3 hf => ?_)
      refine xi_iadd hx hb dX11_weight_43 hf (fun v4 hf => ?_)
      refine lv_iload_n hx hb dX11_weight_44 rfl (lv_at hl 3 rfl) ?_
      refine xi_iadd hx hb dX11_weight_45 hf (fun v5 hf => ?_)
      refine xi_iald hx hb hK hP 1 0 rfl rfl dX11_weight_46 hf (fun v6 hf => ?_)
      refine xi_iadd hx hb dX11_weight_47 hf (fun v7 hf => ?_)
      refine lv_istore_n (lv' := [(2, .int (Int32.ofInt v7)), (0, .ref q0), (1, .int (Int32.ofInt x1)), (3, .int (Int32.ofInt x3))]) hx hb dX11_weight_48 rfl hl (by decide) rfl (fun ls hl => ?_)
      refine xi_iinc hx hb dX11_weight_49 hl (k := 3) rfl (by decide) hf (fun v8 ls hl hf => ?_)
      have hl : lv_has ls 4 [(3, .int (Int32.ofInt v8)), (2, .int (Int32.ofInt v7)), (0, .ref q0), (1, .int (Int32.ofInt x1))] := hl
      refine lv_goto (tgt := 19) hx hb dX11_weight_52 (by decide) ?_
      exact ih19 _ _ _ _ _ _ _ hf hP hD hS (lv_sub hl [2, 3, 1, 0] rfl)
  have l_19 : ∀ (n : Nat), ∀ (x1 : Int) (x2 : Int) (x3 : Int) (i_thrown : Int) (H : Heap) (locs : List Loc) (ls : Array Slot), f_HM_weight_19 i_row n x1 x2 x3 i_thrown = some out → va_P (dC, dI) vwCl (wd_HM_weight cA q0 q1 q2 q3 q4 q5 q6 q7 q8 q9 q10 q11 q12 q13 q14 q15 q16 q17 q18 q19 q20 q21 q22 q23 q24 q25 q26 q27 q28 q29 q30 q31 u0 u1 u2 u3 u4 u5 u6 u7 u8 u9 u10 u11 u12 u13 u14 u15 u16 u17 u18 u19 u20 i_row i_thrown) H → va_D A (wd_HM_weight cA q0 q1 q2 q3 q4 q5 q6 q7 q8 q9 q10 q11 q12 q13 q14 q15 q16 q17 q18 q19 q20 q21 q22 q23 q24 q25 q26 q27 q28 q29 q30 q31 u0 u1 u2 u3 u4 u5 u6 u7 u8 u9 u10 u11 u12 u13 u14 u15 u16 u17 u18 u19 u20 i_row i_thrown) → va_S A s.heap H locs → lv_has ls 4 [(0, .ref q0), (1, .int (Int32.ofInt x1)), (2, .int (Int32.ofInt x2)), (3, .int (Int32.ofInt x3))] → W p l e rm_HM_weight s m args below meth c H locs 0 0 Q (F0 m 19 ls []) := by
    intro n
    induction n with
    | zero => intro x1 x2 x3 i_thrown H locs ls hf hP hD hS hl; exact nomatch hf
    | succ n ih => intro x1 x2 x3 i_thrown H locs ls hf hP hD hS hl; exact b_19 (f_HM_weight_19 i_row n) ih x1 x2 x3 i_thrown H locs ls hf hP hD hS hl
  unfold f_HM_weight at hf
  refine lv_aload_n hx hb dX11_weight_0 rfl (lv_at hl 0 rfl) ?_
  refine lv_iconst (v := Int32.ofInt 0) hx hb dX11_weight_1 rfl ?_
  refine va_put (D := (dC, dI)) (ci := 11) (v := .int (Int32.ofInt 0)) (ty := .int) (C := RX11) (T := TX11) (N := 53) hx hb hz zi_X11 tyX11 tyX11_ok nmX11 hown hK hP hD hS 0 rfl rfl 0 (by decide) (hz _ zw_1165) (fun _ h9 => h9) rfl (by decide +kernel) rfl rfl (Nat.le_of_ble_eq_true rfl) dX11_weight_2 (fun H locs hP hD hS => ?_)
  have hP : va_P (dC, dI) vwCl (wd_HM_weight cA q0 q1 q2 q3 q4 q5 q6 q7 q8 q9 q10 q11 q12 q13 q14 q15 q16 q17 q18 q19 q20 q21 q22 q23 q24 q25 q26 q27 q28 q29 q30 q31 u0 u1 u2 u3 u4 u5 u6 u7 u8 u9 u10 u11 u12 u13 u14 u15 u16 u17 u18 u19 u20 i_row 0) H := hP
  have hD : va_D A (wd_HM_weight cA q0 q1 q2 q3 q4 q5 q6 q7 q8 q9 q10 q11 q12 q13 q14 q15 q16 q17 q18 q19 q20 q21 q22 q23 q24 q25 q26 q27 q28 q29 q30 q31 u0 u1 u2 u3 u4 u5 u6 u7 u8 u9 u10 u11 u12 u13 u14 u15 u16 u17 u18 u19 u20 i_row 0) := hD
  refine lv_aload_n hx hb dX11_weight_5 rfl (lv_at hl 0 rfl) ?_
  refine lv_iload_n hx hb dX11_weight_6 rfl (lv_at hl 1 rfl) ?_
  refine xe_d1 hf (fun v1 hg hf => ?_)
  have hC : ([0, 1] : List Nat).map (fun i => (wd_HM_weight cA q0 q1 q2 q3 q4 q5 q6 q7 q8 q9 q10 q11 q12 q13 q14 q15 q16 q17 q18 q19 q20 q21 q22 q23 q24 q25 q26 q27 q28 q29 q30 q31 u0 u1 u2 u3 u4 u5 u6 u7 u8 u9 u10 u11 u12 u13 u14 u15 u16 u17 u18 u19 u20 i_row 0)[i]?) = (wd_HM_isColumn cA q0 q1 q2 q3 q4 q5 q6 q7 q8 q9 q10 q11 q12 q13 q14 q15 q16 q17 q18 q19 q20 q21 q22 q23 q24 q25 q26 q27 q28 q29 q30 q31 0 u0 u1 u2 u3 u4 u5 u6 u7 u8 u9 u10 u11 u12 u13 u14 u15 u16 u17 u18 u19 u20 i_row).map some := rfl
  refine xv_afterI (ws' := (wd_HM_weight cA q0 q1 q2 q3 q4 q5 q6 q7 q8 q9 q10 q11 q12 q13 q14 q15 q16 q17 q18 q19 q20 q21 q22 q23 q24 q25 q26 q27 q28 q29 q30 q31 u0 u1 u2 u3 u4 u5 u6 u7 u8 u9 u10 u11 u12 u13 u14 u15 u16 u17 u18 u19 u20 i_row 0)) (isC := [0, 1]) (ps := [some 0, some 1]) (va_runV (As := [.int (Int32.ofInt x1)]) (rest := []) ⟨hx, hb, hml, hown, hts⟩ (c_HM_isColumn l ev dC dI cA q0 q1 q2 q3 q4 q5 q6 q7 q8 q9 q10 q11 q12 q13 q14 q15 q16 q17 q18 q19 q20 q21 q22 q23 q24 q25 q26 q27 q28 q29 q30 q31 0 u0 u1 u2 u3 u4 u5 u6 u7 u8 u9 u10 u11 u12 u13 u14 u15 u16 u17 u18 u19 u20 hg H.size) (cwV 1 hts (zgV zw_1356 zw_1358 zw_42 zw_115 zw_1359) rfl rfl rfl hd_HM_isColumn ⟨Nat.le_of_ble_eq_true rfl, Nat.le_of_ble_eq_true rfl⟩) (xv_preV (T := TX11) (N := 53) hE hA hS hK hP hD (isC := [0, 1]) (by decide +kernel) hC (q0 := 0) (ci := 11) rfl rfl) rfl rfl hl.1 rfl (lv_room (Nat.le_of_ble_eq_true rfl)) dX11_weight_7 ⟨Nat.le_refl _, Nat.le_refl _⟩) hP hD hS hA (by decide +kernel) rfl hC rfl rfl (fun H locs hP hD hS => ?_)
  refine xi_if_ne (tgt := 15) hx hb dX11_weight_10 (by decide) hf (fun hf => ?_) (fun hf => ?_)
  · refine lv_iconst (v := Int32.ofInt 0) hx hb dX11_weight_15 rfl ?_
    refine lv_istore_n (lv' := [(2, .int (Int32.ofInt 0)), (0, .ref q0), (1, .int (Int32.ofInt x1))]) hx hb dX11_weight_16 rfl hl (by decide) rfl (fun ls hl => ?_)
    refine lv_iconst (v := Int32.ofInt 0) hx hb dX11_weight_17 rfl ?_
    refine lv_istore_n (lv' := [(3, .int (Int32.ofInt 0)), (2, .int (Int32.ofInt 0)), (0, .ref q0), (1, .int (Int32.ofInt x1))]) hx hb dX11_weight_18 rfl hl (by decide) rfl (fun ls hl => ?_)
    exact l_19  _ _ _ _ _ _ _ _ hf hP hD hS (lv_sub hl [2, 3, 1, 0] rfl)
  · refine lv_iconst (v := Int32.ofInt (-1)) hx hb dX11_weight_13 rfl ?_
    obtain rfl := Option.some.inj hf
    exact hret _ _ _ _ rfl dX11_weight_14 hP hD hS
theorem dX11_child_0 : decode cX11_child 0 = .ok (.aload_n 0, 1) := by decide +kernel
theorem dX11_child_1 : decode cX11_child 1 = .ok (.iconst 0, 1) := by decide +kernel
theorem dX11_child_2 : decode cX11_child 2 = .ok (.putfield 126, 3) := by decide +kernel
theorem dX11_child_5 : decode cX11_child 5 = .ok (.iload_n 1, 1) := by decide +kernel
theorem dX11_child_6 : decode cX11_child 6 = .ok (.i2l, 1) := by decide +kernel
theorem dX11_child_7 : decode cX11_child 7 = .ok (.lconst 1, 1) := by decide +kernel
theorem dX11_child_8 : decode cX11_child 8 = .ok (.ldc2_w 153, 3) := by decide +kernel
theorem dX11_child_11 : decode cX11_child 11 = .ok (.invokestatic 132, 3) := by decide +kernel
theorem dX11_child_14 : decode cX11_child 14 = .ok (.ifCond .ne 9, 3) := by decide +kernel
theorem dX11_child_17 : decode cX11_child 17 = .ok (.aload_n 0, 1) := by decide +kernel
theorem dX11_child_18 : decode cX11_child 18 = .ok (.iconst (-1), 1) := by decide +kernel
theorem dX11_child_19 : decode cX11_child 19 = .ok (.invokevirtual 136, 3) := by decide +kernel
theorem dX11_child_22 : decode cX11_child 22 = .ok (.ireturn, 1) := by decide +kernel
theorem dX11_child_23 : decode cX11_child 23 = .ok (.aload_n 0, 1) := by decide +kernel
theorem dX11_child_24 : decode cX11_child 24 = .ok (.getfield 13, 3) := by decide +kernel
theorem dX11_child_27 : decode cX11_child 27 = .ok (.iconst 1, 1) := by decide +kernel
theorem dX11_child_28 : decode cX11_child 28 = .ok (.iaload, 1) := by decide +kernel
theorem dX11_child_29 : decode cX11_child 29 = .ok (.istore_n 2, 1) := by decide +kernel
theorem dX11_child_30 : decode cX11_child 30 = .ok (.iload_n 2, 1) := by decide +kernel
theorem dX11_child_31 : decode cX11_child 31 = .ok (.bipush 6, 2) := by decide +kernel
theorem dX11_child_33 : decode cX11_child 33 = .ok (.if_icmp .ne 10, 3) := by decide +kernel
theorem dX11_child_36 : decode cX11_child 36 = .ok (.aload_n 0, 1) := by decide +kernel
theorem dX11_child_37 : decode cX11_child 37 = .ok (.bipush (-5), 2) := by decide +kernel
theorem dX11_child_39 : decode cX11_child 39 = .ok (.invokevirtual 136, 3) := by decide +kernel
theorem dX11_child_42 : decode cX11_child 42 = .ok (.ireturn, 1) := by decide +kernel
theorem dX11_child_43 : decode cX11_child 43 = .ok (.aload_n 0, 1) := by decide +kernel
theorem dX11_child_44 : decode cX11_child 44 = .ok (.getfield 13, 3) := by decide +kernel
theorem dX11_child_47 : decode cX11_child 47 = .ok (.sipush 153, 3) := by decide +kernel
theorem dX11_child_50 : decode cX11_child 50 = .ok (.iconst 3, 1) := by decide +kernel
theorem dX11_child_51 : decode cX11_child 51 = .ok (.iload_n 2, 1) := by decide +kernel
theorem dX11_child_52 : decode cX11_child 52 = .ok (.imul, 1) := by decide +kernel
theorem dX11_child_53 : decode cX11_child 53 = .ok (.iadd, 1) := by decide +kernel
theorem dX11_child_54 : decode cX11_child 54 = .ok (.iload_n 1, 1) := by decide +kernel
theorem dX11_child_55 : decode cX11_child 55 = .ok (.iastore, 1) := by decide +kernel
theorem dX11_child_56 : decode cX11_child 56 = .ok (.aload_n 0, 1) := by decide +kernel
theorem dX11_child_57 : decode cX11_child 57 = .ok (.getfield 13, 3) := by decide +kernel
theorem dX11_child_60 : decode cX11_child 60 = .ok (.sipush 153, 3) := by decide +kernel
theorem dX11_child_63 : decode cX11_child 63 = .ok (.iconst 3, 1) := by decide +kernel
theorem dX11_child_64 : decode cX11_child 64 = .ok (.iload_n 2, 1) := by decide +kernel
theorem dX11_child_65 : decode cX11_child 65 = .ok (.imul, 1) := by decide +kernel
theorem dX11_child_66 : decode cX11_child 66 = .ok (.iadd, 1) := by decide +kernel
theorem dX11_child_67 : decode cX11_child 67 = .ok (.iconst 1, 1) := by decide +kernel
theorem dX11_child_68 : decode cX11_child 68 = .ok (.iadd, 1) := by decide +kernel
theorem dX11_child_69 : decode cX11_child 69 = .ok (.iconst 0, 1) := by decide +kernel
theorem dX11_child_70 : decode cX11_child 70 = .ok (.iastore, 1) := by decide +kernel
theorem dX11_child_71 : decode cX11_child 71 = .ok (.aload_n 0, 1) := by decide +kernel
theorem dX11_child_72 : decode cX11_child 72 = .ok (.getfield 13, 3) := by decide +kernel
theorem dX11_child_75 : decode cX11_child 75 = .ok (.sipush 153, 3) := by decide +kernel
theorem dX11_child_78 : decode cX11_child 78 = .ok (.iconst 3, 1) := by decide +kernel
theorem dX11_child_79 : decode cX11_child 79 = .ok (.iload_n 2, 1) := by decide +kernel
theorem dX11_child_80 : decode cX11_child 80 = .ok (.imul, 1) := by decide +kernel
theorem dX11_child_81 : decode cX11_child 81 = .ok (.iadd, 1) := by decide +kernel
theorem dX11_child_82 : decode cX11_child 82 = .ok (.iconst 2, 1) := by decide +kernel
theorem dX11_child_83 : decode cX11_child 83 = .ok (.iadd, 1) := by decide +kernel
theorem dX11_child_84 : decode cX11_child 84 = .ok (.iconst 0, 1) := by decide +kernel
theorem dX11_child_85 : decode cX11_child 85 = .ok (.iastore, 1) := by decide +kernel
theorem dX11_child_86 : decode cX11_child 86 = .ok (.aload_n 0, 1) := by decide +kernel
theorem dX11_child_87 : decode cX11_child 87 = .ok (.getfield 13, 3) := by decide +kernel
theorem dX11_child_90 : decode cX11_child 90 = .ok (.iconst 1, 1) := by decide +kernel
theorem dX11_child_91 : decode cX11_child 91 = .ok (.dup2, 1) := by decide +kernel
theorem dX11_child_92 : decode cX11_child 92 = .ok (.iaload, 1) := by decide +kernel
theorem dX11_child_93 : decode cX11_child 93 = .ok (.iconst 1, 1) := by decide +kernel
theorem dX11_child_94 : decode cX11_child 94 = .ok (.iadd, 1) := by decide +kernel
theorem dX11_child_95 : decode cX11_child 95 = .ok (.iastore, 1) := by decide +kernel
theorem dX11_child_96 : decode cX11_child 96 = .ok (.aload_n 0, 1) := by decide +kernel
theorem dX11_child_97 : decode cX11_child 97 = .ok (.iload_n 2, 1) := by decide +kernel
theorem dX11_child_98 : decode cX11_child 98 = .ok (.invokevirtual 136, 3) := by decide +kernel
theorem dX11_child_101 : decode cX11_child 101 = .ok (.ireturn, 1) := by decide +kernel
theorem zw_1375 : (Jvm.Cond.code ({ cls := "HillSchoolModel", name := "child", desc := "(I)I" } : Jvm.MethodName) prog_13_method_19_code (3 : Nat) (Option.some Jvm.ClassFile.FieldType.int)) ∈ zall := zmemG (zmj_6 72 rfl) rfl
theorem zw_1376 : (Jvm.Cond.constantLong "HillSchoolModel" (153 : Nat) (60 : Int64)) ∈ zall := zmemG (zmj_6 73 rfl) rfl
abbrev w_HM_child : List Cond := .code yX11_child cX11_child 3 (some .int) :: zall
abbrev rm_HM_child : Room := { frames := 1, cells := 0, slots := 0, locals := 25 }
theorem hd_HM_child : yX11_child.cls = "HillSchoolModel" ∧ yX11_child.cls ≠ "java/lang/invoke/MethodHandle" ∧ yX11_child.cls ≠ "java/lang/invoke/VarHandle" ∧ (parseMethodDescriptor yX11_child.desc).map (fun d => d.parameters.length) = some 1 := by decide +kernel
def wd_HM_child (cA : Nat → ClassId) (q0 q1 q2 q3 q4 q5 q6 q7 q8 q9 q10 q11 q12 q13 q14 q15 q16 q17 q18 q19 q20 q21 q22 q23 q24 q25 q26 q27 q28 q29 q30 q31 : Nat) (u0 u1 u2 u3 u4 u5 u6 u7 u8 u9 u10 u11 u12 u13 u14 u15 u16 u17 u18 u19 : Int)  (i_thrown : Int) (i_status : Int) (i_refusals : Nat → Int) (i_row : Nat → Int) : va_W := [(q0, .inr (11, [.int (Int32.ofInt i_thrown), .int (Int32.ofInt i_status), .ref q1, .ref q2, .ref q3, .ref q4, .int (Int32.ofInt u0), .ref q5, .int (Int32.ofInt u1), .int (Int32.ofInt u2), .int (Int32.ofInt u3), .int (Int32.ofInt u4), .long (Int64.ofInt u5), .int (Int32.ofInt u6), .int (Int32.ofInt u7), .int (Int32.ofInt u8), .ref q6, .int (Int32.ofInt u9), .ref q7, .ref q8, .int (Int32.ofInt u10), .ref q9, .ref q10, .int (Int32.ofInt u11), .int (Int32.ofInt u12), .ref q11, .int (Int32.ofInt u13), .ref q12, .ref q13, .int (Int32.ofInt u14), .long (Int64.ofInt u15), .long (Int64.ofInt u16), .ref q14, .ref q15, .ref q16, .ref q17, .ref q18, .int (Int32.ofInt u17), .ref q19, .ref q20, .ref q21, .ref q22, .ref q23, .ref q24, .ref q25, .ref q26, .ref q27, .ref q28, .ref q29, .ref q30, .long (Int64.ofInt u18), .ref q31, .int (Int32.ofInt u19)])), (q1, .inl (cA 0, 7, .inl (za i_refusals))), (q2, .inl (cA 0, 5580, .inl (za i_row)))]
def wf_HM_child (cA : Nat → ClassId) (q0 q1 q2 q3 q4 q5 q6 q7 q8 q9 q10 q11 q12 q13 q14 q15 q16 q17 q18 q19 q20 q21 q22 q23 q24 q25 q26 q27 q28 q29 q30 q31 : Nat) (u0 u1 u2 u3 u4 u5 u6 u7 u8 u9 u10 u11 u12 u13 u14 u15 u16 u17 u18 u19 : Int)  (o : Int × Int × Int × (Nat → Int) × (Nat → Int)) : va_W := wd_HM_child cA q0 q1 q2 q3 q4 q5 q6 q7 q8 q9 q10 q11 q12 q13 q14 q15 q16 q17 q18 q19 q20 q21 q22 q23 q24 q25 q26 q27 q28 q29 q30 q31 u0 u1 u2 u3 u4 u5 u6 u7 u8 u9 u10 u11 u12 u13 u14 u15 u16 u17 u18 u19 o.2.1 o.2.2.1 o.2.2.2.1 o.2.2.2.2
def f_HM_child (x1 : Int) (i_thrown : Int) (i_status : Int) (i_refusals : Nat → Int) (i_row : Nat → Int) : Option (Int × Int × Int × (Nat → Int) × (Nat → Int)) :=
  zn (zi_w x1) fun v1 =>
  zd1 (f_HM_in v1 1 60) fun v2 =>
  if zi_w v2 ≠ 0 then
    zg 5580 i_row 1 fun v3 =>
    if zi_w v3 ≠ zi_w 6 then
      zn (3 * v3) fun v4 =>
      zn (153 + v4) fun v5 =>
      zs 5580 i_row v5 x1 fun a6 =>
      zn (3 * v3) fun v7 =>
      zn (153 + v7) fun v8 =>
      zn (v8 + 1) fun v9 =>
      zs 5580 a6 v9 0 fun a10 =>
      zn (3 * v3) fun v11 =>
      zn (153 + v11) fun v12 =>
      zn (v12 + 2) fun v13 =>
      zs 5580 a10 v13 0 fun a14 =>
      zg 5580 a14 1 fun v15 =>
      zn (v15 + 1) fun v16 =>
      zs 5580 a14 1 v16 fun a17 =>
      zd3 (f_HM_tell v3 i_status i_refusals) fun v18 v19 a20 =>
      some (v18, 0, v19, a20, a17)
    else
      zd3 (f_HM_tell (-5) i_status i_refusals) fun v21 v22 a23 =>
      some (v21, 0, v22, a23, i_row)
  else
    zd3 (f_HM_tell (-1) i_status i_refusals) fun v24 v25 a26 =>
    some (v24, 0, v25, a26, i_row)
set_option maxHeartbeats 4000000 in
set_option maxRecDepth 100000 in
theorem c_HM_child (l : Launch) (ev : zEv) (dC : Nat → ClassId) (dI : Nat → Nat → Nat) (cA : Nat → ClassId) (q0 q1 q2 q3 q4 q5 q6 q7 q8 q9 q10 q11 q12 q13 q14 q15 q16 q17 q18 q19 q20 q21 q22 q23 q24 q25 q26 q27 q28 q29 q30 q31 : Nat) (u0 u1 u2 u3 u4 u5 u6 u7 u8 u9 u10 u11 u12 u13 u14 u15 u16 u17 u18 u19 : Int) {x1 : Int} {i_thrown : Int} {i_status : Int} {i_refusals : Nat → Int} {i_row : Nat → Int} {out : Int × Int × Int × (Nat → Int) × (Nat → Int)} (hf : f_HM_child x1 i_thrown i_status i_refusals i_row = some out) : xc_I l ev (dC, dI) vwCl (tyl cA) yX11_child w_HM_child rm_HM_child [.ref q0, .int (Int32.ofInt x1)] (wd_HM_child cA q0 q1 q2 q3 q4 q5 q6 q7 q8 q9 q10 q11 q12 q13 q14 q15 q16 q17 q18 q19 q20 q21 q22 q23 q24 q25 q26 q27 q28 q29 q30 q31 u0 u1 u2 u3 u4 u5 u6 u7 u8 u9 u10 u11 u12 u13 u14 u15 u16 u17 u18 u19 i_thrown i_status i_refusals i_row) (wf_HM_child cA q0 q1 q2 q3 q4 q5 q6 q7 q8 q9 q10 q11 q12 q13 q14 q15 q16 q17 q18 q19 q20 q21 q22 q23 q24 q25 q26 q27 q28 q29 q30 q31 u0 u1 u2 u3 u4 u5 u6 u7 u8 u9 u10 u11 u12 u13 u14 u15 u16 u17 u18 u19 out) out.1 := by
  refine xv_startI (cc := cX11_child) (maxL := 3) (rt := .int) (by decide +kernel) rfl (Nat.le_of_ble_eq_true rfl) ?_
  intro p e s m args below meth c A Q H ls hx hb hml hts hown hK hA hP hD hS hl hE hret
  have hown : s.vm.findClass "HillSchoolModel" = some m.cls := hown
  have hz : ∀ w ∈ zall, w.before args s = true := fun w h => hts w (List.mem_cons_of_mem _ h)
  have hl : lv_has ls 3 [(0, .ref q0), (1, .int (Int32.ofInt x1))] := hl
  unfold f_HM_child at hf
  refine lv_aload_n hx hb dX11_child_0 rfl (lv_at hl 0 rfl) ?_
  refine lv_iconst (v := Int32.ofInt 0) hx hb dX11_child_1 rfl ?_
  refine va_put (D := (dC, dI)) (ci := 11) (v := .int (Int32.ofInt 0)) (ty := .int) (C := RX11) (T := TX11) (N := 53) hx hb hz zi_X11 tyX11 tyX11_ok nmX11 hown hK hP hD hS 0 rfl rfl 0 (by decide) (hz _ zw_1165) (fun _ h9 => h9) rfl (by decide +kernel) rfl rfl (Nat.le_of_ble_eq_true rfl) dX11_child_2 (fun H locs hP hD hS => ?_)
  have hP : va_P (dC, dI) vwCl (wd_HM_child cA q0 q1 q2 q3 q4 q5 q6 q7 q8 q9 q10 q11 q12 q13 q14 q15 q16 q17 q18 q19 q20 q21 q22 q23 q24 q25 q26 q27 q28 q29 q30 q31 u0 u1 u2 u3 u4 u5 u6 u7 u8 u9 u10 u11 u12 u13 u14 u15 u16 u17 u18 u19 0 i_status i_refusals i_row) H := hP
  have hD : va_D A (wd_HM_child cA q0 q1 q2 q3 q4 q5 q6 q7 q8 q9 q10 q11 q12 q13 q14 q15 q16 q17 q18 q19 q20 q21 q22 q23 q24 q25 q26 q27 q28 q29 q30 q31 u0 u1 u2 u3 u4 u5 u6 u7 u8 u9 u10 u11 u12 u13 u14 u15 u16 u17 u18 u19 0 i_status i_refusals i_row) := hD
  refine lv_iload_n hx hb dX11_child_5 rfl (lv_at hl 1 rfl) ?_
  refine xi_i2l hx hb dX11_child_6 hf (fun v1 hf => ?_)
  refine lv_lconst (v := Int64.ofInt 1) hx hb dX11_child_7 (by decide) ?_
  refine lv_ldc2 (v := Int64.ofInt 60) hx hb hown (hz _ zw_1376) dX11_child_8 ?_
  refine xe_d1 hf (fun v2 hg hf => ?_)
  have hC : ([] : List Nat).map (fun i => (wd_HM_child cA q0 q1 q2 q3 q4 q5 q6 q7 q8 q9 q10 q11 q12 q13 q14 q15 q16 q17 q18 q19 q20 q21 q22 q23 q24 q25 q26 q27 q28 q29 q30 q31 u0 u1 u2 u3 u4 u5 u6 u7 u8 u9 u10 u11 u12 u13 u14 u15 u16 u17 u18 u19 0 i_status i_refusals i_row)[i]?) = (wd_HM_in cA).map some := rfl
  refine xv_afterI (ws' := (wd_HM_child cA q0 q1 q2 q3 q4 q5 q6 q7 q8 q9 q10 q11 q12 q13 q14 q15 q16 q17 q18 q19 q20 q21 q22 q23 q24 q25 q26 q27 q28 q29 q30 q31 u0 u1 u2 u3 u4 u5 u6 u7 u8 u9 u10 u11 u12 u13 u14 u15 u16 u17 u18 u19 0 i_status i_refusals i_row)) (isC := []) (ps := [none, none, none]) (va_runS (As := [.long (Int64.ofInt v1), .long (Int64.ofInt 1), .long (Int64.ofInt 60)]) (rest := []) ⟨hx, hb, hml, hown, hts⟩ (c_HM_in l ev dC dI cA hg H.size) (va_cwS 3 hts (zgS zw_1329 zw_1330 zw_115 zw_1331) rfl rfl rfl hd_HM_in.2 ⟨Nat.le_of_ble_eq_true rfl, Nat.le_of_ble_eq_true rfl⟩) (xv_preS hE hA hS hK hP hD (isC := []) (by decide +kernel) hC) rfl rfl hl.1 rfl (lv_room (Nat.le_of_ble_eq_true rfl)) dX11_child_11 ⟨Nat.le_refl _, Nat.le_refl _⟩) hP hD hS hA (by decide +kernel) rfl hC rfl rfl (fun H locs hP hD hS => ?_)
  refine xi_if_ne (tgt := 23) hx hb dX11_child_14 (by decide) hf (fun hf => ?_) (fun hf => ?_)
  · refine lv_aload_n hx hb dX11_child_23 rfl (lv_at hl 0 rfl) ?_
    refine va_get (D := (dC, dI)) (ci := 11) (v := .ref q2) (C := RX11) (T := TX11) (N := 53) hx hb hz zi_X11 hown hK hP 0 rfl rfl 3 (by decide) (hz _ zw_1168) (fun _ h9 => h9) rfl dX11_child_24 ?_
    refine lv_iconst (v := Int32.ofInt 1) hx hb dX11_child_27 rfl ?_
    refine xi_iald hx hb hK hP 2 0 rfl rfl dX11_child_28 hf (fun v3 hf => ?_)
    refine lv_istore_n (lv' := [(2, .int (Int32.ofInt v3)), (0, .ref q0), (1, .int (Int32.ofInt x1))]) hx hb dX11_child_29 rfl hl (by decide) rfl (fun ls hl => ?_)
    refine lv_iload_n hx hb dX11_child_30 rfl (lv_at hl 0 rfl) ?_
    refine lv_bipush (v := Int32.ofInt 6) hx hb dX11_child_31 (by decide) ?_
    refine xi_icmp_ne (tgt := 43) hx hb dX11_child_33 (by decide) hf (fun hf => ?_) (fun hf => ?_)
    · refine lv_aload_n hx hb dX11_child_43 rfl (lv_at hl 1 rfl) ?_
      refine va_get (D := (dC, dI)) (ci := 11) (v := .ref q2) (C := RX11) (T := TX11) (N := 53) hx hb hz zi_X11 hown hK hP 0 rfl rfl 3 (by decide) (hz _ zw_1168) (fun _ h9 => h9) rfl dX11_child_44 ?_
      refine lv_sipush (v := Int32.ofInt 153) hx hb dX11_child_47 (by decide) ?_
      refine lv_iconst (v := Int32.ofInt 3) hx hb dX11_child_50 rfl ?_
      refine lv_iload_n hx hb dX11_child_51 rfl (lv_at hl 0 rfl) ?_
      refine xi_imul hx hb dX11_child_52 hf (fun v4 hf => ?_)
      refine xi_iadd hx hb dX11_child_53 hf (fun v5 hf => ?_)
      refine lv_iload_n hx hb dX11_child_54 rfl (lv_at hl 2 rfl) ?_
      refine xi_iast hx hb hK hP hD hS 2 0 rfl rfl dX11_child_55 hf (fun a6 H locs hP hD hS hf => ?_)
      have hP : va_P (dC, dI) vwCl (wd_HM_child cA q0 q1 q2 q3 q4 q5 q6 q7 q8 q9 q10 q11 q12 q13 q14 q15 q16 q17 q18 q19 q20 q21 q22 q23 q24 q25 q26 q27 q28 q29 q30 q31 u0 u1 u2 u3 u4 u5 u6 u7 u8 u9 u10 u11 u12 u13 u14 u15 u16 u17 u18 u19 0 i_status i_refusals a6) H := hP
      have hD : va_D A (wd_HM_child cA q0 q1 q2 q3 q4 q5 q6 q7 q8 q9 q10 q11 q12 q13 q14 q15 q16 q17 q18 q19 q20 q21 q22 q23 q24 q25 q26 q27 q28 q29 q30 q31 u0 u1 u2 u3 u4 u5 u6 u7 u8 u9 u10 u11 u12 u13 u14 u15 u16 u17 u18 u19 0 i_status i_refusals a6) := hD
      refine lv_aload_n hx hb dX11_child_56 rfl (lv_at hl 1 rfl) ?_
      refine va_get (D := (dC, dI)) (ci := 11) (v := .ref q2) (C := RX11) (T := TX11) (N := 53) hx hb hz zi_X11 hown hK hP 0 rfl rfl 3 (by decide) (hz _ zw_1168) (fun _ h9 => h9) rfl dX11_child_57 ?_
      refine lv_sipush (v := Int32.ofInt 153) hx hb dX11_child_60 (by decide) ?_
      refine lv_iconst (v := Int32.ofInt 3) hx hb dX11_child_63 rfl ?_
      refine lv_iload_n hx hb dX11_child_64 rfl (lv_at hl 0 rfl) ?_
      refine xi_imul hx hb dX11_child_65 hf (fun v7 hf => ?_)
      refine xi_iadd hx hb dX11_child_66 hf (fun v8 hf => ?_)
      refine lv_iconst (v := Int32.ofInt 1) hx hb dX11_child_67 rfl ?_
      refine xi_iadd hx hb dX11_child_68 hf (fun v9 hf => ?_)
      refine lv_iconst (v := Int32.ofInt 0) hx hb dX11_child_69 rfl ?_
      refine xi_iast hx hb hK hP hD hS 2 0 rfl rfl dX11_child_70 hf (fun a10 H locs hP hD hS hf => ?_)
      have hP : va_P (dC, dI) vwCl (wd_HM_child cA q0 q1 q2 q3 q4 q5 q6 q7 q8 q9 q10 q11 q12 q13 q14 q15 q16 q17 q18 q19 q20 q21 q22 q23 q24 q25 q26 q27 q28 q29 q30 q31 u0 u1 u2 u3 u4 u5 u6 u7 u8 u9 u10 u11 u12 u13 u14 u15 u16 u17 u18 u19 0 i_status i_refusals a10) H := hP
      have hD : va_D A (wd_HM_child cA q0 q1 q2 q3 q4 q5 q6 q7 q8 q9 q10 q11 q12 q13 q14 q15 q16 q17 q18 q19 q20 q21 q22 q23 q24 q25 q26 q27 q28 q29 q30 q31 u0 u1 u2 u3 u4 u5 u6 u7 u8 u9 u10 u11 u12 u13 u14 u15 u16 u17 u18 u19 0 i_status i_refusals a10) := hD
      refine lv_aload_n hx hb dX11_child_71 rfl (lv_at hl 1 rfl) ?_
      refine va_get (D := (dC, dI)) (ci := 11) (v := .ref q2) (C := RX11) (T := TX11) (N := 53) hx hb hz zi_X11 hown hK hP 0 rfl rfl 3 (by decide) (hz _ zw_1168) (fun _ h9 => h9) rfl dX11_child_72 ?_
      refine lv_sipush (v := Int32.ofInt 153) hx hb dX11_child_75 (by decide) ?_
      refine lv_iconst (v := Int32.ofInt 3) hx hb dX11_child_78 rfl ?_
      refine lv_iload_n hx hb dX11_child_79 rfl (lv_at hl 0 rfl) ?_
      refine xi_imul hx hb dX11_child_80 hf (fun v11 hf => ?_)
      refine xi_iadd hx hb dX11_child_81 hf (fun v12 hf => ?_)
      refine lv_iconst (v := Int32.ofInt 2) hx hb dX11_child_82 rfl ?_
      refine xi_iadd hx hb dX11_child_83 hf (fun v13 hf => ?_)
      refine lv_iconst (v := Int32.ofInt 0) hx hb dX11_child_84 rfl ?_
      refine xi_iast hx hb hK hP hD hS 2 0 rfl rfl dX11_child_85 hf (fun a14 H locs hP hD hS hf => ?_)
      have hP : va_P (dC, dI) vwCl (wd_HM_child cA q0 q1 q2 q3 q4 q5 q6 q7 q8 q9 q10 q11 q12 q13 q14 q15 q16 q17 q18 q19 q20 q21 q22 q23 q24 q25 q26 q27 q28 q29 q30 q31 u0 u1 u2 u3 u4 u5 u6 u7 u8 u9 u10 u11 u12 u13 u14 u15 u16 u17 u18 u19 0 i_status i_refusals a14) H := hP
      have hD : va_D A (wd_HM_child cA q0 q1 q2 q3 q4 q5 q6 q7 q8 q9 q10 q11 q12 q13 q14 q15 q16 q17 q18 q19 q20 q21 q22 q23 q24 q25 q26 q27 q28 q29 q30 q31 u0 u1 u2 u3 u4 u5 u6 u7 u8 u9 u10 u11 u12 u13 u14 u15 u16 u17 u18 u19 0 i_status i_refusals a14) := hD
      refine lv_aload_n hx hb dX11_child_86 rfl (lv_at hl 1 rfl) ?_
      refine va_get (D := (dC, dI)) (ci := 11) (v := .ref q2) (C := RX11) (T := TX11) (N := 53) hx hb hz zi_X11 hown hK hP 0 rfl rfl 3 (by decide) (hz _ zw_1168) (fun _ h9 => h9) rfl dX11_child_87 ?_
      refine lv_iconst (v := Int32.ofInt 1) hx hb dX11_child_90 rfl ?_
      refine lv_dup2_11 hx hb dX11_child_91 rfl rfl ?_
      refine xi_iald hx hb hK hP 2 0 rfl rfl dX11_child_92 hf (fun v15 hf => ?_)
      refine lv_iconst (v := Int32.ofInt 1) hx hb dX11_child_93 rfl ?_
      refine xi_iadd hx hb dX11_child_94 hf (fun v16 hf => ?_)
      refine xi_iast hx hb hK hP hD hS 2 0 rfl rfl dX11_child_95 hf (fun a17 H locs hP hD hS hf => ?_)
      have hP : va_P (dC, dI) vwCl (wd_HM_child cA q0 q1 q2 q3 q4 q5 q6 q7 q8 q9 q10 q11 q12 q13 q14 q15 q16 q17 q18 q19 q20 q21 q22 q23 q24 q25 q26 q27 q28 q29 q30 q31 u0 u1 u2 u3 u4 u5 u6 u7 u8 u9 u10 u11 u12 u13 u14 u15 u16 u17 u18 u19 0 i_status i_refusals a17) H := hP
      have hD : va_D A (wd_HM_child cA q0 q1 q2 q3 q4 q5 q6 q7 q8 q9 q10 q11 q12 q13 q14 q15 q16 q17 q18 q19 q20 q21 q22 q23 q24 q25 q26 q27 q28 q29 q30 q31 u0 u1 u2 u3 u4 u5 u6 u7 u8 u9 u10 u11 u12 u13 u14 u15 u16 u17 u18 u19 0 i_status i_refusals a17) := hD
      refine lv_aload_n hx hb dX11_child_96 rfl (lv_at hl 1 rfl) ?_
      refine lv_iload_n hx hb dX11_child_97 rfl (lv_at hl 0 rfl) ?_
      refine xe_d3 hf (fun v18 v19 a20 hg hf => ?_)
      have hC : ([0, 1] : List Nat).map (fun i => (wd_HM_child cA q0 q1 q2 q3 q4 q5 q6 q7 q8 q9 q10 q11 q12 q13 q14 q15 q16 q17 q18 q19 q20 q21 q22 q23 q24 q25 q26 q27 q28 q29 q30 q31 u0 u1 u2 u3 u4 u5 u6 u7 u8 u9 u10 u11 u12 u13 u14 u15 u16 u17 u18 u19 0 i_status i_refusals a17)[i]?) = (wd_HM_tell cA q0 q1 q2 q3 q4 q5 q6 q7 q8 q9 q10 q11 q12 q13 q14 q15 q16 q17 q18 q19 q20 q21 q22 q23 q24 q25 q26 q27 q28 q29 q30 q31 0 u0 u1 u2 u3 u4 u5 u6 u7 u8 u9 u10 u11 u12 u13 u14 u15 u16 u17 u18 u19 i_status i_refusals).map some := rfl
      refine xv_afterI (ws' := (wd_HM_child cA q0 q1 q2 q3 q4 q5 q6 q7 q8 q9 q10 q11 q12 q13 q14 q15 q16 q17 q18 q19 q20 q21 q22 q23 q24 q25 q26 q27 q28 q29 q30 q31 u0 u1 u2 u3 u4 u5 u6 u7 u8 u9 u10 u11 u12 u13 u14 u15 u16 u17 u18 u19 0 v19 a20 a17)) (isC := [0, 1]) (ps := [some 0, some 1, none]) (va_runV (As := [.int (Int32.ofInt v3)]) (rest := []) ⟨hx, hb, hml, hown, hts⟩ (c_HM_tell l ev dC dI cA q0 q1 q2 q3 q4 q5 q6 q7 q8 q9 q10 q11 q12 q13 q14 q15 q16 q17 q18 q19 q20 q21 q22 q23 q24 q25 q26 q27 q28 q29 q30 q31 0 u0 u1 u2 u3 u4 u5 u6 u7 u8 u9 u10 u11 u12 u13 u14 u15 u16 u17 u18 u19 hg H.size) (cwV 1 hts (zgV zw_1332 zw_1334 zw_40 zw_115 zw_1335) rfl rfl rfl hd_HM_tell ⟨Nat.le_of_ble_eq_true rfl, Nat.le_of_ble_eq_true rfl⟩) (xv_preV (T := TX11) (N := 53) hE hA hS hK hP hD (isC := [0, 1]) (by decide +kernel) hC (q0 := 0) (ci := 11) rfl rfl) rfl rfl hl.1 rfl (lv_room (Nat.le_of_ble_eq_true rfl)) dX11_child_98 ⟨Nat.le_refl _, Nat.le_refl _⟩) hP hD hS hA (by decide +kernel) rfl hC rfl rfl (fun H locs hP hD hS => ?_)
      obtain rfl := Option.some.inj hf
      exact hret _ _ _ _ rfl dX11_child_101 hP hD hS
    · refine lv_aload_n hx hb dX11_child_36 rfl (lv_at hl 1 rfl) ?_
      refine lv_bipush (v := Int32.ofInt (-5)) hx hb dX11_child_37 (by decide) ?_
      refine xe_d3 hf (fun v21 v22 a23 hg hf => ?_)
      have hC : ([0, 1] : List Nat).map (fun i => (wd_HM_child cA q0 q1 q2 q3 q4 q5 q6 q7 q8 q9 q10 q11 q12 q13 q14 q15 q16 q17 q18 q19 q20 q21 q22 q23 q24 q25 q26 q27 q28 q29 q30 q31 u0 u1 u2 u3 u4 u5 u6 u7 u8 u9 u10 u11 u12 u13 u14 u15 u16 u17 u18 u19 0 i_status i_refusals i_row)[i]?) = (wd_HM_tell cA q0 q1 q2 q3 q4 q5 q6 q7 q8 q9 q10 q11 q12 q13 q14 q15 q16 q17 q18 q19 q20 q21 q22 q23 q24 q25 q26 q27 q28 q29 q30 q31 0 u0 u1 u2 u3 u4 u5 u6 u7 u8 u9 u10 u11 u12 u13 u14 u15 u16 u17 u18 u19 i_status i_refusals).map some := rfl
      refine xv_afterI (ws' := (wd_HM_child cA q0 q1 q2 q3 q4 q5 q6 q7 q8 q9 q10 q11 q12 q13 q14 q15 q16 q17 q18 q19 q20 q21 q22 q23 q24 q25 q26 q27 q28 q29 q30 q31 u0 u1 u2 u3 u4 u5 u6 u7 u8 u9 u10 u11 u12 u13 u14 u15 u16 u17 u18 u19 0 v22 a23 i_row)) (isC := [0, 1]) (ps := [some 0, some 1, none]) (va_runV (As := [.int (Int32.ofInt (-5))]) (rest := []) ⟨hx, hb, hml, hown, hts⟩ (c_HM_tell l ev dC dI cA q0 q1 q2 q3 q4 q5 q6 q7 q8 q9 q10 q11 q12 q13 q14 q15 q16 q17 q18 q19 q20 q21 q22 q23 q24 q25 q26 q27 q28 q29 q30 q31 0 u0 u1 u2 u3 u4 u5 u6 u7 u8 u9 u10 u11 u12 u13 u14 u15 u16 u17 u18 u19 hg H.size) (cwV 1 hts (zgV zw_1332 zw_1334 zw_40 zw_115 zw_1335) rfl rfl rfl hd_HM_tell ⟨Nat.le_of_ble_eq_true rfl, Nat.le_of_ble_eq_true rfl⟩) (xv_preV (T := TX11) (N := 53) hE hA hS hK hP hD (isC := [0, 1]) (by decide +kernel) hC (q0 := 0) (ci := 11) rfl rfl) rfl rfl hl.1 rfl (lv_room (Nat.le_of_ble_eq_true rfl)) dX11_child_39 ⟨Nat.le_refl _, Nat.le_refl _⟩) hP hD hS hA (by decide +kernel) rfl hC rfl rfl (fun H locs hP hD hS => ?_)
      obtain rfl := Option.some.inj hf
      exact hret _ _ _ _ rfl dX11_child_42 hP hD hS
  · refine lv_aload_n hx hb dX11_child_17 rfl (lv_at hl 0 rfl) ?_
    refine lv_iconst (v := Int32.ofInt (-1)) hx hb dX11_child_18 rfl ?_
    refine xe_d3 hf (fun v24 v25 a26 hg hf => ?_)
    have hC : ([0, 1] : List Nat).map (fun i => (wd_HM_child cA q0 q1 q2 q3 q4 q5 q6 q7 q8 q9 q10 q11 q12 q13 q14 q15 q16 q17 q18 q19 q20 q21 q22 q23 q24 q25 q26 q27 q28 q29 q30 q31 u0 u1 u2 u3 u4 u5 u6 u7 u8 u9 u10 u11 u12 u13 u14 u15 u16 u17 u18 u19 0 i_status i_refusals i_row)[i]?) = (wd_HM_tell cA q0 q1 q2 q3 q4 q5 q6 q7 q8 q9 q10 q11 q12 q13 q14 q15 q16 q17 q18 q19 q20 q21 q22 q23 q24 q25 q26 q27 q28 q29 q30 q31 0 u0 u1 u2 u3 u4 u5 u6 u7 u8 u9 u10 u11 u12 u13 u14 u15 u16 u17 u18 u19 i_status i_refusals).map some := rfl
    refine xv_afterI (ws' := (wd_HM_child cA q0 q1 q2 q3 q4 q5 q6 q7 q8 q9 q10 q11 q12 q13 q14 q15 q16 q17 q18 q19 q20 q21 q22 q23 q24 q25 q26 q27 q28 q29 q30 q31 u0 u1 u2 u3 u4 u5 u6 u7 u8 u9 u10 u11 u12 u13 u14 u15 u16 u17 u18 u19 0 v25 a26 i_row)) (isC := [0, 1]) (ps := [some 0, some 1, none]) (va_runV (As := [.int (Int32.ofInt (-1))]) (rest := []) ⟨hx, hb, hml, hown, hts⟩ (c_HM_tell l ev dC dI cA q0 q1 q2 q3 q4 q5 q6 q7 q8 q9 q10 q11 q12 q13 q14 q15 q16 q17 q18 q19 q20 q21 q22 q23 q24 q25 q26 q27 q28 q29 q30 q31 0 u0 u1 u2 u3 u4 u5 u6 u7 u8 u9 u10 u11 u12 u13 u14 u15 u16 u17 u18 u19 hg H.size) (cwV 1 hts (zgV zw_1332 zw_1334 zw_40 zw_115 zw_1335) rfl rfl rfl hd_HM_tell ⟨Nat.le_of_ble_eq_true rfl, Nat.le_of_ble_eq_true rfl⟩) (xv_preV (T := TX11) (N := 53) hE hA hS hK hP hD (isC := [0, 1]) (by decide +kernel) hC (q0 := 0) (ci := 11) rfl rfl) rfl rfl hl.1 rfl (lv_room (Nat.le_of_ble_eq_true rfl)) dX11_child_19 ⟨Nat.le_refl _, Nat.le_refl _⟩) hP hD hS hA (by decide +kernel) rfl hC rfl rfl (fun H locs hP hD hS => ?_)
    obtain rfl := Option.some.inj hf
    exact hret _ _ _ _ rfl dX11_child_22 hP hD hS
theorem dX11_isChild_0 : decode cX11_isChild 0 = .ok (.iload_n 1, 1) := by decide +kernel
theorem dX11_isChild_1 : decode cX11_isChild 1 = .ok (.i2l, 1) := by decide +kernel
theorem dX11_isChild_2 : decode cX11_isChild 2 = .ok (.lconst 0, 1) := by decide +kernel
theorem dX11_isChild_3 : decode cX11_isChild 3 = .ok (.aload_n 0, 1) := by decide +kernel
theorem dX11_isChild_4 : decode cX11_isChild 4 = .ok (.getfield 13, 3) := by decide +kernel
theorem dX11_isChild_7 : decode cX11_isChild 7 = .ok (.iconst 1, 1) := by decide +kernel
theorem dX11_isChild_8 : decode cX11_isChild 8 = .ok (.iaload, 1) := by decide +kernel
theorem dX11_isChild_9 : decode cX11_isChild 9 = .ok (.i2l, 1) := by decide +kernel
theorem dX11_isChild_10 : decode cX11_isChild 10 = .ok (.lconst 1, 1) := by decide +kernel
theorem dX11_isChild_11 : decode cX11_isChild 11 = .ok (.lsub, 1) := by decide +kernel
theorem dX11_isChild_12 : decode cX11_isChild 12 = .ok (.invokestatic 132, 3) := by decide +kernel
theorem dX11_isChild_15 : decode cX11_isChild 15 = .ok (.ireturn, 1) := by decide +kernel
theorem zw_1384 : (Jvm.Cond.code ({ cls := "HillSchoolModel", name := "isChild", desc := "(I)Z" } : Jvm.MethodName) prog_13_method_12_code (2 : Nat) (Option.some Jvm.ClassFile.FieldType.boolean)) ∈ zall := zmemG (zmj_6 81 rfl) rfl
abbrev w_HM_isChild : List Cond := .code yX11_isChild cX11_isChild 2 (some .boolean) :: zall
abbrev rm_HM_isChild : Room := { frames := 1, cells := 0, slots := 0, locals := 25 }
theorem hd_HM_isChild : yX11_isChild.cls = "HillSchoolModel" ∧ yX11_isChild.cls ≠ "java/lang/invoke/MethodHandle" ∧ yX11_isChild.cls ≠ "java/lang/invoke/VarHandle" ∧ (parseMethodDescriptor yX11_isChild.desc).map (fun d => d.parameters.length) = some 1 := by decide +kernel
def wd_HM_isChild (cA : Nat → ClassId) (q0 q1 q2 q3 q4 q5 q6 q7 q8 q9 q10 q11 q12 q13 q14 q15 q16 q17 q18 q19 q20 q21 q22 q23 q24 q25 q26 q27 q28 q29 q30 q31 : Nat) (u0 u1 u2 u3 u4 u5 u6 u7 u8 u9 u10 u11 u12 u13 u14 u15 u16 u17 u18 u19 u20 u21 : Int) (i_row : Nat → Int)  : va_W := [(q0, .inr (11, [.int (Int32.ofInt u0), .int (Int32.ofInt u1), .ref q1, .ref q2, .ref q3, .ref q4, .int (Int32.ofInt u2), .ref q5, .int (Int32.ofInt u3), .int (Int32.ofInt u4), .int (Int32.ofInt u5), .int (Int32.ofInt u6), .long (Int64.ofInt u7), .int (Int32.ofInt u8), .int (Int32.ofInt u9), .int (Int32.ofInt u10), .ref q6, .int (Int32.ofInt u11), .ref q7, .ref q8, .int (Int32.ofInt u12), .ref q9, .ref q10, .int (Int32.ofInt u13), .int (Int32.ofInt u14), .ref q11, .int (Int32.ofInt u15), .ref q12, .ref q13, .int (Int32.ofInt u16), .long (Int64.ofInt u17), .long (Int64.ofInt u18), .ref q14, .ref q15, .ref q16, .ref q17, .ref q18, .int (Int32.ofInt u19), .ref q19, .ref q20, .ref q21, .ref q22, .ref q23, .ref q24, .ref q25, .ref q26, .ref q27, .ref q28, .ref q29, .ref q30, .long (Int64.ofInt u20), .ref q31, .int (Int32.ofInt u21)])), (q2, .inl (cA 0, 5580, .inl (za i_row)))]
def wf_HM_isChild (cA : Nat → ClassId) (q0 q1 q2 q3 q4 q5 q6 q7 q8 q9 q10 q11 q12 q13 q14 q15 q16 q17 q18 q19 q20 q21 q22 q23 q24 q25 q26 q27 q28 q29 q30 q31 : Nat) (u0 u1 u2 u3 u4 u5 u6 u7 u8 u9 u10 u11 u12 u13 u14 u15 u16 u17 u18 u19 u20 u21 : Int) (i_row : Nat → Int) (o : Int) : va_W := wd_HM_isChild cA q0 q1 q2 q3 q4 q5 q6 q7 q8 q9 q10 q11 q12 q13 q14 q15 q16 q17 q18 q19 q20 q21 q22 q23 q24 q25 q26 q27 q28 q29 q30 q31 u0 u1 u2 u3 u4 u5 u6 u7 u8 u9 u10 u11 u12 u13 u14 u15 u16 u17 u18 u19 u20 u21 i_row
def f_HM_isChild (x1 : Int) (i_row : Nat → Int) : Option (Int) :=
  zn (zi_w x1) fun v1 =>
  zg 5580 i_row 1 fun v2 =>
  zn (zi_w v2) fun v3 =>
  zn (v3 - 1) fun v4 =>
  zd1 (f_HM_in v1 0 v4) fun v5 =>
  if ¬ (zi_w v5 = 0 ∨ zi_w v5 = 1) then none else
  some v5
set_option maxHeartbeats 4000000 in
set_option maxRecDepth 100000 in
theorem c_HM_isChild (l : Launch) (ev : zEv) (dC : Nat → ClassId) (dI : Nat → Nat → Nat) (cA : Nat → ClassId) (q0 q1 q2 q3 q4 q5 q6 q7 q8 q9 q10 q11 q12 q13 q14 q15 q16 q17 q18 q19 q20 q21 q22 q23 q24 q25 q26 q27 q28 q29 q30 q31 : Nat) (u0 u1 u2 u3 u4 u5 u6 u7 u8 u9 u10 u11 u12 u13 u14 u15 u16 u17 u18 u19 u20 u21 : Int) {x1 : Int} {i_row : Nat → Int} {out : Int} (hf : f_HM_isChild x1 i_row = some out) : xc_I l ev (dC, dI) vwCl (tyl cA) yX11_isChild w_HM_isChild rm_HM_isChild [.ref q0, .int (Int32.ofInt x1)] (wd_HM_isChild cA q0 q1 q2 q3 q4 q5 q6 q7 q8 q9 q10 q11 q12 q13 q14 q15 q16 q17 q18 q19 q20 q21 q22 q23 q24 q25 q26 q27 q28 q29 q30 q31 u0 u1 u2 u3 u4 u5 u6 u7 u8 u9 u10 u11 u12 u13 u14 u15 u16 u17 u18 u19 u20 u21 i_row) (wf_HM_isChild cA q0 q1 q2 q3 q4 q5 q6 q7 q8 q9 q10 q11 q12 q13 q14 q15 q16 q17 q18 q19 q20 q21 q22 q23 q24 q25 q26 q27 q28 q29 q30 q31 u0 u1 u2 u3 u4 u5 u6 u7 u8 u9 u10 u11 u12 u13 u14 u15 u16 u17 u18 u19 u20 u21 i_row out) out := by
  refine xv_startI (cc := cX11_isChild) (maxL := 2) (rt := .boolean) (by decide +kernel) rfl (Nat.le_of_ble_eq_true rfl) ?_
  intro p e s m args below meth c A Q H ls hx hb hml hts hown hK hA hP hD hS hl hE hret
  have hown : s.vm.findClass "HillSchoolModel" = some m.cls := hown
  have hz : ∀ w ∈ zall, w.before args s = true := fun w h => hts w (List.mem_cons_of_mem _ h)
  have hl : lv_has ls 2 [(0, .ref q0), (1, .int (Int32.ofInt x1))] := hl
  unfold f_HM_isChild at hf
  refine lv_iload_n hx hb dX11_isChild_0 rfl (lv_at hl 1 rfl) ?_
  refine xi_i2l hx hb dX11_isChild_1 hf (fun v1 hf => ?_)
  refine lv_lconst (v := Int64.ofInt 0) hx hb dX11_isChild_2 (by decide) ?_
  refine lv_aload_n hx hb dX11_isChild_3 rfl (lv_at hl 0 rfl) ?_
  refine va_get (D := (dC, dI)) (ci := 11) (v := .ref q2) (C := RX11) (T := TX11) (N := 53) hx hb hz zi_X11 hown hK hP 0 rfl rfl 3 (by decide) (hz _ zw_1168) (fun _ h9 => h9) rfl dX11_isChild_4 ?_
  refine lv_iconst (v := Int32.ofInt 1) hx hb dX11_isChild_7 rfl ?_
  refine xi_iald hx hb hK hP 1 0 rfl rfl dX11_isChild_8 hf (fun v2 hf => ?_)
  refine xi_i2l hx hb dX11_isChild_9 hf (fun v3 hf => ?_)
  refine lv_lconst (v := Int64.ofInt 1) hx hb dX11_isChild_10 (by decide) ?_
  refine xl_lsub hx hb dX11_isChild_11 hf (fun v4 hf => ?_)
  refine xe_d1 hf (fun v5 hg hf => ?_)
  have hC : ([] : List Nat).map (fun i => (wd_HM_isChild cA q0 q1 q2 q3 q4 q5 q6 q7 q8 q9 q10 q11 q12 q13 q14 q15 q16 q17 q18 q19 q20 q21 q22 q23 q24 q25 q26 q27 q28 q29 q30 q31 u0 u1 u2 u3 u4 u5 u6 u7 u8 u9 u10 u11 u12 u13 u14 u15 u16 u17 u18 u19 u20 u21 i_row)[i]?) = (wd_HM_in cA).map some := rfl
  refine xv_afterI (ws' := (wd_HM_isChild cA q0 q1 q2 q3 q4 q5 q6 q7 q8 q9 q10 q11 q12 q13 q14 q15 q16 q17 q18 q19 q20 q21 q22 q23 q24 q25 q26 q27 q28 q29 q30 q31 u0 u1 u2 u3 u4 u5 u6 u7 u8 u9 u10 u11 u12 u13 u14 u15 u16 u17 u18 u19 u20 u21 i_row)) (isC := []) (ps := [none, none]) (va_runS (As := [.long (Int64.ofInt v1), .long (Int64.ofInt 0), .long (Int64.ofInt v4)]) (rest := []) ⟨hx, hb, hml, hown, hts⟩ (c_HM_in l ev dC dI cA hg H.size) (va_cwS 3 hts (zgS zw_1329 zw_1330 zw_115 zw_1331) rfl rfl rfl hd_HM_in.2 ⟨Nat.le_of_ble_eq_true rfl, Nat.le_of_ble_eq_true rfl⟩) (xv_preS hE hA hS hK hP hD (isC := []) (by decide +kernel) hC) rfl rfl hl.1 rfl (lv_room (Nat.le_of_ble_eq_true rfl)) dX11_isChild_12 ⟨Nat.le_refl _, Nat.le_refl _⟩) hP hD hS hA (by decide +kernel) rfl hC rfl rfl (fun H locs hP hD hS => ?_)
  obtain ⟨hzb, hf⟩ := xz_q hf
  obtain rfl := Option.some.inj hf
  exact hret _ _ _ _ (zz_bool hzb) dX11_isChild_15 hP hD hS
theorem dX11_change_0 : decode cX11_change 0 = .ok (.aload_n 0, 1) := by decide +kernel
theorem dX11_change_1 : decode cX11_change 1 = .ok (.getfield 13, 3) := by decide +kernel
theorem dX11_change_4 : decode cX11_change 4 = .ok (.iload_n 1, 1) := by decide +kernel
theorem dX11_change_5 : decode cX11_change 5 = .ok (.iaload, 1) := by decide +kernel
theorem dX11_change_6 : decode cX11_change 6 = .ok (.istore_n 3, 1) := by decide +kernel
theorem dX11_change_7 : decode cX11_change 7 = .ok (.aload_n 0, 1) := by decide +kernel
theorem dX11_change_8 : decode cX11_change 8 = .ok (.getfield 13, 3) := by decide +kernel
theorem dX11_change_11 : decode cX11_change 11 = .ok (.iload_n 1, 1) := by decide +kernel
theorem dX11_change_12 : decode cX11_change 12 = .ok (.iload_n 2, 1) := by decide +kernel
theorem dX11_change_13 : decode cX11_change 13 = .ok (.iastore, 1) := by decide +kernel
theorem dX11_change_14 : decode cX11_change 14 = .ok (.aload_n 0, 1) := by decide +kernel
theorem dX11_change_15 : decode cX11_change 15 = .ok (.iconst 0, 1) := by decide +kernel
theorem dX11_change_16 : decode cX11_change 16 = .ok (.putfield 129, 3) := by decide +kernel
theorem dX11_change_19 : decode cX11_change 19 = .ok (.iload_n 3, 1) := by decide +kernel
theorem dX11_change_20 : decode cX11_change 20 = .ok (.ireturn, 1) := by decide +kernel
theorem zw_1388 : (Jvm.Cond.code ({ cls := "HillSchoolModel", name := "change", desc := "(II)I" } : Jvm.MethodName) prog_13_method_7_code (4 : Nat) (Option.some Jvm.ClassFile.FieldType.int)) ∈ zall := zmemG (zmj_6 85 rfl) rfl
abbrev w_HM_change : List Cond := .code yX11_change cX11_change 4 (some .int) :: zall
abbrev rm_HM_change : Room := { frames := 0, cells := 0, slots := 0, locals := 0 }
theorem hd_HM_change : yX11_change.cls = "HillSchoolModel" ∧ yX11_change.cls ≠ "java/lang/invoke/MethodHandle" ∧ yX11_change.cls ≠ "java/lang/invoke/VarHandle" ∧ (parseMethodDescriptor yX11_change.desc).map (fun d => d.parameters.length) = some 2 := by decide +kernel
def wd_HM_change (cA : Nat → ClassId) (q0 q1 q2 q3 q4 q5 q6 q7 q8 q9 q10 q11 q12 q13 q14 q15 q16 q17 q18 q19 q20 q21 q22 q23 q24 q25 q26 q27 q28 q29 q30 q31 : Nat) (u0 u1 u2 u3 u4 u5 u6 u7 u8 u9 u10 u11 u12 u13 u14 u15 u16 u17 u18 u19 u20 : Int)  (i_status : Int) (i_row : Nat → Int) : va_W := [(q0, .inr (11, [.int (Int32.ofInt u0), .int (Int32.ofInt i_status), .ref q1, .ref q2, .ref q3, .ref q4, .int (Int32.ofInt u1), .ref q5, .int (Int32.ofInt u2), .int (Int32.ofInt u3), .int (Int32.ofInt u4), .int (Int32.ofInt u5), .long (Int64.ofInt u6), .int (Int32.ofInt u7), .int (Int32.ofInt u8), .int (Int32.ofInt u9), .ref q6, .int (Int32.ofInt u10), .ref q7, .ref q8, .int (Int32.ofInt u11), .ref q9, .ref q10, .int (Int32.ofInt u12), .int (Int32.ofInt u13), .ref q11, .int (Int32.ofInt u14), .ref q12, .ref q13, .int (Int32.ofInt u15), .long (Int64.ofInt u16), .long (Int64.ofInt u17), .ref q14, .ref q15, .ref q16, .ref q17, .ref q18, .int (Int32.ofInt u18), .ref q19, .ref q20, .ref q21, .ref q22, .ref q23, .ref q24, .ref q25, .ref q26, .ref q27, .ref q28, .ref q29, .ref q30, .long (Int64.ofInt u19), .ref q31, .int (Int32.ofInt u20)])), (q2, .inl (cA 0, 5580, .inl (za i_row)))]
def wf_HM_change (cA : Nat → ClassId) (q0 q1 q2 q3 q4 q5 q6 q7 q8 q9 q10 q11 q12 q13 q14 q15 q16 q17 q18 q19 q20 q21 q22 q23 q24 q25 q26 q27 q28 q29 q30 q31 : Nat) (u0 u1 u2 u3 u4 u5 u6 u7 u8 u9 u10 u11 u12 u13 u14 u15 u16 u17 u18 u19 u20 : Int)  (o : Int × Int × (Nat → Int)) : va_W := wd_HM_change cA q0 q1 q2 q3 q4 q5 q6 q7 q8 q9 q10 q11 q12 q13 q14 q15 q16 q17 q18 q19 q20 q21 q22 q23 q24 q25 q26 q27 q28 q29 q30 q31 u0 u1 u2 u3 u4 u5 u6 u7 u8 u9 u10 u11 u12 u13 u14 u15 u16 u17 u18 u19 u20 o.2.1 o.2.2
def f_HM_change (x1 : Int) (x2 : Int) (i_status : Int) (i_row : Nat → Int) : Option (Int × Int × (Nat → Int)) :=
  zg 5580 i_row x1 fun v1 =>
  zs 5580 i_row x1 x2 fun a2 =>
  some (v1, 0, a2)
set_option maxHeartbeats 4000000 in
set_option maxRecDepth 100000 in
theorem c_HM_change (l : Launch) (ev : zEv) (dC : Nat → ClassId) (dI : Nat → Nat → Nat) (cA : Nat → ClassId) (q0 q1 q2 q3 q4 q5 q6 q7 q8 q9 q10 q11 q12 q13 q14 q15 q16 q17 q18 q19 q20 q21 q22 q23 q24 q25 q26 q27 q28 q29 q30 q31 : Nat) (u0 u1 u2 u3 u4 u5 u6 u7 u8 u9 u10 u11 u12 u13 u14 u15 u16 u17 u18 u19 u20 : Int) {x1 x2 : Int} {i_status : Int} {i_row : Nat → Int} {out : Int × Int × (Nat → Int)} (hf : f_HM_change x1 x2 i_status i_row = some out) : xc_I l ev (dC, dI) vwCl (tyl cA) yX11_change w_HM_change rm_HM_change [.ref q0, .int (Int32.ofInt x1), .int (Int32.ofInt x2)] (wd_HM_change cA q0 q1 q2 q3 q4 q5 q6 q7 q8 q9 q10 q11 q12 q13 q14 q15 q16 q17 q18 q19 q20 q21 q22 q23 q24 q25 q26 q27 q28 q29 q30 q31 u0 u1 u2 u3 u4 u5 u6 u7 u8 u9 u10 u11 u12 u13 u14 u15 u16 u17 u18 u19 u20 i_status i_row) (wf_HM_change cA q0 q1 q2 q3 q4 q5 q6 q7 q8 q9 q10 q11 q12 q13 q14 q15 q16 q17 q18 q19 q20 q21 q22 q23 q24 q25 q26 q27 q28 q29 q30 q31 u0 u1 u2 u3 u4 u5 u6 u7 u8 u9 u10 u11 u12 u13 u14 u15 u16 u17 u18 u19 u20 out) out.1 := by
  refine xv_startI (cc := cX11_change) (maxL := 4) (rt := .int) (by decide +kernel) rfl (Nat.le_of_ble_eq_true rfl) ?_
  intro p e s m args below meth c A Q H ls hx hb hml hts hown hK hA hP hD hS hl hE hret
  have hown : s.vm.findClass "HillSchoolModel" = some m.cls := hown
  have hz : ∀ w ∈ zall, w.before args s = true := fun w h => hts w (List.mem_cons_of_mem _ h)
  have hl : lv_has ls 4 [(0, .ref q0), (1, .int (Int32.ofInt x1)), (2, .int (Int32.ofInt x2))] := hl
  unfold f_HM_change at hf
  refine lv_aload_n hx hb dX11_change_0 rfl (lv_at hl 0 rfl) ?_
  refine va_get (D := (dC, dI)) (ci := 11) (v := .ref q2) (C := RX11) (T := TX11) (N := 53) hx hb hz zi_X11 hown hK hP 0 rfl rfl 3 (by decide) (hz _ zw_1168) (fun _ h9 => h9) rfl dX11_change_1 ?_
  refine lv_iload_n hx hb dX11_change_4 rfl (lv_at hl 1 rfl) ?_
  refine xi_iald hx hb hK hP 1 0 rfl rfl dX11_change_5 hf (fun v1 hf => ?_)
  refine lv_istore_n (lv' := [(3, .int (Int32.ofInt v1)), (0, .ref q0), (1, .int (Int32.ofInt x1)), (2, .int (Int32.ofInt x2))]) hx hb dX11_change_6 rfl hl (by decide) rfl (fun ls hl => ?_)
  refine lv_aload_n hx hb dX11_change_7 rfl (lv_at hl 1 rfl) ?_
  refine va_get (D := (dC, dI)) (ci := 11) (v := .ref q2) (C := RX11) (T := TX11) (N := 53) hx hb hz zi_X11 hown hK hP 0 rfl rfl 3 (by decide) (hz _ zw_1168) (fun _ h9 => h9) rfl dX11_change_8 ?_
  refine lv_iload_n hx hb dX11_change_11 rfl (lv_at hl 2 rfl) ?_
  refine lv_iload_n hx hb dX11_change_12 rfl (lv_at hl 3 rfl) ?_
  refine xi_iast hx hb hK hP hD hS 1 0 rfl rfl dX11_change_13 hf (fun a2 H locs hP hD hS hf => ?_)
  have hP : va_P (dC, dI) vwCl (wd_HM_change cA q0 q1 q2 q3 q4 q5 q6 q7 q8 q9 q10 q11 q12 q13 q14 q15 q16 q17 q18 q19 q20 q21 q22 q23 q24 q25 q26 q27 q28 q29 q30 q31 u0 u1 u2 u3 u4 u5 u6 u7 u8 u9 u10 u11 u12 u13 u14 u15 u16 u17 u18 u19 u20 i_status a2) H := hP
  have hD : va_D A (wd_HM_change cA q0 q1 q2 q3 q4 q5 q6 q7 q8 q9 q10 q11 q12 q13 q14 q15 q16 q17 q18 q19 q20 q21 q22 q23 q24 q25 q26 q27 q28 q29 q30 q31 u0 u1 u2 u3 u4 u5 u6 u7 u8 u9 u10 u11 u12 u13 u14 u15 u16 u17 u18 u19 u20 i_status a2) := hD
  refine lv_aload_n hx hb dX11_change_14 rfl (lv_at hl 1 rfl) ?_
  refine lv_iconst (v := Int32.ofInt 0) hx hb dX11_change_15 rfl ?_
  refine va_put (D := (dC, dI)) (ci := 11) (v := .int (Int32.ofInt 0)) (ty := .int) (C := RX11) (T := TX11) (N := 53) hx hb hz zi_X11 tyX11 tyX11_ok nmX11 hown hK hP hD hS 0 rfl rfl 1 (by decide) (hz _ zw_1166) (fun _ h9 => h9) rfl (by decide +kernel) rfl rfl (Nat.le_of_ble_eq_true rfl) dX11_change_16 (fun H locs hP hD hS => ?_)
  have hP : va_P (dC, dI) vwCl (wd_HM_change cA q0 q1 q2 q3 q4 q5 q6 q7 q8 q9 q10 q11 q12 q13 q14 q15 q16 q17 q18 q19 q20 q21 q22 q23 q24 q25 q26 q27 q28 q29 q30 q31 u0 u1 u2 u3 u4 u5 u6 u7 u8 u9 u10 u11 u12 u13 u14 u15 u16 u17 u18 u19 u20 0 a2) H := hP
  have hD : va_D A (wd_HM_change cA q0 q1 q2 q3 q4 q5 q6 q7 q8 q9 q10 q11 q12 q13 q14 q15 q16 q17 q18 q19 q20 q21 q22 q23 q24 q25 q26 q27 q28 q29 q30 q31 u0 u1 u2 u3 u4 u5 u6 u7 u8 u9 u10 u11 u12 u13 u14 u15 u16 u17 u18 u19 u20 0 a2) := hD
  refine lv_iload_n hx hb dX11_change_19 rfl (lv_at hl 0 rfl) ?_
  obtain rfl := Option.some.inj hf
  exact hret _ _ _ _ rfl dX11_change_20 hP hD hS
theorem dX11_expel_0 : decode cX11_expel 0 = .ok (.aload_n 0, 1) := by decide +kernel
theorem dX11_expel_1 : decode cX11_expel 1 = .ok (.iconst 0, 1) := by decide +kernel
theorem dX11_expel_2 : decode cX11_expel 2 = .ok (.putfield 126, 3) := by decide +kernel
theorem dX11_expel_5 : decode cX11_expel 5 = .ok (.iload_n 2, 1) := by decide +kernel
theorem dX11_expel_6 : decode cX11_expel 6 = .ok (.i2l, 1) := by decide +kernel
theorem dX11_expel_7 : decode cX11_expel 7 = .ok (.lconst 0, 1) := by decide +kernel
theorem dX11_expel_8 : decode cX11_expel 8 = .ok (.lconst 1, 1) := by decide +kernel
theorem dX11_expel_9 : decode cX11_expel 9 = .ok (.invokestatic 132, 3) := by decide +kernel
theorem dX11_expel_12 : decode cX11_expel 12 = .ok (.ifCond .ne 9, 3) := by decide +kernel
theorem dX11_expel_15 : decode cX11_expel 15 = .ok (.aload_n 0, 1) := by decide +kernel
theorem dX11_expel_16 : decode cX11_expel 16 = .ok (.iconst (-1), 1) := by decide +kernel
theorem dX11_expel_17 : decode cX11_expel 17 = .ok (.invokevirtual 136, 3) := by decide +kernel
theorem dX11_expel_20 : decode cX11_expel 20 = .ok (.ireturn, 1) := by decide +kernel
theorem dX11_expel_21 : decode cX11_expel 21 = .ok (.aload_n 0, 1) := by decide +kernel
theorem dX11_expel_22 : decode cX11_expel 22 = .ok (.iload_n 1, 1) := by decide +kernel
theorem dX11_expel_23 : decode cX11_expel 23 = .ok (.invokevirtual 155, 3) := by decide +kernel
theorem dX11_expel_26 : decode cX11_expel 26 = .ok (.ifCond .eq 20, 3) := by decide +kernel
theorem dX11_expel_29 : decode cX11_expel 29 = .ok (.aload_n 0, 1) := by decide +kernel
theorem dX11_expel_30 : decode cX11_expel 30 = .ok (.sipush 153, 3) := by decide +kernel
theorem dX11_expel_33 : decode cX11_expel 33 = .ok (.iconst 3, 1) := by decide +kernel
theorem dX11_expel_34 : decode cX11_expel 34 = .ok (.iload_n 1, 1) := by decide +kernel
theorem dX11_expel_35 : decode cX11_expel 35 = .ok (.imul, 1) := by decide +kernel
theorem dX11_expel_36 : decode cX11_expel 36 = .ok (.iadd, 1) := by decide +kernel
theorem dX11_expel_37 : decode cX11_expel 37 = .ok (.iconst 1, 1) := by decide +kernel
theorem dX11_expel_38 : decode cX11_expel 38 = .ok (.iadd, 1) := by decide +kernel
theorem dX11_expel_39 : decode cX11_expel 39 = .ok (.iload_n 2, 1) := by decide +kernel
theorem dX11_expel_40 : decode cX11_expel 40 = .ok (.invokevirtual 158, 3) := by decide +kernel
theorem dX11_expel_43 : decode cX11_expel 43 = .ok (.goto 9, 3) := by decide +kernel
theorem dX11_expel_46 : decode cX11_expel 46 = .ok (.aload_n 0, 1) := by decide +kernel
theorem dX11_expel_47 : decode cX11_expel 47 = .ok (.bipush (-2), 2) := by decide +kernel
theorem dX11_expel_49 : decode cX11_expel 49 = .ok (.invokevirtual 136, 3) := by decide +kernel
theorem dX11_expel_52 : decode cX11_expel 52 = .ok (.ireturn, 1) := by decide +kernel
theorem zw_43 : (Jvm.Cond.selects "HillSchoolModel" ({ cls := "HillSchoolModel", name := "isChild", desc := "(I)Z" } : Jvm.MethodName) ({ cls := "HillSchoolModel", name := "isChild", desc := "(I)Z" } : Jvm.MethodName)) ∈ zall := zmemG (zmj_0 43 rfl) rfl
theorem zw_44 : (Jvm.Cond.selects "HillSchoolModel" ({ cls := "HillSchoolModel", name := "change", desc := "(II)I" } : Jvm.MethodName) ({ cls := "HillSchoolModel", name := "change", desc := "(II)I" } : Jvm.MethodName)) ∈ zall := zmemG (zmj_0 44 rfl) rfl
theorem zw_1380 : (Jvm.Cond.code ({ cls := "HillSchoolModel", name := "expel", desc := "(II)I" } : Jvm.MethodName) prog_13_method_20_code (3 : Nat) (Option.some Jvm.ClassFile.FieldType.int)) ∈ zall := zmemG (zmj_6 77 rfl) rfl
theorem zw_1381 : (Jvm.Cond.methodLink "HillSchoolModel" (155 : Nat) ({ cls := "HillSchoolModel", name := "isChild", desc := "(I)Z" } : Jvm.MethodName)) ∈ zall := zmemG (zmj_6 78 rfl) rfl
theorem zw_1383 : (Jvm.Cond.instanceMethod ({ cls := "HillSchoolModel", name := "isChild", desc := "(I)Z" } : Jvm.MethodName)) ∈ zall := zmemG (zmj_6 80 rfl) rfl
theorem zw_1385 : (Jvm.Cond.methodLink "HillSchoolModel" (158 : Nat) ({ cls := "HillSchoolModel", name := "change", desc := "(II)I" } : Jvm.MethodName)) ∈ zall := zmemG (zmj_6 82 rfl) rfl
theorem zw_1387 : (Jvm.Cond.instanceMethod ({ cls := "HillSchoolModel", name := "change", desc := "(II)I" } : Jvm.MethodName)) ∈ zall := zmemG (zmj_6 84 rfl) rfl
abbrev w_HM_expel : List Cond := .code yX11_expel cX11_expel 3 (some .int) :: zall
abbrev rm_HM_expel : Room := { frames := 2, cells := 0, slots := 0, locals := 46 }
theorem hd_HM_expel : yX11_expel.cls = "HillSchoolModel" ∧ yX11_expel.cls ≠ "java/lang/invoke/MethodHandle" ∧ yX11_expel.cls ≠ "java/lang/invoke/VarHandle" ∧ (parseMethodDescriptor yX11_expel.desc).map (fun d => d.parameters.length) = some 2 := by decide +kernel
def wd_HM_expel (cA : Nat → ClassId) (q0 q1 q2 q3 q4 q5 q6 q7 q8 q9 q10 q11 q12 q13 q14 q15 q16 q17 q18 q19 q20 q21 q22 q23 q24 q25 q26 q27 q28 q29 q30 q31 : Nat) (u0 u1 u2 u3 u4 u5 u6 u7 u8 u9 u10 u11 u12 u13 u14 u15 u16 u17 u18 u19 : Int)  (i_thrown : Int) (i_status : Int) (i_refusals : Nat → Int) (i_row : Nat → Int) : va_W := [(q0, .inr (11, [.int (Int32.ofInt i_thrown), .int (Int32.ofInt i_status), .ref q1, .ref q2, .ref q3, .ref q4, .int (Int32.ofInt u0), .ref q5, .int (Int32.ofInt u1), .int (Int32.ofInt u2), .int (Int32.ofInt u3), .int (Int32.ofInt u4), .long (Int64.ofInt u5), .int (Int32.ofInt u6), .int (Int32.ofInt u7), .int (Int32.ofInt u8), .ref q6, .int (Int32.ofInt u9), .ref q7, .ref q8, .int (Int32.ofInt u10), .ref q9, .ref q10, .int (Int32.ofInt u11), .int (Int32.ofInt u12), .ref q11, .int (Int32.ofInt u13), .ref q12, .ref q13, .int (Int32.ofInt u14), .long (Int64.ofInt u15), .long (Int64.ofInt u16), .ref q14, .ref q15, .ref q16, .ref q17, .ref q18, .int (Int32.ofInt u17), .ref q19, .ref q20, .ref q21, .ref q22, .ref q23, .ref q24, .ref q25, .ref q26, .ref q27, .ref q28, .ref q29, .ref q30, .long (Int64.ofInt u18), .ref q31, .int (Int32.ofInt u19)])), (q1, .inl (cA 0, 7, .inl (za i_refusals))), (q2, .inl (cA 0, 5580, .inl (za i_row)))]
def wf_HM_expel (cA : Nat → ClassId) (q0 q1 q2 q3 q4 q5 q6 q7 q8 q9 q10 q11 q12 q13 q14 q15 q16 q17 q18 q19 q20 q21 q22 q23 q24 q25 q26 q27 q28 q29 q30 q31 : Nat) (u0 u1 u2 u3 u4 u5 u6 u7 u8 u9 u10 u11 u12 u13 u14 u15 u16 u17 u18 u19 : Int)  (o : Int × Int × Int × (Nat → Int) × (Nat → Int)) : va_W := wd_HM_expel cA q0 q1 q2 q3 q4 q5 q6 q7 q8 q9 q10 q11 q12 q13 q14 q15 q16 q17 q18 q19 q20 q21 q22 q23 q24 q25 q26 q27 q28 q29 q30 q31 u0 u1 u2 u3 u4 u5 u6 u7 u8 u9 u10 u11 u12 u13 u14 u15 u16 u17 u18 u19 o.2.1 o.2.2.1 o.2.2.2.1 o.2.2.2.2
def f_HM_expel (x1 : Int) (x2 : Int) (i_thrown : Int) (i_status : Int) (i_refusals : Nat → Int) (i_row : Nat → Int) : Option (Int × Int × Int × (Nat → Int) × (Nat → Int)) :=
  zn (zi_w x2) fun v1 =>
  zd1 (f_HM_in v1 0 1) fun v2 =>
  if zi_w v2 ≠ 0 then
    zd1 (f_HM_isChild x1 i_row) fun v3 =>
    if zi_w v3 = 0 then
      zd3 (f_HM_tell (-2) i_status i_refusals) fun v4 v5 a6 =>
      some (v4, 0, v5, a6, i_row)
    else
      zn (3 * x1) fun v7 =>
      zn (153 + v7) fun v8 =>
      zn (v8 + 1) fun v9 =>
      zd3 (f_HM_change v9 x2 i_status i_row) fun v10 v11 a12 =>
      some (v10, 0, v11, i_refusals, a12)
  else
    zd3 (f_HM_tell (-1) i_status i_refusals) fun v13 v14 a15 =>
    some (v13, 0, v14, a15, i_row)
set_option maxHeartbeats 4000000 in
set_option maxRecDepth 100000 in
theorem c_HM_expel (l : Launch) (ev : zEv) (dC : Nat → ClassId) (dI : Nat → Nat → Nat) (cA : Nat → ClassId) (q0 q1 q2 q3 q4 q5 q6 q7 q8 q9 q10 q11 q12 q13 q14 q15 q16 q17 q18 q19 q20 q21 q22 q23 q24 q25 q26 q27 q28 q29 q30 q31 : Nat) (u0 u1 u2 u3 u4 u5 u6 u7 u8 u9 u10 u11 u12 u13 u14 u15 u16 u17 u18 u19 : Int) {x1 x2 : Int} {i_thrown : Int} {i_status : Int} {i_refusals : Nat → Int} {i_row : Nat → Int} {out : Int × Int × Int × (Nat → Int) × (Nat → Int)} (hf : f_HM_expel x1 x2 i_thrown i_status i_refusals i_row = some out) : xc_I l ev (dC, dI) vwCl (tyl cA) yX11_expel w_HM_expel rm_HM_expel [.ref q0, .int (Int32.ofInt x1), .int (Int32.ofInt x2)] (wd_HM_expel cA q0 q1 q2 q3 q4 q5 q6 q7 q8 q9 q10 q11 q12 q13 q14 q15 q16 q17 q18 q19 q20 q21 q22 q23 q24 q25 q26 q27 q28 q29 q30 q31 u0 u1 u2 u3 u4 u5 u6 u7 u8 u9 u10 u11 u12 u13 u14 u15 u16 u17 u18 u19 i_thrown i_status i_refusals i_row) (wf_HM_expel cA q0 q1 q2 q3 q4 q5 q6 q7 q8 q9 q10 q11 q12 q13 q14 q15 q16 q17 q18 q19 q20 q21 q22 q23 q24 q25 q26 q27 q28 q29 q30 q31 u0 u1 u2 u3 u4 u5 u6 u7 u8 u9 u10 u11 u12 u13 u14 u15 u16 u17 u18 u19 out) out.1 := by
  refine xv_startI (cc := cX11_expel) (maxL := 3) (rt := .int) (by decide +kernel) rfl (Nat.le_of_ble_eq_true rfl) ?_
  intro p e s m args below meth c A Q H ls hx hb hml hts hown hK hA hP hD hS hl hE hret
  have hown : s.vm.findClass "HillSchoolModel" = some m.cls := hown
  have hz : ∀ w ∈ zall, w.before args s = true := fun w h => hts w (List.mem_cons_of_mem _ h)
  have hl : lv_has ls 3 [(0, .ref q0), (1, .int (Int32.ofInt x1)), (2, .int (Int32.ofInt x2))] := hl
  unfold f_HM_expel at hf
  refine lv_aload_n hx hb dX11_expel_0 rfl (lv_at hl 0 rfl) ?_
  refine lv_iconst (v := Int32.ofInt 0) hx hb dX11_expel_1 rfl ?_
  refine va_put (D := (dC, dI)) (ci := 11) (v := .int (Int32.ofInt 0)) (ty := .int) (C := RX11) (T := TX11) (N := 53) hx hb hz zi_X11 tyX11 tyX11_ok nmX11 hown hK hP hD hS 0 rfl rfl 0 (by decide) (hz _ zw_1165) (fun _ h9 => h9) rfl (by decide +kernel) rfl rfl (Nat.le_of_ble_eq_true rfl) dX11_expel_2 (fun H locs hP hD hS => ?_)
  have hP : va_P (dC, dI) vwCl (wd_HM_expel cA q0 q1 q2 q3 q4 q5 q6 q7 q8 q9 q10 q11 q12 q13 q14 q15 q16 q17 q18 q19 q20 q21 q22 q23 q24 q25 q26 q27 q28 q29 q30 q31 u0 u1 u2 u3 u4 u5 u6 u7 u8 u9 u10 u11 u12 u13 u14 u15 u16 u17 u18 u19 0 i_status i_refusals i_row) H := hP
  have hD : va_D A (wd_HM_expel cA q0 q1 q2 q3 q4 q5 q6 q7 q8 q9 q10 q11 q12 q13 q14 q15 q16 q17 q18 q19 q20 q21 q22 q23 q24 q25 q26 q27 q28 q29 q30 q31 u0 u1 u2 u3 u4 u5 u6 u7 u8 u9 u10 u11 u12 u13 u14 u15 u16 u17 u18 u19 0 i_status i_refusals i_row) := hD
  refine lv_iload_n hx hb dX11_expel_5 rfl (lv_at hl 2 rfl) ?_
  refine xi_i2l hx hb dX11_expel_6 hf (fun v1 hf => ?_)
  refine lv_lconst (v := Int64.ofInt 0) hx hb dX11_expel_7 (by decide) ?_
  refine lv_lconst (v := Int64.ofInt 1) hx hb dX11_expel_8 (by decide) ?_
  refine xe_d1 hf (fun v2 hg hf => ?_)
  have hC : ([] : List Nat).map (fun i => (wd_HM_expel cA q0 q1 q2 q3 q4 q5 q6 q7 q8 q9 q10 q11 q12 q13 q14 q15 q16 q17 q18 q19 q20 q21 q22 q23 q24 q25 q26 q27 q28 q29 q30 q31 u0 u1 u2 u3 u4 u5 u6 u7 u8 u9 u10 u11 u12 u13 u14 u15 u16 u17 u18 u19 0 i_status i_refusals i_row)[i]?) = (wd_HM_in cA).map some := rfl
  refine xv_afterI (ws' := (wd_HM_expel cA q0 q1 q2 q3 q4 q5 q6 q7 q8 q9 q10 q11 q12 q13 q14 q15 q16 q17 q18 q19 q20 q21 q22 q23 q24 q25 q26 q27 q28 q29 q30 q31 u0 u1 u2 u3 u4 u5 u6 u7 u8 u9 u10 u11 u12 u13 u14 u15 u16 u17 u18 u19 0 i_status i_refusals i_row)) (isC := []) (ps := [none, none, none]) (va_runS (As := [.long (Int64.ofInt v1), .long (Int64.ofInt 0), .long (Int64.ofInt 1)]) (rest := []) ⟨hx, hb, hml, hown, hts⟩ (c_HM_in l ev dC dI cA hg H.size) (va_cwS 3 hts (zgS zw_1329 zw_1330 zw_115 zw_1331) rfl rfl rfl hd_HM_in.2 ⟨Nat.le_of_ble_eq_true rfl, Nat.le_of_ble_eq_true rfl⟩) (xv_preS hE hA hS hK hP hD (isC := []) (by decide +kernel) hC) rfl rfl hl.1 rfl (lv_room (Nat.le_of_ble_eq_true rfl)) dX11_expel_9 ⟨Nat.le_refl _, Nat.le_refl _⟩) hP hD hS hA (by decide +kernel) rfl hC rfl rfl (fun H locs hP hD hS => ?_)
  refine xi_if_ne (tgt := 21) hx hb dX11_expel_12 (by decide) hf (fun hf => ?_) (fun hf => ?_)
  · refine lv_aload_n hx hb dX11_expel_21 rfl (lv_at hl 0 rfl) ?_
    refine lv_iload_n hx hb dX11_expel_22 rfl (lv_at hl 1 rfl) ?_
    refine xe_d1 hf (fun v3 hg hf => ?_)
    have hC : ([0, 2] : List Nat).map (fun i => (wd_HM_expel cA q0 q1 q2 q3 q4 q5 q6 q7 q8 q9 q10 q11 q12 q13 q14 q15 q16 q17 q18 q19 q20 q21 q22 q23 q24 q25 q26 q27 q28 q29 q30 q31 u0 u1 u2 u3 u4 u5 u6 u7 u8 u9 u10 u11 u12 u13 u14 u15 u16 u17 u18 u19 0 i_status i_refusals i_row)[i]?) = (wd_HM_isChild cA q0 q1 q2 q3 q4 q5 q6 q7 q8 q9 q10 q11 q12 q13 q14 q15 q16 q17 q18 q19 q20 q21 q22 q23 q24 q25 q26 q27 q28 q29 q30 q31 0 i_status u0 u1 u2 u3 u4 u5 u6 u7 u8 u9 u10 u11 u12 u13 u14 u15 u16 u17 u18 u19 i_row).map some := rfl
    refine xv_afterI (ws' := (wd_HM_expel cA q0 q1 q2 q3 q4 q5 q6 q7 q8 q9 q10 q11 q12 q13 q14 q15 q16 q17 q18 q19 q20 q21 q22 q23 q24 q25 q26 q27 q28 q29 q30 q31 u0 u1 u2 u3 u4 u5 u6 u7 u8 u9 u10 u11 u12 u13 u14 u15 u16 u17 u18 u19 0 i_status i_refusals i_row)) (isC := [0, 2]) (ps := [some 0, none, some 1]) (va_runV (As := [.int (Int32.ofInt x1)]) (rest := []) ⟨hx, hb, hml, hown, hts⟩ (c_HM_isChild l ev dC dI cA q0 q1 q2 q3 q4 q5 q6 q7 q8 q9 q10 q11 q12 q13 q14 q15 q16 q17 q18 q19 q20 q21 q22 q23 q24 q25 q26 q27 q28 q29 q30 q31 0 i_status u0 u1 u2 u3 u4 u5 u6 u7 u8 u9 u10 u11 u12 u13 u14 u15 u16 u17 u18 u19 hg H.size) (cwV 1 hts (zgV zw_1381 zw_1383 zw_43 zw_115 zw_1384) rfl rfl rfl hd_HM_isChild ⟨Nat.le_of_ble_eq_true rfl, Nat.le_of_ble_eq_true rfl⟩) (xv_preV (T := TX11) (N := 53) hE hA hS hK hP hD (isC := [0, 2]) (by decide +kernel) hC (q0 := 0) (ci := 11) rfl rfl) rfl rfl hl.1 rfl (lv_room (Nat.le_of_ble_eq_true rfl)) dX11_expel_23 ⟨Nat.le_refl _, Nat.le_refl _⟩) hP hD hS hA (by decide +kernel) rfl hC rfl rfl (fun H locs hP hD hS => ?_)
    refine xi_if_eq (tgt := 46) hx hb dX11_expel_26 (by decide) hf (fun hf => ?_) (fun hf => ?_)
    · refine lv_aload_n hx hb dX11_expel_46 rfl (lv_at hl 0 rfl) ?_
      refine lv_bipush (v := Int32.ofInt (-2)) hx hb dX11_expel_47 (by decide) ?_
      refine xe_d3 hf (fun v4 v5 a6 hg hf => ?_)
      have hC : ([0, 1] : List Nat).map (fun i => (wd_HM_expel cA q0 q1 q2 q3 q4 q5 q6 q7 q8 q9 q10 q11 q12 q13 q14 q15 q16 q17 q18 q19 q20 q21 q22 q23 q24 q25 q26 q27 q28 q29 q30 q31 u0 u1 u2 u3 u4 u5 u6 u7 u8 u9 u10 u11 u12 u13 u14 u15 u16 u17 u18 u19 0 i_status i_refusals i_row)[i]?) = (wd_HM_tell cA q0 q1 q2 q3 q4 q5 q6 q7 q8 q9 q10 q11 q12 q13 q14 q15 q16 q17 q18 q19 q20 q21 q22 q23 q24 q25 q26 q27 q28 q29 q30 q31 0 u0 u1 u2 u3 u4 u5 u6 u7 u8 u9 u10 u11 u12 u13 u14 u15 u16 u17 u18 u19 i_status i_refusals).map some := rfl
      refine xv_afterI (ws' := (wd_HM_expel cA q0 q1 q2 q3 q4 q5 q6 q7 q8 q9 q10 q11 q12 q13 q14 q15 q16 q17 q18 q19 q20 q21 q22 q23 q24 q25 q26 q27 q28 q29 q30 q31 u0 u1 u2 u3 u4 u5 u6 u7 u8 u9 u10 u11 u12 u13 u14 u15 u16 u17 u18 u19 0 v5 a6 i_row)) (isC := [0, 1]) (ps := [some 0, some 1, none]) (va_runV (As := [.int (Int32.ofInt (-2))]) (rest := []) ⟨hx, hb, hml, hown, hts⟩ (c_HM_tell l ev dC dI cA q0 q1 q2 q3 q4 q5 q6 q7 q8 q9 q10 q11 q12 q13 q14 q15 q16 q17 q18 q19 q20 q21 q22 q23 q24 q25 q26 q27 q28 q29 q30 q31 0 u0 u1 u2 u3 u4 u5 u6 u7 u8 u9 u10 u11 u12 u13 u14 u15 u16 u17 u18 u19 hg H.size) (cwV 1 hts (zgV zw_1332 zw_1334 zw_40 zw_115 zw_1335) rfl rfl rfl hd_HM_tell ⟨Nat.le_of_ble_eq_true rfl, Nat.le_of_ble_eq_true rfl⟩) (xv_preV (T := TX11) (N := 53) hE hA hS hK hP hD (isC := [0, 1]) (by decide +kernel) hC (q0 := 0) (ci := 11) rfl rfl) rfl rfl hl.1 rfl (lv_room (Nat.le_of_ble_eq_true rfl)) dX11_expel_49 ⟨Nat.le_refl _, Nat.le_refl _⟩) hP hD hS hA (by decide +kernel) rfl hC rfl rfl (fun H locs hP hD hS => ?_)
      obtain rfl := Option.some.inj hf
      exact hret _ _ _ _ rfl dX11_expel_52 hP hD hS
    · refine lv_aload_n hx hb dX11_expel_29 rfl (lv_at hl 0 rfl) ?_
      refine lv_sipush (v := Int32.ofInt 153) hx hb dX11_expel_30 (by decide) ?_
      refine lv_iconst (v := Int32.ofInt 3) hx hb dX11_expel_33 rfl ?_
      refine lv_iload_n hx hb dX11_expel_34 rfl (lv_at hl 1 rfl) ?_
      refine xi_imul hx hb dX11_expel_35 hf (fun v7 hf => ?_)
      refine xi_iadd hx hb dX11_expel_36 hf (fun v8 hf => ?_)
      refine lv_iconst (v := Int32.ofInt 1) hx hb dX11_expel_37 rfl ?_
      refine xi_iadd hx hb dX11_expel_38 hf (fun v9 hf => ?_)
      refine lv_iload_n hx hb dX11_expel_39 rfl (lv_at hl 2 rfl) ?_
      refine xe_d3 hf (fun v10 v11 a12 hg hf => ?_)
      have hC : ([0, 2] : List Nat).map (fun i => (wd_HM_expel cA q0 q1 q2 q3 q4 q5 q6 q7 q8 q9 q10 q11 q12 q13 q14 q15 q16 q17 q18 q19 q20 q21 q22 q23 q24 q25 q26 q27 q28 q29 q30 q31 u0 u1 u2 u3 u4 u5 u6 u7 u8 u9 u10 u11 u12 u13 u14 u15 u16 u17 u18 u19 0 i_status i_refusals i_row)[i]?) = (wd_HM_change cA q0 q1 q2 q3 q4 q5 q6 q7 q8 q9 q10 q11 q12 q13 q14 q15 q16 q17 q18 q19 q20 q21 q22 q23 q24 q25 q26 q27 q28 q29 q30 q31 0 u0 u1 u2 u3 u4 u5 u6 u7 u8 u9 u10 u11 u12 u13 u14 u15 u16 u17 u18 u19 i_status i_row).map some := rfl
      refine xv_afterI (ws' := (wd_HM_expel cA q0 q1 q2 q3 q4 q5 q6 q7 q8 q9 q10 q11 q12 q13 q14 q15 q16 q17 q18 q19 q20 q21 q22 q23 q24 q25 q26 q27 q28 q29 q30 q31 u0 u1 u2 u3 u4 u5 u6 u7 u8 u9 u10 u11 u12 u13 u14 u15 u16 u17 u18 u19 0 v11 i_refusals a12)) (isC := [0, 2]) (ps := [some 0, none, some 1]) (va_runV (As := [.int (Int32.ofInt v9), .int (Int32.ofInt x2)]) (rest := []) ⟨hx, hb, hml, hown, hts⟩ (c_HM_change l ev dC dI cA q0 q1 q2 q3 q4 q5 q6 q7 q8 q9 q10 q11 q12 q13 q14 q15 q16 q17 q18 q19 q20 q21 q22 q23 q24 q25 q26 q27 q28 q29 q30 q31 0 u0 u1 u2 u3 u4 u5 u6 u7 u8 u9 u10 u11 u12 u13 u14 u15 u16 u17 u18 u19 hg H.size) (cwV 2 hts (zgV zw_1385 zw_1387 zw_44 zw_115 zw_1388) rfl rfl rfl hd_HM_change ⟨Nat.le_of_ble_eq_true rfl, Nat.le_of_ble_eq_true rfl⟩) (xv_preV (T := TX11) (N := 53) hE hA hS hK hP hD (isC := [0, 2]) (by decide +kernel) hC (q0 := 0) (ci := 11) rfl rfl) rfl rfl hl.1 rfl (lv_room (Nat.le_of_ble_eq_true rfl)) dX11_expel_40 ⟨Nat.le_refl _, Nat.le_refl _⟩) hP hD hS hA (by decide +kernel) rfl hC rfl rfl (fun H locs hP hD hS => ?_)
      refine lv_goto (tgt := 52) hx hb dX11_expel_43 (by decide) ?_
      obtain rfl := Option.some.inj hf
      exact hret _ _ _ _ rfl dX11_expel_52 hP hD hS
  · refine lv_aload_n hx hb dX11_expel_15 rfl (lv_at hl 0 rfl) ?_
    refine lv_iconst (v := Int32.ofInt (-1)) hx hb dX11_expel_16 rfl ?_
    refine xe_d3 hf (fun v13 v14 a15 hg hf => ?_)
    have hC : ([0, 1] : List Nat).map (fun i => (wd_HM_expel cA q0 q1 q2 q3 q4 q5 q6 q7 q8 q9 q10 q11 q12 q13 q14 q15 q16 q17 q18 q19 q20 q21 q22 q23 q24 q25 q26 q27 q28 q29 q30 q31 u0 u1 u2 u3 u4 u5 u6 u7 u8 u9 u10 u11 u12 u13 u14 u15 u16 u17 u18 u19 0 i_status i_refusals i_row)[i]?) = (wd_HM_tell cA q0 q1 q2 q3 q4 q5 q6 q7 q8 q9 q10 q11 q12 q13 q14 q15 q16 q17 q18 q19 q20 q21 q22 q23 q24 q25 q26 q27 q28 q29 q30 q31 0 u0 u1 u2 u3 u4 u5 u6 u7 u8 u9 u10 u11 u12 u13 u14 u15 u16 u17 u18 u19 i_status i_refusals).map some := rfl
    refine xv_afterI (ws' := (wd_HM_expel cA q0 q1 q2 q3 q4 q5 q6 q7 q8 q9 q10 q11 q12 q13 q14 q15 q16 q17 q18 q19 q20 q21 q22 q23 q24 q25 q26 q27 q28 q29 q30 q31 u0 u1 u2 u3 u4 u5 u6 u7 u8 u9 u10 u11 u12 u13 u14 u15 u16 u17 u18 u19 0 v14 a15 i_row)) (isC := [0, 1]) (ps := [some 0, some 1, none]) (va_runV (As := [.int (Int32.ofInt (-1))]) (rest := []) ⟨hx, hb, hml, hown, hts⟩ (c_HM_tell l ev dC dI cA q0 q1 q2 q3 q4 q5 q6 q7 q8 q9 q10 q11 q12 q13 q14 q15 q16 q17 q18 q19 q20 q21 q22 q23 q24 q25 q26 q27 q28 q29 q30 q31 0 u0 u1 u2 u3 u4 u5 u6 u7 u8 u9 u10 u11 u12 u13 u14 u15 u16 u17 u18 u19 hg H.size) (cwV 1 hts (zgV zw_1332 zw_1334 zw_40 zw_115 zw_1335) rfl rfl rfl hd_HM_tell ⟨Nat.le_of_ble_eq_true rfl, Nat.le_of_ble_eq_true rfl⟩) (xv_preV (T := TX11) (N := 53) hE hA hS hK hP hD (isC := [0, 1]) (by decide +kernel) hC (q0 := 0) (ci := 11) rfl rfl) rfl rfl hl.1 rfl (lv_room (Nat.le_of_ble_eq_true rfl)) dX11_expel_17 ⟨Nat.le_refl _, Nat.le_refl _⟩) hP hD hS hA (by decide +kernel) rfl hC rfl rfl (fun H locs hP hD hS => ?_)
    obtain rfl := Option.some.inj hf
    exact hret _ _ _ _ rfl dX11_expel_20 hP hD hS
