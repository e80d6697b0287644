theorem dX11_trips_0 : decode cX11_trips 0 = .ok (.aload_n 0, 1) := by decide +kernel
theorem dX11_trips_1 : decode cX11_trips 1 = .ok (.iconst 0, 1) := by decide +kernel
theorem dX11_trips_2 : decode cX11_trips 2 = .ok (.putfield 126, 3) := by decide +kernel
theorem dX11_trips_5 : decode cX11_trips 5 = .ok (.iload_n 2, 1) := by decide +kernel
theorem dX11_trips_6 : decode cX11_trips 6 = .ok (.i2l, 1) := by decide +kernel
theorem dX11_trips_7 : decode cX11_trips 7 = .ok (.lconst 0, 1) := by decide +kernel
theorem dX11_trips_8 : decode cX11_trips 8 = .ok (.ldc2_w 237, 3) := by decide +kernel
theorem dX11_trips_11 : decode cX11_trips 11 = .ok (.invokestatic 132, 3) := by decide +kernel
theorem dX11_trips_14 : decode cX11_trips 14 = .ok (.ifCond .ne 9, 3) := by decide +kernel
theorem dX11_trips_17 : decode cX11_trips 17 = .ok (.aload_n 0, 1) := by decide +kernel
theorem dX11_trips_18 : decode cX11_trips 18 = .ok (.iconst (-1), 1) := by decide +kernel
theorem dX11_trips_19 : decode cX11_trips 19 = .ok (.invokevirtual 136, 3) := by decide +kernel
theorem dX11_trips_22 : decode cX11_trips 22 = .ok (.ireturn, 1) := by decide +kernel
theorem dX11_trips_23 : decode cX11_trips 23 = .ok (.aload_n 0, 1) := by decide +kernel
theorem dX11_trips_24 : decode cX11_trips 24 = .ok (.iload_n 1, 1) := by decide +kernel
theorem dX11_trips_25 : decode cX11_trips 25 = .ok (.invokevirtual 155, 3) := by decide +kernel
theorem dX11_trips_28 : decode cX11_trips 28 = .ok (.ifCond .eq 20, 3) := by decide +kernel
theorem dX11_trips_31 : decode cX11_trips 31 = .ok (.aload_n 0, 1) := by decide +kernel
theorem dX11_trips_32 : decode cX11_trips 32 = .ok (.sipush 153, 3) := by decide +kernel
theorem dX11_trips_35 : decode cX11_trips 35 = .ok (.iconst 3, 1) := by decide +kernel
theorem dX11_trips_36 : decode cX11_trips 36 = .ok (.iload_n 1, 1) := by decide +kernel
theorem dX11_trips_37 : decode cX11_trips 37 = .ok (.imul, 1) := by decide +kernel
theorem dX11_trips_38 : decode cX11_trips 38 = .ok (.iadd, 1) := by decide +kernel
theorem dX11_trips_39 : decode cX11_trips 39 = .ok (.iconst 2, 1) := by decide +kernel
theorem dX11_trips_40 : decode cX11_trips 40 = .ok (.iadd, 1) := by decide +kernel
theorem dX11_trips_41 : decode cX11_trips 41 = .ok (.iload_n 2, 1) := by decide +kernel
theorem dX11_trips_42 : decode cX11_trips 42 = .ok (.invokevirtual 158, 3) := by decide +kernel
theorem dX11_trips_45 : decode cX11_trips 45 = .ok (.goto 9, 3) := by decide +kernel
theorem dX11_trips_48 : decode cX11_trips 48 = .ok (.aload_n 0, 1) := by decide +kernel
theorem dX11_trips_49 : decode cX11_trips 49 = .ok (.bipush (-2), 2) := by decide +kernel
theorem dX11_trips_51 : decode cX11_trips 51 = .ok (.invokevirtual 136, 3) := by decide +kernel
theorem dX11_trips_54 : decode cX11_trips 54 = .ok (.ireturn, 1) := by decide +kernel
theorem zw_1728 : (Jvm.Cond.code ({ cls := "HillSchoolModel", name := "trips", desc := "(II)I" } : Jvm.MethodName) prog_13_method_100_code (3 : Nat) (Option.some Jvm.ClassFile.FieldType.int)) ∈ zall := zmemG (zmj_7 185 rfl) rfl
abbrev w_HM_trips : List Cond := .code yX11_trips cX11_trips 3 (some .int) :: zall
abbrev rm_HM_trips : Room := { frames := 2, cells := 0, slots := 0, locals := 46 }
theorem hd_HM_trips : yX11_trips.cls = "HillSchoolModel" ∧ yX11_trips.cls ≠ "java/lang/invoke/MethodHandle" ∧ yX11_trips.cls ≠ "java/lang/invoke/VarHandle" ∧ (parseMethodDescriptor yX11_trips.desc).map (fun d => d.parameters.length) = some 2 := by decide +kernel
def wd_HM_trips (cA : Nat → ClassId) (q0 q1 q2 q3 q4 q5 q6 q7 q8 q9 q10 q11 q12 q13 q14 q15 q16 q17 q18 q19 q20 q21 q22 q23 q24 q25 q26 q27 q28 q29 q30 q31 : Nat) (u0 u1 u2 u3 u4 u5 u6 u7 u8 u9 u10 u11 u12 u13 u14 u15 u16 u17 u18 u19 : Int)  (i_thrown : Int) (i_status : Int) (i_refusals : Nat → Int) (i_row : Nat → Int) : va_W := [(q0, .inr (11, [.int (Int32.ofInt i_thrown), .int (Int32.ofInt i_status), .ref q1, .ref q2, .ref q3, .ref q4, .int (Int32.ofInt u0), .ref q5, .int (Int32.ofInt u1), .int (Int32.ofInt u2), .int (Int32.ofInt u3), .int (Int32.ofInt u4), .long (Int64.ofInt u5), .int (Int32.ofInt u6), .int (Int32.ofInt u7), .int (Int32.ofInt u8), .ref q6, .int (Int32.ofInt u9), .ref q7, .ref q8, .int (Int32.ofInt u10), .ref q9, .ref q10, .int (Int32.ofInt u11), .int (Int32.ofInt u12), .ref q11, .int (Int32.ofInt u13), .ref q12, .ref q13, .int (Int32.ofInt u14), .long (Int64.ofInt u15), .long (Int64.ofInt u16), .ref q14, .ref q15, .ref q16, .ref q17, .ref q18, .int (Int32.ofInt u17), .ref q19, .ref q20, .ref q21, .ref q22, .ref q23, .ref q24, .ref q25, .ref q26, .ref q27, .ref q28, .ref q29, .ref q30, .long (Int64.ofInt u18), .ref q31, .int (Int32.ofInt u19)])), (q1, .inl (cA 0, 7, .inl (za i_refusals))), (q2, .inl (cA 0, 5580, .inl (za i_row)))]
def wf_HM_trips (cA : Nat → ClassId) (q0 q1 q2 q3 q4 q5 q6 q7 q8 q9 q10 q11 q12 q13 q14 q15 q16 q17 q18 q19 q20 q21 q22 q23 q24 q25 q26 q27 q28 q29 q30 q31 : Nat) (u0 u1 u2 u3 u4 u5 u6 u7 u8 u9 u10 u11 u12 u13 u14 u15 u16 u17 u18 u19 : Int)  (o : Int × Int × Int × (Nat → Int) × (Nat → Int)) : va_W := wd_HM_trips cA q0 q1 q2 q3 q4 q5 q6 q7 q8 q9 q10 q11 q12 q13 q14 q15 q16 q17 q18 q19 q20 q21 q22 q23 q24 q25 q26 q27 q28 q29 q30 q31 u0 u1 u2 u3 u4 u5 u6 u7 u8 u9 u10 u11 u12 u13 u14 u15 u16 u17 u18 u19 o.2.1 o.2.2.1 o.2.2.2.1 o.2.2.2.2
def f_HM_trips (x1 : Int) (x2 : Int) (i_thrown : Int) (i_status : Int) (i_refusals : Nat → Int) (i_row : Nat → Int) : Option (Int × Int × Int × (Nat → Int) × (Nat → Int)) :=
  zn (zi_w x2) fun v1 =>
  zd1 (f_HM_in v1 0 20) fun v2 =>
  if zi_w v2 ≠ 0 then
    zd1 (f_HM_isChild x1 i_row) fun v3 =>
    if zi_w v3 = 0 then
      zd3 (f_HM_tell (-2) i_status i_refusals) fun v4 v5 a6 =>
      some (v4, 0, v5, a6, i_row)
    else
      zn (3 * x1) fun v7 =>
      zn (153 + v7) fun v8 =>
      zn (v8 + 2) fun v9 =>
      zd3 (f_HM_change v9 x2 i_status i_row) fun v10 v11 a12 =>
      some (v10, 0, v11, i_refusals, a12)
  else
    zd3 (f_HM_tell (-1) i_status i_refusals) fun v13 v14 a15 =>
    some (v13, 0, v14, a15, i_row)
set_option maxHeartbeats 4000000 in
set_option maxRecDepth 100000 in
theorem c_HM_trips (l : Launch) (ev : zEv) (dC : Nat → ClassId) (dI : Nat → Nat → Nat) (cA : Nat → ClassId) (q0 q1 q2 q3 q4 q5 q6 q7 q8 q9 q10 q11 q12 q13 q14 q15 q16 q17 q18 q19 q20 q21 q22 q23 q24 q25 q26 q27 q28 q29 q30 q31 : Nat) (u0 u1 u2 u3 u4 u5 u6 u7 u8 u9 u10 u11 u12 u13 u14 u15 u16 u17 u18 u19 : Int) {x1 x2 : Int} {i_thrown : Int} {i_status : Int} {i_refusals : Nat → Int} {i_row : Nat → Int} {out : Int × Int × Int × (Nat → Int) × (Nat → Int)} (hf : f_HM_trips x1 x2 i_thrown i_status i_refusals i_row = some out) : xc_I l ev (dC, dI) vwCl (tyl cA) yX11_trips w_HM_trips rm_HM_trips [.ref q0, .int (Int32.ofInt x1), .int (Int32.ofInt x2)] (wd_HM_trips cA q0 q1 q2 q3 q4 q5 q6 q7 q8 q9 q10 q11 q12 q13 q14 q15 q16 q17 q18 q19 q20 q21 q22 q23 q24 q25 q26 q27 q28 q29 q30 q31 u0 u1 u2 u3 u4 u5 u6 u7 u8 u9 u10 u11 u12 u13 u14 u15 u16 u17 u18 u19 i_thrown i_status i_refusals i_row) (wf_HM_trips cA q0 q1 q2 q3 q4 q5 q6 q7 q8 q9 q10 q11 q12 q13 q14 q15 q16 q17 q18 q19 q20 q21 q22 q23 q24 q25 q26 q27 q28 q29 q30 q31 u0 u1 u2 u3 u4 u5 u6 u7 u8 u9 u10 u11 u12 u13 u14 u15 u16 u17 u18 u19 out) out.1 := by
  refine xv_startI (cc := cX11_trips) (maxL := 3) (rt := .int) (by decide +kernel) rfl (Nat.le_of_ble_eq_true rfl) ?_
  intro p e s m args below meth c A Q H ls hx hb hml hts hown hK hA hP hD hS hl hE hret
  have hown : s.vm.findClass "HillSchoolModel" = some m.cls := hown
  have hz : ∀ w ∈ zall, w.before args s = true := fun w h => hts w (List.mem_cons_of_mem _ h)
  have hl : lv_has ls 3 [(0, .ref q0), (1, .int (Int32.ofInt x1)), (2, .int (Int32.ofInt x2))] := hl
  unfold f_HM_trips at hf
  refine lv_aload_n hx hb dX11_trips_0 rfl (lv_at hl 0 rfl) ?_
  refine lv_iconst (v := Int32.ofInt 0) hx hb dX11_trips_1 rfl ?_
  refine va_put (D := (dC, dI)) (ci := 11) (v := .int (Int32.ofInt 0)) (ty := .int) (C := RX11) (T := TX11) (N := 53) hx hb hz zi_X11 tyX11 tyX11_ok nmX11 hown hK hP hD hS 0 rfl rfl 0 (by decide) (hz _ zw_1165) (fun _ h9 => h9) rfl (by decide +kernel) rfl rfl (Nat.le_of_ble_eq_true rfl) dX11_trips_2 (fun H locs hP hD hS => ?_)
  have hP : va_P (dC, dI) vwCl (wd_HM_trips cA q0 q1 q2 q3 q4 q5 q6 q7 q8 q9 q10 q11 q12 q13 q14 q15 q16 q17 q18 q19 q20 q21 q22 q23 q24 q25 q26 q27 q28 q29 q30 q31 u0 u1 u2 u3 u4 u5 u6 u7 u8 u9 u10 u11 u12 u13 u14 u15 u16 u17 u18 u19 0 i_status i_refusals i_row) H := hP
  have hD : va_D A (wd_HM_trips cA q0 q1 q2 q3 q4 q5 q6 q7 q8 q9 q10 q11 q12 q13 q14 q15 q16 q17 q18 q19 q20 q21 q22 q23 q24 q25 q26 q27 q28 q29 q30 q31 u0 u1 u2 u3 u4 u5 u6 u7 u8 u9 u10 u11 u12 u13 u14 u15 u16 u17 u18 u19 0 i_status i_refusals i_row) := hD
  refine lv_iload_n hx hb dX11_trips_5 rfl (lv_at hl 2 rfl) ?_
  refine xi_i2l hx hb dX11_trips_6 hf (fun v1 hf => ?_)
  refine lv_lconst (v := Int64.ofInt 0) hx hb dX11_trips_7 (by decide) ?_
  refine lv_ldc2 (v := Int64.ofInt 20) hx hb hown (hz _ zw_1526) dX11_trips_8 ?_
  refine xe_d1 hf (fun v2 hg hf => ?_)
  have hC : ([] : List Nat).map (fun i => (wd_HM_trips cA q0 q1 q2 q3 q4 q5 q6 q7 q8 q9 q10 q11 q12 q13 q14 q15 q16 q17 q18 q19 q20 q21 q22 q23 q24 q25 q26 q27 q28 q29 q30 q31 u0 u1 u2 u3 u4 u5 u6 u7 u8 u9 u10 u11 u12 u13 u14 u15 u16 u17 u18 u19 0 i_status i_refusals i_row)[i]?) = (wd_HM_in cA).map some := rfl
  refine xv_afterI (ws' := (wd_HM_trips cA q0 q1 q2 q3 q4 q5 q6 q7 q8 q9 q10 q11 q12 q13 q14 q15 q16 q17 q18 q19 q20 q21 q22 q23 q24 q25 q26 q27 q28 q29 q30 q31 u0 u1 u2 u3 u4 u5 u6 u7 u8 u9 u10 u11 u12 u13 u14 u15 u16 u17 u18 u19 0 i_status i_refusals i_row)) (isC := []) (ps := [none, none, none]) (va_runS (As := [.long (Int64.ofInt v1), .long (Int64.ofInt 0), .long (Int64.ofInt 20)]) (rest := []) ⟨hx, hb, hml, hown, hts⟩ (c_HM_in l ev dC dI cA hg H.size) (va_cwS 3 hts (zgS zw_1329 zw_1330 zw_115 zw_1331) rfl rfl rfl hd_HM_in.2 ⟨Nat.le_of_ble_eq_true rfl, Nat.le_of_ble_eq_true rfl⟩) (xv_preS hE hA hS hK hP hD (isC := []) (by decide +kernel) hC) rfl rfl hl.1 rfl (lv_room (Nat.le_of_ble_eq_true rfl)) dX11_trips_11 ⟨Nat.le_refl _, Nat.le_refl _⟩) hP hD hS hA (by decide +kernel) rfl hC rfl rfl (fun H locs hP hD hS => ?_)
  refine xi_if_ne (tgt := 23) hx hb dX11_trips_14 (by decide) hf (fun hf => ?_) (fun hf => ?_)
  · refine lv_aload_n hx hb dX11_trips_23 rfl (lv_at hl 0 rfl) ?_
    refine lv_iload_n hx hb dX11_trips_24 rfl (lv_at hl 1 rfl) ?_
    refine xe_d1 hf (fun v3 hg hf => ?_)
    have hC : ([0, 2] : List Nat).map (fun i => (wd_HM_trips cA q0 q1 q2 q3 q4 q5 q6 q7 q8 q9 q10 q11 q12 q13 q14 q15 q16 q17 q18 q19 q20 q21 q22 q23 q24 q25 q26 q27 q28 q29 q30 q31 u0 u1 u2 u3 u4 u5 u6 u7 u8 u9 u10 u11 u12 u13 u14 u15 u16 u17 u18 u19 0 i_status i_refusals i_row)[i]?) = (wd_HM_isChild cA q0 q1 q2 q3 q4 q5 q6 q7 q8 q9 q10 q11 q12 q13 q14 q15 q16 q17 q18 q19 q20 q21 q22 q23 q24 q25 q26 q27 q28 q29 q30 q31 0 i_status u0 u1 u2 u3 u4 u5 u6 u7 u8 u9 u10 u11 u12 u13 u14 u15 u16 u17 u18 u19 i_row).map some := rfl
    refine xv_afterI (ws' := (wd_HM_trips cA q0 q1 q2 q3 q4 q5 q6 q7 q8 q9 q10 q11 q12 q13 q14 q15 q16 q17 q18 q19 q20 q21 q22 q23 q24 q25 q26 q27 q28 q29 q30 q31 u0 u1 u2 u3 u4 u5 u6 u7 u8 u9 u10 u11 u12 u13 u14 u15 u16 u17 u18 u19 0 i_status i_refusals i_row)) (isC := [0, 2]) (ps := [some 0, none, some 1]) (va_runV (As := [.int (Int32.ofInt x1)]) (rest := []) ⟨hx, hb, hml, hown, hts⟩ (c_HM_isChild l ev dC dI cA q0 q1 q2 q3 q4 q5 q6 q7 q8 q9 q10 q11 q12 q13 q14 q15 q16 q17 q18 q19 q20 q21 q22 q23 q24 q25 q26 q27 q28 q29 q30 q31 0 i_status u0 u1 u2 u3 u4 u5 u6 u7 u8 u9 u10 u11 u12 u13 u14 u15 u16 u17 u18 u19 hg H.size) (cwV 1 hts (zgV zw_1381 zw_1383 zw_43 zw_115 zw_1384) rfl rfl rfl hd_HM_isChild ⟨Nat.le_of_ble_eq_true rfl, Nat.le_of_ble_eq_true rfl⟩) (xv_preV (T := TX11) (N := 53) hE hA hS hK hP hD (isC := [0, 2]) (by decide +kernel) hC (q0 := 0) (ci := 11) rfl rfl) rfl rfl hl.1 rfl (lv_room (Nat.le_of_ble_eq_true rfl)) dX11_trips_25 ⟨Nat.le_refl _, Nat.le_refl _⟩) hP hD hS hA (by decide +kernel) rfl hC rfl rfl (fun H locs hP hD hS => ?_)
    refine xi_if_eq (tgt := 48) hx hb dX11_trips_28 (by decide) hf (fun hf => ?_) (fun hf => ?_)
    · refine lv_aload_n hx hb dX11_trips_48 rfl (lv_at hl 0 rfl) ?_
      refine lv_bipush (v := Int32.ofInt (-2)) hx hb dX11_trips_49 (by decide) ?_
      refine xe_d3 hf (fun v4 v5 a6 hg hf => ?_)
      have hC : ([0, 1] : List Nat).map (fun i => (wd_HM_trips cA q0 q1 q2 q3 q4 q5 q6 q7 q8 q9 q10 q11 q12 q13 q14 q15 q16 q17 q18 q19 q20 q21 q22 q23 q24 q25 q26 q27 q28 q29 q30 q31 u0 u1 u2 u3 u4 u5 u6 u7 u8 u9 u10 u11 u12 u13 u14 u15 u16 u17 u18 u19 0 i_status i_refusals i_row)[i]?) = (wd_HM_tell cA q0 q1 q2 q3 q4 q5 q6 q7 q8 q9 q10 q11 q12 q13 q14 q15 q16 q17 q18 q19 q20 q21 q22 q23 q24 q25 q26 q27 q28 q29 q30 q31 0 u0 u1 u2 u3 u4 u5 u6 u7 u8 u9 u10 u11 u12 u13 u14 u15 u16 u17 u18 u19 i_status i_refusals).map some := rfl
      refine xv_afterI (ws' := (wd_HM_trips cA q0 q1 q2 q3 q4 q5 q6 q7 q8 q9 q10 q11 q12 q13 q14 q15 q16 q17 q18 q19 q20 q21 q22 q23 q24 q25 q26 q27 q28 q29 q30 q31 u0 u1 u2 u3 u4 u5 u6 u7 u8 u9 u10 u11 u12 u13 u14 u15 u16 u17 u18 u19 0 v5 a6 i_row)) (isC := [0, 1]) (ps := [some 0, some 1, none]) (va_runV (As := [.int (Int32.ofInt (-2))]) (rest := []) ⟨hx, hb, hml, hown, hts⟩ (c_HM_tell l ev dC dI cA q0 q1 q2 q3 q4 q5 q6 q7 q8 q9 q10 q11 q12 q13 q14 q15 q16 q17 q18 q19 q20 q21 q22 q23 q24 q25 q26 q27 q28 q29 q30 q31 0 u0 u1 u2 u3 u4 u5 u6 u7 u8 u9 u10 u11 u12 u13 u14 u15 u16 u17 u18 u19 hg H.size) (cwV 1 hts (zgV zw_1332 zw_1334 zw_40 zw_115 zw_1335) rfl rfl rfl hd_HM_tell ⟨Nat.le_of_ble_eq_true rfl, Nat.le_of_ble_eq_true rfl⟩) (xv_preV (T := TX11) (N := 53) hE hA hS hK hP hD (isC := [0, 1]) (by decide +kernel) hC (q0 := 0) (ci := 11) rfl rfl) rfl rfl hl.1 rfl (lv_room (Nat.le_of_ble_eq_true rfl)) dX11_trips_51 ⟨Nat.le_refl _, Nat.le_refl _⟩) hP hD hS hA (by decide +kernel) rfl hC rfl rfl (fun H locs hP hD hS => ?_)
      obtain rfl := Option.some.inj hf
      exact hret _ _ _ _ rfl dX11_trips_54 hP hD hS
    · refine lv_aload_n hx hb dX11_trips_31 rfl (lv_at hl 0 rfl) ?_
      refine lv_sipush (v := Int32.ofInt 153) hx hb dX11_trips_32 (by decide) ?_
      refine lv_iconst (v := Int32.ofInt 3) hx hb dX11_trips_35 rfl ?_
      refine lv_iload_n hx hb dX11_trips_36 rfl (lv_at hl 1 rfl) ?_
      refine xi_imul hx hb dX11_trips_37 hf (fun v7 hf => ?_)
      refine xi_iadd hx hb dX11_trips_38 hf (fun v8 hf => ?_)
      refine lv_iconst (v := Int32.ofInt 2) hx hb dX11_trips_39 rfl ?_
      refine xi_iadd hx hb dX11_trips_40 hf (fun v9 hf => ?_)
      refine lv_iload_n hx hb dX11_trips_41 rfl (lv_at hl 2 rfl) ?_
      refine xe_d3 hf (fun v10 v11 a12 hg hf => ?_)
      have hC : ([0, 2] : List Nat).map (fun i => (wd_HM_trips cA q0 q1 q2 q3 q4 q5 q6 q7 q8 q9 q10 q11 q12 q13 q14 q15 q16 q17 q18 q19 q20 q21 q22 q23 q24 q25 q26 q27 q28 q29 q30 q31 u0 u1 u2 u3 u4 u5 u6 u7 u8 u9 u10 u11 u12 u13 u14 u15 u16 u17 u18 u19 0 i_status i_refusals i_row)[i]?) = (wd_HM_change cA q0 q1 q2 q3 q4 q5 q6 q7 q8 q9 q10 q11 q12 q13 q14 q15 q16 q17 q18 q19 q20 q21 q22 q23 q24 q25 q26 q27 q28 q29 q30 q31 0 u0 u1 u2 u3 u4 u5 u6 u7 u8 u9 u10 u11 u12 u13 u14 u15 u16 u17 u18 u19 i_status i_row).map some := rfl
      refine xv_afterI (ws' := (wd_HM_trips cA q0 q1 q2 q3 q4 q5 q6 q7 q8 q9 q10 q11 q12 q13 q14 q15 q16 q17 q18 q19 q20 q21 q22 q23 q24 q25 q26 q27 q28 q29 q30 q31 u0 u1 u2 u3 u4 u5 u6 u7 u8 u9 u10 u11 u12 u13 u14 u15 u16 u17 u18 u19 0 v11 i_refusals a12)) (isC := [0, 2]) (ps := [some 0, none, some 1]) (va_runV (As := [.int (Int32.ofInt v9), .int (Int32.ofInt x2)]) (rest := []) ⟨hx, hb, hml, hown, hts⟩ (c_HM_change l ev dC dI cA q0 q1 q2 q3 q4 q5 q6 q7 q8 q9 q10 q11 q12 q13 q14 q15 q16 q17 q18 q19 q20 q21 q22 q23 q24 q25 q26 q27 q28 q29 q30 q31 0 u0 u1 u2 u3 u4 u5 u6 u7 u8 u9 u10 u11 u12 u13 u14 u15 u16 u17 u18 u19 hg H.size) (cwV 2 hts (zgV zw_1385 zw_1387 zw_44 zw_115 zw_1388) rfl rfl rfl hd_HM_change ⟨Nat.le_of_ble_eq_true rfl, Nat.le_of_ble_eq_true rfl⟩) (xv_preV (T := TX11) (N := 53) hE hA hS hK hP hD (isC := [0, 2]) (by decide +kernel) hC (q0 := 0) (ci := 11) rfl rfl) rfl rfl hl.1 rfl (lv_room (Nat.le_of_ble_eq_true rfl)) dX11_trips_42 ⟨Nat.le_refl _, Nat.le_refl _⟩) hP hD hS hA (by decide +kernel) rfl hC rfl rfl (fun H locs hP hD hS => ?_)
      refine lv_goto (tgt := 54) hx hb dX11_trips_45 (by decide) ?_
      obtain rfl := Option.some.inj hf
      exact hret _ _ _ _ rfl dX11_trips_54 hP hD hS
  · refine lv_aload_n hx hb dX11_trips_17 rfl (lv_at hl 0 rfl) ?_
    refine lv_iconst (v := Int32.ofInt (-1)) hx hb dX11_trips_18 rfl ?_
    refine xe_d3 hf (fun v13 v14 a15 hg hf => ?_)
    have hC : ([0, 1] : List Nat).map (fun i => (wd_HM_trips cA q0 q1 q2 q3 q4 q5 q6 q7 q8 q9 q10 q11 q12 q13 q14 q15 q16 q17 q18 q19 q20 q21 q22 q23 q24 q25 q26 q27 q28 q29 q30 q31 u0 u1 u2 u3 u4 u5 u6 u7 u8 u9 u10 u11 u12 u13 u14 u15 u16 u17 u18 u19 0 i_status i_refusals i_row)[i]?) = (wd_HM_tell cA q0 q1 q2 q3 q4 q5 q6 q7 q8 q9 q10 q11 q12 q13 q14 q15 q16 q17 q18 q19 q20 q21 q22 q23 q24 q25 q26 q27 q28 q29 q30 q31 0 u0 u1 u2 u3 u4 u5 u6 u7 u8 u9 u10 u11 u12 u13 u14 u15 u16 u17 u18 u19 i_status i_refusals).map some := rfl
    refine xv_afterI (ws' := (wd_HM_trips cA q0 q1 q2 q3 q4 q5 q6 q7 q8 q9 q10 q11 q12 q13 q14 q15 q16 q17 q18 q19 q20 q21 q22 q23 q24 q25 q26 q27 q28 q29 q30 q31 u0 u1 u2 u3 u4 u5 u6 u7 u8 u9 u10 u11 u12 u13 u14 u15 u16 u17 u18 u19 0 v14 a15 i_row)) (isC := [0, 1]) (ps := [some 0, some 1, none]) (va_runV (As := [.int (Int32.ofInt (-1))]) (rest := []) ⟨hx, hb, hml, hown, hts⟩ (c_HM_tell l ev dC dI cA q0 q1 q2 q3 q4 q5 q6 q7 q8 q9 q10 q11 q12 q13 q14 q15 q16 q17 q18 q19 q20 q21 q22 q23 q24 q25 q26 q27 q28 q29 q30 q31 0 u0 u1 u2 u3 u4 u5 u6 u7 u8 u9 u10 u11 u12 u13 u14 u15 u16 u17 u18 u19 hg H.size) (cwV 1 hts (zgV zw_1332 zw_1334 zw_40 zw_115 zw_1335) rfl rfl rfl hd_HM_tell ⟨Nat.le_of_ble_eq_true rfl, Nat.le_of_ble_eq_true rfl⟩) (xv_preV (T := TX11) (N := 53) hE hA hS hK hP hD (isC := [0, 1]) (by decide +kernel) hC (q0 := 0) (ci := 11) rfl rfl) rfl rfl hl.1 rfl (lv_room (Nat.le_of_ble_eq_true rfl)) dX11_trips_19 ⟨Nat.le_refl _, Nat.le_refl _⟩) hP hD hS hA (by decide +kernel) rfl hC rfl rfl (fun H locs hP hD hS => ?_)
    obtain rfl := Option.some.inj hf
    exact hret _ _ _ _ rfl dX11_trips_22 hP hD hS
theorem dX11_bestToWeigh_0 : decode cX11_bestToWeigh 0 = .ok (.iconst (-1), 1) := by decide +kernel
theorem dX11_bestToWeigh_1 : decode cX11_bestToWeigh 1 = .ok (.istore_n 2, 1) := by decide +kernel
theorem dX11_bestToWeigh_2 : decode cX11_bestToWeigh 2 = .ok (.iload_n 1, 1) := by decide +kernel
theorem dX11_bestToWeigh_3 : decode cX11_bestToWeigh 3 = .ok (.iconst 1, 1) := by decide +kernel
theorem dX11_bestToWeigh_4 : decode cX11_bestToWeigh 4 = .ok (.iadd, 1) := by decide +kernel
theorem dX11_bestToWeigh_5 : decode cX11_bestToWeigh 5 = .ok (.istore_n 3, 1) := by decide +kernel
theorem dX11_bestToWeigh_6 : decode cX11_bestToWeigh 6 = .ok (.iconst 0, 1) := by decide +kernel
theorem dX11_bestToWeigh_7 : decode cX11_bestToWeigh 7 = .ok (.istore 4, 2) := by decide +kernel
theorem dX11_bestToWeigh_9 : decode cX11_bestToWeigh 9 = .ok (.iload 4, 2) := by decide +kernel
theorem dX11_bestToWeigh_11 : decode cX11_bestToWeigh 11 = .ok (.aload_n 0, 1) := by decide +kernel
theorem dX11_bestToWeigh_12 : decode cX11_bestToWeigh 12 = .ok (.getfield 13, 3) := by decide +kernel
theorem dX11_bestToWeigh_15 : decode cX11_bestToWeigh 15 = .ok (.iconst 1, 1) := by decide +kernel
theorem dX11_bestToWeigh_16 : decode cX11_bestToWeigh 16 = .ok (.iaload, 1) := by decide +kernel
theorem dX11_bestToWeigh_17 : decode cX11_bestToWeigh 17 = .ok (.if_icmp .ge 75, 3) := by decide +kernel
theorem dX11_bestToWeigh_20 : decode cX11_bestToWeigh 20 = .ok (.aload_n 0, 1) := by decide +kernel
theorem dX11_bestToWeigh_21 : decode cX11_bestToWeigh 21 = .ok (.getfield 111, 3) := by decide +kernel
theorem dX11_bestToWeigh_24 : decode cX11_bestToWeigh 24 = .ok (.iload 4, 2) := by decide +kernel
theorem dX11_bestToWeigh_26 : decode cX11_bestToWeigh 26 = .ok (.iaload, 1) := by decide +kernel
theorem dX11_bestToWeigh_27 : decode cX11_bestToWeigh 27 = .ok (.iload_n 1, 1) := by decide +kernel
theorem dX11_bestToWeigh_28 : decode cX11_bestToWeigh 28 = .ok (.aload_n 0, 1) := by decide +kernel
theorem dX11_bestToWeigh_29 : decode cX11_bestToWeigh 29 = .ok (.getfield 111, 3) := by decide +kernel
theorem dX11_bestToWeigh_32 : decode cX11_bestToWeigh 32 = .ok (.iload 4, 2) := by decide +kernel
theorem dX11_bestToWeigh_34 : decode cX11_bestToWeigh 34 = .ok (.iaload, 1) := by decide +kernel
theorem dX11_bestToWeigh_35 : decode cX11_bestToWeigh 35 = .ok (.isub, 1) := by decide +kernel
theorem dX11_bestToWeigh_36 : decode cX11_bestToWeigh 36 = .ok (.if_icmp .le 13, 3) := by decide +kernel
theorem dX11_bestToWeigh_39 : decode cX11_bestToWeigh 39 = .ok (.aload_n 0, 1) := by decide +kernel
theorem dX11_bestToWeigh_40 : decode cX11_bestToWeigh 40 = .ok (.getfield 111, 3) := by decide +kernel
theorem dX11_bestToWeigh_43 : decode cX11_bestToWeigh 43 = .ok (.iload 4, 2) := by decide +kernel
theorem dX11_bestToWeigh_45 : decode cX11_bestToWeigh 45 = .ok (.iaload, 1) := by decide +kernel
theorem dX11_bestToWeigh_46 : decode cX11_bestToWeigh 46 = .ok (.goto 12, 3) := by decide +kernel
theorem dX11_bestToWeigh_49 : decode cX11_bestToWeigh 49 = .ok (.iload_n 1, 1) := by decide +kernel
theorem dX11_bestToWeigh_50 : decode cX11_bestToWeigh 50 = .ok (.aload_n 0, 1) := by decide +kernel
theorem dX11_bestToWeigh_51 : decode cX11_bestToWeigh 51 = .ok (.getfield 111, 3) := by decide +kernel
theorem dX11_bestToWeigh_54 : decode cX11_bestToWeigh 54 = .ok (.iload 4, 2) := by decide +kernel
theorem dX11_bestToWeigh_56 : decode cX11_bestToWeigh 56 = .ok (.iaload, 1) := by decide +kernel
theorem dX11_bestToWeigh_57 : decode cX11_bestToWeigh 57 = .ok (.isub, 1) := by decide +kernel
theorem dX11_bestToWeigh_58 : decode cX11_bestToWeigh 58 = .ok (.istore 5, 2) := by decide +kernel
theorem dX11_bestToWeigh_60 : decode cX11_bestToWeigh 60 = .ok (.iload 5, 2) := by decide +kernel
theorem dX11_bestToWeigh_62 : decode cX11_bestToWeigh 62 = .ok (.iload_n 3, 1) := by decide +kernel
theorem dX11_bestToWeigh_63 : decode cX11_bestToWeigh 63 = .ok (.if_icmp .ge 8, 3) := by decide +kernel
theorem dX11_bestToWeigh_66 : decode cX11_bestToWeigh 66 = .ok (.iload 4, 2) := by decide +kernel
theorem dX11_bestToWeigh_68 : decode cX11_bestToWeigh 68 = .ok (.goto 4, 3) := by decide +kernel
theorem dX11_bestToWeigh_71 : decode cX11_bestToWeigh 71 = .ok (.iload_n 2, 1) := by decide +kernel
theorem dX11_bestToWeigh_72 : decode cX11_bestToWeigh 72 = .ok (.istore_n 2, 1) := by decide +kernel
theorem dX11_bestToWeigh_73 : decode cX11_bestToWeigh 73 = .ok (.iload 5, 2) := by decide +kernel
theorem dX11_bestToWeigh_75 : decode cX11_bestToWeigh 75 = .ok (.iload_n 3, 1) := by decide +kernel
theorem dX11_bestToWeigh_76 : decode cX11_bestToWeigh 76 = .ok (.if_icmp .ge 8, 3) := by decide +kernel
theorem dX11_bestToWeigh_79 : decode cX11_bestToWeigh 79 = .ok (.iload 5, 2) := by decide +kernel
theorem dX11_bestToWeigh_81 : decode cX11_bestToWeigh 81 = .ok (.goto 4, 3) := by decide +kernel
theorem dX11_bestToWeigh_84 : decode cX11_bestToWeigh 84 = .ok (.iload_n 3, 1) := by decide +kernel
theorem dX11_bestToWeigh_85 : decode cX11_bestToWeigh 85 = .ok (.istore_n 3, 1) := by decide +kernel
theorem dX11_bestToWeigh_86 : decode cX11_bestToWeigh 86 = .ok (.iinc 4 1, 3) := by decide +kernel
theorem dX11_bestToWeigh_89 : decode cX11_bestToWeigh 89 = .ok (.goto (-80), 3) := by decide +kernel
theorem dX11_bestToWeigh_92 : decode cX11_bestToWeigh 92 = .ok (.iload_n 2, 1) := by decide +kernel
theorem dX11_bestToWeigh_93 : decode cX11_bestToWeigh 93 = .ok (.ireturn, 1) := by decide +kernel
theorem zw_1211 : (Jvm.Cond.fieldLink "HillSchoolModel" (111 : Nat) "HillSchoolModel" "withOne" "[I") ∈ zall := zmemG (zmj_5 148 rfl) rfl
theorem zw_1741 : (Jvm.Cond.code ({ cls := "HillSchoolModel", name := "bestToWeigh", desc := "(I)I" } : Jvm.MethodName) prog_13_method_102_code (6 : Nat) (Option.some Jvm.ClassFile.FieldType.int)) ∈ zall := zmemG (zmj_7 198 rfl) rfl
abbrev w_HM_bestToWeigh : List Cond := .code yX11_bestToWeigh cX11_bestToWeigh 6 (some .int) :: zall
abbrev rm_HM_bestToWeigh : Room := { frames := 0, cells := 0, slots := 0, locals := 0 }
theorem hd_HM_bestToWeigh : yX11_bestToWeigh.cls = "HillSchoolModel" ∧ yX11_bestToWeigh.cls ≠ "java/lang/invoke/MethodHandle" ∧ yX11_bestToWeigh.cls ≠ "java/lang/invoke/VarHandle" ∧ (parseMethodDescriptor yX11_bestToWeigh.desc).map (fun d => d.parameters.length) = some 1 := by decide +kernel
def wd_HM_bestToWeigh (cA : Nat → ClassId) (q0 q1 q2 q3 q4 q5 q6 q7 q8 q9 q10 q11 q12 q13 q14 q15 q16 q17 q18 q19 q20 q21 q22 q23 q24 q25 q26 q27 q28 q29 q30 q31 : Nat) (u0 u1 u2 u3 u4 u5 u6 u7 u8 u9 u10 u11 u12 u13 u14 u15 u16 u17 u18 u19 u20 u21 : Int) (i_row : Nat → Int) (i_withOne : Nat → Int)  : va_W := [(q0, .inr (11, [.int (Int32.ofInt u0), .int (Int32.ofInt u1), .ref q1, .ref q2, .ref q3, .ref q4, .int (Int32.ofInt u2), .ref q5, .int (Int32.ofInt u3), .int (Int32.ofInt u4), .int (Int32.ofInt u5), .int (Int32.ofInt u6), .long (Int64.ofInt u7), .int (Int32.ofInt u8), .int (Int32.ofInt u9), .int (Int32.ofInt u10), .ref q6, .int (Int32.ofInt u11), .ref q7, .ref q8, .int (Int32.ofInt u12), .ref q9, .ref q10, .int (Int32.ofInt u13), .int (Int32.ofInt u14), .ref q11, .int (Int32.ofInt u15), .ref q12, .ref q13, .int (Int32.ofInt u16), .long (Int64.ofInt u17), .long (Int64.ofInt u18), .ref q14, .ref q15, .ref q16, .ref q17, .ref q18, .int (Int32.ofInt u19), .ref q19, .ref q20, .ref q21, .ref q22, .ref q23, .ref q24, .ref q25, .ref q26, .ref q27, .ref q28, .ref q29, .ref q30, .long (Int64.ofInt u20), .ref q31, .int (Int32.ofInt u21)])), (q2, .inl (cA 0, 5580, .inl (za i_row))), (q27, .inl (cA 0, 6, .inl (za i_withOne)))]
def wf_HM_bestToWeigh (cA : Nat → ClassId) (q0 q1 q2 q3 q4 q5 q6 q7 q8 q9 q10 q11 q12 q13 q14 q15 q16 q17 q18 q19 q20 q21 q22 q23 q24 q25 q26 q27 q28 q29 q30 q31 : Nat) (u0 u1 u2 u3 u4 u5 u6 u7 u8 u9 u10 u11 u12 u13 u14 u15 u16 u17 u18 u19 u20 u21 : Int) (i_row : Nat → Int) (i_withOne : Nat → Int) (o : Int) : va_W := wd_HM_bestToWeigh cA q0 q1 q2 q3 q4 q5 q6 q7 q8 q9 q10 q11 q12 q13 q14 q15 q16 q17 q18 q19 q20 q21 q22 q23 q24 q25 q26 q27 q28 q29 q30 q31 u0 u1 u2 u3 u4 u5 u6 u7 u8 u9 u10 u11 u12 u13 u14 u15 u16 u17 u18 u19 u20 u21 i_row i_withOne
def f_HM_bestToWeigh_85 (i_row : Nat → Int) (i_withOne : Nat → Int) (k9 : Int → Int → Int → Int → Option (Int)) (x1 : Int) (x2 : Int) (x4 : Int) (s0 : Int) : Option (Int) :=
  zn (x4 + 1) fun v1 =>
  k9 x1 x2 s0 v1
def f_HM_bestToWeigh_72 (i_row : Nat → Int) (i_withOne : Nat → Int) (k9 : Int → Int → Int → Int → Option (Int)) (x1 : Int) (x3 : Int) (x4 : Int) (x5 : Int) (s0 : Int) : Option (Int) :=
  if zi_w x3 ≤ zi_w x5 then
    f_HM_bestToWeigh_85 i_row i_withOne k9 x1 s0 x4 x3
  else
    f_HM_bestToWeigh_85 i_row i_withOne k9 x1 s0 x4 x5
def f_HM_bestToWeigh_58 (i_row : Nat → Int) (i_withOne : Nat → Int) (k9 : Int → Int → Int → Int → Option (Int)) (x1 : Int) (x2 : Int) (x3 : Int) (x4 : Int) (s0 : Int) : Option (Int) :=
  if zi_w x3 ≤ zi_w s0 then
    f_HM_bestToWeigh_72 i_row i_withOne k9 x1 x3 x4 s0 x2
  else
    f_HM_bestToWeigh_72 i_row i_withOne k9 x1 x3 x4 s0 x4
def f_HM_bestToWeigh_9_b (i_row : Nat → Int) (i_withOne : Nat → Int) (k9 : Int → Int → Int → Int → Option (Int)) (x1 : Int) (x2 : Int) (x3 : Int) (x4 : Int) : Option (Int) :=
  zg 5580 i_row 1 fun v1 =>
  if zi_w v1 ≤ zi_w x4 then
    some x2
  else
    zg 6 i_withOne x4 fun v2 =>
    zg 6 i_withOne x4 fun v3 =>
    zn (x1 - v3) fun v4 =>
    if zi_w v2 ≤ zi_w v4 then
      zg 6 i_withOne x4 fun v5 =>
      zn (x1 - v5) fun v6 =>
      f_HM_bestToWeigh_58 i_row i_withOne k9 x1 x2 x3 x4 v6
    else
      zg 6 i_withOne x4 fun v7 =>
      f_HM_bestToWeigh_58 i_row i_withOne k9 x1 x2 x3 x4 v7
def f_HM_bestToWeigh_9 (i_row : Nat → Int) (i_withOne : Nat → Int) : Nat → Int → Int → Int → Int → Option (Int)
  | 0 => fun _ _ _ _ => none
  | n + 1 => fun y0 y1 y2 y3 => f_HM_bestToWeigh_9_b i_row i_withOne (f_HM_bestToWeigh_9 i_row i_withOne n) y0 y1 y2 y3
def f_HM_bestToWeigh (x1 : Int) (i_row : Nat → Int) (i_withOne : Nat → Int) : Option (Int) :=
  zn (x1 + 1) fun v1 =>
  f_HM_bestToWeigh_9 i_row i_withOne zfu x1 (-1) v1 0
set_option maxHeartbeats 4000000 in
set_option maxRecDepth 100000 in
theorem c_HM_bestToWeigh (l : Launch) (ev : zEv) (dC : Nat → ClassId) (dI : Nat → Nat → Nat) (cA : Nat → ClassId) (q0 q1 q2 q3 q4 q5 q6 q7 q8 q9 q10 q11 q12 q13 q14 q15 q16 q17 q18 q19 q20 q21 q22 q23 q24 q25 q26 q27 q28 q29 q30 q31 : Nat) (u0 u1 u2 u3 u4 u5 u6 u7 u8 u9 u10 u11 u12 u13 u14 u15 u16 u17 u18 u19 u20 u21 : Int) {x1 : Int} {i_row : Nat → Int} {i_withOne : Nat → Int} {out : Int} (hf : f_HM_bestToWeigh x1 i_row i_withOne = some out) : xc_I l ev (dC, dI) vwCl (tyl cA) yX11_bestToWeigh w_HM_bestToWeigh rm_HM_bestToWeigh [.ref q0, .int (Int32.ofInt x1)] (wd_HM_bestToWeigh cA q0 q1 q2 q3 q4 q5 q6 q7 q8 q9 q10 q11 q12 q13 q14 q15 q16 q17 q18 q19 q20 q21 q22 q23 q24 q25 q26 q27 q28 q29 q30 q31 u0 u1 u2 u3 u4 u5 u6 u7 u8 u9 u10 u11 u12 u13 u14 u15 u16 u17 u18 u19 u20 u21 i_row i_withOne) (wf_HM_bestToWeigh cA q0 q1 q2 q3 q4 q5 q6 q7 q8 q9 q10 q11 q12 q13 q14 q15 q16 q17 q18 q19 q20 q21 q22 q23 q24 q25 q26 q27 q28 q29 q30 q31 u0 u1 u2 u3 u4 u5 u6 u7 u8 u9 u10 u11 u12 u13 u14 u15 u16 u17 u18 u19 u20 u21 i_row i_withOne out) out := by
  refine xv_startI (cc := cX11_bestToWeigh) (maxL := 6) (rt := .int) (by decide +kernel) rfl (Nat.le_of_ble_eq_true rfl) ?_
  intro p e s m args below meth c A Q H ls hx hb hml hts hown hK hA hP hD hS hl hE hret
  have hown : s.vm.findClass "HillSchoolModel" = some m.cls := hown
  have hz : ∀ w ∈ zall, w.before args s = true := fun w h => hts w (List.mem_cons_of_mem _ h)
  have hl : lv_has ls 6 [(0, .ref q0), (1, .int (Int32.ofInt x1))] := hl
  have b_85 : ∀ (k9 : Int → Int → Int → Int → Option (Int)) (_ : ∀ (x1 : Int) (x2 : Int) (x3 : Int) (x4 : Int) (H : Heap) (locs : List Loc) (ls : Array Slot), k9 x1 x2 x3 x4 = some out → va_P (dC, dI) vwCl (wd_HM_bestToWeigh cA q0 q1 q2 q3 q4 q5 q6 q7 q8 q9 q10 q11 q12 q13 q14 q15 q16 q17 q18 q19 q20 q21 q22 q23 q24 q25 q26 q27 q28 q29 q30 q31 u0 u1 u2 u3 u4 u5 u6 u7 u8 u9 u10 u11 u12 u13 u14 u15 u16 u17 u18 u19 u20 u21 i_row i_withOne) H → va_D A (wd_HM_bestToWeigh cA q0 q1 q2 q3 q4 q5 q6 q7 q8 q9 q10 q11 q12 q13 q14 q15 q16 q17 q18 q19 q20 q21 q22 q23 q24 q25 q26 q27 q28 q29 q30 q31 u0 u1 u2 u3 u4 u5 u6 u7 u8 u9 u10 u11 u12 u13 u14 u15 u16 u17 u18 u19 u20 u21 i_row i_withOne) → va_S A s.heap H locs → lv_has ls 6 [(0, .ref q0), (1, .int (Int32.ofInt x1)), (2, .int (Int32.ofInt x2)), (3, .int (Int32.ofInt x3)), (4, .int (Int32.ofInt x4))] → W p l e rm_HM_bestToWeigh s m args below meth c H locs 0 0 Q (F0 m 9 ls [])), ∀ (x1 : Int) (x2 : Int) (x4 : Int) (s0 : Int) (H : Heap) (locs : List Loc) (ls : Array Slot), f_HM_bestToWeigh_85 i_row i_withOne k9 x1 x2 x4 s0 = some out → va_P (dC, dI) vwCl (wd_HM_bestToWeigh cA q0 q1 q2 q3 q4 q5 q6 q7 q8 q9 q10 q11 q12 q13 q14 q15 q16 q17 q18 q19 q20 q21 q22 q23 q24 q25 q26 q27 q28 q29 q30 q31 u0 u1 u2 u3 u4 u5 u6 u7 u8 u9 u10 u11 u12 u13 u14 u15 u16 u17 u18 u19 u20 u21 i_row i_withOne) H → va_D A (wd_HM_bestToWeigh cA q0 q1 q2 q3 q4 q5 q6 q7 q8 q9 q10 q11 q12 q13 q14 q15 q16 q17 q18 q19 q20 q21 q22 q23 q24 q25 q26 q27 q28 q29 q30 q31 u0 u1 u2 u3 u4 u5 u6 u7 u8 u9 u10 u11 u12 u13 u14 u15 u16 u17 u18 u19 u20 u21 i_row i_withOne) → va_S A s.heap H locs → lv_has ls 6 [(0, .ref q0), (1, .int (Int32.ofInt x1)), (2, .int (Int32.ofInt x2)), (4, .int (Int32.ofInt x4))] → W p l e rm_HM_bestToWeigh s m args below meth c H locs 0 0 Q (F0 m 85 ls [.int (Int32.ofInt s0)]) := by
    intro k9 ih9 x1 x2 x4 s0 H locs ls hf hP hD hS hl
    unfold f_HM_bestToWeigh_85 at hf
    refine lv_istore_n (lv' := [(3, .int (Int32.ofInt s0)), (0, .ref q0), (1, .int (Int32.ofInt x1)), (2, .int (Int32.ofInt x2)), (4, .int (Int32.ofInt x4))]) hx hb dX11_bestToWeigh_85 rfl hl (by decide) rfl (fun ls hl => ?_)
    refine xi_iinc hx hb dX11_bestToWeigh_86 hl (k := 4) rfl (by decide) hf (fun v1 ls hl hf => ?_)
    have hl : lv_has ls 6 [(4, .int (Int32.ofInt v1)), (3, .int (Int32.ofInt s0)), (0, .ref q0), (1, .int (Int32.ofInt x1)), (2, .int (Int32.ofInt x2))] := hl
    refine lv_goto (tgt := 9) hx hb dX11_bestToWeigh_89 (by decide) ?_
    exact ih9 _ _ _ _ _ _ _ hf hP hD hS (lv_sub hl [2, 3, 4, 1, 0] rfl)
  have b_72 : ∀ (k9 : Int → Int → Int → Int → Option (Int)) (_ : ∀ (x1 : Int) (x2 : Int) (x3 : Int) (x4 : Int) (H : Heap) (locs : List Loc) (ls : Array Slot), k9 x1 x2 x3 x4 = some out → va_P (dC, dI) vwCl (wd_HM_bestToWeigh cA q0 q1 q2 q3 q4 q5 q6 q7 q8 q9 q10 q11 q12 q13 q14 q15 q16 q17 q18 q19 q20 q21 q22 q23 q24 q25 q26 q27 q28 q29 q30 q31 u0 u1 u2 u3 u4 u5 u6 u7 u8 u9 u10 u11 u12 u13 u14 u15 u16 u17 u18 u19 u20 u21 i_row i_withOne) H → va_D A (wd_HM_bestToWeigh cA q0 q1 q2 q3 q4 q5 q6 q7 q8 q9 q10 q11 q12 q13 q14 q15 q16 q17 q18 q19 q20 q21 q22 q23 q24 q25 q26 q27 q28 q29 q30 q31 u0 u1 u2 u3 u4 u5 u6 u7 u8 u9 u10 u11 u12 u13 u14 u15 u16 u17 u18 u19 u20 u21 i_row i_withOne) → va_S A s.heap H locs → lv_has ls 6 [(0, .ref q0), (1, .int (Int32.ofInt x1)), (2, .int (Int32.ofInt x2)), (3, .int (Int32.ofInt x3)), (4, .int (Int32.ofInt x4))] → W p l e rm_HM_bestToWeigh s m args below meth c H locs 0 0 Q (F0 m 9 ls [])), ∀ (x1 : Int) (x3 : Int) (x4 : Int) (x5 : Int) (s0 : Int) (H : Heap) (locs : List Loc) (ls : Array Slot), f_HM_bestToWeigh_72 i_row i_withOne k9 x1 x3 x4 x5 s0 = some out → va_P (dC, dI) vwCl (wd_HM_bestToWeigh cA q0 q1 q2 q3 q4 q5 q6 q7 q8 q9 q10 q11 q12 q13 q14 q15 q16 q17 q18 q19 q20 q21 q22 q23 q24 q25 q26 q27 q28 q29 q30 q31 u0 u1 u2 u3 u4 u5 u6 u7 u8 u9 u10 u11 u12 u13 u14 u15 u16 u17 u18 u19 u20 u21 i_row i_withOne) H → va_D A (wd_HM_bestToWeigh cA q0 q1 q2 q3 q4 q5 q6 q7 q8 q9 q10 q11 q12 q13 q14 q15 q16 q17 q18 q19 q20 q21 q22 q23 q24 q25 q26 q27 q28 q29 q30 q31 u0 u1 u2 u3 u4 u5 u6 u7 u8 u9 u10 u11 u12 u13 u14 u15 u16 u17 u18 u19 u20 u21 i_row i_withOne) → va_S A s.heap H locs → lv_has ls 6 [(0, .ref q0), (1, .int (Int32.ofInt x1)), (3, .int (Int32.ofInt x3)), (4, .int (Int32.ofInt x4)), (5, .int (Int32.ofInt x5))] → W p l e rm_HM_bestToWeigh s m args below meth c H locs 0 0 Q (F0 m 72 ls [.int (Int32.ofInt s0)]) := by
    intro k9 ih9 x1 x3 x4 x5 s0 H locs ls hf hP hD hS hl
    unfold f_HM_bestToWeigh_72 at hf
    refine lv_istore_n (lv' := [(2, .int (Int32.ofInt s0)), (0, .ref q0), (1, .int (Int32.ofInt x1)), (3, .int (Int32.ofInt x3)), (4, .int (Int32.ofInt x4)), (5, .int (Int32.ofInt x5))]) hx hb dX11_bestToWeigh_72 rfl hl (by decide) rfl (fun ls hl => ?_)
    refine lv_iload hx hb dX11_bestToWeigh_73 (lv_at hl 5 rfl) ?_
    refine lv_iload_n hx hb dX11_bestToWeigh_75 rfl (lv_at hl 3 rfl) ?_
    refine xi_icmp_ge (tgt := 84) hx hb dX11_bestToWeigh_76 (by decide) hf (fun hf => ?_) (fun hf => ?_)
    · refine lv_iload_n hx hb dX11_bestToWeigh_84 rfl (lv_at hl 3 rfl) ?_
      exact b_85 _ ih9 _ _ _ _ _ _ _ hf hP hD hS (lv_sub hl [1, 2, 0, 4] rfl)
    · refine lv_iload hx hb dX11_bestToWeigh_79 (lv_at hl 5 rfl) ?_
      refine lv_goto (tgt := 85) hx hb dX11_bestToWeigh_81 (by decide) ?_
      exact b_85 _ ih9 _ _ _ _ _ _ _ hf hP hD hS (lv_sub hl [1, 2, 0, 4] rfl)
  have b_58 : ∀ (k9 : Int → Int → Int → Int → Option (Int)) (_ : ∀ (x1 : Int) (x2 : Int) (x3 : Int) (x4 : Int) (H : Heap) (locs : List Loc) (ls : Array Slot), k9 x1 x2 x3 x4 = some out → va_P (dC, dI) vwCl (wd_HM_bestToWeigh cA q0 q1 q2 q3 q4 q5 q6 q7 q8 q9 q10 q11 q12 q13 q14 q15 q16 q17 q18 q19 q20 q21 q22 q23 q24 q25 q26 q27 q28 q29 q30 q31 u0 u1 u2 u3 u4 u5 u6 u7 u8 u9 u10 u11 u12 u13 u14 u15 u16 u17 u18 u19 u20 u21 i_row i_withOne) H → va_D A (wd_HM_bestToWeigh cA q0 q1 q2 q3 q4 q5 q6 q7 q8 q9 q10 q11 q12 q13 q14 q15 q16 q17 q18 q19 q20 q21 q22 q23 q24 q25 q26 q27 q28 q29 q30 q31 u0 u1 u2 u3 u4 u5 u6 u7 u8 u9 u10 u11 u12 u13 u14 u15 u16 u17 u18 u19 u20 u21 i_row i_withOne) → va_S A s.heap H locs → lv_has ls 6 [(0, .ref q0), (1, .int (Int32.ofInt x1)), (2, .int (Int32.ofInt x2)), (3, .int (Int32.ofInt x3)), (4, .int (Int32.ofInt x4))] → W p l e rm_HM_bestToWeigh s m args below meth c H locs 0 0 Q (F0 m 9 ls [])), ∀ (x1 : Int) (x2 : Int) (x3 : Int) (x4 : Int) (s0 : Int) (H : Heap) (locs : List Loc) (ls : Array Slot), f_HM_bestToWeigh_58 i_row i_withOne k9 x1 x2 x3 x4 s0 = some out → va_P (dC, dI) vwCl (wd_HM_bestToWeigh cA q0 q1 q2 q3 q4 q5 q6 q7 q8 q9 q10 q11 q12 q13 q14 q15 q16 q17 q18 q19 q20 q21 q22 q23 q24 q25 q26 q27 q28 q29 q30 q31 u0 u1 u2 u3 u4 u5 u6 u7 u8 u9 u10 u11 u12 u13 u14 u15 u16 u17 u18 u19 u20 u21 i_row i_withOne) H → va_D A (wd_HM_bestToWeigh cA q0 q1 q2 q3 q4 q5 q6 q7 q8 q9 q10 q11 q12 q13 q14 q15 q16 q17 q18 q19 q20 q21 q22 q23 q24 q25 q26 q27 q28 q29 q30 q31 u0 u1 u2 u3 u4 u5 u6 u7 u8 u9 u10 u11 u12 u13 u14 u15 u16 u17 u18 u19 u20 u21 i_row i_withOne) → va_S A s.heap H locs → lv_has ls 6 [(0, .ref q0), (1, .int (Int32.ofInt x1)), (2, .int (Int32.ofInt x2)), (3, .int (Int32.ofInt x3)), (4, .int (Int32.ofInt x4))] → W p l e rm_HM_bestToWeigh s m args below meth c H locs 0 0 Q (F0 m 58 ls [.int (Int32.ofInt s0)]) := by
    intro k9 ih9 x1 x2 x3 x4 s0 H locs ls hf hP hD hS hl
    unfold f_HM_bestToWeigh_58 at hf
    refine lv_istore (lv' := [(5, .int (Int32.ofInt s0)), (0, .ref q0), (1, .int (Int32.ofInt x1)), (2, .int (Int32.ofInt x2)), (3, .int (Int32.ofInt x3)), (4, .int (Int32.ofInt x4))]) hx hb dX11_bestToWeigh_58 hl (by decide) rfl (fun ls hl => ?_)
    refine lv_iload hx hb dX11_bestToWeigh_60 (lv_at hl 0 rfl) ?_
    refine lv_iload_n hx hb dX11_bestToWeigh_62 rfl (lv_at hl 4 rfl) ?_
    refine xi_icmp_ge (tgt := 71) hx hb dX11_bestToWeigh_63 (by decide) hf (fun hf => ?_) (fun hf => ?_)
    · refine lv_iload_n hx hb dX11_bestToWeigh_71 rfl (lv_at hl 3 rfl) ?_
      exact b_72 _ ih9 _ _ _ _ _ _ _ _ hf hP hD hS (lv_sub hl [1, 2, 4, 5, 0] rfl)
    · refine lv_iload hx hb dX11_bestToWeigh_66 (lv_at hl 5 rfl) ?_
      refine lv_goto (tgt := 72) hx hb dX11_bestToWeigh_68 (by decide) ?_
      exact b_72 _ ih9 _ _ _ _ _ _ _ _ hf hP hD hS (lv_sub hl [1, 2, 4, 5, 0] rfl)
  have b_9 : ∀ (k9 : Int → Int → Int → Int → Option (Int)) (_ : ∀ (x1 : Int) (x2 : Int) (x3 : Int) (x4 : Int) (H : Heap) (locs : List Loc) (ls : Array Slot), k9 x1 x2 x3 x4 = some out → va_P (dC, dI) vwCl (wd_HM_bestToWeigh cA q0 q1 q2 q3 q4 q5 q6 q7 q8 q9 q10 q11 q12 q13 q14 q15 q16 q17 q18 q19 q20 q21 q22 q23 q24 q25 q26 q27 q28 q29 q30 q31 u0 u1 u2 u3 u4 u5 u6 u7 u8 u9 u10 u11 u12 u13 u14 u15 u16 u17 u18 u19 u20 u21 i_row i_withOne) H → va_D A (wd_HM_bestToWeigh cA q0 q1 q2 q3 q4 q5 q6 q7 q8 q9 q10 q11 q12 q13 q14 q15 q16 q17 q18 q19 q20 q21 q22 q23 q24 q25 q26 q27 q28 q29 q30 q31 u0 u1 u2 u3 u4 u5 u6 u7 u8 u9 u10 u11 u12 u13 u14 u15 u16 u17 u18 u19 u20 u21 i_row i_withOne) → va_S A s.heap H locs → lv_has ls 6 [(0, .ref q0), (1, .int (Int32.ofInt x1)), (2, .int (Int32.ofInt x2)), (3, .int (Int32.ofInt x3)), (4, .int (Int32.ofInt x4))] → W p l e rm_HM_bestToWeigh s m args below meth c H locs 0 0 Q (F0 m 9 ls [])), ∀ (x1 : Int) (x2 : Int) (x3 : Int) (x4 : Int) (H : Heap) (locs : List Loc) (ls : Array Slot), f_HM_bestToWeigh_9_b i_row i_withOne k9 x1 x2 x3 x4 = some out → va_P (dC, dI) vwCl (wd_HM_bestToWeigh cA q0 q1 q2 q3 q4 q5 q6 q7 q8 q9 q10 q11 q12 q13 q14 q15 q16 q17 q18 q19 q20 q21 q22 q23 q24 q25 q26 q27 q28 q29 q30 q31 u0 u1 u2 u3 u4 u5 u6 u7 u8 u9 u10 u11 u12 u13 u14 u15 u16 u17 u18 u19 u20 u21 i_row i_withOne) H → va_D A (wd_HM_bestToWeigh cA q0 q1 q2 q3 q4 q5 q6 q7 q8 q9 q10 q11 q12 q13 q14 q15 q16 q17 q18 q19 q20 q21 q22 q23 q24 q25 q26 q27 q28 q29 q30 q31 u0 u1 u2 u3 u4 u5 u6 u7 u8 u9 u10 u11 u12 u13 u14 u15 u16 u17 u18 u19 u20 u21 i_row i_withOne) → va_S A s.heap H locs → lv_has ls 6 [(0, .ref q0), (1, .int (Int32.ofInt x1)), (2, .int (Int32.ofInt x2)), (3, .int (Int32.ofInt x3)), (4, .int (Int32.ofInt x4))] → W p l e rm_HM_bestToWeigh s m args below meth c H locs 0 0 Q (F0 m 9 ls []) := by
    intro k9 ih9 x1 x2 x3 x4 H locs ls hf hP hD hS hl
    unfold f_HM_bestToWeigh_9_b at hf
    refine lv_iload hx hb dX11_bestToWeigh_9 (lv_at hl 4 rfl) ?_
    refine lv_aload_n hx hb dX11_bestToWeigh_11 rfl (lv_at hl 0 rfl) ?_
    refine va_get (D := (dC, dI)) (ci := 11) (v := .ref q2) (C := RX11) (T := TX11) (N := 53) hx hb hz zi_X11 hown hK hP 0 rfl rfl 3 (by decide) (hz _ zw_1168) (fun _ h9 => h9) rfl dX11_bestToWeigh_12 ?_
    refine lv_iconst (v := Int32.ofInt 1) hx hb dX11_bestToWeigh_15 rfl ?_
    refine xi_iald hx hb hK hP 1 0 rfl rfl dX11_bestToWeigh_16 hf (fun v1 hf => ?_)
    refine xi_icmp_ge (tgt := 92) hx hb dX11_bestToWeigh_17 (by decide) hf (fun hf => ?_) (fun hf => ?_)
    · refine lv_iload_n hx hb dX11_bestToWeigh_92 rfl (lv_at hl 2 rfl) ?_
      obtain rfl := Option.some.inj hf
      exact hret _ _ _ _ rfl dX11_bestToWeigh_93 hP hD hS
    · refine lv_aload_n hx hb dX11_bestToWeigh_20 rfl (lv_at hl 0 rfl) ?_
      refine va_get (D := (dC, dI)) (ci := 11) (v := .ref q27) (C := RX11) (T := TX11) (N := 53) hx hb hz zi_X11 hown hK hP 0 rfl rfl 46 (by decide) (hz _ zw_1211) (fun _ h9 => h9) rfl dX11_bestToWeigh_21 ?_
      refine lv_iload hx hb dX11_bestToWeigh_24 (lv_at hl 4 rfl) ?_
      refine xi_iald hx hb hK hP 2 0 rfl rfl dX11_bestToWeigh_26 hf (fun v2 hf => ?_)
      refine lv_iload_n hx hb dX11_bestToWeigh_27 rfl (lv_at hl 1 rfl) ?_
      refine lv_aload_n hx hb dX11_bestToWeigh_28 rfl (lv_at hl 0 rfl) ?_
      refine va_get (D := (dC, dI)) (ci := 11) (v := .ref q27) (C := RX11) (T := TX11) (N := 53) hx hb hz zi_X11 hown hK hP 0 rfl rfl 46 (by decide) (hz _ zw_1211) (fun _ h9 => h9) rfl dX11_bestToWeigh_29 ?_
      refine lv_iload hx hb dX11_bestToWeigh_32 (lv_at hl 4 rfl) ?_
      refine xi_iald hx hb hK hP 2 0 rfl rfl dX11_bestToWeigh_34 hf (fun v3 hf => ?_)
      refine xi_isub hx hb dX11_bestToWeigh_35 hf (fun v4 hf => ?_)
      refine xi_icmp_le (tgt := 49) hx hb dX11_bestToWeigh_36 (by decide) hf (fun hf => ?_) (fun hf => ?_)
      · refine lv_iload_n hx hb dX11_bestToWeigh_49 rfl (lv_at hl 1 rfl) ?_
        refine lv_aload_n hx hb dX11_bestToWeigh_50 rfl (lv_at hl 0 rfl) ?_
        refine va_get (D := (dC, dI)) (ci := 11) (v := .ref q27) (C := RX11) (T := TX11) (N := 53) hx hb hz zi_X11 hown hK hP 0 rfl rfl 46 (by decide) (hz _ zw_1211) (fun _ h9 => h9) rfl dX11_bestToWeigh_51 ?_
        refine lv_iload hx hb dX11_bestToWeigh_54 (lv_at hl 4 rfl) ?_
        refine xi_iald hx hb hK hP 2 0 rfl rfl dX11_bestToWeigh_56 hf (fun v5 hf => ?_)
        refine xi_isub hx hb dX11_bestToWeigh_57 hf (fun v6 hf => ?_)
        exact b_58 _ ih9 _ _ _ _ _ _ _ _ hf hP hD hS (lv_sub hl [0, 1, 2, 3, 4] rfl)
      · refine lv_aload_n hx hb dX11_bestToWeigh_39 rfl (lv_at hl 0 rfl) ?_
        refine va_get (D := (dC, dI)) (ci := 11) (v := .ref q27) (C := RX11) (T := TX11) (N := 53) hx hb hz zi_X11 hown hK hP 0 rfl rfl 46 (by decide) (hz _ zw_1211) (fun _ h9 => h9) rfl dX11_bestToWeigh_40 ?_
        refine lv_iload hx hb dX11_bestToWeigh_43 (lv_at hl 4 rfl) ?_
        refine xi_iald hx hb hK hP 2 0 rfl rfl dX11_bestToWeigh_45 hf (fun v7 hf => ?_)
        refine lv_goto (tgt := 58) hx hb dX11_bestToWeigh_46 (by decide) ?_
        exact b_58 _ ih9 _ _ _ _ _ _ _ _ hf hP hD hS (lv_sub hl [0, 1, 2, 3, 4] rfl)
  have l_9 : ∀ (n : Nat), ∀ (x1 : Int) (x2 : Int) (x3 : Int) (x4 : Int) (H : Heap) (locs : List Loc) (ls : Array Slot), f_HM_bestToWeigh_9 i_row i_withOne n x1 x2 x3 x4 = some out → va_P (dC, dI) vwCl (wd_HM_bestToWeigh cA q0 q1 q2 q3 q4 q5 q6 q7 q8 q9 q10 q11 q12 q13 q14 q15 q16 q17 q18 q19 q20 q21 q22 q23 q24 q25 q26 q27 q28 q29 q30 q31 u0 u1 u2 u3 u4 u5 u6 u7 u8 u9 u10 u11 u12 u13 u14 u15 u16 u17 u18 u19 u20 u21 i_row i_withOne) H → va_D A (wd_HM_bestToWeigh cA q0 q1 q2 q3 q4 q5 q6 q7 q8 q9 q10 q11 q12 q13 q14 q15 q16 q17 q18 q19 q20 q21 q22 q23 q24 q25 q26 q27 q28 q29 q30 q31 u0 u1 u2 u3 u4 u5 u6 u7 u8 u9 u10 u11 u12 u13 u14 u15 u16 u17 u18 u19 u20 u21 i_row i_withOne) → va_S A s.heap H locs → lv_has ls 6 [(0, .ref q0), (1, .int (Int32.ofInt x1)), (2, .int (Int32.ofInt x2)), (3, .int (Int32.ofInt x3)), (4, .int (Int32.ofInt x4))] → W p l e rm_HM_bestToWeigh s m args below meth c H locs 0 0 Q (F0 m 9 ls []) := by
    intro n
    induction n with
    | zero => intro x1 x2 x3 x4 H locs ls hf hP hD hS hl; exact nomatch hf
    | succ n ih => intro x1 x2 x3 x4 H locs ls hf hP hD hS hl; exact b_9 (f_HM_bestToWeigh_9 i_row i_withOne n) ih x1 x2 x3 x4 H locs ls hf hP hD hS hl
  unfold f_HM_bestToWeigh at hf
  refine lv_iconst (v := Int32.ofInt (-1)) hx hb dX11_bestToWeigh_0 rfl ?_
  refine lv_istore_n (lv' := [(2, .int (Int32.ofInt (-1))), (0, .ref q0), (1, .int (Int32.ofInt x1))]) hx hb dX11_bestToWeigh_1 rfl hl (by decide) rfl (fun ls hl => ?_)
  refine lv_iload_n hx hb dX11_bestToWeigh_2 rfl (lv_at hl 2 rfl) ?_
  refine lv_iconst (v := Int32.ofInt 1) hx hb dX11_bestToWeigh_3 rfl ?_
  refine xi_iadd hx hb dX11_bestToWeigh_4 hf (fun v1 hf => ?_)
  refine lv_istore_n (lv' := [(3, .int (Int32.ofInt v1)), (2, .int (Int32.ofInt (-1))), (0, .ref q0), (1, .int (Int32.ofInt x1))]) hx hb dX11_bestToWeigh_5 rfl hl (by decide) rfl (fun ls hl => ?_)
  refine lv_iconst (v := Int32.ofInt 0) hx hb dX11_bestToWeigh_6 rfl ?_
  refine lv_istore (lv' := [(4, .int (Int32.ofInt 0)), (3, .int (Int32.ofInt v1)), (2, .int (Int32.ofInt (-1))), (0, .ref q0), (1, .int (Int32.ofInt x1))]) hx hb dX11_bestToWeigh_7 hl (by decide) rfl (fun ls hl => ?_)
  exact l_9  _ _ _ _ _ _ _ _ hf hP hD hS (lv_sub hl [3, 4, 2, 1, 0] rfl)
theorem dX11_is_0 : decode cX11_is 0 = .ok (.iload_n 0, 1) := by decide +kernel
theorem dX11_is_1 : decode cX11_is 1 = .ok (.iload_n 1, 1) := by decide +kernel
theorem dX11_is_2 : decode cX11_is 2 = .ok (.ishr, 1) := by decide +kernel
theorem dX11_is_3 : decode cX11_is 3 = .ok (.iconst 1, 1) := by decide +kernel
theorem dX11_is_4 : decode cX11_is 4 = .ok (.iand, 1) := by decide +kernel
theorem dX11_is_5 : decode cX11_is 5 = .ok (.iconst 1, 1) := by decide +kernel
theorem dX11_is_6 : decode cX11_is 6 = .ok (.if_icmp .ne 7, 3) := by decide +kernel
theorem dX11_is_9 : decode cX11_is 9 = .ok (.iconst 1, 1) := by decide +kernel
theorem dX11_is_10 : decode cX11_is 10 = .ok (.goto 4, 3) := by decide +kernel
theorem dX11_is_13 : decode cX11_is 13 = .ok (.iconst 0, 1) := by decide +kernel
theorem dX11_is_14 : decode cX11_is 14 = .ok (.ireturn, 1) := by decide +kernel
theorem zw_1737 : (Jvm.Cond.code ({ cls := "HillSchoolModel", name := "is", desc := "(II)Z" } : Jvm.MethodName) prog_13_method_4_code (2 : Nat) (Option.some Jvm.ClassFile.FieldType.boolean)) ∈ zall := zmemG (zmj_7 194 rfl) rfl
abbrev w_HM_is : List Cond := .code yX11_is cX11_is 2 (some .boolean) :: zall
abbrev rm_HM_is : Room := { frames := 0, cells := 0, slots := 0, locals := 0 }
theorem hd_HM_is : yX11_is.cls = yX11_is.cls ∧ yX11_is.cls ≠ "java/lang/invoke/MethodHandle" ∧ yX11_is.cls ≠ "java/lang/invoke/VarHandle" ∧ (parseMethodDescriptor yX11_is.desc).map (fun d => d.parameters.length) = some 2 := by decide +kernel
def wd_HM_is (cA : Nat → ClassId)   : va_W := []
def wf_HM_is (cA : Nat → ClassId)  (o : Int) : va_W := wd_HM_is cA
def f_HM_is (x0 : Int) (x1 : Int) : Option (Int) :=
  zn (zi_shr x0 x1) fun v1 =>
  zn (zi_and v1 1) fun v2 =>
  if zi_w v2 ≠ zi_w 1 then
    some 0
  else
    some 1
set_option maxHeartbeats 4000000 in
set_option maxRecDepth 100000 in
theorem c_HM_is (l : Launch) (ev : zEv) (dC : Nat → ClassId) (dI : Nat → Nat → Nat) (cA : Nat → ClassId) {x0 x1 : Int} {out : Int} (hf : f_HM_is x0 x1 = some out) : xc_I l ev (dC, dI) vwCl (tyl cA) yX11_is w_HM_is rm_HM_is [.int (Int32.ofInt x0), .int (Int32.ofInt x1)] (wd_HM_is cA) (wf_HM_is cA out) out := by
  refine xv_startI (cc := cX11_is) (maxL := 2) (rt := .boolean) (by decide +kernel) rfl (Nat.le_of_ble_eq_true rfl) ?_
  intro p e s m args below meth c A Q H ls hx hb hml hts hown hK hA hP hD hS hl hE hret
  have hown : s.vm.findClass "HillSchoolModel" = some m.cls := hown
  have hz : ∀ w ∈ zall, w.before args s = true := fun w h => hts w (List.mem_cons_of_mem _ h)
  have hl : lv_has ls 2 [(0, .int (Int32.ofInt x0)), (1, .int (Int32.ofInt x1))] := hl
  unfold f_HM_is at hf
  refine lv_iload_n hx hb dX11_is_0 rfl (lv_at hl 0 rfl) ?_
  refine lv_iload_n hx hb dX11_is_1 rfl (lv_at hl 1 rfl) ?_
  refine xi_ishr hx hb dX11_is_2 hf (fun v1 hf => ?_)
  refine lv_iconst (v := Int32.ofInt 1) hx hb dX11_is_3 rfl ?_
  refine xi_iand hx hb dX11_is_4 hf (fun v2 hf => ?_)
  refine lv_iconst (v := Int32.ofInt 1) hx hb dX11_is_5 rfl ?_
  refine xi_icmp_ne (tgt := 13) hx hb dX11_is_6 (by decide) hf (fun hf => ?_) (fun hf => ?_)
  · refine lv_iconst (v := Int32.ofInt 0) hx hb dX11_is_13 rfl ?_
    obtain rfl := Option.some.inj hf
    exact hret _ _ _ _ zz_b0 dX11_is_14 hP hD hS
  · refine lv_iconst (v := Int32.ofInt 1) hx hb dX11_is_9 rfl ?_
    refine lv_goto (tgt := 14) hx hb dX11_is_10 (by decide) ?_
    obtain rfl := Option.some.inj hf
    exact hret _ _ _ _ zz_b1 dX11_is_14 hP hD hS
theorem dX11_culprits_0 : decode cX11_culprits 0 = .ok (.aload_n 0, 1) := by decide +kernel
theorem dX11_culprits_1 : decode cX11_culprits 1 = .ok (.iconst 0, 1) := by decide +kernel
theorem dX11_culprits_2 : decode cX11_culprits 2 = .ok (.putfield 126, 3) := by decide +kernel
theorem dX11_culprits_5 : decode cX11_culprits 5 = .ok (.iload_n 1, 1) := by decide +kernel
theorem dX11_culprits_6 : decode cX11_culprits 6 = .ok (.i2l, 1) := by decide +kernel
theorem dX11_culprits_7 : decode cX11_culprits 7 = .ok (.lconst 1, 1) := by decide +kernel
theorem dX11_culprits_8 : decode cX11_culprits 8 = .ok (.ldc2_w 166, 3) := by decide +kernel
theorem dX11_culprits_11 : decode cX11_culprits 11 = .ok (.invokestatic 132, 3) := by decide +kernel
theorem dX11_culprits_14 : decode cX11_culprits 14 = .ok (.ifCond .eq 27, 3) := by decide +kernel
theorem dX11_culprits_17 : decode cX11_culprits 17 = .ok (.iload_n 2, 1) := by decide +kernel
theorem dX11_culprits_18 : decode cX11_culprits 18 = .ok (.i2l, 1) := by decide +kernel
theorem dX11_culprits_19 : decode cX11_culprits 19 = .ok (.lconst 0, 1) := by decide +kernel
theorem dX11_culprits_20 : decode cX11_culprits 20 = .ok (.ldc2_w 453, 3) := by decide +kernel
theorem dX11_culprits_23 : decode cX11_culprits 23 = .ok (.invokestatic 132, 3) := by decide +kernel
theorem dX11_culprits_26 : decode cX11_culprits 26 = .ok (.ifCond .eq 15, 3) := by decide +kernel
theorem dX11_culprits_29 : decode cX11_culprits 29 = .ok (.iload_n 3, 1) := by decide +kernel
theorem dX11_culprits_30 : decode cX11_culprits 30 = .ok (.i2l, 1) := by decide +kernel
theorem dX11_culprits_31 : decode cX11_culprits 31 = .ok (.lconst 0, 1) := by decide +kernel
theorem dX11_culprits_32 : decode cX11_culprits 32 = .ok (.ldc2_w 455, 3) := by decide +kernel
theorem dX11_culprits_35 : decode cX11_culprits 35 = .ok (.invokestatic 132, 3) := by decide +kernel
theorem dX11_culprits_38 : decode cX11_culprits 38 = .ok (.ifCond .ne 5, 3) := by decide +kernel
theorem dX11_culprits_41 : decode cX11_culprits 41 = .ok (.iconst (-1), 1) := by decide +kernel
theorem dX11_culprits_42 : decode cX11_culprits 42 = .ok (.ireturn, 1) := by decide +kernel
theorem dX11_culprits_43 : decode cX11_culprits 43 = .ok (.aload_n 0, 1) := by decide +kernel
theorem dX11_culprits_44 : decode cX11_culprits 44 = .ok (.getfield 13, 3) := by decide +kernel
theorem dX11_culprits_47 : decode cX11_culprits 47 = .ok (.iconst 1, 1) := by decide +kernel
theorem dX11_culprits_48 : decode cX11_culprits 48 = .ok (.iaload, 1) := by decide +kernel
theorem dX11_culprits_49 : decode cX11_culprits 49 = .ok (.istore 4, 2) := by decide +kernel
theorem dX11_culprits_51 : decode cX11_culprits 51 = .ok (.iconst 0, 1) := by decide +kernel
theorem dX11_culprits_52 : decode cX11_culprits 52 = .ok (.istore 5, 2) := by decide +kernel
theorem dX11_culprits_54 : decode cX11_culprits 54 = .ok (.iconst (-1), 1) := by decide +kernel
theorem dX11_culprits_55 : decode cX11_culprits 55 = .ok (.istore 6, 2) := by decide +kernel
theorem dX11_culprits_57 : decode cX11_culprits 57 = .ok (.iconst 1, 1) := by decide +kernel
theorem dX11_culprits_58 : decode cX11_culprits 58 = .ok (.iload 4, 2) := by decide +kernel
theorem dX11_culprits_60 : decode cX11_culprits 60 = .ok (.ishl, 1) := by decide +kernel
theorem dX11_culprits_61 : decode cX11_culprits 61 = .ok (.iconst 1, 1) := by decide +kernel
theorem dX11_culprits_62 : decode cX11_culprits 62 = .ok (.isub, 1) := by decide +kernel
theorem dX11_culprits_63 : decode cX11_culprits 63 = .ok (.istore 7, 2) := by decide +kernel
theorem dX11_culprits_65 : decode cX11_culprits 65 = .ok (.iconst 0, 1) := by decide +kernel
theorem dX11_culprits_66 : decode cX11_culprits 66 = .ok (.istore 8, 2) := by decide +kernel
theorem dX11_culprits_68 : decode cX11_culprits 68 = .ok (.iconst 0, 1) := by decide +kernel
theorem dX11_culprits_69 : decode cX11_culprits 69 = .ok (.istore 9, 2) := by decide +kernel
theorem dX11_culprits_71 : decode cX11_culprits 71 = .ok (.iload 9, 2) := by decide +kernel
theorem dX11_culprits_73 : decode cX11_culprits 73 = .ok (.bipush 6, 2) := by decide +kernel
theorem dX11_culprits_75 : decode cX11_culprits 75 = .ok (.if_icmp .ge 17, 3) := by decide +kernel
theorem dX11_culprits_78 : decode cX11_culprits 78 = .ok (.aload_n 0, 1) := by decide +kernel
theorem dX11_culprits_79 : decode cX11_culprits 79 = .ok (.getfield 111, 3) := by decide +kernel
theorem dX11_culprits_82 : decode cX11_culprits 82 = .ok (.iload 9, 2) := by decide +kernel
theorem dX11_culprits_84 : decode cX11_culprits 84 = .ok (.iconst 0, 1) := by decide +kernel
theorem dX11_culprits_85 : decode cX11_culprits 85 = .ok (.iastore, 1) := by decide +kernel
theorem dX11_culprits_86 : decode cX11_culprits 86 = .ok (.iinc 9 1, 3) := by decide +kernel
theorem dX11_culprits_89 : decode cX11_culprits 89 = .ok (.goto (-18), 3) := by decide +kernel
theorem dX11_culprits_92 : decode cX11_culprits 92 = .ok (.iconst 0, 1) := by decide +kernel
theorem dX11_culprits_93 : decode cX11_culprits 93 = .ok (.istore 9, 2) := by decide +kernel
theorem dX11_culprits_95 : decode cX11_culprits 95 = .ok (.iload 9, 2) := by decide +kernel
theorem dX11_culprits_97 : decode cX11_culprits 97 = .ok (.iconst 1, 1) := by decide +kernel
theorem dX11_culprits_98 : decode cX11_culprits 98 = .ok (.iload 4, 2) := by decide +kernel
theorem dX11_culprits_100 : decode cX11_culprits 100 = .ok (.ishl, 1) := by decide +kernel
theorem dX11_culprits_101 : decode cX11_culprits 101 = .ok (.if_icmp .ge 134, 3) := by decide +kernel
theorem dX11_culprits_104 : decode cX11_culprits 104 = .ok (.iconst 0, 1) := by decide +kernel
theorem dX11_culprits_105 : decode cX11_culprits 105 = .ok (.istore 10, 2) := by decide +kernel
theorem dX11_culprits_107 : decode cX11_culprits 107 = .ok (.iconst 0, 1) := by decide +kernel
theorem dX11_culprits_108 : decode cX11_culprits 108 = .ok (.istore 11, 2) := by decide +kernel
theorem dX11_culprits_110 : decode cX11_culprits 110 = .ok (.iload 11, 2) := by decide +kernel
theorem dX11_culprits_112 : decode cX11_culprits 112 = .ok (.iload 4, 2) := by decide +kernel
theorem dX11_culprits_114 : decode cX11_culprits 114 = .ok (.if_icmp .ge 45, 3) := by decide +kernel
theorem dX11_culprits_117 : decode cX11_culprits 117 = .ok (.iload 10, 2) := by decide +kernel
theorem dX11_culprits_119 : decode cX11_culprits 119 = .ok (.iload 9, 2) := by decide +kernel
theorem dX11_culprits_121 : decode cX11_culprits 121 = .ok (.iload 11, 2) := by decide +kernel
theorem dX11_culprits_123 : decode cX11_culprits 123 = .ok (.invokestatic 457, 3) := by decide +kernel
theorem dX11_culprits_126 : decode cX11_culprits 126 = .ok (.ifCond .eq 23, 3) := by decide +kernel
theorem dX11_culprits_129 : decode cX11_culprits 129 = .ok (.iload_n 1, 1) := by decide +kernel
theorem dX11_culprits_130 : decode cX11_culprits 130 = .ok (.aload_n 0, 1) := by decide +kernel
theorem dX11_culprits_131 : decode cX11_culprits 131 = .ok (.getfield 13, 3) := by decide +kernel
theorem dX11_culprits_134 : decode cX11_culprits 134 = .ok (.sipush 153, 3) := by decide +kernel
theorem dX11_culprits_137 : decode cX11_culprits 137 = .ok (.iconst 3, 1) := by decide +kernel
theorem dX11_culprits_138 : decode cX11_culprits 138 = .ok (.iload 11, 2) := by decide +kernel
theorem dX11_culprits_140 : decode cX11_culprits 140 = .ok (.imul, 1) := by decide +kernel
theorem dX11_culprits_141 : decode cX11_culprits 141 = .ok (.iadd, 1) := by decide +kernel
theorem dX11_culprits_142 : decode cX11_culprits 142 = .ok (.iconst 2, 1) := by decide +kernel
theorem dX11_culprits_143 : decode cX11_culprits 143 = .ok (.iadd, 1) := by decide +kernel
theorem dX11_culprits_144 : decode cX11_culprits 144 = .ok (.iaload, 1) := by decide +kernel
theorem dX11_culprits_145 : decode cX11_culprits 145 = .ok (.imul, 1) := by decide +kernel
theorem dX11_culprits_146 : decode cX11_culprits 146 = .ok (.goto 4, 3) := by decide +kernel
theorem dX11_culprits_149 : decode cX11_culprits 149 = .ok (.iconst 0, 1) := by decide +kernel
theorem dX11_culprits_150 : decode cX11_culprits 150 = .ok (.iadd, 1) := by decide +kernel
theorem dX11_culprits_151 : decode cX11_culprits 151 = .ok (.istore 10, 2) := by decide +kernel
theorem dX11_culprits_153 : decode cX11_culprits 153 = .ok (.iinc 11 1, 3) := by decide +kernel
theorem dX11_culprits_156 : decode cX11_culprits 156 = .ok (.goto (-46), 3) := by decide +kernel
theorem dX11_culprits_159 : decode cX11_culprits 159 = .ok (.iload 10, 2) := by decide +kernel
theorem dX11_culprits_161 : decode cX11_culprits 161 = .ok (.iload_n 2, 1) := by decide +kernel
theorem dX11_culprits_162 : decode cX11_culprits 162 = .ok (.if_icmp .ne 67, 3) := by decide +kernel
theorem dX11_culprits_165 : decode cX11_culprits 165 = .ok (.iload 5, 2) := by decide +kernel
theorem dX11_culprits_167 : decode cX11_culprits 167 = .ok (.ifCond .ne 8, 3) := by decide +kernel
theorem dX11_culprits_170 : decode cX11_culprits 170 = .ok (.iload 9, 2) := by decide +kernel
theorem dX11_culprits_172 : decode cX11_culprits 172 = .ok (.goto 5, 3) := by decide +kernel
theorem dX11_culprits_175 : decode cX11_culprits 175 = .ok (.iload 6, 2) := by decide +kernel
theorem dX11_culprits_177 : decode cX11_culprits 177 = .ok (.istore 6, 2) := by decide +kernel
theorem dX11_culprits_179 : decode cX11_culprits 179 = .ok (.iinc 5 1, 3) := by decide +kernel
theorem dX11_culprits_182 : decode cX11_culprits 182 = .ok (.iload 7, 2) := by decide +kernel
theorem dX11_culprits_184 : decode cX11_culprits 184 = .ok (.iload 9, 2) := by decide +kernel
theorem dX11_culprits_186 : decode cX11_culprits 186 = .ok (.iand, 1) := by decide +kernel
theorem dX11_culprits_187 : decode cX11_culprits 187 = .ok (.istore 7, 2) := by decide +kernel
theorem dX11_culprits_189 : decode cX11_culprits 189 = .ok (.iload 8, 2) := by decide +kernel
theorem dX11_culprits_191 : decode cX11_culprits 191 = .ok (.iload 9, 2) := by decide +kernel
theorem dX11_culprits_193 : decode cX11_culprits 193 = .ok (.ior, 1) := by decide +kernel
theorem dX11_culprits_194 : decode cX11_culprits 194 = .ok (.istore 8, 2) := by decide +kernel
theorem dX11_culprits_196 : decode cX11_culprits 196 = .ok (.iconst 0, 1) := by decide +kernel
theorem dX11_culprits_197 : decode cX11_culprits 197 = .ok (.istore 11, 2) := by decide +kernel
theorem dX11_culprits_199 : decode cX11_culprits 199 = .ok (.iload 11, 2) := by decide +kernel
theorem dX11_culprits_201 : decode cX11_culprits 201 = .ok (.iload 4, 2) := by decide +kernel
theorem dX11_culprits_203 : decode cX11_culprits 203 = .ok (.if_icmp .ge 26, 3) := by decide +kernel
theorem dX11_culprits_206 : decode cX11_culprits 206 = .ok (.aload_n 0, 1) := by decide +kernel
theorem dX11_culprits_207 : decode cX11_culprits 207 = .ok (.getfield 111, 3) := by decide +kernel
theorem dX11_culprits_210 : decode cX11_culprits 210 = .ok (.iload 11, 2) := by decide +kernel
theorem dX11_culprits_212 : decode cX11_culprits 212 = .ok (.dup2, 1) := by decide +kernel
theorem dX11_culprits_213 : decode cX11_culprits 213 = .ok (.iaload, 1) := by decide +kernel
theorem dX11_culprits_214 : decode cX11_culprits 214 = .ok (.iload 9, 2) := by decide +kernel
theorem dX11_culprits_216 : decode cX11_culprits 216 = .ok (.iload 11, 2) := by decide +kernel
theorem dX11_culprits_218 : decode cX11_culprits 218 = .ok (.ishr, 1) := by decide +kernel
theorem dX11_culprits_219 : decode cX11_culprits 219 = .ok (.iconst 1, 1) := by decide +kernel
theorem dX11_culprits_220 : decode cX11_culprits 220 = .ok (.iand, 1) := by decide +kernel
theorem dX11_culprits_221 : decode cX11_culprits 221 = .ok (.iadd, 1) := by decide +kernel
theorem dX11_culprits_222 : decode cX11_culprits 222 = .ok (.iastore, 1) := by decide +kernel
theorem dX11_culprits_223 : decode cX11_culprits 223 = .ok (.iinc 11 1, 3) := by decide +kernel
theorem dX11_culprits_226 : decode cX11_culprits 226 = .ok (.goto (-27), 3) := by decide +kernel
theorem dX11_culprits_229 : decode cX11_culprits 229 = .ok (.iinc 9 1, 3) := by decide +kernel
theorem dX11_culprits_232 : decode cX11_culprits 232 = .ok (.goto (-137), 3) := by decide +kernel
theorem dX11_culprits_235 : decode cX11_culprits 235 = .ok (.iload_n 3, 1) := by decide +kernel
theorem dX11_culprits_236 : decode cX11_culprits 236 = .ok (.ifCond .ne 6, 3) := by decide +kernel
theorem dX11_culprits_239 : decode cX11_culprits 239 = .ok (.iload 5, 2) := by decide +kernel
theorem dX11_culprits_241 : decode cX11_culprits 241 = .ok (.ireturn, 1) := by decide +kernel
theorem dX11_culprits_242 : decode cX11_culprits 242 = .ok (.iload 5, 2) := by decide +kernel
theorem dX11_culprits_244 : decode cX11_culprits 244 = .ok (.ifCond .ne 5, 3) := by decide +kernel
theorem dX11_culprits_247 : decode cX11_culprits 247 = .ok (.iconst (-1), 1) := by decide +kernel
theorem dX11_culprits_248 : decode cX11_culprits 248 = .ok (.ireturn, 1) := by decide +kernel
theorem dX11_culprits_249 : decode cX11_culprits 249 = .ok (.iload_n 3, 1) := by decide +kernel
theorem dX11_culprits_250 : decode cX11_culprits 250 = .ok (.iconst 1, 1) := by decide +kernel
theorem dX11_culprits_251 : decode cX11_culprits 251 = .ok (.if_icmp .ne 8, 3) := by decide +kernel
theorem dX11_culprits_254 : decode cX11_culprits 254 = .ok (.iload 6, 2) := by decide +kernel
theorem dX11_culprits_256 : decode cX11_culprits 256 = .ok (.goto 38, 3) := by decide +kernel
theorem dX11_culprits_259 : decode cX11_culprits 259 = .ok (.iload_n 3, 1) := by decide +kernel
theorem dX11_culprits_260 : decode cX11_culprits 260 = .ok (.iconst 2, 1) := by decide +kernel
theorem dX11_culprits_261 : decode cX11_culprits 261 = .ok (.if_icmp .ne 8, 3) := by decide +kernel
theorem dX11_culprits_264 : decode cX11_culprits 264 = .ok (.iload 7, 2) := by decide +kernel
theorem dX11_culprits_266 : decode cX11_culprits 266 = .ok (.goto 28, 3) := by decide +kernel
theorem dX11_culprits_269 : decode cX11_culprits 269 = .ok (.iload_n 3, 1) := by decide +kernel
theorem dX11_culprits_270 : decode cX11_culprits 270 = .ok (.iconst 3, 1) := by decide +kernel
theorem dX11_culprits_271 : decode cX11_culprits 271 = .ok (.if_icmp .ne 17, 3) := by decide +kernel
theorem dX11_culprits_274 : decode cX11_culprits 274 = .ok (.iconst 1, 1) := by decide +kernel
theorem dX11_culprits_275 : decode cX11_culprits 275 = .ok (.iload 4, 2) := by decide +kernel
theorem dX11_culprits_277 : decode cX11_culprits 277 = .ok (.ishl, 1) := by decide +kernel
theorem dX11_culprits_278 : decode cX11_culprits 278 = .ok (.iconst 1, 1) := by decide +kernel
theorem dX11_culprits_279 : decode cX11_culprits 279 = .ok (.isub, 1) := by decide +kernel
theorem dX11_culprits_280 : decode cX11_culprits 280 = .ok (.iload 8, 2) := by decide +kernel
theorem dX11_culprits_282 : decode cX11_culprits 282 = .ok (.iconst (-1), 1) := by decide +kernel
theorem dX11_culprits_283 : decode cX11_culprits 283 = .ok (.ixor, 1) := by decide +kernel
theorem dX11_culprits_284 : decode cX11_culprits 284 = .ok (.iand, 1) := by decide +kernel
theorem dX11_culprits_285 : decode cX11_culprits 285 = .ok (.goto 9, 3) := by decide +kernel
theorem dX11_culprits_288 : decode cX11_culprits 288 = .ok (.aload_n 0, 1) := by decide +kernel
theorem dX11_culprits_289 : decode cX11_culprits 289 = .ok (.iload 5, 2) := by decide +kernel
theorem dX11_culprits_291 : decode cX11_culprits 291 = .ok (.invokevirtual 460, 3) := by decide +kernel
theorem dX11_culprits_294 : decode cX11_culprits 294 = .ok (.ireturn, 1) := by decide +kernel
theorem zw_98 : (Jvm.Cond.selects "HillSchoolModel" ({ cls := "HillSchoolModel", name := "bestToWeigh", desc := "(I)I" } : Jvm.MethodName) ({ cls := "HillSchoolModel", name := "bestToWeigh", desc := "(I)I" } : Jvm.MethodName)) ∈ zall := zmemG (zmj_0 98 rfl) rfl
theorem zw_1732 : (Jvm.Cond.code ({ cls := "HillSchoolModel", name := "culprits", desc := "(III)I" } : Jvm.MethodName) prog_13_method_101_code (12 : Nat) (Option.some Jvm.ClassFile.FieldType.int)) ∈ zall := zmemG (zmj_7 189 rfl) rfl
theorem zw_1733 : (Jvm.Cond.constantLong "HillSchoolModel" (453 : Nat) (999 : Int64)) ∈ zall := zmemG (zmj_7 190 rfl) rfl
theorem zw_1734 : (Jvm.Cond.constantLong "HillSchoolModel" (455 : Nat) (4 : Int64)) ∈ zall := zmemG (zmj_7 191 rfl) rfl
theorem zw_1735 : (Jvm.Cond.methodLink "HillSchoolModel" (457 : Nat) ({ cls := "HillSchoolModel", name := "is", desc := "(II)Z" } : Jvm.MethodName)) ∈ zall := zmemG (zmj_7 192 rfl) rfl
theorem zw_1736 : (Jvm.Cond.static ({ cls := "HillSchoolModel", name := "is", desc := "(II)Z" } : Jvm.MethodName)) ∈ zall := zmemG (zmj_7 193 rfl) rfl
theorem zw_1738 : (Jvm.Cond.methodLink "HillSchoolModel" (460 : Nat) ({ cls := "HillSchoolModel", name := "bestToWeigh", desc := "(I)I" } : Jvm.MethodName)) ∈ zall := zmemG (zmj_7 195 rfl) rfl
theorem zw_1740 : (Jvm.Cond.instanceMethod ({ cls := "HillSchoolModel", name := "bestToWeigh", desc := "(I)I" } : Jvm.MethodName)) ∈ zall := zmemG (zmj_7 197 rfl) rfl
abbrev w_HM_culprits : List Cond := .code yX11_culprits cX11_culprits 12 (some .int) :: zall
abbrev rm_HM_culprits : Room := { frames := 1, cells := 0, slots := 0, locals := 25 }
theorem hd_HM_culprits : yX11_culprits.cls = "HillSchoolModel" ∧ yX11_culprits.cls ≠ "java/lang/invoke/MethodHandle" ∧ yX11_culprits.cls ≠ "java/lang/invoke/VarHandle" ∧ (parseMethodDescriptor yX11_culprits.desc).map (fun d => d.parameters.length) = some 3 := by decide +kernel
def wd_HM_culprits (cA : Nat → ClassId) (q0 q1 q2 q3 q4 q5 q6 q7 q8 q9 q10 q11 q12 q13 q14 q15 q16 q17 q18 q19 q20 q21 q22 q23 q24 q25 q26 q27 q28 q29 q30 q31 : Nat) (u0 u1 u2 u3 u4 u5 u6 u7 u8 u9 u10 u11 u12 u13 u14 u15 u16 u17 u18 u19 u20 : Int) (i_row : Nat → Int) (i_thrown : Int) (i_withOne : Nat → Int) : va_W := [(q0, .inr (11, [.int (Int32.ofInt i_thrown), .int (Int32.ofInt u0), .ref q1, .ref q2, .ref q3, .ref q4, .int (Int32.ofInt u1), .ref q5, .int (Int32.ofInt u2), .int (Int32.ofInt u3), .int (Int32.ofInt u4), .int (Int32.ofInt u5), .long (Int64.ofInt u6), .int (Int32.ofInt u7), .int (Int32.ofInt u8), .int (Int32.ofInt u9), .ref q6, .int (Int32.ofInt u10), .ref q7, .ref q8, .int (Int32.ofInt u11), .ref q9, .ref q10, .int (Int32.ofInt u12), .int (Int32.ofInt u13), .ref q11, .int (Int32.ofInt u14), .ref q12, .ref q13, .int (Int32.ofInt u15), .long (Int64.ofInt u16), .long (Int64.ofInt u17), .ref q14, .ref q15, .ref q16, .ref q17, .ref q18, .int (Int32.ofInt u18), .ref q19, .ref q20, .ref q21, .ref q22, .ref q23, .ref q24, .ref q25, .ref q26, .ref q27, .ref q28, .ref q29, .ref q30, .long (Int64.ofInt u19), .ref q31, .int (Int32.ofInt u20)])), (q2, .inl (cA 0, 5580, .inl (za i_row))), (q27, .inl (cA 0, 6, .inl (za i_withOne)))]
def wf_HM_culprits (cA : Nat → ClassId) (q0 q1 q2 q3 q4 q5 q6 q7 q8 q9 q10 q11 q12 q13 q14 q15 q16 q17 q18 q19 q20 q21 q22 q23 q24 q25 q26 q27 q28 q29 q30 q31 : Nat) (u0 u1 u2 u3 u4 u5 u6 u7 u8 u9 u10 u11 u12 u13 u14 u15 u16 u17 u18 u19 u20 : Int) (i_row : Nat → Int) (o : Int × Int × (Nat → Int)) : va_W := wd_HM_culprits cA q0 q1 q2 q3 q4 q5 q6 q7 q8 q9 q10 q11 q12 q13 q14 q15 q16 q17 q18 q19 q20 q21 q22 q23 q24 q25 q26 q27 q28 q29 q30 q31 u0 u1 u2 u3 u4 u5 u6 u7 u8 u9 u10 u11 u12 u13 u14 u15 u16 u17 u18 u19 u20 i_row o.2.1 o.2.2
def f_HM_culprits_229 (i_row : Nat → Int) (k95 : Int → Int → Int → Int → Int → Int → Int → Int → Int → Int → (Nat → Int) → Option (Int × Int × (Nat → Int))) (x1 : Int) (x2 : Int) (x3 : Int) (x4 : Int) (x5 : Int) (x6 : Int) (x7 : Int) (x8 : Int) (x9 : Int) (i_thrown : Int) (i_withOne : Nat → Int) : Option (Int × Int × (Nat → Int)) :=
  zn (x9 + 1) fun v1 =>
  k95 x1 x2 x3 x4 x5 x6 x7 x8 v1 i_thrown i_withOne
def f_HM_culprits_199_b (i_row : Nat → Int) (k95 : Int → Int → Int → Int → Int → Int → Int → Int → Int → Int → (Nat → Int) → Option (Int × Int × (Nat → Int))) (k199 : Int → Int → Int → Int → Int → Int → Int → Int → Int → Int → Int → (Nat → Int) → Option (Int × Int × (Nat → Int))) (x1 : Int) (x2 : Int) (x3 : Int) (x4 : Int) (x5 : Int) (x6 : Int) (x7 : Int) (x8 : Int) (x9 : Int) (x11 : Int) (i_thrown : Int) (i_withOne : Nat → Int) : Option (Int × Int × (Nat → Int)) :=
  if zi_w x4 ≤ zi_w x11 then
    f_HM_culprits_229 i_row k95 x1 x2 x3 x4 x5 x6 x7 x8 x9 i_thrown i_withOne
  else
    zg 6 i_withOne x11 fun v1 =>
    zn (zi_shr x9 x11) fun v2 =>
    zn (zi_and v2 1) fun v3 =>
    zn (v1 + v3) fun v4 =>
    zs 6 i_withOne x11 v4 fun a5 =>
    zn (x11 + 1) fun v6 =>
    k199 x1 x2 x3 x4 x5 x6 x7 x8 x9 v6 i_thrown a5
def f_HM_culprits_199 (i_row : Nat → Int) (k95 : Int → Int → Int → Int → Int → Int → Int → Int → Int → Int → (Nat → Int) → Option (Int × Int × (Nat → Int))) : Nat → Int → Int → Int → Int → Int → Int → Int → Int → Int → Int → Int → (Nat → Int) → Option (Int × Int × (Nat → Int))
  | 0 => fun _ _ _ _ _ _ _ _ _ _ _ _ => none
  | n + 1 => fun y0 y1 y2 y3 y4 y5 y6 y7 y8 y9 y10 y11 => f_HM_culprits_199_b i_row k95 (f_HM_culprits_199 i_row k95 n) y0 y1 y2 y3 y4 y5 y6 y7 y8 y9 y10 y11
def f_HM_culprits_177 (i_row : Nat → Int) (k95 : Int → Int → Int → Int → Int → Int → Int → Int → Int → Int → (Nat → Int) → Option (Int × Int × (Nat → Int))) (x1 : Int) (x2 : Int) (x3 : Int) (x4 : Int) (x5 : Int) (x7 : Int) (x8 : Int) (x9 : Int) (s0 : Int) (i_thrown : Int) (i_withOne : Nat → Int) : Option (Int × Int × (Nat → Int)) :=
  zn (x5 + 1) fun v1 =>
  zn (zi_and x7 x9) fun v2 =>
  zn (zi_or x8 x9) fun v3 =>
  f_HM_culprits_199 i_row k95 zfu x1 x2 x3 x4 v1 s0 v2 v3 x9 0 i_thrown i_withOne
def f_HM_culprits_150 (i_row : Nat → Int) (k95 : Int → Int → Int → Int → Int → Int → Int → Int → Int → Int → (Nat → Int) → Option (Int × Int × (Nat → Int))) (k110 : Int → Int → Int → Int → Int → Int → Int → Int → Int → Int → Int → Int → (Nat → Int) → Option (Int × Int × (Nat → Int))) (x1 : Int) (x2 : Int) (x3 : Int) (x4 : Int) (x5 : Int) (x6 : Int) (x7 : Int) (x8 : Int) (x9 : Int) (x11 : Int) (s0 : Int) (s1 : Int) (i_thrown : Int) (i_withOne : Nat → Int) : Option (Int × Int × (Nat → Int)) :=
  zn (s0 + s1) fun v1 =>
  zn (x11 + 1) fun v2 =>
  k110 x1 x2 x3 x4 x5 x6 x7 x8 x9 v1 v2 i_thrown i_withOne
def f_HM_culprits_110_b (i_row : Nat → Int) (k95 : Int → Int → Int → Int → Int → Int → Int → Int → Int → Int → (Nat → Int) → Option (Int × Int × (Nat → Int))) (k110 : Int → Int → Int → Int → Int → Int → Int → Int → Int → Int → Int → Int → (Nat → Int) → Option (Int × Int × (Nat → Int))) (x1 : Int) (x2 : Int) (x3 : Int) (x4 : Int) (x5 : Int) (x6 : Int) (x7 : Int) (x8 : Int) (x9 : Int) (x10 : Int) (x11 : Int) (i_thrown : Int) (i_withOne : Nat → Int) : Option (Int × Int × (Nat → Int)) :=
  if zi_w x4 ≤ zi_w x11 then
    if zi_w x10 ≠ zi_w x2 then
      f_HM_culprits_229 i_row k95 x1 x2 x3 x4 x5 x6 x7 x8 x9 i_thrown i_withOne
    else
      if zi_w x5 ≠ 0 then
        f_HM_culprits_177 i_row k95 x1 x2 x3 x4 x5 x7 x8 x9 x6 i_thrown i_withOne
      else
        f_HM_culprits_177 i_row k95 x1 x2 x3 x4 x5 x7 x8 x9 x9 i_thrown i_withOne
  else
    zd1 (f_HM_is x9 x11) fun v1 =>
    if zi_w v1 = 0 then
      f_HM_culprits_150 i_row k95 k110 x1 x2 x3 x4 x5 x6 x7 x8 x9 x11 x10 0 i_thrown i_withOne
    else
      zn (3 * x11) fun v2 =>
      zn (153 + v2) fun v3 =>
      zn (v3 + 2) fun v4 =>
      zg 5580 i_row v4 fun v5 =>
      zn (x1 * v5) fun v6 =>
      f_HM_culprits_150 i_row k95 k110 x1 x2 x3 x4 x5 x6 x7 x8 x9 x11 x10 v6 i_thrown i_withOne
def f_HM_culprits_110 (i_row : Nat → Int) (k95 : Int → Int → Int → Int → Int → Int → Int → Int → Int → Int → (Nat → Int) → Option (Int × Int × (Nat → Int))) : Nat → Int → Int → Int → Int → Int → Int → Int → Int → Int → Int → Int → Int → (Nat → Int) → Option (Int × Int × (Nat → Int))
  | 0 => fun _ _ _ _ _ _ _ _ _ _ _ _ _ => none
  | n + 1 => fun y0 y1 y2 y3 y4 y5 y6 y7 y8 y9 y10 y11 y12 => f_HM_culprits_110_b i_row k95 (f_HM_culprits_110 i_row k95 n) y0 y1 y2 y3 y4 y5 y6 y7 y8 y9 y10 y11 y12
def f_HM_culprits_95_b (i_row : Nat → Int) (k95 : Int → Int → Int → Int → Int → Int → Int → Int → Int → Int → (Nat → Int) → Option (Int × Int × (Nat → Int))) (x1 : Int) (x2 : Int) (x3 : Int) (x4 : Int) (x5 : Int) (x6 : Int) (x7 : Int) (x8 : Int) (x9 : Int) (i_thrown : Int) (i_withOne : Nat → Int) : Option (Int × Int × (Nat → Int)) :=
  zn (zi_shl 1 x4) fun v1 =>
  if zi_w v1 ≤ zi_w x9 then
    if zi_w x3 ≠ 0 then
      if zi_w x5 ≠ 0 then
        if zi_w x3 ≠ zi_w 1 then
          if zi_w x3 ≠ zi_w 2 then
            if zi_w x3 ≠ zi_w 3 then
              zd1 (f_HM_bestToWeigh x5 i_row i_withOne) fun v2 =>
              some (v2, i_thrown, i_withOne)
            else
              zn (zi_shl 1 x4) fun v3 =>
              zn (v3 - 1) fun v4 =>
              zn (zi_xor x8 (-1)) fun v5 =>
              zn (zi_and v4 v5) fun v6 =>
              some (v6, i_thrown, i_withOne)
          else
            some (x7, i_thrown, i_withOne)
        else
          some (x6, i_thrown, i_withOne)
      else
        some ((-1), i_thrown, i_withOne)
    else
      some (x5, i_thrown, i_withOne)
  else
    f_HM_culprits_110 i_row k95 zfu x1 x2 x3 x4 x5 x6 x7 x8 x9 0 0 i_thrown i_withOne
def f_HM_culprits_95 (i_row : Nat → Int) : Nat → Int → Int → Int → Int → Int → Int → Int → Int → Int → Int → (Nat → Int) → Option (Int × Int × (Nat → Int))
  | 0 => fun _ _ _ _ _ _ _ _ _ _ _ => none
  | n + 1 => fun y0 y1 y2 y3 y4 y5 y6 y7 y8 y9 y10 => f_HM_culprits_95_b i_row (f_HM_culprits_95 i_row n) y0 y1 y2 y3 y4 y5 y6 y7 y8 y9 y10
def f_HM_culprits_71_b (i_row : Nat → Int) (k71 : Int → Int → Int → Int → Int → Int → Int → Int → Int → Int → (Nat → Int) → Option (Int × Int × (Nat → Int))) (x1 : Int) (x2 : Int) (x3 : Int) (x4 : Int) (x5 : Int) (x6 : Int) (x7 : Int) (x8 : Int) (x9 : Int) (i_thrown : Int) (i_withOne : Nat → Int) : Option (Int × Int × (Nat → Int)) :=
  if zi_w 6 ≤ zi_w x9 then
    f_HM_culprits_95 i_row zfu x1 x2 x3 x4 x5 x6 x7 x8 0 i_thrown i_withOne
  else
    zs 6 i_withOne x9 0 fun a1 =>
    zn (x9 + 1) fun v2 =>
    k71 x1 x2 x3 x4 x5 x6 x7 x8 v2 i_thrown a1
def f_HM_culprits_71 (i_row : Nat → Int) : Nat → Int → Int → Int → Int → Int → Int → Int → Int → Int → Int → (Nat → Int) → Option (Int × Int × (Nat → Int))
  | 0 => fun _ _ _ _ _ _ _ _ _ _ _ => none
  | n + 1 => fun y0 y1 y2 y3 y4 y5 y6 y7 y8 y9 y10 => f_HM_culprits_71_b i_row (f_HM_culprits_71 i_row n) y0 y1 y2 y3 y4 y5 y6 y7 y8 y9 y10
def f_HM_culprits (x1 : Int) (x2 : Int) (x3 : Int) (i_row : Nat → Int) (i_thrown : Int) (i_withOne : Nat → Int) : Option (Int × Int × (Nat → Int)) :=
  zn (zi_w x1) fun v1 =>
  zd1 (f_HM_in v1 1 9) fun v2 =>
  if zi_w v2 = 0 then
    some ((-1), 0, i_withOne)
  else
    zn (zi_w x2) fun v3 =>
    zd1 (f_HM_in v3 0 999) fun v4 =>
    if zi_w v4 = 0 then
      some ((-1), 0, i_withOne)
    else
      zn (zi_w x3) fun v5 =>
      zd1 (f_HM_in v5 0 4) fun v6 =>
      if zi_w v6 ≠ 0 then
        zg 5580 i_row 1 fun v7 =>
        zn (zi_shl 1 v7) fun v8 =>
        zn (v8 - 1) fun v9 =>
        f_HM_culprits_71 i_row zfu x1 x2 x3 v7 0 (-1) v9 0 0 0 i_withOne
      else
        some ((-1), 0, i_withOne)
set_option maxHeartbeats 4000000 in
set_option maxRecDepth 100000 in
theorem c_HM_culprits (l : Launch) (ev : zEv) (dC : Nat → ClassId) (dI : Nat → Nat → Nat) (cA : Nat → ClassId) (q0 q1 q2 q3 q4 q5 q6 q7 q8 q9 q10 q11 q12 q13 q14 q15 q16 q17 q18 q19 q20 q21 q22 q23 q24 q25 q26 q27 q28 q29 q30 q31 : Nat) (u0 u1 u2 u3 u4 u5 u6 u7 u8 u9 u10 u11 u12 u13 u14 u15 u16 u17 u18 u19 u20 : Int) {x1 x2 x3 : Int} {i_row : Nat → Int} {i_thrown : Int} {i_withOne : Nat → Int} {out : Int × Int × (Nat → Int)} (hf : f_HM_culprits x1 x2 x3 i_row i_thrown i_withOne = some out) : xc_I l ev (dC, dI) vwCl (tyl cA) yX11_culprits w_HM_culprits rm_HM_culprits [.ref q0, .int (Int32.ofInt x1), .int (Int32.ofInt x2), .int (Int32.ofInt x3)] (wd_HM_culprits cA q0 q1 q2 q3 q4 q5 q6 q7 q8 q9 q10 q11 q12 q13 q14 q15 q16 q17 q18 q19 q20 q21 q22 q23 q24 q25 q26 q27 q28 q29 q30 q31 u0 u1 u2 u3 u4 u5 u6 u7 u8 u9 u10 u11 u12 u13 u14 u15 u16 u17 u18 u19 u20 i_row i_thrown i_withOne) (wf_HM_culprits cA q0 q1 q2 q3 q4 q5 q6 q7 q8 q9 q10 q11 q12 q13 q14 q15 q16 q17 q18 q19 q20 q21 q22 q23 q24 q25 q26 q27 q28 q29 q30 q31 u0 u1 u2 u3 u4 u5 u6 u7 u8 u9 u10 u11 u12 u13 u14 u15 u16 u17 u18 u19 u20 i_row out) out.1 := by
  refine xv_startI (cc := cX11_culprits) (maxL := 12) (rt := .int) (by decide +kernel) rfl (Nat.le_of_ble_eq_true rfl) ?_
  intro p e s m args below meth c A Q H ls hx hb hml hts hown hK hA hP hD hS hl hE hret
  have hown : s.vm.findClass "HillSchoolModel" = some m.cls := hown
  have hz : ∀ w ∈ zall, w.before args s = true := fun w h => hts w (List.mem_cons_of_mem _ h)
  have hl : lv_has ls 12 [(0, .ref q0), (1, .int (Int32.ofInt x1)), (2, .int (Int32.ofInt x2)), (3, .int (Int32.ofInt x3))] := hl
  have b_229 : ∀ (k95 : Int → Int → Int → Int → Int → Int → Int → Int → Int → Int → (Nat → Int) → Option (Int × Int × (Nat → Int))) (_ : ∀ (x1 : Int) (x2 : Int) (x3 : Int) (x4 : Int) (x5 : Int) (x6 : Int) (x7 : Int) (x8 : Int) (x9 : Int) (i_thrown : Int) (i_withOne : Nat → Int) (H : Heap) (locs : List Loc) (ls : Array Slot), k95 x1 x2 x3 x4 x5 x6 x7 x8 x9 i_thrown i_withOne = some out → va_P (dC, dI) vwCl (wd_HM_culprits cA q0 q1 q2 q3 q4 q5 q6 q7 q8 q9 q10 q11 q12 q13 q14 q15 q16 q17 q18 q19 q20 q21 q22 q23 q24 q25 q26 q27 q28 q29 q30 q31 u0 u1 u2 u3 u4 u5 u6 u7 u8 u9 u10 u11 u12 u13 u14 u15 u16 u17 u18 u19 u20 i_row i_thrown i_withOne) H → va_D A (wd_HM_culprits cA q0 q1 q2 q3 q4 q5 q6 q7 q8 q9 q10 q11 q12 q13 q14 q15 q16 q17 q18 q19 q20 q21 q22 q23 q24 q25 q26 q27 q28 q29 q30 q31 u0 u1 u2 u3 u4 u5 u6 u7 u8 u9 u10 u11 u12 u13 u14 u15 u16 u17 u18 u19 u20 i_row i_thrown i_withOne) → va_S A s.heap H locs → lv_has ls 12 [(0, .ref q0), (1, .int (Int32.ofInt x1)), (2, .int (Int32.ofInt x2)), (3, .int (Int32.ofInt x3)), (4, .int (Int32.ofInt x4)), (5, .int (Int32.ofInt x5)), (6, .int (Int32.ofInt x6)), (7, .int (Int32.ofInt x7)), (8, .int (Int32.ofInt x8)), (9, .int (Int32.ofInt x9))] → W p l e rm_HM_culprits s m args below meth c H locs 0 0 Q (F0 m 95 ls [])), ∀ (x1 : Int) (x2 : Int) (x3 : Int) (x4 : Int) (x5 : Int) (x6 : Int) (x7 : Int) (x8 : Int) (x9 : Int) (i_thrown : Int) (i_withOne : Nat → Int) (H : Heap) (locs : List Loc) (ls : Array Slot), f_HM_culprits_229 i_row k95 x1 x2 x3 x4 x5 x6 x7 x8 x9 i_thrown i_withOne = some out → va_P (dC, dI) vwCl (wd_HM_culprits cA q0 q1 q2 q3 q4 q5 q6 q7 q8 q9 q10 q11 q12 q13 q14 q15 q16 q17 q18 q19 q20 q21 q22 q23 q24 q25 q26 q27 q28 q29 q30 q31 u0 u1 u2 u3 u4 u5 u6 u7 u8 u9 u10 u11 u12 u13 u14 u15 u16 u17 u18 u19 u20 i_row i_thrown i_withOne) H → va_D A (wd_HM_culprits cA q0 q1 q2 q3 q4 q5 q6 q7 q8 q9 q10 q11 q12 q13 q14 q15 q16 q17 q18 q19 q20 q21 q22 q23 q24 q25 q26 q27 q28 q29 q30 q31 u0 u1 u2 u3 u4 u5 u6 u7 u8 u9 u10 u11 u12 u13 u14 u15 u16 u17 u18 u19 u20 i_row i_thrown i_withOne) → va_S A s.heap H locs → lv_has ls 12 [(0, .ref q0), (1, .int (Int32.ofInt x1)), (2, .int (Int32.ofInt x2)), (3, .int (Int32.ofInt x3)), (4, .int (Int32.ofInt x4)), (5, .int (Int32.ofInt x5)), (6, .int (Int32.ofInt x6)), (7, .int (Int32.ofInt x7)), (8, .int (Int32.ofInt x8)), (9, .int (Int32.ofInt x9))] → W p l e rm_HM_culprits s m args below meth c H locs 0 0 Q (F0 m 229 ls []) := by
    intro k95 ih95 x1 x2 x3 x4 x5 x6 x7 x8 x9 i_thrown i_withOne H locs ls hf hP hD hS hl
    unfold f_HM_culprits_229 at hf
    refine xi_iinc hx hb dX11_culprits_229 hl (k := 9) rfl (by decide) hf (fun v1 ls hl hf => ?_)
    have hl : lv_has ls 12 [(9, .int (Int32.ofInt v1)), (0, .ref q0), (1, .int (Int32.ofInt x1)), (2, .int (Int32.ofInt x2)), (3, .int (Int32.ofInt x3)), (4, .int (Int32.ofInt x4)), (5, .int (Int32.ofInt x5)), (6, .int (Int32.ofInt x6)), (7, .int (Int32.ofInt x7)), (8, .int (Int32.ofInt x8))] := hl
    refine lv_goto (tgt := 95) hx hb dX11_culprits_232 (by decide) ?_
    exact ih95 _ _ _ _ _ _ _ _ _ _ _ _ _ _ hf hP hD hS (lv_sub hl [1, 2, 3, 4, 5, 6, 7, 8, 9, 0] rfl)
  have b_199 : ∀ (k95 : Int → Int → Int → Int → Int → Int → Int → Int → Int → Int → (Nat → Int) → Option (Int × Int × (Nat → Int))) (_ : ∀ (x1 : Int) (x2 : Int) (x3 : Int) (x4 : Int) (x5 : Int) (x6 : Int) (x7 : Int) (x8 : Int) (x9 : Int) (i_thrown : Int) (i_withOne : Nat → Int) (H : Heap) (locs : List Loc) (ls : Array Slot), k95 x1 x2 x3 x4 x5 x6 x7 x8 x9 i_thrown i_withOne = some out → va_P (dC, dI) vwCl (wd_HM_culprits cA q0 q1 q2 q3 q4 q5 q6 q7 q8 q9 q10 q11 q12 q13 q14 q15 q16 q17 q18 q19 q20 q21 q22 q23 q24 q25 q26 q27 q28 q29 q30 q31 u0 u1 u2 u3 u4 u5 u6 u7 u8 u9 u10 u11 u12 u13 u14 u15 u16 u17 u18 u19 u20 i_row i_thrown i_withOne) H → va_D A (wd_HM_culprits cA q0 q1 q2 q3 q4 q5 q6 q7 q8 q9 q10 q11 q12 q13 q14 q15 q16 q17 q18 q19 q20 q21 q22 q23 q24 q25 q26 q27 q28 q29 q30 q31 u0 u1 u2 u3 u4 u5 u6 u7 u8 u9 u10 u11 u12 u13 u14 u15 u16 u17 u18 u19 u20 i_row i_thrown i_withOne) → va_S A s.heap H locs → lv_has ls 12 [(0, .ref q0), (1, .int (Int32.ofInt x1)), (2, .int (Int32.ofInt x2)), (3, .int (Int32.ofInt x3)), (4, .int (Int32.ofInt x4)), (5, .int (Int32.ofInt x5)), (6, .int (Int32.ofInt x6)), (7, .int (Int32.ofInt x7)), (8, .int (Int32.ofInt x8)), (9, .int (Int32.ofInt x9))] → W p l e rm_HM_culprits s m args below meth c H locs 0 0 Q (F0 m 95 ls [])), ∀ (k199 : Int → Int → Int → Int → Int → Int → Int → Int → Int → Int → Int → (Nat → Int) → Option (Int × Int × (Nat → Int))) (_ : ∀ (x1 : Int) (x2 : Int) (x3 : Int) (x4 : Int) (x5 : Int) (x6 : Int) (x7 : Int) (x8 : Int) (x9 : Int) (x11 : Int) (i_thrown : Int) (i_withOne : Nat → Int) (H : Heap) (locs : List Loc) (ls : Array Slot), k199 x1 x2 x3 x4 x5 x6 x7 x8 x9 x11 i_thrown i_withOne = some out → va_P (dC, dI) vwCl (wd_HM_culprits cA q0 q1 q2 q3 q4 q5 q6 q7 q8 q9 q10 q11 q12 q13 q14 q15 q16 q17 q18 q19 q20 q21 q22 q23 q24 q25 q26 q27 q28 q29 q30 q31 u0 u1 u2 u3 u4 u5 u6 u7 u8 u9 u10 u11 u12 u13 u14 u15 u16 u17 u18 u19 u20 i_row i_thrown i_withOne) H → va_D A (wd_HM_culprits cA q0 q1 q2 q3 q4 q5 q6 q7 q8 q9 q10 q11 q12 q13 q14 q15 q16 q17 q18 q19 q20 q21 q22 q23 q24 q25 q26 q27 q28 q29 q30 q31 u0 u1 u2 u3 u4 u5 u6 u7 u8 u9 u10 u11 u12 u13 u14 u15 u16 u17 u18 u19 u20 i_row i_thrown i_withOne) → va_S A s.heap H locs → lv_has ls 12 [(0, .ref q0), (1, .int (Int32.ofInt x1)), (2, .int (Int32.ofInt x2)), (3, .int (Int32.ofInt x3)), (4, .int (Int32.ofInt x4)), (5, .int (Int32.ofInt x5)), (6, .int (Int32.ofInt x6)), (7, .int (Int32.ofInt x7)), (8, .int (Int32.ofInt x8)), (9, .int (Int32.ofInt x9)), (11, .int (Int32.ofInt x11))] → W p l e rm_HM_culprits s m args below meth c H locs 0 0 Q (F0 m 199 ls [])), ∀ (x1 : Int) (x2 : Int) (x3 : Int) (x4 : Int) (x5 : Int) (x6 : Int) (x7 : Int) (x8 : Int) (x9 : Int) (x11 : Int) (i_thrown : Int) (i_withOne : Nat → Int) (H : Heap) (locs : List Loc) (ls : Array Slot), f_HM_culprits_199_b i_row k95 k199 x1 x2 x3 x4 x5 x6 x7 x8 x9 x11 i_thrown i_withOne = some out → va_P (dC, dI) vwCl (wd_HM_culprits cA q0 q1 q2 q3 q4 q5 q6 q7 q8 q9 q10 q11 q12 q13 q14 q15 q16 q17 q18 q19 q20 q21 q22 q23 q24 q25 q26 q27 q28 q29 q30 q31 u0 u1 u2 u3 u4 u5 u6 u7 u8 u9 u10 u11 u12 u13 u14 u15 u16 u17 u18 u19 u20 i_row i_thrown i_withOne) H → va_D A (wd_HM_culprits cA q0 q1 q2 q3 q4 q5 q6 q7 q8 q9 q10 q11 q12 q13 q14 q15 q16 q17 q18 q19 q20 q21 q22 q23 q24 q25 q26 q27 q28 q29 q30 q31 u0 u1 u2 u3 u4 u5 u6 u7 u8 u9 u10 u11 u12 u13 u14 u15 u16 u17 u18 u19 u20 i_row i_thrown i_withOne) → va_S A s.heap H locs → lv_has ls 12 [(0, .ref q0), (1, .int (Int32.ofInt x1)), (2, .int (Int32.ofInt x2)), (3, .int (Int32.ofInt x3)), (4, .int (Int32.ofInt x4)), (5, .int (Int32.ofInt x5)), (6, .int (Int32.ofInt x6)), (7, .int (Int32.ofInt x7)), (8, .int (Int32.ofInt x8)), (9, .int (Int32.ofInt x9)), (11, .int (Int32.ofInt x11))] → W p l e rm_HM_culprits s m args below meth c H locs 0 0 Q (F0 m 199 ls []) := by
    intro k95 ih95 k199 ih199 x1 x2 x3 x4 x5 x6 x7 x8 x9 x11 i_thrown i_withOne H locs ls hf hP hD hS hl
    unfold f_HM_culprits_199_b at hf
    refine lv_iload hx hb dX11_culprits_199 (lv_at hl 10 rfl) ?_
    refine lv_iload hx hb dX11_culprits_201 (lv_at hl 4 rfl) ?_
    refine xi_icmp_ge (tgt := 229) hx hb dX11_culprits_203 (by decide) hf (fun hf => ?_) (fun hf => ?_)
    · exact b_229 _ ih95 _ _ _ _ _ _ _ _ _ _ _ _ _ _ hf hP hD hS (lv_sub hl [0, 1, 2, 3, 4, 5, 6, 7, 8, 9] rfl)
    · refine lv_aload_n hx hb dX11_culprits_206 rfl (lv_at hl 0 rfl) ?_
      refine va_get (D := (dC, dI)) (ci := 11) (v := .ref q27) (C := RX11) (T := TX11) (N := 53) hx hb hz zi_X11 hown hK hP 0 rfl rfl 46 (by decide) (hz _ zw_1211) (fun _ h9 => h9) rfl dX11_culprits_207 ?_
      refine lv_iload hx hb dX11_culprits_210 (lv_at hl 10 rfl) ?_
      refine lv_dup2_11 hx hb dX11_culprits_212 rfl rfl ?_
      refine xi_iald hx hb hK hP 2 0 rfl rfl dX11_culprits_213 hf (fun v1 hf => ?_)
      refine lv_iload hx hb dX11_culprits_214 (lv_at hl 9 rfl) ?_
      refine lv_iload hx hb dX11_culprits_216 (lv_at hl 10 rfl) ?_
      refine xi_ishr hx hb dX11_culprits_218 hf (fun v2 hf => ?_)
      refine lv_iconst (v := Int32.ofInt 1) hx hb dX11_culprits_219 rfl ?_
      refine xi_iand hx hb dX11_culprits_220 hf (fun v3 hf => ?_)
      refine xi_iadd hx hb dX11_culprits_221 hf (fun v4 hf => ?_)
      refine xi_iast hx hb hK hP hD hS 2 0 rfl rfl dX11_culprits_222 hf (fun a5 H locs hP hD hS hf => ?_)
      have hP : va_P (dC, dI) vwCl (wd_HM_culprits cA q0 q1 q2 q3 q4 q5 q6 q7 q8 q9 q10 q11 q12 q13 q14 q15 q16 q17 q18 q19 q20 q21 q22 q23 q24 q25 q26 q27 q28 q29 q30 q31 u0 u1 u2 u3 u4 u5 u6 u7 u8 u9 u10 u11 u12 u13 u14 u15 u16 u17 u18 u19 u20 i_row i_thrown a5) H := hP
      have hD : va_D A (wd_HM_culprits cA q0 q1 q2 q3 q4 q5 q6 q7 q8 q9 q10 q11 q12 q13 q14 q15 q16 q17 q18 q19 q20 q21 q22 q23 q24 q25 q26 q27 q28 q29 q30 q31 u0 u1 u2 u3 u4 u5 u6 u7 u8 u9 u10 u11 u12 u13 u14 u15 u16 u17 u18 u19 u20 i_row i_thrown a5) := hD
      refine xi_iinc hx hb dX11_culprits_223 hl (k := 10) rfl (by decide) hf (fun v6 ls hl hf => ?_)
      have hl : lv_has ls 12 [(11, .int (Int32.ofInt v6)), (0, .ref q0), (1, .int (Int32.ofInt x1)), (2, .int (Int32.ofInt x2)), (3, .int (Int32.ofInt x3)), (4, .int (Int32.ofInt x4)), (5, .int (Int32.ofInt x5)), (6, .int (Int32.ofInt x6)), (7, .int (Int32.ofInt x7)), (8, .int (Int32.ofInt x8)), (9, .int (Int32.ofInt x9))] := hl
      refine lv_goto (tgt := 199) hx hb dX11_culprits_226 (by decide) ?_
      exact ih199 _ _ _ _ _ _ _ _ _ _ _ _ _ _ _ hf hP hD hS (lv_sub hl [1, 2, 3, 4, 5, 6, 7, 8, 9, 10, 0] rfl)
  have l_199 : ∀ (k95 : Int → Int → Int → Int → Int → Int → Int → Int → Int → Int → (Nat → Int) → Option (Int × Int × (Nat → Int))) (_ : ∀ (x1 : Int) (x2 : Int) (x3 : Int) (x4 : Int) (x5 : Int) (x6 : Int) (x7 : Int) (x8 : Int) (x9 : Int) (i_thrown : Int) (i_withOne : Nat → Int) (H : Heap) (locs : List Loc) (ls : Array Slot), k95 x1 x2 x3 x4 x5 x6 x7 x8 x9 i_thrown i_withOne = some out → va_P (dC, dI) vwCl (wd_HM_culprits cA q0 q1 q2 q3 q4 q5 q6 q7 q8 q9 q10 q11 q12 q13 q14 q15 q16 q17 q18 q19 q20 q21 q22 q23 q24 q25 q26 q27 q28 q29 q30 q31 u0 u1 u2 u3 u4 u5 u6 u7 u8 u9 u10 u11 u12 u13 u14 u15 u16 u17 u18 u19 u20 i_row i_thrown i_withOne) H → va_D A (wd_HM_culprits cA q0 q1 q2 q3 q4 q5 q6 q7 q8 q9 q10 q11 q12 q13 q14 q15 q16 q17 q18 q19 q20 q21 q22 q23 q24 q25 q26 q27 q28 q29 q30 q31 u0 u1 u2 u3 u4 u5 u6 u7 u8 u9 u10 u11 u12 u13 u14 u15 u16 u17 u18 u19 u20 i_row i_thrown i_withOne) → va_S A s.heap H locs → lv_has ls 12 [(0, .ref q0), (1, .int (Int32.ofInt x1)), (2, .int (Int32.ofInt x2)), (3, .int (Int32.ofInt x3)), (4, .int (Int32.ofInt x4)), (5, .int (Int32.ofInt x5)), (6, .int (Int32.ofInt x6)), (7, .int (Int32.ofInt x7)), (8, .int (Int32.ofInt x8)), (9, .int (Int32.ofInt x9))] → W p l e rm_HM_culprits s m args below meth c H locs 0 0 Q (F0 m 95 ls [])), ∀ (n : Nat), ∀ (x1 : Int) (x2 : Int) (x3 : Int) (x4 : Int) (x5 : Int) (x6 : Int) (x7 : Int) (x8 : Int) (x9 : Int) (x11 : Int) (i_thrown : Int) (i_withOne : Nat → Int) (H : Heap) (locs : List Loc) (ls : Array Slot), f_HM_culprits_199 i_row k95 n x1 x2 x3 x4 x5 x6 x7 x8 x9 x11 i_thrown i_withOne = some out → va_P (dC, dI) vwCl (wd_HM_culprits cA q0 q1 q2 q3 q4 q5 q6 q7 q8 q9 q10 q11 q12 q13 q14 q15 q16 q17 q18 q19 q20 q21 q22 q23 q24 q25 q26 q27 q28 q29 q30 q31 u0 u1 u2 u3 u4 u5 u6 u7 u8 u9 u10 u11 u12 u13 u14 u15 u16 u17 u18 u19 u20 i_row i_thrown i_withOne) H → va_D A (wd_HM_culprits cA q0 q1 q2 q3 q4 q5 q6 q7 q8 q9 q10 q11 q12 q13 q14 q15 q16 q17 q18 q19 q20 q21 q22 q23 q24 q25 q26 q27 q28 q29 q30 q31 u0 u1 u2 u3 u4 u5 u6 u7 u8 u9 u10 u11 u12 u13 u14 u15 u16 u17 u18 u19 u20 i_row i_thrown i_withOne) → va_S A s.heap H locs → lv_has ls 12 [(0, .ref q0), (1, .int (Int32.ofInt x1)), (2, .int (Int32.ofInt x2)), (3, .int (Int32.ofInt x3)), (4, .int (Int32.ofInt x4)), (5, .int (Int32.ofInt x5)), (6, .int (Int32.ofInt x6)), (7, .int (Int32.ofInt x7)), (8, .int (Int32.ofInt x8)), (9, .int (Int32.ofInt x9)), (11, .int (Int32.ofInt x11))] → W p l e rm_HM_culprits s m args below meth c H locs 0 0 Q (F0 m 199 ls []) := by
    intro k95 ih95 n
    induction n with
    | zero => intro x1 x2 x3 x4 x5 x6 x7 x8 x9 x11 i_thrown i_withOne H locs ls hf hP hD hS hl; exact nomatch hf
    | succ n ih => intro x1 x2 x3 x4 x5 x6 x7 x8 x9 x11 i_thrown i_withOne H locs ls hf hP hD hS hl; exact b_199 k95 ih95 (f_HM_culprits_199 i_row k95 n) ih x1 x2 x3 x4 x5 x6 x7 x8 x9 x11 i_thrown i_withOne H locs ls hf hP hD hS hl
  have b_177 : ∀ (k95 : Int → Int → Int → Int → Int → Int → Int → Int → Int → Int → (Nat → Int) → Option (Int × Int × (Nat → Int))) (_ : ∀ (x1 : Int) (x2 : Int) (x3 : Int) (x4 : Int) (x5 : Int) (x6 : Int) (x7 : Int) (x8 : Int) (x9 : Int) (i_thrown : Int) (i_withOne : Nat → Int) (H : Heap) (locs : List Loc) (ls : Array Slot), k95 x1 x2 x3 x4 x5 x6 x7 x8 x9 i_thrown i_withOne = some out → va_P (dC, dI) vwCl (wd_HM_culprits cA q0 q1 q2 q3 q4 q5 q6 q7 q8 q9 q10 q11 q12 q13 q14 q15 q16 q17 q18 q19 q20 q21 q22 q23 q24 q25 q26 q27 q28 q29 q30 q31 u0 u1 u2 u3 u4 u5 u6 u7 u8 u9 u10 u11 u12 u13 u14 u15 u16 u17 u18 u19 u20 i_row i_thrown i_withOne) H → va_D A (wd_HM_culprits cA q0 q1 q2 q3 q4 q5 q6 q7 q8 q9 q10 q11 q12 q13 q14 q15 q16 q17 q18 q19 q20 q21 q22 q23 q24 q25 q26 q27 q28 q29 q30 q31 u0 u1 u2 u3 u4 u5 u6 u7 u8 u9 u10 u11 u12 u13 u14 u15 u16 u17 u18 u19 u20 i_row i_thrown i_withOne) → va_S A s.heap H locs → lv_has ls 12 [(0, .ref q0), (1, .int (Int32.ofInt x1)), (2, .int (Int32.ofInt x2)), (3, .int (Int32.ofInt x3)), (4, .int (Int32.ofInt x4)), (5, .int (Int32.ofInt x5)), (6, .int (Int32.ofInt x6)), (7, .int (Int32.ofInt x7)), (8, .int (Int32.ofInt x8)), (9, .int (Int32.ofInt x9))] → W p l e rm_HM_culprits s m args below meth c H locs 0 0 Q (F0 m 95 ls [])), ∀ (x1 : Int) (x2 : Int) (x3 : Int) (x4 : Int) (x5 : Int) (x7 : Int) (x8 : Int) (x9 : Int) (s0 : Int) (i_thrown : Int) (i_withOne : Nat → Int) (H : Heap) (locs : List Loc) (ls : Array Slot), f_HM_culprits_177 i_row k95 x1 x2 x3 x4 x5 x7 x8 x9 s0 i_thrown i_withOne = some out → va_P (dC, dI) vwCl (wd_HM_culprits cA q0 q1 q2 q3 q4 q5 q6 q7 q8 q9 q10 q11 q12 q13 q14 q15 q16 q17 q18 q19 q20 q21 q22 q23 q24 q25 q26 q27 q28 q29 q30 q31 u0 u1 u2 u3 u4 u5 u6 u7 u8 u9 u10 u11 u12 u13 u14 u15 u16 u17 u18 u19 u20 i_row i_thrown i_withOne) H → va_D A (wd_HM_culprits cA q0 q1 q2 q3 q4 q5 q6 q7 q8 q9 q10 q11 q12 q13 q14 q15 q16 q17 q18 q19 q20 q21 q22 q23 q24 q25 q26 q27 q28 q29 q30 q31 u0 u1 u2 u3 u4 u5 u6 u7 u8 u9 u10 u11 u12 u13 u14 u15 u16 u17 u18 u19 u20 i_row i_thrown i_withOne) → va_S A s.heap H locs → lv_has ls 12 [(0, .ref q0), (1, .int (Int32.ofInt x1)), (2, .int (Int32.ofInt x2)), (3, .int (Int32.ofInt x3)), (4, .int (Int32.ofInt x4)), (5, .int (Int32.ofInt x5)), (7, .int (Int32.ofInt x7)), (8, .int (Int32.ofInt x8)), (9, .int (Int32.ofInt x9))] → W p l e rm_HM_culprits s m args below meth c H locs 0 0 Q (F0 m 177 ls [.int (Int32.ofInt s0)]) := by
    intro k95 ih95 x1 x2 x3 x4 x5 x7 x8 x9 s0 i_thrown i_withOne H locs ls hf hP hD hS hl
    unfold f_HM_culprits_177 at hf
    refine lv_istore (lv' := [(6, .int (Int32.ofInt s0)), (0, .ref q0), (1, .int (Int32.ofInt x1)), (2, .int (Int32.ofInt x2)), (3, .int (Int32.ofInt x3)), (4, .int (Int32.ofInt x4)), (5, .int (Int32.ofInt x5)), (7, .int (Int32.ofInt x7)), (8, .int (Int32.ofInt x8)), (9, .int (Int32.ofInt x9))]) hx hb dX11_culprits_177 hl (by decide) rfl (fun ls hl => ?_)
    refine xi_iinc hx hb dX11_culprits_179 hl (k := 6) rfl (by decide) hf (fun v1 ls hl hf => ?_)
    have hl : lv_has ls 12 [(5, .int (Int32.ofInt v1)), (6, .int (Int32.ofInt s0)), (0, .ref q0), (1, .int (Int32.ofInt x1)), (2, .int (Int32.ofInt x2)), (3, .int (Int32.ofInt x3)), (4, .int (Int32.ofInt x4)), (7, .int (Int32.ofInt x7)), (8, .int (Int32.ofInt x8)), (9, .int (Int32.ofInt x9))] := hl
    refine lv_iload hx hb dX11_culprits_182 (lv_at hl 7 rfl) ?_
    refine lv_iload hx hb dX11_culprits_184 (lv_at hl 9 rfl) ?_
    refine xi_iand hx hb dX11_culprits_186 hf (fun v2 hf => ?_)
    refine lv_istore (lv' := [(7, .int (Int32.ofInt v2)), (5, .int (Int32.ofInt v1)), (6, .int (Int32.ofInt s0)), (0, .ref q0), (1, .int (Int32.ofInt x1)), (2, .int (Int32.ofInt x2)), (3, .int (Int32.ofInt x3)), (4, .int (Int32.ofInt x4)), (8, .int (Int32.ofInt x8)), (9, .int (Int32.ofInt x9))]) hx hb dX11_culprits_187 hl (by decide) rfl (fun ls hl => ?_)
    refine lv_iload hx hb dX11_culprits_189 (lv_at hl 8 rfl) ?_
    refine lv_iload hx hb dX11_culprits_191 (lv_at hl 9 rfl) ?_
    refine xi_ior hx hb dX11_culprits_193 hf (fun v3 hf => ?_)
    refine lv_istore (lv' := [(8, .int (Int32.ofInt v3)), (7, .int (Int32.ofInt v2)), (5, .int (Int32.ofInt v1)), (6, .int (Int32.ofInt s0)), (0, .ref q0), (1, .int (Int32.ofInt x1)), (2, .int (Int32.ofInt x2)), (3, .int (Int32.ofInt x3)), (4, .int (Int32.ofInt x4)), (9, .int (Int32.ofInt x9))]) hx hb dX11_culprits_194 hl (by decide) rfl (fun ls hl => ?_)
    refine lv_iconst (v := Int32.ofInt 0) hx hb dX11_culprits_196 rfl ?_
    refine lv_istore (lv' := [(11, .int (Int32.ofInt 0)), (8, .int (Int32.ofInt v3)), (7, .int (Int32.ofInt v2)), (5, .int (Int32.ofInt v1)), (6, .int (Int32.ofInt s0)), (0, .ref q0), (1, .int (Int32.ofInt x1)), (2, .int (Int32.ofInt x2)), (3, .int (Int32.ofInt x3)), (4, .int (Int32.ofInt x4)), (9, .int (Int32.ofInt x9))]) hx hb dX11_culprits_197 hl (by decide) rfl (fun ls hl => ?_)
    exact l_199 _ ih95 _ _ _ _ _ _ _ _ _ _ _ _ _ _ _ _ hf hP hD hS (lv_sub hl [5, 6, 7, 8, 9, 3, 4, 2, 1, 10, 0] rfl)
  have b_150 : ∀ (k95 : Int → Int → Int → Int → Int → Int → Int → Int → Int → Int → (Nat → Int) → Option (Int × Int × (Nat → Int))) (_ : ∀ (x1 : Int) (x2 : Int) (x3 : Int) (x4 : Int) (x5 : Int) (x6 : Int) (x7 : Int) (x8 : Int) (x9 : Int) (i_thrown : Int) (i_withOne : Nat → Int) (H : Heap) (locs : List Loc) (ls : Array Slot), k95 x1 x2 x3 x4 x5 x6 x7 x8 x9 i_thrown i_withOne = some out → va_P (dC, dI) vwCl (wd_HM_culprits cA q0 q1 q2 q3 q4 q5 q6 q7 q8 q9 q10 q11 q12 q13 q14 q15 q16 q17 q18 q19 q20 q21 q22 q23 q24 q25 q26 q27 q28 q29 q30 q31 u0 u1 u2 u3 u4 u5 u6 u7 u8 u9 u10 u11 u12 u13 u14 u15 u16 u17 u18 u19 u20 i_row i_thrown i_withOne) H → va_D A (wd_HM_culprits cA q0 q1 q2 q3 q4 q5 q6 q7 q8 q9 q10 q11 q12 q13 q14 q15 q16 q17 q18 q19 q20 q21 q22 q23 q24 q25 q26 q27 q28 q29 q30 q31 u0 u1 u2 u3 u4 u5 u6 u7 u8 u9 u10 u11 u12 u13 u14 u15 u16 u17 u18 u19 u20 i_row i_thrown i_withOne) → va_S A s.heap H locs → lv_has ls 12 [(0, .ref q0), (1, .int (Int32.ofInt x1)), (2, .int (Int32.ofInt x2)), (3, .int (Int32.ofInt x3)), (4, .int (Int32.ofInt x4)), (5, .int (Int32.ofInt x5)), (6, .int (Int32.ofInt x6)), (7, .int (Int32.ofInt x7)), (8, .int (Int32.ofInt x8)), (9, .int (Int32.ofInt x9))] → W p l e rm_HM_culprits s m args below meth c H locs 0 0 Q (F0 m 95 ls [])), ∀ (k110 : Int → Int → Int → Int → Int → Int → Int → Int → Int → Int → Int → Int → (Nat → Int) → Option (Int × Int × (Nat → Int))) (_ : ∀ (x1 : Int) (x2 : Int) (x3 : Int) (x4 : Int) (x5 : Int) (x6 : Int) (x7 : Int) (x8 : Int) (x9 : Int) (x10 : Int) (x11 : Int) (i_thrown : Int) (i_withOne : Nat → Int) (H : Heap) (locs : List Loc) (ls : Array Slot), k110 x1 x2 x3 x4 x5 x6 x7 x8 x9 x10 x11 i_thrown i_withOne = some out → va_P (dC, dI) vwCl (wd_HM_culprits cA q0 q1 q2 q3 q4 q5 q6 q7 q8 q9 q10 q11 q12 q13 q14 q15 q16 q17 q18 q19 q20 q21 q22 q23 q24 q25 q26 q27 q28 q29 q30 q31 u0 u1 u2 u3 u4 u5 u6 u7 u8 u9 u10 u11 u12 u13 u14 u15 u16 u17 u18 u19 u20 i_row i_thrown i_withOne) H → va_D A (wd_HM_culprits cA q0 q1 q2 q3 q4 q5 q6 q7 q8 q9 q10 q11 q12 q13 q14 q15 q16 q17 q18 q19 q20 q21 q22 q23 q24 q25 q26 q27 q28 q29 q30 q31 u0 u1 u2 u3 u4 u5 u6 u7 u8 u9 u10 u11 u12 u13 u14 u15 u16 u17 u18 u19 u20 i_row i_thrown i_withOne) → va_S A s.heap H locs → lv_has ls 12 [(0, .ref q0), (1, .int (Int32.ofInt x1)), (2, .int (Int32.ofInt x2)), (3, .int (Int32.ofInt x3)), (4, .int (Int32.ofInt x4)), (5, .int (Int32.ofInt x5)), (6, .int (Int32.ofInt x6)), (7, .int (Int32.ofInt x7)), (8, .int (Int32.ofInt x8)), (9, .int (Int32.ofInt x9)), (10, .int (Int32.ofInt x10)), (11, .int (Int32.ofInt x11))] → W p l e rm_HM_culprits s m args below meth c H locs 0 0 Q (F0 m 110 ls [])), ∀ (x1 : Int) (x2 : Int) (x3 : Int) (x4 : Int) (x5 : Int) (x6 : Int) (x7 : Int) (x8 : Int) (x9 : Int) (x11 : Int) (s0 : Int) (s1 : Int) (i_thrown : Int) (i_withOne : Nat → Int) (H : Heap) (locs : List Loc) (ls : Array Slot), f_HM_culprits_150 i_row k95 k110 x1 x2 x3 x4 x5 x6 x7 x8 x9 x11 s0 s1 i_thrown i_withOne = some out → va_P (dC, dI) vwCl (wd_HM_culprits cA q0 q1 q2 q3 q4 q5 q6 q7 q8 q9 q10 q11 q12 q13 q14 q15 q16 q17 q18 q19 q20 q21 q22 q23 q24 q25 q26 q27 q28 q29 q30 q31 u0 u1 u2 u3 u4 u5 u6 u7 u8 u9 u10 u11 u12 u13 u14 u15 u16 u17 u18 u19 u20 i_row i_thrown i_withOne) H → va_D A (wd_HM_culprits cA q0 q1 q2 q3 q4 q5 q6 q7 q8 q9 q10 q11 q12 q13 q14 q15 q16 q17 q18 q19 q20 q21 q22 q23 q24 q25 q26 q27 q28 q29 q30 q31 u0 u1 u2 u3 u4 u5 u6 u7 u8 u9 u10 u11 u12 u13 u14 u15 u16 u17 u18 u19 u20 i_row i_thrown i_withOne) → va_S A s.heap H locs → lv_has ls 12 [(0, .ref q0), (1, .int (Int32.ofInt x1)), (2, .int (Int32.ofInt x2)), (3, .int (Int32.ofInt x3)), (4, .int (Int32.ofInt x4)), (5, .int (Int32.ofInt x5)), (6, .int (Int32.ofInt x6)), (7, .int (Int32.ofInt x7)), (8, .int (Int32.ofInt x8)), (9, .int (Int32.ofInt x9)), (11, .int (Int32.ofInt x11))] → W p l e rm_HM_culprits s m args below meth c H locs 0 0 Q (F0 m 150 ls [.int (Int32.ofInt s1), .int (Int32.ofInt s0)]) := by
    intro k95 ih95 k110 ih110 x1 x2 x3 x4 x5 x6 x7 x8 x9 x11 s0 s1 i_thrown i_withOne H locs ls hf hP hD hS hl
    unfold f_HM_culprits_150 at hf
    refine xi_iadd hx hb dX11_culprits_150 hf (fun v1 hf => ?_)
    refine lv_istore (lv' := [(10, .int (Int32.ofInt v1)), (0, .ref q0), (1, .int (Int32.ofInt x1)), (2, .int (Int32.ofInt x2)), (3, .int (Int32.ofInt x3)), (4, .int (Int32.ofInt x4)), (5, .int (Int32.ofInt x5)), (6, .int (Int32.ofInt x6)), (7, .int (Int32.ofInt x7)), (8, .int (Int32.ofInt x8)), (9, .int (Int32.ofInt x9)), (11, .int (Int32.ofInt x11))]) hx hb dX11_culprits_151 hl (by decide) rfl (fun ls hl => ?_)
    refine xi_iinc hx hb dX11_culprits_153 hl (k := 11) rfl (by decide) hf (fun v2 ls hl hf => ?_)
    have hl : lv_has ls 12 [(11, .int (Int32.ofInt v2)), (10, .int (Int32.ofInt v1)), (0, .ref q0), (1, .int (Int32.ofInt x1)), (2, .int (Int32.ofInt x2)), (3, .int (Int32.ofInt x3)), (4, .int (Int32.ofInt x4)), (5, .int (Int32.ofInt x5)), (6, .int (Int32.ofInt x6)), (7, .int (Int32.ofInt x7)), (8, .int (Int32.ofInt x8)), (9, .int (Int32.ofInt x9))] := hl
    refine lv_goto (tgt := 110) hx hb dX11_culprits_156 (by decide) ?_
    exact ih110 _ _ _ _ _ _ _ _ _ _ _ _ _ _ _ _ hf hP hD hS (lv_sub hl [2, 3, 4, 5, 6, 7, 8, 9, 10, 11, 1, 0] rfl)
  have b_110 : ∀ (k95 : Int → Int → Int → Int → Int → Int → Int → Int → Int → Int → (Nat → Int) → Option (Int × Int × (Nat → Int))) (_ : ∀ (x1 : Int) (x2 : Int) (x3 : Int) (x4 : Int) (x5 : Int) (x6 : Int) (x7 : Int) (x8 : Int) (x9 : Int) (i_thrown : Int) (i_withOne : Nat → Int) (H : Heap) (locs : List Loc) (ls : Array Slot), k95 x1 x2 x3 x4 x5 x6 x7 x8 x9 i_thrown i_withOne = some out → va_P (dC, dI) vwCl (wd_HM_culprits cA q0 q1 q2 q3 q4 q5 q6 q7 q8 q9 q10 q11 q12 q13 q14 q15 q16 q17 q18 q19 q20 q21 q22 q23 q24 q25 q26 q27 q28 q29 q30 q31 u0 u1 u2 u3 u4 u5 u6 u7 u8 u9 u10 u11 u12 u13 u14 u15 u16 u17 u18 u19 u20 i_row i_thrown i_withOne) H → va_D A (wd_HM_culprits cA q0 q1 q2 q3 q4 q5 q6 q7 q8 q9 q10 q11 q12 q13 q14 q15 q16 q17 q18 q19 q20 q21 q22 q23 q24 q25 q26 q27 q28 q29 q30 q31 u0 u1 u2 u3 u4 u5 u6 u7 u8 u9 u10 u11 u12 u13 u14 u15 u16 u17 u18 u19 u20 i_row i_thrown i_withOne) → va_S A s.heap H locs → lv_has ls 12 [(0, .ref q0), (1, .int (Int32.ofInt x1)), (2, .int (Int32.ofInt x2)), (3, .int (Int32.ofInt x3)), (4, .int (Int32.ofInt x4)), (5, .int (Int32.ofInt x5)), (6, .int (Int32.ofInt x6)), (7, .int (Int32.ofInt x7)), (8, .int (Int32.ofInt x8)), (9, .int (Int32.ofInt x9))] → W p l e rm_HM_culprits s m args below meth c H locs 0 0 Q (F0 m 95 ls [])), ∀ (k110 : Int → Int → Int → Int → Int → Int → Int → Int → Int → Int → Int → Int → (Nat → Int) → Option (Int × Int × (Nat → Int))) (_ : ∀ (x1 : Int) (x2 : Int) (x3 : Int) (x4 : Int) (x5 : Int) (x6 : Int) (x7 : Int) (x8 : Int) (x9 : Int) (x10 : Int) (x11 : Int) (i_thrown : Int) (i_withOne : Nat → Int) (H : Heap) (locs : List Loc) (ls : Array Slot), k110 x1 x2 x3 x4 x5 x6 x7 x8 x9 x10 x11 i_thrown i_withOne = some out → va_P (dC, dI) vwCl (wd_HM_culprits cA q0 q1 q2 q3 q4 q5 q6 q7 q8 q9 q10 q11 q12 q13 q14 q15 q16 q17 q18 q19 q20 q21 q22 q23 q24 q25 q26 q27 q28 q29 q30 q31 u0 u1 u2 u3 u4 u5 u6 u7 u8 u9 u10 u11 u12 u13 u14 u15 u16 u17 u18 u19 u20 i_row i_thrown i_withOne) H → va_D A (wd_HM_culprits cA q0 q1 q2 q3 q4 q5 q6 q7 q8 q9 q10 q11 q12 q13 q14 q15 q16 q17 q18 q19 q20 q21 q22 q23 q24 q25 q26 q27 q28 q29 q30 q31 u0 u1 u2 u3 u4 u5 u6 u7 u8 u9 u10 u11 u12 u13 u14 u15 u16 u17 u18 u19 u20 i_row i_thrown i_withOne) → va_S A s.heap H locs → lv_has ls 12 [(0, .ref q0), (1, .int (Int32.ofInt x1)), (2, .int (Int32.ofInt x2)), (3, .int (Int32.ofInt x3)), (4, .int (Int32.ofInt x4)), (5, .int (Int32.ofInt x5)), (6, .int (Int32.ofInt x6)), (7, .int (Int32.ofInt x7)), (8, .int (Int32.ofInt x8)), (9, .int (Int32.ofInt x9)), (10, .int (Int32.ofInt x10)), (11, .int (Int32.ofInt x11))] → W p l e rm_HM_culprits s m args below meth c H locs 0 0 Q (F0 m 110 ls [])), ∀ (x1 : Int) (x2 : Int) (x3 : Int) (x4 : Int) (x5 : Int) (x6 : Int) (x7 : Int) (x8 : Int) (x9 : Int) (x10 : Int) (x11 : Int) (i_thrown : Int) (i_withOne : Nat → Int) (H : Heap) (locs : List Loc) (ls : Array Slot), f_HM_culprits_110_b i_row k95 k110 x1 x2 x3 x4 x5 x6 x7 x8 x9 x10 x11 i_thrown i_withOne = some out → va_P (dC, dI) vwCl (wd_HM_culprits cA q0 q1 q2 q3 q4 q5 q6 q7 q8 q9 q10 q11 q12 q13 q14 q15 q16 q17 q18 q19 q20 q21 q22 q23 q24 q25 q26 q27 q28 q29 q30 q31 u0 u1 u2 u3 u4 u5 u6 u7 u8 u9 u10 u11 u12 u13 u14 u15 u16 u17 u18 u19 u20 i_row i_thrown i_withOne) H → va_D A (wd_HM_culprits cA q0 q1 q2 q3 q4 q5 q6 q7 q8 q9 q10 q11 q12 q13 q14 q15 q16 q17 q18 q19 q20 q21 q22 q23 q24 q25 q26 q27 q28 q29 q30 q31 u0 u1 u2 u3 u4 u5 u6 u7 u8 u9 u10 u11 u12 u13 u14 u15 u16 u17 u18 u19 u20 i_row i_thrown i_withOne) → va_S A s.heap H locs → lv_has ls 12 [(0, .ref q0), (1, .int (Int32.ofInt x1)), (2, .int (Int32.ofInt x2)), (3, .int (Int32.ofInt x3)), (4, .int (Int32.ofInt x4)), (5, .int (Int32.ofInt x5)), (6, .int (Int32.ofInt x6)), (7, .int (Int32.ofInt x7)), (8, .int (Int32.ofInt x8)), (9, .int (Int32.ofInt x9)), (10, .int (Int32.ofInt x10)), (11, .int (Int32.ofInt x11))] → W p l e rm_HM_culprits s m args below meth c H locs 0 0 Q (F0 m 110 ls []) := by
    intro k95 ih95 k110 ih110 x1 x2 x3 x4 x5 x6 x7 x8 x9 x10 x11 i_thrown i_withOne H locs ls hf hP hD hS hl
    unfold f_HM_culprits_110_b at hf
    refine lv_iload hx hb dX11_culprits_110 (lv_at hl 11 rfl) ?_
    refine lv_iload hx hb dX11_culprits_112 (lv_at hl 4 rfl) ?_
    refine xi_icmp_ge (tgt := 159) hx hb dX11_culprits_114 (by decide) hf (fun hf => ?_) (fun hf => ?_)
    · refine lv_iload hx hb dX11_culprits_159 (lv_at hl 10 rfl) ?_
      refine lv_iload_n hx hb dX11_culprits_161 rfl (lv_at hl 2 rfl) ?_
      refine xi_icmp_ne (tgt := 229) hx hb dX11_culprits_162 (by decide) hf (fun hf => ?_) (fun hf => ?_)
      · exact b_229 _ ih95 _ _ _ _ _ _ _ _ _ _ _ _ _ _ hf hP hD hS (lv_sub hl [0, 1, 2, 3, 4, 5, 6, 7, 8, 9] rfl)
      · refine lv_iload hx hb dX11_culprits_165 (lv_at hl 5 rfl) ?_
        refine xi_if_ne (tgt := 175) hx hb dX11_culprits_167 (by decide) hf (fun hf => ?_) (fun hf => ?_)
        · refine lv_iload hx hb dX11_culprits_175 (lv_at hl 6 rfl) ?_
          exact b_177 _ ih95 _ _ _ _ _ _ _ _ _ _ _ _ _ _ hf hP hD hS (lv_sub hl [0, 1, 2, 3, 4, 5, 7, 8, 9] rfl)
        · refine lv_iload hx hb dX11_culprits_170 (lv_at hl 9 rfl) ?_
          refine lv_goto (tgt := 177) hx hb dX11_culprits_172 (by decide) ?_
          exact b_177 _ ih95 _ _ _ _ _ _ _ _ _ _ _ _ _ _ hf hP hD hS (lv_sub hl [0, 1, 2, 3, 4, 5, 7, 8, 9] rfl)
    · refine lv_iload hx hb dX11_culprits_117 (lv_at hl 10 rfl) ?_
      refine lv_iload hx hb dX11_culprits_119 (lv_at hl 9 rfl) ?_
      refine lv_iload hx hb dX11_culprits_121 (lv_at hl 11 rfl) ?_
      refine xe_d1 hf (fun v1 hg hf => ?_)
      have hC : ([] : List Nat).map (fun i => (wd_HM_culprits cA q0 q1 q2 q3 q4 q5 q6 q7 q8 q9 q10 q11 q12 q13 q14 q15 q16 q17 q18 q19 q20 q21 q22 q23 q24 q25 q26 q27 q28 q29 q30 q31 u0 u1 u2 u3 u4 u5 u6 u7 u8 u9 u10 u11 u12 u13 u14 u15 u16 u17 u18 u19 u20 i_row i_thrown i_withOne)[i]?) = (wd_HM_is cA).map some := rfl
      refine xv_afterI (ws' := (wd_HM_culprits cA q0 q1 q2 q3 q4 q5 q6 q7 q8 q9 q10 q11 q12 q13 q14 q15 q16 q17 q18 q19 q20 q21 q22 q23 q24 q25 q26 q27 q28 q29 q30 q31 u0 u1 u2 u3 u4 u5 u6 u7 u8 u9 u10 u11 u12 u13 u14 u15 u16 u17 u18 u19 u20 i_row i_thrown i_withOne)) (isC := []) (ps := [none, none, none]) (va_runS (As := [.int (Int32.ofInt x9), .int (Int32.ofInt x11)]) (rest := [.int (Int32.ofInt x10)]) ⟨hx, hb, hml, hown, hts⟩ (c_HM_is l ev dC dI cA hg H.size) (va_cwS 2 hts (zgS zw_1735 zw_1736 zw_115 zw_1737) rfl rfl rfl hd_HM_is.2 ⟨Nat.le_of_ble_eq_true rfl, Nat.le_of_ble_eq_true rfl⟩) (xv_preS hE hA hS hK hP hD (isC := []) (by decide +kernel) hC) rfl rfl hl.1 rfl (lv_room (Nat.le_of_ble_eq_true rfl)) dX11_culprits_123 ⟨Nat.le_refl _, Nat.le_refl _⟩) hP hD hS hA (by decide +kernel) rfl hC rfl rfl (fun H locs hP hD hS => ?_)
      refine xi_if_eq (tgt := 149) hx hb dX11_culprits_126 (by decide) hf (fun hf => ?_) (fun hf => ?_)
      · refine lv_iconst (v := Int32.ofInt 0) hx hb dX11_culprits_149 rfl ?_
        exact b_150 _ ih95 _ ih110 _ _ _ _ _ _ _ _ _ _ _ _ _ _ _ _ _ hf hP hD hS (lv_sub hl [0, 1, 2, 3, 4, 5, 6, 7, 8, 9, 11] rfl)
      · refine lv_iload_n hx hb dX11_culprits_129 rfl (lv_at hl 1 rfl) ?_
        refine lv_aload_n hx hb dX11_culprits_130 rfl (lv_at hl 0 rfl) ?_
        refine va_get (D := (dC, dI)) (ci := 11) (v := .ref q2) (C := RX11) (T := TX11) (N := 53) hx hb hz zi_X11 hown hK hP 0 rfl rfl 3 (by decide) (hz _ zw_1168) (fun _ h9 => h9) rfl dX11_culprits_131 ?_
        refine lv_sipush (v := Int32.ofInt 153) hx hb dX11_culprits_134 (by decide) ?_
        refine lv_iconst (v := Int32.ofInt 3) hx hb dX11_culprits_137 rfl ?_
        refine lv_iload hx hb dX11_culprits_138 (lv_at hl 11 rfl) ?_
        refine xi_imul hx hb dX11_culprits_140 hf (fun v2 hf => ?_)
        refine xi_iadd hx hb dX11_culprits_141 hf (fun v3 hf => ?_)
        refine lv_iconst (v := Int32.ofInt 2) hx hb dX11_culprits_142 rfl ?_
        refine xi_iadd hx hb dX11_culprits_143 hf (fun v4 hf => ?_)
        refine xi_iald hx hb hK hP 1 0 rfl rfl dX11_culprits_144 hf (fun v5 hf => ?_)
        refine xi_imul hx hb dX11_culprits_145 hf (fun v6 hf => ?_)
        refine lv_goto (tgt := 150) hx hb dX11_culprits_146 (by decide) ?_
        exact b_150 _ ih95 _ ih110 _ _ _ _ _ _ _ _ _ _ _ _ _ _ _ _ _ hf hP hD hS (lv_sub hl [0, 1, 2, 3, 4, 5, 6, 7, 8, 9, 11] rfl)
  have l_110 : ∀ (k95 : Int → Int → Int → Int → Int → Int → Int → Int → Int → Int → (Nat → Int) → Option (Int × Int × (Nat → Int))) (_ : ∀ (x1 : Int) (x2 : Int) (x3 : Int) (x4 : Int) (x5 : Int) (x6 : Int) (x7 : Int) (x8 : Int) (x9 : Int) (i_thrown : Int) (i_withOne : Nat → Int) (H : Heap) (locs : List Loc) (ls : Array Slot), k95 x1 x2 x3 x4 x5 x6 x7 x8 x9 i_thrown i_withOne = some out → va_P (dC, dI) vwCl (wd_HM_culprits cA q0 q1 q2 q3 q4 q5 q6 q7 q8 q9 q10 q11 q12 q13 q14 q15 q16 q17 q18 q19 q20 q21 q22 q23 q24 q25 q26 q27 q28 q29 q30 q31 u0 u1 u2 u3 u4 u5 u6 u7 u8 u9 u10 u11 u12 u13 u14 u15 u16 u17 u18 u19 u20 i_row i_thrown i_withOne) H → va_D A (wd_HM_culprits cA q0 q1 q2 q3 q4 q5 q6 q7 q8 q9 q10 q11 q12 q13 q14 q15 q16 q17 q18 q19 q20 q21 q22 q23 q24 q25 q26 q27 q28 q29 q30 q31 u0 u1 u2 u3 u4 u5 u6 u7 u8 u9 u10 u11 u12 u13 u14 u15 u16 u17 u18 u19 u20 i_row i_thrown i_withOne) → va_S A s.heap H locs → lv_has ls 12 [(0, .ref q0), (1, .int (Int32.ofInt x1)), (2, .int (Int32.ofInt x2)), (3, .int (Int32.ofInt x3)), (4, .int (Int32.ofInt x4)), (5, .int (Int32.ofInt x5)), (6, .int (Int32.ofInt x6)), (7, .int (Int32.ofInt x7)), (8, .int (Int32.ofInt x8)), (9, .int (Int32.ofInt x9))] → W p l e rm_HM_culprits s m args below meth c H locs 0 0 Q (F0 m 95 ls [])), ∀ (n : Nat), ∀ (x1 : Int) (x2 : Int) (x3 : Int) (x4 : Int) (x5 : Int) (x6 : Int) (x7 : Int) (x8 : Int) (x9 : Int) (x10 : Int) (x11 : Int) (i_thrown : Int) (i_withOne : Nat → Int) (H : Heap) (locs : List Loc) (ls : Array Slot), f_HM_culprits_110 i_row k95 n x1 x2 x3 x4 x5 x6 x7 x8 x9 x10 x11 i_thrown i_withOne = some out → va_P (dC, dI) vwCl (wd_HM_culprits cA q0 q1 q2 q3 q4 q5 q6 q7 q8 q9 q10 q11 q12 q13 q14 q15 q16 q17 q18 q19 q20 q21 q22 q23 q24 q25 q26 q27 q28 q29 q30 q31 u0 u1 u2 u3 u4 u5 u6 u7 u8 u9 u10 u11 u12 u13 u14 u15 u16 u17 u18 u19 u20 i_row i_thrown i_withOne) H → va_D A (wd_HM_culprits cA q0 q1 q2 q3 q4 q5 q6 q7 q8 q9 q10 q11 q12 q13 q14 q15 q16 q17 q18 q19 q20 q21 q22 q23 q24 q25 q26 q27 q28 q29 q30 q31 u0 u1 u2 u3 u4 u5 u6 u7 u8 u9 u10 u11 u12 u13 u14 u15 u16 u17 u18 u19 u20 i_row i_thrown i_withOne) → va_S A s.heap H locs → lv_has ls 12 [(0, .ref q0), (1, .int (Int32.ofInt x1)), (2, .int (Int32.ofInt x2)), (3, .int (Int32.ofInt x3)), (4, .int (Int32.ofInt x4)), (5, .int (Int32.ofInt x5)), (6, .int (Int32.ofInt x6)), (7, .int (Int32.ofInt x7)), (8, .int (Int32.ofInt x8)), (9, .int (Int32.ofInt x9)), (10, .int (Int32.ofInt x10)), (11, .int (Int32.ofInt x11))] → W p l e rm_HM_culprits s m args below meth c H locs 0 0 Q (F0 m 110 ls []) := by
    intro k95 ih95 n
    induction n with
    | zero => intro x1 x2 x3 x4 x5 x6 x7 x8 x9 x10 x11 i_thrown i_withOne H locs ls hf hP hD hS hl; exact nomatch hf
    | succ n ih => intro x1 x2 x3 x4 x5 x6 x7 x8 x9 x10 x11 i_thrown i_withOne H locs ls hf hP hD hS hl; exact b_110 k95 ih95 (f_HM_culprits_110 i_row k95 n) ih x1 x2 x3 x4 x5 x6 x7 x8 x9 x10 x11 i_thrown i_withOne H locs ls hf hP hD hS hl
  have b_95 : ∀ (k95 : Int → Int → Int → Int → Int → Int → Int → Int → Int → Int → (Nat → Int) → Option (Int × Int × (Nat → Int))) (_ : ∀ (x1 : Int) (x2 : Int) (x3 : Int) (x4 : Int) (x5 : Int) (x6 : Int) (x7 : Int) (x8 : Int) (x9 : Int) (i_thrown : Int) (i_withOne : Nat → Int) (H : Heap) (locs : List Loc) (ls : Array Slot), k95 x1 x2 x3 x4 x5 x6 x7 x8 x9 i_thrown i_withOne = some out → va_P (dC, dI) vwCl (wd_HM_culprits cA q0 q1 q2 q3 q4 q5 q6 q7 q8 q9 q10 q11 q12 q13 q14 q15 q16 q17 q18 q19 q20 q21 q22 q23 q24 q25 q26 q27 q28 q29 q30 q31 u0 u1 u2 u3 u4 u5 u6 u7 u8 u9 u10 u11 u12 u13 u14 u15 u16 u17 u18 u19 u20 i_row i_thrown i_withOne) H → va_D A (wd_HM_culprits cA q0 q1 q2 q3 q4 q5 q6 q7 q8 q9 q10 q11 q12 q13 q14 q15 q16 q17 q18 q19 q20 q21 q22 q23 q24 q25 q26 q27 q28 q29 q30 q31 u0 u1 u2 u3 u4 u5 u6 u7 u8 u9 u10 u11 u12 u13 u14 u15 u16 u17 u18 u19 u20 i_row i_thrown i_withOne) → va_S A s.heap H locs → lv_has ls 12 [(0, .ref q0), (1, .int (Int32.ofInt x1)), (2, .int (Int32.ofInt x2)), (3, .int (Int32.ofInt x3)), (4, .int (Int32.ofInt x4)), (5, .int (Int32.ofInt x5)), (6, .int (Int32.ofInt x6)), (7, .int (Int32.ofInt x7)), (8, .int (Int32.ofInt x8)), (9, .int (Int32.ofInt x9))] → W p l e rm_HM_culprits s m args below meth c H locs 0 0 Q (F0 m 95 ls [])), ∀ (x1 : Int) (x2 : Int) (x3 : Int) (x4 : Int) (x5 : Int) (x6 : Int) (x7 : Int) (x8 : Int) (x9 : Int) (i_thrown : Int) (i_withOne : Nat → Int) (H : Heap) (locs : List Loc) (ls : Array Slot), f_HM_culprits_95_b i_row k95 x1 x2 x3 x4 x5 x6 x7 x8 x9 i_thrown i_withOne = some out → va_P (dC, dI) vwCl (wd_HM_culprits cA q0 q1 q2 q3 q4 q5 q6 q7 q8 q9 q10 q11 q12 q13 q14 q15 q16 q17 q18 q19 q20 q21 q22 q23 q24 q25 q26 q27 q28 q29 q30 q31 u0 u1 u2 u3 u4 u5 u6 u7 u8 u9 u10 u11 u12 u13 u14 u15 u16 u17 u18 u19 u20 i_row i_thrown i_withOne) H → va_D A (wd_HM_culprits cA q0 q1 q2 q3 q4 q5 q6 q7 q8 q9 q10 q11 q12 q13 q14 q15 q16 q17 q18 q19 q20 q21 q22 q23 q24 q25 q26 q27 q28 q29 q30 q31 u0 u1 u2 u3 u4 u5 u6 u7 u8 u9 u10 u11 u12 u13 u14 u15 u16 u17 u18 u19 u20 i_row i_thrown i_withOne) → va_S A s.heap H locs → lv_has ls 12 [(0, .ref q0), (1, .int (Int32.ofInt x1)), (2, .int (Int32.ofInt x2)), (3, .int (Int32.ofInt x3)), (4, .int (Int32.ofInt x4)), (5, .int (Int32.ofInt x5)), (6, .int (Int32.ofInt x6)), (7, .int (Int32.ofInt x7)), (8, .int (Int32.ofInt x8)), (9, .int (Int32.ofInt x9))] → W p l e rm_HM_culprits s m args below meth c H locs 0 0 Q (F0 m 95 ls []) := by
    intro k95 ih95 x1 x2 x3 x4 x5 x6 x7 x8 x9 i_thrown i_withOne H locs ls hf hP hD hS hl
    unfold f_HM_culprits_95_b at hf
    refine lv_iload hx hb dX11_culprits_95 (lv_at hl 9 rfl) ?_
    refine lv_iconst (v := Int32.ofInt 1) hx hb dX11_culprits_97 rfl ?_
    refine lv_iload hx hb dX11_culprits_98 (lv_at hl 4 rfl) ?_
    refine xi_ishl hx hb dX11_culprits_100 hf (fun v1 hf => ?_)
    refine xi_icmp_ge (tgt := 235) hx hb dX11_culprits_101 (by decide) hf (fun hf => ?_) (fun hf => ?_)
    · refine lv_iload_n hx hb dX11_culprits_235 rfl (lv_at hl 3 rfl) ?_
      refine xi_if_ne (tgt := 242) hx hb dX11_culprits_236 (by decide) hf (fun hf => ?_) (fun hf => ?_)
      · refine lv_iload hx hb dX11_culprits_242 (lv_at hl 5 rfl) ?_
        refine xi_if_ne (tgt := 249) hx hb dX11_culprits_244 (by decide) hf (fun hf => ?_) (fun hf => ?_)
        · refine lv_iload_n hx hb dX11_culprits_249 rfl (lv_at hl 3 rfl) ?_
          refine lv_iconst (v := Int32.ofInt 1) hx hb dX11_culprits_250 rfl ?_
          refine xi_icmp_ne (tgt := 259) hx hb dX11_culprits_251 (by decide) hf (fun hf => ?_) (fun hf => ?_)
          · refine lv_iload_n hx hb dX11_culprits_259 rfl (lv_at hl 3 rfl) ?_
            refine lv_iconst (v := Int32.ofInt 2) hx hb dX11_culprits_260 rfl ?_
            refine xi_icmp_ne (tgt := 269) hx hb dX11_culprits_261 (by decide) hf (fun hf => ?_) (fun hf => ?_)
            · refine lv_iload_n hx hb dX11_culprits_269 rfl (lv_at hl 3 rfl) ?_
              refine lv_iconst (v := Int32.ofInt 3) hx hb dX11_culprits_270 rfl ?_
              refine xi_icmp_ne (tgt := 288) hx hb dX11_culprits_271 (by decide) hf (fun hf => ?_) (fun hf => ?_)
              · refine lv_aload_n hx hb dX11_culprits_288 rfl (lv_at hl 0 rfl) ?_
                refine lv_iload hx hb dX11_culprits_289 (lv_at hl 5 rfl) ?_
                refine xe_d1 hf (fun v2 hg hf => ?_)
                have hC : ([0, 1, 2] : List Nat).map (fun i => (wd_HM_culprits cA q0 q1 q2 q3 q4 q5 q6 q7 q8 q9 q10 q11 q12 q13 q14 q15 q16 q17 q18 q19 q20 q21 q22 q23 q24 q25 q26 q27 q28 q29 q30 q31 u0 u1 u2 u3 u4 u5 u6 u7 u8 u9 u10 u11 u12 u13 u14 u15 u16 u17 u18 u19 u20 i_row i_thrown i_withOne)[i]?) = (wd_HM_bestToWeigh cA q0 q1 q2 q3 q4 q5 q6 q7 q8 q9 q10 q11 q12 q13 q14 q15 q16 q17 q18 q19 q20 q21 q22 q23 q24 q25 q26 q27 q28 q29 q30 q31 i_thrown u0 u1 u2 u3 u4 u5 u6 u7 u8 u9 u10 u11 u12 u13 u14 u15 u16 u17 u18 u19 u20 i_row i_withOne).map some := rfl
                refine xv_afterI (ws' := (wd_HM_culprits cA q0 q1 q2 q3 q4 q5 q6 q7 q8 q9 q10 q11 q12 q13 q14 q15 q16 q17 q18 q19 q20 q21 q22 q23 q24 q25 q26 q27 q28 q29 q30 q31 u0 u1 u2 u3 u4 u5 u6 u7 u8 u9 u10 u11 u12 u13 u14 u15 u16 u17 u18 u19 u20 i_row i_thrown i_withOne)) (isC := [0, 1, 2]) (ps := [some 0, some 1, some 2]) (va_runV (As := [.int (Int32.ofInt x5)]) (rest := []) ⟨hx, hb, hml, hown, hts⟩ (c_HM_bestToWeigh l ev dC dI cA q0 q1 q2 q3 q4 q5 q6 q7 q8 q9 q10 q11 q12 q13 q14 q15 q16 q17 q18 q19 q20 q21 q22 q23 q24 q25 q26 q27 q28 q29 q30 q31 i_thrown u0 u1 u2 u3 u4 u5 u6 u7 u8 u9 u10 u11 u12 u13 u14 u15 u16 u17 u18 u19 u20 hg H.size) (cwV 1 hts (zgV zw_1738 zw_1740 zw_98 zw_115 zw_1741) rfl rfl rfl hd_HM_bestToWeigh ⟨Nat.le_of_ble_eq_true rfl, Nat.le_of_ble_eq_true rfl⟩) (xv_preV (T := TX11) (N := 53) hE hA hS hK hP hD (isC := [0, 1, 2]) (by decide +kernel) hC (q0 := 0) (ci := 11) rfl rfl) rfl rfl hl.1 rfl (lv_room (Nat.le_of_ble_eq_true rfl)) dX11_culprits_291 ⟨Nat.le_refl _, Nat.le_refl _⟩) hP hD hS hA (by decide +kernel) rfl hC rfl rfl (fun H locs hP hD hS => ?_)
                obtain rfl := Option.some.inj hf
                exact hret _ _ _ _ rfl dX11_culprits_294 hP hD hS
              · refine lv_iconst (v := Int32.ofInt 1) hx hb dX11_culprits_274 rfl ?_
                refine lv_iload hx hb dX11_culprits_275 (lv_at hl 4 rfl) ?_
                refine xi_ishl hx hb dX11_culprits_277 hf (fun v3 hf => ?_)
                refine lv_iconst (v := Int32.ofInt 1) hx hb dX11_culprits_278 rfl ?_
                refine xi_isub hx hb dX11_culprits_279 hf (fun v4 hf => ?_)
                refine lv_iload hx hb dX11_culprits_280 (lv_at hl 8 rfl) ?_
                refine lv_iconst (v := Int32.ofInt (-1)) hx hb dX11_culprits_282 rfl ?_
                refine xi_ixor hx hb dX11_culprits_283 hf (fun v5 hf => ?_)
                refine xi_iand hx hb dX11_culprits_284 hf (fun v6 hf => ?_)
                refine lv_goto (tgt := 294) hx hb dX11_culprits_285 (by decide) ?_
                obtain rfl := Option.some.inj hf
                exact hret _ _ _ _ rfl dX11_culprits_294 hP hD hS
            · refine lv_iload hx hb dX11_culprits_264 (lv_at hl 7 rfl) ?_
              refine lv_goto (tgt := 294) hx hb dX11_culprits_266 (by decide) ?_
              obtain rfl := Option.some.inj hf
              exact hret _ _ _ _ rfl dX11_culprits_294 hP hD hS
          · refine lv_iload hx hb dX11_culprits_254 (lv_at hl 6 rfl) ?_
            refine lv_goto (tgt := 294) hx hb dX11_culprits_256 (by decide) ?_
            obtain rfl := Option.some.inj hf
            exact hret _ _ _ _ rfl dX11_culprits_294 hP hD hS
        · refine lv_iconst (v := Int32.ofInt (-1)) hx hb dX11_culprits_247 rfl ?_
          obtain rfl := Option.some.inj hf
          exact hret _ _ _ _ rfl dX11_culprits_248 hP hD hS
      · refine lv_iload hx hb dX11_culprits_239 (lv_at hl 5 rfl) ?_
        obtain rfl := Option.some.inj hf
        exact hret _ _ _ _ rfl dX11_culprits_241 hP hD hS
    · refine lv_iconst (v := Int32.ofInt 0) hx hb dX11_culprits_104 rfl ?_
      refine lv_istore (lv' := [(10, .int (Int32.ofInt 0)), (0, .ref q0), (1, .int (Int32.ofInt x1)), (2, .int (Int32.ofInt x2)), (3, .int (Int32.ofInt x3)), (4, .int (Int32.ofInt x4)), (5, .int (Int32.ofInt x5)), (6, .int (Int32.ofInt x6)), (7, .int (Int32.ofInt x7)), (8, .int (Int32.ofInt x8)), (9, .int (Int32.ofInt x9))]) hx hb dX11_culprits_105 hl (by decide) rfl (fun ls hl => ?_)
      refine lv_iconst (v := Int32.ofInt 0) hx hb dX11_culprits_107 rfl ?_
      refine lv_istore (lv' := [(11, .int (Int32.ofInt 0)), (10, .int (Int32.ofInt 0)), (0, .ref q0), (1, .int (Int32.ofInt x1)), (2, .int (Int32.ofInt x2)), (3, .int (Int32.ofInt x3)), (4, .int (Int32.ofInt x4)), (5, .int (Int32.ofInt x5)), (6, .int (Int32.ofInt x6)), (7, .int (Int32.ofInt x7)), (8, .int (Int32.ofInt x8)), (9, .int (Int32.ofInt x9))]) hx hb dX11_culprits_108 hl (by decide) rfl (fun ls hl => ?_)
      exact l_110 _ ih95 _ _ _ _ _ _ _ _ _ _ _ _ _ _ _ _ _ hf hP hD hS (lv_sub hl [2, 3, 4, 5, 6, 7, 8, 9, 10, 11, 1, 0] rfl)
  have l_95 : ∀ (n : Nat), ∀ (x1 : Int) (x2 : Int) (x3 : Int) (x4 : Int) (x5 : Int) (x6 : Int) (x7 : Int) (x8 : Int) (x9 : Int) (i_thrown : Int) (i_withOne : Nat → Int) (H : Heap) (locs : List Loc) (ls : Array Slot), f_HM_culprits_95 i_row n x1 x2 x3 x4 x5 x6 x7 x8 x9 i_thrown i_withOne = some out → va_P (dC, dI) vwCl (wd_HM_culprits cA q0 q1 q2 q3 q4 q5 q6 q7 q8 q9 q10 q11 q12 q13 q14 q15 q16 q17 q18 q19 q20 q21 q22 q23 q24 q25 q26 q27 q28 q29 q30 q31 u0 u1 u2 u3 u4 u5 u6 u7 u8 u9 u10 u11 u12 u13 u14 u15 u16 u17 u18 u19 u20 i_row i_thrown i_withOne) H → va_D A (wd_HM_culprits cA q0 q1 q2 q3 q4 q5 q6 q7 q8 q9 q10 q11 q12 q13 q14 q15 q16 q17 q18 q19 q20 q21 q22 q23 q24 q25 q26 q27 q28 q29 q30 q31 u0 u1 u2 u3 u4 u5 u6 u7 u8 u9 u10 u11 u12 u13 u14 u15 u16 u17 u18 u19 u20 i_row i_thrown i_withOne) → va_S A s.heap H locs → lv_has ls 12 [(0, .ref q0), (1, .int (Int32.ofInt x1)), (2, .int (Int32.ofInt x2)), (3, .int (Int32.ofInt x3)), (4, .int (Int32.ofInt x4)), (5, .int (Int32.ofInt x5)), (6, .int (Int32.ofInt x6)), (7, .int (Int32.ofInt x7)), (8, .int (Int32.ofInt x8)), (9, .int (Int32.ofInt x9))] → W p l e rm_HM_culprits s m args below meth c H locs 0 0 Q (F0 m 95 ls []) := by
    intro n
    induction n with
    | zero => intro x1 x2 x3 x4 x5 x6 x7 x8 x9 i_thrown i_withOne H locs ls hf hP hD hS hl; exact nomatch hf
    | succ n ih => intro x1 x2 x3 x4 x5 x6 x7 x8 x9 i_thrown i_withOne H locs ls hf hP hD hS hl; exact b_95 (f_HM_culprits_95 i_row n) ih x1 x2 x3 x4 x5 x6 x7 x8 x9 i_thrown i_withOne H locs ls hf hP hD hS hl
  have b_71 : ∀ (k71 : Int → Int → Int → Int → Int → Int → Int → Int → Int → Int → (Nat → Int) → Option (Int × Int × (Nat → Int))) (_ : ∀ (x1 : Int) (x2 : Int) (x3 : Int) (x4 : Int) (x5 : Int) (x6 : Int) (x7 : Int) (x8 : Int) (x9 : Int) (i_thrown : Int) (i_withOne : Nat → Int) (H : Heap) (locs : List Loc) (ls : Array Slot), k71 x1 x2 x3 x4 x5 x6 x7 x8 x9 i_thrown i_withOne = some out → va_P (dC, dI) vwCl (wd_HM_culprits cA q0 q1 q2 q3 q4 q5 q6 q7 q8 q9 q10 q11 q12 q13 q14 q15 q16 q17 q18 q19 q20 q21 q22 q23 q24 q25 q26 q27 q28 q29 q30 q31 u0 u1 u2 u3 u4 u5 u6 u7 u8 u9 u10 u11 u12 u13 u14 u15 u16 u17 u18 u19 u20 i_row i_thrown i_withOne) H → va_D A (wd_HM_culprits cA q0 q1 q2 q3 q4 q5 q6 q7 q8 q9 q10 q11 q12 q13 q14 q15 q16 q17 q18 q19 q20 q21 q22 q23 q24 q25 q26 q27 q28 q29 q30 q31 u0 u1 u2 u3 u4 u5 u6 u7 u8 u9 u10 u11 u12 u13 u14 u15 u16 u17 u18 u19 u20 i_row i_thrown i_withOne) → va_S A s.heap H locs → lv_has ls 12 [(0, .ref q0), (1, .int (Int32.ofInt x1)), (2, .int (Int32.ofInt x2)), (3, .int (Int32.ofInt x3)), (4, .int (Int32.ofInt x4)), (5, .int (Int32.ofInt x5)), (6, .int (Int32.ofInt x6)), (7, .int (Int32.ofInt x7)), (8, .int (Int32.ofInt x8)), (9, .int (Int32.ofInt x9))] → W p l e rm_HM_culprits s m args below meth c H locs 0 0 Q (F0 m 71 ls [])), ∀ (x1 : Int) (x2 : Int) (x3 : Int) (x4 : Int) (x5 : Int) (x6 : Int) (x7 : Int) (x8 : Int) (x9 : Int) (i_thrown : Int) (i_withOne : Nat → Int) (H : Heap) (locs : List Loc) (ls : Array Slot), f_HM_culprits_71_b i_row k71 x1 x2 x3 x4 x5 x6 x7 x8 x9 i_thrown i_withOne = some out → va_P (dC, dI) vwCl (wd_HM_culprits cA q0 q1 q2 q3 q4 q5 q6 q7 q8 q9 q10 q11 q12 q13 q14 q15 q16 q17 q18 q19 q20 q21 q22 q23 q24 q25 q26 q27 q28 q29 q30 q31 u0 u1 u2 u3 u4 u5 u6 u7 u8 u9 u10 u11 u12 u13 u14 u15 u16 u17 u18 u19 u20 i_row i_thrown i_withOne) H → va_D A (wd_HM_culprits cA q0 q1 q2 q3 q4 q5 q6 q7 q8 q9 q10 q11 q12 q13 q14 q15 q16 q17 q18 q19 q20 q21 q22 q23 q24 q25 q26 q27 q28 q29 q30 q31 u0 u1 u2 u3 u4 u5 u6 u7 u8 u9 u10 u11 u12 u13 u14 u15 u16 u17 u18 u19 u20 i_row i_thrown i_withOne) → va_S A s.heap H locs → lv_has ls 12 [(0, .ref q0), (1, .int (Int32.ofInt x1)), (2, .int (Int32.ofInt x2)), (3, .int (Int32.ofInt x3)), (4, .int (Int32.ofInt x4)), (5, .int (Int32.ofInt x5)), (6, .int (Int32.ofInt x6)), (7, .int (Int32.ofInt x7)), (8, .int (Int32.ofInt x8)), (9, .int (Int32.ofInt x9))] → W p l e rm_HM_culprits s m args below meth c H locs 0 0 Q (F0 m 71 ls []) := by
    intro k71 ih71 x1 x2 x3 x4 x5 x6 x7 x8 x9 i_thrown i_withOne H locs ls hf hP hD hS hl
    unfold f_HM_culprits_71_b at hf
    refine lv_iload hx hb dX11_culprits_71 (lv_at hl 9 rfl) ?_
    refine lv_bipush (v := Int32.ofInt 6) hx hb dX11_culprits_73 (by decide) ?_
    refine xi_icmp_ge (tgt := 92) hx hb dX11_culprits_75 (by decide) hf (fun hf => ?_) (fun hf => ?_)
    · refine lv_iconst (v := Int32.ofInt 0) hx hb dX11_culprits_92 rfl ?_
      refine lv_istore (lv' := [(9, .int (Int32.ofInt 0)), (0, .ref q0), (1, .int (Int32.ofInt x1)), (2, .int (Int32.ofInt x2)), (3, .int (Int32.ofInt x3)), (4, .int (Int32.ofInt x4)), (5, .int (Int32.ofInt x5)), (6, .int (Int32.ofInt x6)), (7, .int (Int32.ofInt x7)), (8, .int (Int32.ofInt x8))]) hx hb dX11_culprits_93 hl (by decide) rfl (fun ls hl => ?_)
      exact l_95  _ _ _ _ _ _ _ _ _ _ _ _ _ _ _ hf hP hD hS (lv_sub hl [1, 2, 3, 4, 5, 6, 7, 8, 9, 0] rfl)
    · refine lv_aload_n hx hb dX11_culprits_78 rfl (lv_at hl 0 rfl) ?_
      refine va_get (D := (dC, dI)) (ci := 11) (v := .ref q27) (C := RX11) (T := TX11) (N := 53) hx hb hz zi_X11 hown hK hP 0 rfl rfl 46 (by decide) (hz _ zw_1211) (fun _ h9 => h9) rfl dX11_culprits_79 ?_
      refine lv_iload hx hb dX11_culprits_82 (lv_at hl 9 rfl) ?_
      refine lv_iconst (v := Int32.ofInt 0) hx hb dX11_culprits_84 rfl ?_
      refine xi_iast hx hb hK hP hD hS 2 0 rfl rfl dX11_culprits_85 hf (fun a1 H locs hP hD hS hf => ?_)
      have hP : va_P (dC, dI) vwCl (wd_HM_culprits cA q0 q1 q2 q3 q4 q5 q6 q7 q8 q9 q10 q11 q12 q13 q14 q15 q16 q17 q18 q19 q20 q21 q22 q23 q24 q25 q26 q27 q28 q29 q30 q31 u0 u1 u2 u3 u4 u5 u6 u7 u8 u9 u10 u11 u12 u13 u14 u15 u16 u17 u18 u19 u20 i_row i_thrown a1) H := hP
      have hD : va_D A (wd_HM_culprits cA q0 q1 q2 q3 q4 q5 q6 q7 q8 q9 q10 q11 q12 q13 q14 q15 q16 q17 q18 q19 q20 q21 q22 q23 q24 q25 q26 q27 q28 q29 q30 q31 u0 u1 u2 u3 u4 u5 u6 u7 u8 u9 u10 u11 u12 u13 u14 u15 u16 u17 u18 u19 u20 i_row i_thrown a1) := hD
      refine xi_iinc hx hb dX11_culprits_86 hl (k := 9) rfl (by decide) hf (fun v2 ls hl hf => ?_)
      have hl : lv_has ls 12 [(9, .int (Int32.ofInt v2)), (0, .ref q0), (1, .int (Int32.ofInt x1)), (2, .int (Int32.ofInt x2)), (3, .int (Int32.ofInt x3)), (4, .int (Int32.ofInt x4)), (5, .int (Int32.ofInt x5)), (6, .int (Int32.ofInt x6)), (7, .int (Int32.ofInt x7)), (8, .int (Int32.ofInt x8))] := hl
      refine lv_goto (tgt := 71) hx hb dX11_culprits_89 (by decide) ?_
      exact ih71 _ _ _ _ _ _ _ _ _ _ _ _ _ _ hf hP hD hS (lv_sub hl [1, 2, 3, 4, 5, 6, 7, 8, 9, 0] rfl)
  have l_71 : ∀ (n : Nat), ∀ (x1 : Int) (x2 : Int) (x3 : Int) (x4 : Int) (x5 : Int) (x6 : Int) (x7 : Int) (x8 : Int) (x9 : Int) (i_thrown : Int) (i_withOne : Nat → Int) (H : Heap) (locs : List Loc) (ls : Array Slot), f_HM_culprits_71 i_row n x1 x2 x3 x4 x5 x6 x7 x8 x9 i_thrown i_withOne = some out → va_P (dC, dI) vwCl (wd_HM_culprits cA q0 q1 q2 q3 q4 q5 q6 q7 q8 q9 q10 q11 q12 q13 q14 q15 q16 q17 q18 q19 q20 q21 q22 q23 q24 q25 q26 q27 q28 q29 q30 q31 u0 u1 u2 u3 u4 u5 u6 u7 u8 u9 u10 u11 u12 u13 u14 u15 u16 u17 u18 u19 u20 i_row i_thrown i_withOne) H → va_D A (wd_HM_culprits cA q0 q1 q2 q3 q4 q5 q6 q7 q8 q9 q10 q11 q12 q13 q14 q15 q16 q17 q18 q19 q20 q21 q22 q23 q24 q25 q26 q27 q28 q29 q30 q31 u0 u1 u2 u3 u4 u5 u6 u7 u8 u9 u10 u11 u12 u13 u14 u15 u16 u17 u18 u19 u20 i_row i_thrown i_withOne) → va_S A s.heap H locs → lv_has ls 12 [(0, .ref q0), (1, .int (Int32.ofInt x1)), (2, .int (Int32.ofInt x2)), (3, .int (Int32.ofInt x3)), (4, .int (Int32.ofInt x4)), (5, .int (Int32.ofInt x5)), (6, .int (Int32.ofInt x6)), (7, .int (Int32.ofInt x7)), (8, .int (Int32.ofInt x8)), (9, .int (Int32.ofInt x9))] → W p l e rm_HM_culprits s m args below meth c H locs 0 0 Q (F0 m 71 ls []) := by
    intro n
    induction n with
    | zero => intro x1 x2 x3 x4 x5 x6 x7 x8 x9 i_thrown i_withOne H locs ls hf hP hD hS hl; exact nomatch hf
    | succ n ih => intro x1 x2 x3 x4 x5 x6 x7 x8 x9 i_thrown i_withOne H locs ls hf hP hD hS hl; exact b_71 (f_HM_culprits_71 i_row n) ih x1 x2 x3 x4 x5 x6 x7 x8 x9 i_thrown i_withOne H locs ls hf hP hD hS hl
  unfold f_HM_culprits at hf
  refine lv_aload_n hx hb dX11_culprits_0 rfl (lv_at hl 0 rfl) ?_
  refine lv_iconst (v := Int32.ofInt 0) hx hb dX11_culprits_1 rfl ?_
  refine va_put (D := (dC, dI)) (ci := 11) (v := .int (Int32.ofInt 0)) (ty := .int) (C := RX11) (T := TX11) (N := 53) hx hb hz zi_X11 tyX11 tyX11_ok nmX11 hown hK hP hD hS 0 rfl rfl 0 (by decide) (hz _ zw_1165) (fun _ h9 => h9) rfl (by decide +kernel) rfl rfl (Nat.le_of_ble_eq_true rfl) dX11_culprits_2 (fun H locs hP hD hS => ?_)
  have hP : va_P (dC, dI) vwCl (wd_HM_culprits cA q0 q1 q2 q3 q4 q5 q6 q7 q8 q9 q10 q11 q12 q13 q14 q15 q16 q17 q18 q19 q20 q21 q22 q23 q24 q25 q26 q27 q28 q29 q30 q31 u0 u1 u2 u3 u4 u5 u6 u7 u8 u9 u10 u11 u12 u13 u14 u15 u16 u17 u18 u19 u20 i_row 0 i_withOne) H := hP
  have hD : va_D A (wd_HM_culprits cA q0 q1 q2 q3 q4 q5 q6 q7 q8 q9 q10 q11 q12 q13 q14 q15 q16 q17 q18 q19 q20 q21 q22 q23 q24 q25 q26 q27 q28 q29 q30 q31 u0 u1 u2 u3 u4 u5 u6 u7 u8 u9 u10 u11 u12 u13 u14 u15 u16 u17 u18 u19 u20 i_row 0 i_withOne) := hD
  refine lv_iload_n hx hb dX11_culprits_5 rfl (lv_at hl 1 rfl) ?_
  refine xi_i2l hx hb dX11_culprits_6 hf (fun v1 hf => ?_)
  refine lv_lconst (v := Int64.ofInt 1) hx hb dX11_culprits_7 (by decide) ?_
  refine lv_ldc2 (v := Int64.ofInt 9) hx hb hown (hz _ zw_1406) dX11_culprits_8 ?_
  refine xe_d1 hf (fun v2 hg hf => ?_)
  have hC : ([] : List Nat).map (fun i => (wd_HM_culprits cA q0 q1 q2 q3 q4 q5 q6 q7 q8 q9 q10 q11 q12 q13 q14 q15 q16 q17 q18 q19 q20 q21 q22 q23 q24 q25 q26 q27 q28 q29 q30 q31 u0 u1 u2 u3 u4 u5 u6 u7 u8 u9 u10 u11 u12 u13 u14 u15 u16 u17 u18 u19 u20 i_row 0 i_withOne)[i]?) = (wd_HM_in cA).map some := rfl
  refine xv_afterI (ws' := (wd_HM_culprits cA q0 q1 q2 q3 q4 q5 q6 q7 q8 q9 q10 q11 q12 q13 q14 q15 q16 q17 q18 q19 q20 q21 q22 q23 q24 q25 q26 q27 q28 q29 q30 q31 u0 u1 u2 u3 u4 u5 u6 u7 u8 u9 u10 u11 u12 u13 u14 u15 u16 u17 u18 u19 u20 i_row 0 i_withOne)) (isC := []) (ps := [none, none, none]) (va_runS (As := [.long (Int64.ofInt v1), .long (Int64.ofInt 1), .long (Int64.ofInt 9)]) (rest := []) ⟨hx, hb, hml, hown, hts⟩ (c_HM_in l ev dC dI cA hg H.size) (va_cwS 3 hts (zgS zw_1329 zw_1330 zw_115 zw_1331) rfl rfl rfl hd_HM_in.2 ⟨Nat.le_of_ble_eq_true rfl, Nat.le_of_ble_eq_true rfl⟩) (xv_preS hE hA hS hK hP hD (isC := []) (by decide +kernel) hC) rfl rfl hl.1 rfl (lv_room (Nat.le_of_ble_eq_true rfl)) dX11_culprits_11 ⟨Nat.le_refl _, Nat.le_refl _⟩) hP hD hS hA (by decide +kernel) rfl hC rfl rfl (fun H locs hP hD hS => ?_)
  refine xi_if_eq (tgt := 41) hx hb dX11_culprits_14 (by decide) hf (fun hf => ?_) (fun hf => ?_)
  · refine lv_iconst (v := Int32.ofInt (-1)) hx hb dX11_culprits_41 rfl ?_
    obtain rfl := Option.some.inj hf
    exact hret _ _ _ _ rfl dX11_culprits_42 hP hD hS
  · refine lv_iload_n hx hb dX11_culprits_17 rfl (lv_at hl 2 rfl) ?_
    refine xi_i2l hx hb dX11_culprits_18 hf (fun v3 hf => ?_)
    refine lv_lconst (v := Int64.ofInt 0) hx hb dX11_culprits_19 (by decide) ?_
    refine lv_ldc2 (v := Int64.ofInt 999) hx hb hown (hz _ zw_1733) dX11_culprits_20 ?_
    refine xe_d1 hf (fun v4 hg hf => ?_)
    have hC : ([] : List Nat).map (fun i => (wd_HM_culprits cA q0 q1 q2 q3 q4 q5 q6 q7 q8 q9 q10 q11 q12 q13 q14 q15 q16 q17 q18 q19 q20 q21 q22 q23 q24 q25 q26 q27 q28 q29 q30 q31 u0 u1 u2 u3 u4 u5 u6 u7 u8 u9 u10 u11 u12 u13 u14 u15 u16 u17 u18 u19 u20 i_row 0 i_withOne)[i]?) = (wd_HM_in cA).map some := rfl
    refine xv_afterI (ws' := (wd_HM_culprits cA q0 q1 q2 q3 q4 q5 q6 q7 q8 q9 q10 q11 q12 q13 q14 q15 q16 q17 q18 q19 q20 q21 q22 q23 q24 q25 q26 q27 q28 q29 q30 q31 u0 u1 u2 u3 u4 u5 u6 u7 u8 u9 u10 u11 u12 u13 u14 u15 u16 u17 u18 u19 u20 i_row 0 i_withOne)) (isC := []) (ps := [none, none, none]) (va_runS (As := [.long (Int64.ofInt v3), .long (Int64.ofInt 0), .long (Int64.ofInt 999)]) (rest := []) ⟨hx, hb, hml, hown, hts⟩ (c_HM_in l ev dC dI cA hg H.size) (va_cwS 3 hts (zgS zw_1329 zw_1330 zw_115 zw_1331) rfl rfl rfl hd_HM_in.2 ⟨Nat.le_of_ble_eq_true rfl, Nat.le_of_ble_eq_true rfl⟩) (xv_preS hE hA hS hK hP hD (isC := []) (by decide +kernel) hC) rfl rfl hl.1 rfl (lv_room (Nat.le_of_ble_eq_true rfl)) dX11_culprits_23 ⟨Nat.le_refl _, Nat.le_refl _⟩) hP hD hS hA (by decide +kernel) rfl hC rfl rfl (fun H locs hP hD hS => ?_)
    refine xi_if_eq (tgt := 41) hx hb dX11_culprits_26 (by decide) hf (fun hf => ?_) (fun hf => ?_)
    · refine lv_iconst (v := Int32.ofInt (-1)) hx hb dX11_culprits_41 rfl ?_
      obtain rfl := Option.some.inj hf
      exact hret _ _ _ _ rfl dX11_culprits_42 hP hD hS
    · refine lv_iload_n hx hb dX11_culprits_29 rfl (lv_at hl 3 rfl) ?_
      refine xi_i2l hx hb dX11_culprits_30 hf (fun v5 hf => ?_)
      refine lv_lconst (v := Int64.ofInt 0) hx hb dX11_culprits_31 (by decide) ?_
      refine lv_ldc2 (v := Int64.ofInt 4) hx hb hown (hz _ zw_1734) dX11_culprits_32 ?_
      refine xe_d1 hf (fun v6 hg hf => ?_)
      have hC : ([] : List Nat).map (fun i => (wd_HM_culprits cA q0 q1 q2 q3 q4 q5 q6 q7 q8 q9 q10 q11 q12 q13 q14 q15 q16 q17 q18 q19 q20 q21 q22 q23 q24 q25 q26 q27 q28 q29 q30 q31 u0 u1 u2 u3 u4 u5 u6 u7 u8 u9 u10 u11 u12 u13 u14 u15 u16 u17 u18 u19 u20 i_row 0 i_withOne)[i]?) = (wd_HM_in cA).map some := rfl
      refine xv_afterI (ws' := (wd_HM_culprits cA q0 q1 q2 q3 q4 q5 q6 q7 q8 q9 q10 q11 q12 q13 q14 q15 q16 q17 q18 q19 q20 q21 q22 q23 q24 q25 q26 q27 q28 q29 q30 q31 u0 u1 u2 u3 u4 u5 u6 u7 u8 u9 u10 u11 u12 u13 u14 u15 u16 u17 u18 u19 u20 i_row 0 i_withOne)) (isC := []) (ps := [none, none, none]) (va_runS (As := [.long (Int64.ofInt v5), .long (Int64.ofInt 0), .long (Int64.ofInt 4)]) (rest := []) ⟨hx, hb, hml, hown, hts⟩ (c_HM_in l ev dC dI cA hg H.size) (va_cwS 3 hts (zgS zw_1329 zw_1330 zw_115 zw_1331) rfl rfl rfl hd_HM_in.2 ⟨Nat.le_of_ble_eq_true rfl, Nat.le_of_ble_eq_true rfl⟩) (xv_preS hE hA hS hK hP hD (isC := []) (by decide +kernel) hC) rfl rfl hl.1 rfl (lv_room (Nat.le_of_ble_eq_true rfl)) dX11_culprits_35 ⟨Nat.le_refl _, Nat.le_refl _⟩) hP hD hS hA (by decide +kernel) rfl hC rfl rfl (fun H locs hP hD hS => ?_)
      refine xi_if_ne (tgt := 43) hx hb dX11_culprits_38 (by decide) hf (fun hf => ?_) (fun hf => ?_)
      · refine lv_aload_n hx hb dX11_culprits_43 rfl (lv_at hl 0 rfl) ?_
        refine va_get (D := (dC, dI)) (ci := 11) (v := .ref q2) (C := RX11) (T := TX11) (N := 53) hx hb hz zi_X11 hown hK hP 0 rfl rfl 3 (by decide) (hz _ zw_1168) (fun _ h9 => h9) rfl dX11_culprits_44 ?_
        refine lv_iconst (v := Int32.ofInt 1) hx hb dX11_culprits_47 rfl ?_
        refine xi_iald hx hb hK hP 1 0 rfl rfl dX11_culprits_48 hf (fun v7 hf => ?_)
        refine lv_istore (lv' := [(4, .int (Int32.ofInt v7)), (0, .ref q0), (1, .int (Int32.ofInt x1)), (2, .int (Int32.ofInt x2)), (3, .int (Int32.ofInt x3))]) hx hb dX11_culprits_49 hl (by decide) rfl (fun ls hl => ?_)
        refine lv_iconst (v := Int32.ofInt 0) hx hb dX11_culprits_51 rfl ?_
        refine lv_istore (lv' := [(5, .int (Int32.ofInt 0)), (4, .int (Int32.ofInt v7)), (0, .ref q0), (1, .int (Int32.ofInt x1)), (2, .int (Int32.ofInt x2)), (3, .int (Int32.ofInt x3))]) hx hb dX11_culprits_52 hl (by decide) rfl (fun ls hl => ?_)
        refine lv_iconst (v := Int32.ofInt (-1)) hx hb dX11_culprits_54 rfl ?_
        refine lv_istore (lv' := [(6, .int (Int32.ofInt (-1))), (5, .int (Int32.ofInt 0)), (4, .int (Int32.ofInt v7)), (0, .ref q0), (1, .int (Int32.ofInt x1)), (2, .int (Int32.ofInt x2)), (3, .int (Int32.ofInt x3))]) hx hb dX11_culprits_55 hl (by decide) rfl (fun ls hl => ?_)
        refine lv_iconst (v := Int32.ofInt 1) hx hb dX11_culprits_57 rfl ?_
        refine lv_iload hx hb dX11_culprits_58 (lv_at hl 2 rfl) ?_
        refine xi_ishl hx hb dX11_culprits_60 hf (fun v8 hf => ?_)
        refine lv_iconst (v := Int32.ofInt 1) hx hb dX11_culprits_61 rfl ?_
        refine xi_isub hx hb dX11_culprits_62 hf (fun v9 hf => ?_)
        refine lv_istore (lv' := [(7, .int (Int32.ofInt v9)), (6, .int (Int32.ofInt (-1))), (5, .int (Int32.ofInt 0)), (4, .int (Int32.ofInt v7)), (0, .ref q0), (1, .int (Int32.ofInt x1)), (2, .int (Int32.ofInt x2)), (3, .int (Int32.ofInt x3))]) hx hb dX11_culprits_63 hl (by decide) rfl (fun ls hl => ?_)
        refine lv_iconst (v := Int32.ofInt 0) hx hb dX11_culprits_65 rfl ?_
        refine lv_istore (lv' := [(8, .int (Int32.ofInt 0)), (7, .int (Int32.ofInt v9)), (6, .int (Int32.ofInt (-1))), (5, .int (Int32.ofInt 0)), (4, .int (Int32.ofInt v7)), (0, .ref q0), (1, .int (Int32.ofInt x1)), (2, .int (Int32.ofInt x2)), (3, .int (Int32.ofInt x3))]) hx hb dX11_culprits_66 hl (by decide) rfl (fun ls hl => ?_)
        refine lv_iconst (v := Int32.ofInt 0) hx hb dX11_culprits_68 rfl ?_
        refine lv_istore (lv' := [(9, .int (Int32.ofInt 0)), (8, .int (Int32.ofInt 0)), (7, .int (Int32.ofInt v9)), (6, .int (Int32.ofInt (-1))), (5, .int (Int32.ofInt 0)), (4, .int (Int32.ofInt v7)), (0, .ref q0), (1, .int (Int32.ofInt x1)), (2, .int (Int32.ofInt x2)), (3, .int (Int32.ofInt x3))]) hx hb dX11_culprits_69 hl (by decide) rfl (fun ls hl => ?_)
        exact l_71  _ _ _ _ _ _ _ _ _ _ _ _ _ _ _ hf hP hD hS (lv_sub hl [6, 7, 8, 9, 5, 4, 3, 2, 1, 0] rfl)
      · refine lv_iconst (v := Int32.ofInt (-1)) hx hb dX11_culprits_41 rfl ?_
        obtain rfl := Option.some.inj hf
        exact hret _ _ _ _ rfl dX11_culprits_42 hP hD hS
theorem dX11_settle__0 : decode cX11_settle_ 0 = .ok (.iload_n 1, 1) := by decide +kernel
theorem dX11_settle__1 : decode cX11_settle_ 1 = .ok (.iload_n 2, 1) := by decide +kernel
theorem dX11_settle__2 : decode cX11_settle_ 2 = .ok (.iadd, 1) := by decide +kernel
theorem dX11_settle__3 : decode cX11_settle_ 3 = .ok (.iconst 2, 1) := by decide +kernel
theorem dX11_settle__4 : decode cX11_settle_ 4 = .ok (.irem, 1) := by decide +kernel
theorem dX11_settle__5 : decode cX11_settle_ 5 = .ok (.ifCond .ne 7, 3) := by decide +kernel
theorem dX11_settle__8 : decode cX11_settle_ 8 = .ok (.iconst 1, 1) := by decide +kernel
theorem dX11_settle__9 : decode cX11_settle_ 9 = .ok (.goto 4, 3) := by decide +kernel
theorem dX11_settle__12 : decode cX11_settle_ 12 = .ok (.iconst 0, 1) := by decide +kernel
theorem dX11_settle__13 : decode cX11_settle_ 13 = .ok (.istore 4, 2) := by decide +kernel
theorem dX11_settle__15 : decode cX11_settle_ 15 = .ok (.aload_n 0, 1) := by decide +kernel
theorem dX11_settle__16 : decode cX11_settle_ 16 = .ok (.getfield 117, 3) := by decide +kernel
theorem dX11_settle__19 : decode cX11_settle_ 19 = .ok (.iload_n 1, 1) := by decide +kernel
theorem dX11_settle__20 : decode cX11_settle_ 20 = .ok (.iaload, 1) := by decide +kernel
theorem dX11_settle__21 : decode cX11_settle_ 21 = .ok (.sipush (-1000), 3) := by decide +kernel
theorem dX11_settle__24 : decode cX11_settle_ 24 = .ok (.if_icmp .eq 31, 3) := by decide +kernel
theorem dX11_settle__27 : decode cX11_settle_ 27 = .ok (.iload 4, 2) := by decide +kernel
theorem dX11_settle__29 : decode cX11_settle_ 29 = .ok (.ifCond .eq 16, 3) := by decide +kernel
theorem dX11_settle__32 : decode cX11_settle_ 32 = .ok (.iload_n 3, 1) := by decide +kernel
theorem dX11_settle__33 : decode cX11_settle_ 33 = .ok (.aload_n 0, 1) := by decide +kernel
theorem dX11_settle__34 : decode cX11_settle_ 34 = .ok (.getfield 117, 3) := by decide +kernel
theorem dX11_settle__37 : decode cX11_settle_ 37 = .ok (.iload_n 1, 1) := by decide +kernel
theorem dX11_settle__38 : decode cX11_settle_ 38 = .ok (.iaload, 1) := by decide +kernel
theorem dX11_settle__39 : decode cX11_settle_ 39 = .ok (.if_icmp .le 35, 3) := by decide +kernel
theorem dX11_settle__42 : decode cX11_settle_ 42 = .ok (.goto 13, 3) := by decide +kernel
theorem dX11_settle__45 : decode cX11_settle_ 45 = .ok (.iload_n 3, 1) := by decide +kernel
theorem dX11_settle__46 : decode cX11_settle_ 46 = .ok (.aload_n 0, 1) := by decide +kernel
theorem dX11_settle__47 : decode cX11_settle_ 47 = .ok (.getfield 117, 3) := by decide +kernel
theorem dX11_settle__50 : decode cX11_settle_ 50 = .ok (.iload_n 1, 1) := by decide +kernel
theorem dX11_settle__51 : decode cX11_settle_ 51 = .ok (.iaload, 1) := by decide +kernel
theorem dX11_settle__52 : decode cX11_settle_ 52 = .ok (.if_icmp .ge 22, 3) := by decide +kernel
theorem dX11_settle__55 : decode cX11_settle_ 55 = .ok (.aload_n 0, 1) := by decide +kernel
theorem dX11_settle__56 : decode cX11_settle_ 56 = .ok (.getfield 117, 3) := by decide +kernel
theorem dX11_settle__59 : decode cX11_settle_ 59 = .ok (.iload_n 1, 1) := by decide +kernel
theorem dX11_settle__60 : decode cX11_settle_ 60 = .ok (.iload_n 3, 1) := by decide +kernel
theorem dX11_settle__61 : decode cX11_settle_ 61 = .ok (.iastore, 1) := by decide +kernel
theorem dX11_settle__62 : decode cX11_settle_ 62 = .ok (.aload_n 0, 1) := by decide +kernel
theorem dX11_settle__63 : decode cX11_settle_ 63 = .ok (.getfield 120, 3) := by decide +kernel
theorem dX11_settle__66 : decode cX11_settle_ 66 = .ok (.iload_n 1, 1) := by decide +kernel
theorem dX11_settle__67 : decode cX11_settle_ 67 = .ok (.aload_n 0, 1) := by decide +kernel
theorem dX11_settle__68 : decode cX11_settle_ 68 = .ok (.getfield 114, 3) := by decide +kernel
theorem dX11_settle__71 : decode cX11_settle_ 71 = .ok (.iload_n 1, 1) := by decide +kernel
theorem dX11_settle__72 : decode cX11_settle_ 72 = .ok (.iaload, 1) := by decide +kernel
theorem dX11_settle__73 : decode cX11_settle_ 73 = .ok (.iastore, 1) := by decide +kernel
theorem dX11_settle__74 : decode cX11_settle_ 74 = .ok (.return_, 1) := by decide +kernel
theorem zw_1212 : (Jvm.Cond.fieldLink "HillSchoolModel" (114 : Nat) "HillSchoolModel" "tried" "[I") ∈ zall := zmemG (zmj_5 149 rfl) rfl
theorem zw_1213 : (Jvm.Cond.fieldLink "HillSchoolModel" (117 : Nat) "HillSchoolModel" "bests" "[I") ∈ zall := zmemG (zmj_5 150 rfl) rfl
theorem zw_1214 : (Jvm.Cond.fieldLink "HillSchoolModel" (120 : Nat) "HillSchoolModel" "firsts" "[I") ∈ zall := zmemG (zmj_5 151 rfl) rfl
theorem zw_1761 : (Jvm.Cond.code ({ cls := "HillSchoolModel", name := "settle", desc := "(III)V" } : Jvm.MethodName) prog_13_method_105_code (5 : Nat) (Option.none : Option Jvm.ClassFile.FieldType)) ∈ zall := zmemG (zmj_7 218 rfl) rfl
abbrev w_HM_settlex : List Cond := .code yX11_settle_ cX11_settle_ 5 none :: zall
abbrev rm_HM_settlex : Room := { frames := 0, cells := 0, slots := 0, locals := 0 }
theorem hd_HM_settlex : yX11_settle_.cls = "HillSchoolModel" ∧ yX11_settle_.cls ≠ "java/lang/invoke/MethodHandle" ∧ yX11_settle_.cls ≠ "java/lang/invoke/VarHandle" ∧ (parseMethodDescriptor yX11_settle_.desc).map (fun d => d.parameters.length) = some 3 := by decide +kernel
def wd_HM_settlex (cA : Nat → ClassId) (q0 q1 q2 q3 q4 q5 q6 q7 q8 q9 q10 q11 q12 q13 q14 q15 q16 q17 q18 q19 q20 q21 q22 q23 q24 q25 q26 q27 q28 q29 q30 q31 : Nat) (u0 u1 u2 u3 u4 u5 u6 u7 u8 u9 u10 u11 u12 u13 u14 u15 u16 u17 u18 u19 u20 u21 : Int) (i_tried : Nat → Int) (i_bests : Nat → Int) (i_firsts : Nat → Int) : va_W := [(q0, .inr (11, [.int (Int32.ofInt u0), .int (Int32.ofInt u1), .ref q1, .ref q2, .ref q3, .ref q4, .int (Int32.ofInt u2), .ref q5, .int (Int32.ofInt u3), .int (Int32.ofInt u4), .int (Int32.ofInt u5), .int (Int32.ofInt u6), .long (Int64.ofInt u7), .int (Int32.ofInt u8), .int (Int32.ofInt u9), .int (Int32.ofInt u10), .ref q6, .int (Int32.ofInt u11), .ref q7, .ref q8, .int (Int32.ofInt u12), .ref q9, .ref q10, .int (Int32.ofInt u13), .int (Int32.ofInt u14), .ref q11, .int (Int32.ofInt u15), .ref q12, .ref q13, .int (Int32.ofInt u16), .long (Int64.ofInt u17), .long (Int64.ofInt u18), .ref q14, .ref q15, .ref q16, .ref q17, .ref q18, .int (Int32.ofInt u19), .ref q19, .ref q20, .ref q21, .ref q22, .ref q23, .ref q24, .ref q25, .ref q26, .ref q27, .ref q28, .ref q29, .ref q30, .long (Int64.ofInt u20), .ref q31, .int (Int32.ofInt u21)])), (q28, .inl (cA 0, 5, .inl (za i_tried))), (q29, .inl (cA 0, 5, .inl (za i_bests))), (q30, .inl (cA 0, 5, .inl (za i_firsts)))]
def wf_HM_settlex (cA : Nat → ClassId) (q0 q1 q2 q3 q4 q5 q6 q7 q8 q9 q10 q11 q12 q13 q14 q15 q16 q17 q18 q19 q20 q21 q22 q23 q24 q25 q26 q27 q28 q29 q30 q31 : Nat) (u0 u1 u2 u3 u4 u5 u6 u7 u8 u9 u10 u11 u12 u13 u14 u15 u16 u17 u18 u19 u20 u21 : Int) (i_tried : Nat → Int) (o : (Nat → Int) × (Nat → Int)) : va_W := wd_HM_settlex cA q0 q1 q2 q3 q4 q5 q6 q7 q8 q9 q10 q11 q12 q13 q14 q15 q16 q17 q18 q19 q20 q21 q22 q23 q24 q25 q26 q27 q28 q29 q30 q31 u0 u1 u2 u3 u4 u5 u6 u7 u8 u9 u10 u11 u12 u13 u14 u15 u16 u17 u18 u19 u20 u21 i_tried o.1 o.2
def f_HM_settlex_55 (i_tried : Nat → Int) (x1 : Int) (x3 : Int) (i_bests : Nat → Int) (i_firsts : Nat → Int) : Option ((Nat → Int) × (Nat → Int)) :=
  zs 5 i_bests x1 x3 fun a1 =>
  zg 5 i_tried x1 fun v2 =>
  zs 5 i_firsts x1 v2 fun a3 =>
  some (a1, a3)
def f_HM_settlex_13 (i_tried : Nat → Int) (x1 : Int) (x3 : Int) (s0 : Int) (i_bests : Nat → Int) (i_firsts : Nat → Int) : Option ((Nat → Int) × (Nat → Int)) :=
  zg 5 i_bests x1 fun v1 =>
  if zi_w v1 = zi_w (-1000) then
    f_HM_settlex_55 i_tried x1 x3 i_bests i_firsts
  else
    if zi_w s0 = 0 then
      zg 5 i_bests x1 fun v2 =>
      if zi_w v2 ≤ zi_w x3 then
        some (i_bests, i_firsts)
      else
        f_HM_settlex_55 i_tried x1 x3 i_bests i_firsts
    else
      zg 5 i_bests x1 fun v3 =>
      if zi_w x3 ≤ zi_w v3 then
        some (i_bests, i_firsts)
      else
        f_HM_settlex_55 i_tried x1 x3 i_bests i_firsts
def f_HM_settlex (x1 : Int) (x2 : Int) (x3 : Int) (i_tried : Nat → Int) (i_bests : Nat → Int) (i_firsts : Nat → Int) : Option ((Nat → Int) × (Nat → Int)) :=
  zn (x1 + x2) fun v1 =>
  if zi_w 2 = 0 then none else zn (zi_rem v1 2) fun v2 =>
  if zi_w v2 ≠ 0 then
    f_HM_settlex_13 i_tried x1 x3 0 i_bests i_firsts
  else
    f_HM_settlex_13 i_tried x1 x3 1 i_bests i_firsts
set_option maxHeartbeats 4000000 in
set_option maxRecDepth 100000 in
theorem c_HM_settlex (l : Launch) (ev : zEv) (dC : Nat → ClassId) (dI : Nat → Nat → Nat) (cA : Nat → ClassId) (q0 q1 q2 q3 q4 q5 q6 q7 q8 q9 q10 q11 q12 q13 q14 q15 q16 q17 q18 q19 q20 q21 q22 q23 q24 q25 q26 q27 q28 q29 q30 q31 : Nat) (u0 u1 u2 u3 u4 u5 u6 u7 u8 u9 u10 u11 u12 u13 u14 u15 u16 u17 u18 u19 u20 u21 : Int) {x1 x2 x3 : Int} {i_tried : Nat → Int} {i_bests : Nat → Int} {i_firsts : Nat → Int} {out : (Nat → Int) × (Nat → Int)} (hf : f_HM_settlex x1 x2 x3 i_tried i_bests i_firsts = some out) : xc_V l ev (dC, dI) vwCl (tyl cA) yX11_settle_ w_HM_settlex rm_HM_settlex [.ref q0, .int (Int32.ofInt x1), .int (Int32.ofInt x2), .int (Int32.ofInt x3)] (wd_HM_settlex cA q0 q1 q2 q3 q4 q5 q6 q7 q8 q9 q10 q11 q12 q13 q14 q15 q16 q17 q18 q19 q20 q21 q22 q23 q24 q25 q26 q27 q28 q29 q30 q31 u0 u1 u2 u3 u4 u5 u6 u7 u8 u9 u10 u11 u12 u13 u14 u15 u16 u17 u18 u19 u20 u21 i_tried i_bests i_firsts) (wf_HM_settlex cA q0 q1 q2 q3 q4 q5 q6 q7 q8 q9 q10 q11 q12 q13 q14 q15 q16 q17 q18 q19 q20 q21 q22 q23 q24 q25 q26 q27 q28 q29 q30 q31 u0 u1 u2 u3 u4 u5 u6 u7 u8 u9 u10 u11 u12 u13 u14 u15 u16 u17 u18 u19 u20 u21 i_tried out) := by
  refine xv_startV (cc := cX11_settle_) (maxL := 5) (by decide +kernel) rfl (Nat.le_of_ble_eq_true rfl) ?_
  intro p e s m args below meth c A Q H ls hx hb hml hts hown hK hA hP hD hS hl hE hret
  have hown : s.vm.findClass "HillSchoolModel" = some m.cls := hown
  have hz : ∀ w ∈ zall, w.before args s = true := fun w h => hts w (List.mem_cons_of_mem _ h)
  have hl : lv_has ls 5 [(0, .ref q0), (1, .int (Int32.ofInt x1)), (2, .int (Int32.ofInt x2)), (3, .int (Int32.ofInt x3))] := hl
  have b_55 : ∀ (x1 : Int) (x3 : Int) (i_bests : Nat → Int) (i_firsts : Nat → Int) (H : Heap) (locs : List Loc) (ls : Array Slot), f_HM_settlex_55 i_tried x1 x3 i_bests i_firsts = some out → va_P (dC, dI) vwCl (wd_HM_settlex cA q0 q1 q2 q3 q4 q5 q6 q7 q8 q9 q10 q11 q12 q13 q14 q15 q16 q17 q18 q19 q20 q21 q22 q23 q24 q25 q26 q27 q28 q29 q30 q31 u0 u1 u2 u3 u4 u5 u6 u7 u8 u9 u10 u11 u12 u13 u14 u15 u16 u17 u18 u19 u20 u21 i_tried i_bests i_firsts) H → va_D A (wd_HM_settlex cA q0 q1 q2 q3 q4 q5 q6 q7 q8 q9 q10 q11 q12 q13 q14 q15 q16 q17 q18 q19 q20 q21 q22 q23 q24 q25 q26 q27 q28 q29 q30 q31 u0 u1 u2 u3 u4 u5 u6 u7 u8 u9 u10 u11 u12 u13 u14 u15 u16 u17 u18 u19 u20 u21 i_tried i_bests i_firsts) → va_S A s.heap H locs → lv_has ls 5 [(0, .ref q0), (1, .int (Int32.ofInt x1)), (3, .int (Int32.ofInt x3))] → W p l e rm_HM_settlex s m args below meth c H locs 0 0 Q (F0 m 55 ls []) := by
    intro x1 x3 i_bests i_firsts H locs ls hf hP hD hS hl
    unfold f_HM_settlex_55 at hf
    refine lv_aload_n hx hb dX11_settle__55 rfl (lv_at hl 0 rfl) ?_
    refine va_get (D := (dC, dI)) (ci := 11) (v := .ref q29) (C := RX11) (T := TX11) (N := 53) hx hb hz zi_X11 hown hK hP 0 rfl rfl 48 (by decide) (hz _ zw_1213) (fun _ h9 => h9) rfl dX11_settle__56 ?_
    refine lv_iload_n hx hb dX11_settle__59 rfl (lv_at hl 1 rfl) ?_
    refine lv_iload_n hx hb dX11_settle__60 rfl (lv_at hl 2 rfl) ?_
    refine xi_iast hx hb hK hP hD hS 2 0 rfl rfl dX11_settle__61 hf (fun a1 H locs hP hD hS hf => ?_)
    have hP : va_P (dC, dI) vwCl (wd_HM_settlex cA q0 q1 q2 q3 q4 q5 q6 q7 q8 q9 q10 q11 q12 q13 q14 q15 q16 q17 q18 q19 q20 q21 q22 q23 q24 q25 q26 q27 q28 q29 q30 q31 u0 u1 u2 u3 u4 u5 u6 u7 u8 u9 u10 u11 u12 u13 u14 u15 u16 u17 u18 u19 u20 u21 i_tried a1 i_firsts) H := hP
    have hD : va_D A (wd_HM_settlex cA q0 q1 q2 q3 q4 q5 q6 q7 q8 q9 q10 q11 q12 q13 q14 q15 q16 q17 q18 q19 q20 q21 q22 q23 q24 q25 q26 q27 q28 q29 q30 q31 u0 u1 u2 u3 u4 u5 u6 u7 u8 u9 u10 u11 u12 u13 u14 u15 u16 u17 u18 u19 u20 u21 i_tried a1 i_firsts) := hD
    refine lv_aload_n hx hb dX11_settle__62 rfl (lv_at hl 0 rfl) ?_
    refine va_get (D := (dC, dI)) (ci := 11) (v := .ref q30) (C := RX11) (T := TX11) (N := 53) hx hb hz zi_X11 hown hK hP 0 rfl rfl 49 (by decide) (hz _ zw_1214) (fun _ h9 => h9) rfl dX11_settle__63 ?_
    refine lv_iload_n hx hb dX11_settle__66 rfl (lv_at hl 1 rfl) ?_
    refine lv_aload_n hx hb dX11_settle__67 rfl (lv_at hl 0 rfl) ?_
    refine va_get (D := (dC, dI)) (ci := 11) (v := .ref q28) (C := RX11) (T := TX11) (N := 53) hx hb hz zi_X11 hown hK hP 0 rfl rfl 47 (by decide) (hz _ zw_1212) (fun _ h9 => h9) rfl dX11_settle__68 ?_
    refine lv_iload_n hx hb dX11_settle__71 rfl (lv_at hl 1 rfl) ?_
    refine xi_iald hx hb hK hP 1 0 rfl rfl dX11_settle__72 hf (fun v2 hf => ?_)
    refine xi_iast hx hb hK hP hD hS 3 0 rfl rfl dX11_settle__73 hf (fun a3 H locs hP hD hS hf => ?_)
    have hP : va_P (dC, dI) vwCl (wd_HM_settlex cA q0 q1 q2 q3 q4 q5 q6 q7 q8 q9 q10 q11 q12 q13 q14 q15 q16 q17 q18 q19 q20 q21 q22 q23 q24 q25 q26 q27 q28 q29 q30 q31 u0 u1 u2 u3 u4 u5 u6 u7 u8 u9 u10 u11 u12 u13 u14 u15 u16 u17 u18 u19 u20 u21 i_tried a1 a3) H := hP
    have hD : va_D A (wd_HM_settlex cA q0 q1 q2 q3 q4 q5 q6 q7 q8 q9 q10 q11 q12 q13 q14 q15 q16 q17 q18 q19 q20 q21 q22 q23 q24 q25 q26 q27 q28 q29 q30 q31 u0 u1 u2 u3 u4 u5 u6 u7 u8 u9 u10 u11 u12 u13 u14 u15 u16 u17 u18 u19 u20 u21 i_tried a1 a3) := hD
    obtain rfl := Option.some.inj hf
    exact hret _ _ _ _ dX11_settle__74 hP hD hS
  have b_13 : ∀ (x1 : Int) (x3 : Int) (s0 : Int) (i_bests : Nat → Int) (i_firsts : Nat → Int) (H : Heap) (locs : List Loc) (ls : Array Slot), f_HM_settlex_13 i_tried x1 x3 s0 i_bests i_firsts = some out → va_P (dC, dI) vwCl (wd_HM_settlex cA q0 q1 q2 q3 q4 q5 q6 q7 q8 q9 q10 q11 q12 q13 q14 q15 q16 q17 q18 q19 q20 q21 q22 q23 q24 q25 q26 q27 q28 q29 q30 q31 u0 u1 u2 u3 u4 u5 u6 u7 u8 u9 u10 u11 u12 u13 u14 u15 u16 u17 u18 u19 u20 u21 i_tried i_bests i_firsts) H → va_D A (wd_HM_settlex cA q0 q1 q2 q3 q4 q5 q6 q7 q8 q9 q10 q11 q12 q13 q14 q15 q16 q17 q18 q19 q20 q21 q22 q23 q24 q25 q26 q27 q28 q29 q30 q31 u0 u1 u2 u3 u4 u5 u6 u7 u8 u9 u10 u11 u12 u13 u14 u15 u16 u17 u18 u19 u20 u21 i_tried i_bests i_firsts) → va_S A s.heap H locs → lv_has ls 5 [(0, .ref q0), (1, .int (Int32.ofInt x1)), (3, .int (Int32.ofInt x3))] → W p l e rm_HM_settlex s m args below meth c H locs 0 0 Q (F0 m 13 ls [.int (Int32.ofInt s0)]) := by
    intro x1 x3 s0 i_bests i_firsts H locs ls hf hP hD hS hl
    unfold f_HM_settlex_13 at hf
    refine lv_istore (lv' := [(4, .int (Int32.ofInt s0)), (0, .ref q0), (1, .int (Int32.ofInt x1)), (3, .int (Int32.ofInt x3))]) hx hb dX11_settle__13 hl (by decide) rfl (fun ls hl => ?_)
    refine lv_aload_n hx hb dX11_settle__15 rfl (lv_at hl 1 rfl) ?_
    refine va_get (D := (dC, dI)) (ci := 11) (v := .ref q29) (C := RX11) (T := TX11) (N := 53) hx hb hz zi_X11 hown hK hP 0 rfl rfl 48 (by decide) (hz _ zw_1213) (fun _ h9 => h9) rfl dX11_settle__16 ?_
    refine lv_iload_n hx hb dX11_settle__19 rfl (lv_at hl 2 rfl) ?_
    refine xi_iald hx hb hK hP 2 0 rfl rfl dX11_settle__20 hf (fun v1 hf => ?_)
    refine lv_sipush (v := Int32.ofInt (-1000)) hx hb dX11_settle__21 (by decide) ?_
    refine xi_icmp_eq (tgt := 55) hx hb dX11_settle__24 (by decide) hf (fun hf => ?_) (fun hf => ?_)
    · exact b_55  _ _ _ _ _ _ _ hf hP hD hS (lv_sub hl [1, 2, 3] rfl)
    · refine lv_iload hx hb dX11_settle__27 (lv_at hl 0 rfl) ?_
      refine xi_if_eq (tgt := 45) hx hb dX11_settle__29 (by decide) hf (fun hf => ?_) (fun hf => ?_)
      · refine lv_iload_n hx hb dX11_settle__45 rfl (lv_at hl 3 rfl) ?_
        refine lv_aload_n hx hb dX11_settle__46 rfl (lv_at hl 1 rfl) ?_
        refine va_get (D := (dC, dI)) (ci := 11) (v := .ref q29) (C := RX11) (T := TX11) (N := 53) hx hb hz zi_X11 hown hK hP 0 rfl rfl 48 (by decide) (hz _ zw_1213) (fun _ h9 => h9) rfl dX11_settle__47 ?_
        refine lv_iload_n hx hb dX11_settle__50 rfl (lv_at hl 2 rfl) ?_
        refine xi_iald hx hb hK hP 2 0 rfl rfl dX11_settle__51 hf (fun v2 hf => ?_)
        refine xi_icmp_ge (tgt := 74) hx hb dX11_settle__52 (by decide) hf (fun hf => ?_) (fun hf => ?_)
        · obtain rfl := Option.some.inj hf
          exact hret _ _ _ _ dX11_settle__74 hP hD hS
        · exact b_55  _ _ _ _ _ _ _ hf hP hD hS (lv_sub hl [1, 2, 3] rfl)
      · refine lv_iload_n hx hb dX11_settle__32 rfl (lv_at hl 3 rfl) ?_
        refine lv_aload_n hx hb dX11_settle__33 rfl (lv_at hl 1 rfl) ?_
        refine va_get (D := (dC, dI)) (ci := 11) (v := .ref q29) (C := RX11) (T := TX11) (N := 53) hx hb hz zi_X11 hown hK hP 0 rfl rfl 48 (by decide) (hz _ zw_1213) (fun _ h9 => h9) rfl dX11_settle__34 ?_
        refine lv_iload_n hx hb dX11_settle__37 rfl (lv_at hl 2 rfl) ?_
        refine xi_iald hx hb hK hP 2 0 rfl rfl dX11_settle__38 hf (fun v3 hf => ?_)
        refine xi_icmp_le (tgt := 74) hx hb dX11_settle__39 (by decide) hf (fun hf => ?_) (fun hf => ?_)
        · obtain rfl := Option.some.inj hf
          exact hret _ _ _ _ dX11_settle__74 hP hD hS
        · refine lv_goto (tgt := 55) hx hb dX11_settle__42 (by decide) ?_
          exact b_55  _ _ _ _ _ _ _ hf hP hD hS (lv_sub hl [1, 2, 3] rfl)
  unfold f_HM_settlex at hf
  refine lv_iload_n hx hb dX11_settle__0 rfl (lv_at hl 1 rfl) ?_
  refine lv_iload_n hx hb dX11_settle__1 rfl (lv_at hl 2 rfl) ?_
  refine xi_iadd hx hb dX11_settle__2 hf (fun v1 hf => ?_)
  refine lv_iconst (v := Int32.ofInt 2) hx hb dX11_settle__3 rfl ?_
  refine xi_irem hx hb dX11_settle__4 hf (fun v2 hf => ?_)
  refine xi_if_ne (tgt := 12) hx hb dX11_settle__5 (by decide) hf (fun hf => ?_) (fun hf => ?_)
  · refine lv_iconst (v := Int32.ofInt 0) hx hb dX11_settle__12 rfl ?_
    exact b_13  _ _ _ _ _ _ _ _ hf hP hD hS (lv_sub hl [0, 1, 3] rfl)
  · refine lv_iconst (v := Int32.ofInt 1) hx hb dX11_settle__8 rfl ?_
    refine lv_goto (tgt := 13) hx hb dX11_settle__9 (by decide) ?_
    exact b_13  _ _ _ _ _ _ _ _ hf hP hD hS (lv_sub hl [0, 1, 3] rfl)
theorem dX11_isCarried_0 : decode cX11_isCarried 0 = .ok (.iload_n 1, 1) := by decide +kernel
theorem dX11_isCarried_1 : decode cX11_isCarried 1 = .ok (.iconst 4, 1) := by decide +kernel
theorem dX11_isCarried_2 : decode cX11_isCarried 2 = .ok (.idiv, 1) := by decide +kernel
theorem dX11_isCarried_3 : decode cX11_isCarried 3 = .ok (.istore_n 2, 1) := by decide +kernel
theorem dX11_isCarried_4 : decode cX11_isCarried 4 = .ok (.iload_n 1, 1) := by decide +kernel
theorem dX11_isCarried_5 : decode cX11_isCarried 5 = .ok (.iconst 4, 1) := by decide +kernel
theorem dX11_isCarried_6 : decode cX11_isCarried 6 = .ok (.irem, 1) := by decide +kernel
theorem dX11_isCarried_7 : decode cX11_isCarried 7 = .ok (.istore_n 3, 1) := by decide +kernel
theorem dX11_isCarried_8 : decode cX11_isCarried 8 = .ok (.iconst 0, 1) := by decide +kernel
theorem dX11_isCarried_9 : decode cX11_isCarried 9 = .ok (.istore 4, 2) := by decide +kernel
theorem dX11_isCarried_11 : decode cX11_isCarried 11 = .ok (.iconst 0, 1) := by decide +kernel
theorem dX11_isCarried_12 : decode cX11_isCarried 12 = .ok (.istore 5, 2) := by decide +kernel
theorem dX11_isCarried_14 : decode cX11_isCarried 14 = .ok (.iload 5, 2) := by decide +kernel
theorem dX11_isCarried_16 : decode cX11_isCarried 16 = .ok (.aload_n 0, 1) := by decide +kernel
theorem dX11_isCarried_17 : decode cX11_isCarried 17 = .ok (.getfield 13, 3) := by decide +kernel
theorem dX11_isCarried_20 : decode cX11_isCarried 20 = .ok (.iconst 1, 1) := by decide +kernel
theorem dX11_isCarried_21 : decode cX11_isCarried 21 = .ok (.iaload, 1) := by decide +kernel
theorem dX11_isCarried_22 : decode cX11_isCarried 22 = .ok (.if_icmp .ge 49, 3) := by decide +kernel
theorem dX11_isCarried_25 : decode cX11_isCarried 25 = .ok (.iload_n 2, 1) := by decide +kernel
theorem dX11_isCarried_26 : decode cX11_isCarried 26 = .ok (.aload_n 0, 1) := by decide +kernel
theorem dX11_isCarried_27 : decode cX11_isCarried 27 = .ok (.invokevirtual 140, 3) := by decide +kernel
theorem dX11_isCarried_30 : decode cX11_isCarried 30 = .ok (.if_icmp .ge 41, 3) := by decide +kernel
theorem dX11_isCarried_33 : decode cX11_isCarried 33 = .ok (.iload_n 3, 1) := by decide +kernel
theorem dX11_isCarried_34 : decode cX11_isCarried 34 = .ok (.aload_n 0, 1) := by decide +kernel
theorem dX11_isCarried_35 : decode cX11_isCarried 35 = .ok (.invokevirtual 140, 3) := by decide +kernel
theorem dX11_isCarried_38 : decode cX11_isCarried 38 = .ok (.if_icmp .ge 33, 3) := by decide +kernel
theorem dX11_isCarried_41 : decode cX11_isCarried 41 = .ok (.iload 4, 2) := by decide +kernel
theorem dX11_isCarried_43 : decode cX11_isCarried 43 = .ok (.ifCond .ne 15, 3) := by decide +kernel
theorem dX11_isCarried_46 : decode cX11_isCarried 46 = .ok (.aload_n 0, 1) := by decide +kernel
theorem dX11_isCarried_47 : decode cX11_isCarried 47 = .ok (.iload 5, 2) := by decide +kernel
theorem dX11_isCarried_49 : decode cX11_isCarried 49 = .ok (.iload_n 2, 1) := by decide +kernel
theorem dX11_isCarried_50 : decode cX11_isCarried 50 = .ok (.iload_n 3, 1) := by decide +kernel
theorem dX11_isCarried_51 : decode cX11_isCarried 51 = .ok (.invokevirtual 363, 3) := by decide +kernel
theorem dX11_isCarried_54 : decode cX11_isCarried 54 = .ok (.iconst (-1), 1) := by decide +kernel
theorem dX11_isCarried_55 : decode cX11_isCarried 55 = .ok (.if_icmp .eq 7, 3) := by decide +kernel
theorem dX11_isCarried_58 : decode cX11_isCarried 58 = .ok (.iconst 1, 1) := by decide +kernel
theorem dX11_isCarried_59 : decode cX11_isCarried 59 = .ok (.goto 4, 3) := by decide +kernel
theorem dX11_isCarried_62 : decode cX11_isCarried 62 = .ok (.iconst 0, 1) := by decide +kernel
theorem dX11_isCarried_63 : decode cX11_isCarried 63 = .ok (.istore 4, 2) := by decide +kernel
theorem dX11_isCarried_65 : decode cX11_isCarried 65 = .ok (.iinc 5 1, 3) := by decide +kernel
theorem dX11_isCarried_68 : decode cX11_isCarried 68 = .ok (.goto (-54), 3) := by decide +kernel
theorem dX11_isCarried_71 : decode cX11_isCarried 71 = .ok (.iload 4, 2) := by decide +kernel
theorem dX11_isCarried_73 : decode cX11_isCarried 73 = .ok (.ireturn, 1) := by decide +kernel
theorem zw_1753 : (Jvm.Cond.code ({ cls := "HillSchoolModel", name := "isCarried", desc := "(I)Z" } : Jvm.MethodName) prog_13_method_103_code (6 : Nat) (Option.some Jvm.ClassFile.FieldType.boolean)) ∈ zall := zmemG (zmj_7 210 rfl) rfl
abbrev w_HM_isCarried : List Cond := .code yX11_isCarried cX11_isCarried 6 (some .boolean) :: zall
abbrev rm_HM_isCarried : Room := { frames := 5, cells := 0, slots := 0, locals := 126 }
theorem hd_HM_isCarried : yX11_isCarried.cls = "HillSchoolModel" ∧ yX11_isCarried.cls ≠ "java/lang/invoke/MethodHandle" ∧ yX11_isCarried.cls ≠ "java/lang/invoke/VarHandle" ∧ (parseMethodDescriptor yX11_isCarried.desc).map (fun d => d.parameters.length) = some 1 := by decide +kernel
def wd_HM_isCarried (cA : Nat → ClassId) (q0 q1 q2 q3 q4 q5 q6 q7 q8 q9 q10 q11 q12 q13 q14 q15 q16 q17 q18 q19 q20 q21 q22 q23 q24 q25 q26 q27 q28 q29 q30 q31 : Nat) (u0 u1 u2 u3 u4 u5 u6 u7 u8 u9 u10 u11 u12 u13 u14 u15 u16 u17 : Int) (i_row : Nat → Int) (i_high : Nat → Int) (i_heaps : Nat → Int) (i_law : Int) (i_broken : Int) (i_value : Int) (i_sum : Int) (i_set : Nat → Int) (i_rest : Nat → Int) : va_W := [(q0, .inr (11, [.int (Int32.ofInt u0), .int (Int32.ofInt u1), .ref q1, .ref q2, .ref q3, .ref q4, .int (Int32.ofInt u2), .ref q5, .int (Int32.ofInt u3), .int (Int32.ofInt u4), .int (Int32.ofInt u5), .int (Int32.ofInt u6), .long (Int64.ofInt u7), .int (Int32.ofInt u8), .int (Int32.ofInt u9), .int (Int32.ofInt u10), .ref q6, .int (Int32.ofInt u11), .ref q7, .ref q8, .int (Int32.ofInt u12), .ref q9, .ref q10, .int (Int32.ofInt u13), .int (Int32.ofInt u14), .ref q11, .int (Int32.ofInt i_law), .ref q12, .ref q13, .int (Int32.ofInt i_broken), .long (Int64.ofInt i_value), .long (Int64.ofInt i_sum), .ref q14, .ref q15, .ref q16, .ref q17, .ref q18, .int (Int32.ofInt u15), .ref q19, .ref q20, .ref q21, .ref q22, .ref q23, .ref q24, .ref q25, .ref q26, .ref q27, .ref q28, .ref q29, .ref q30, .long (Int64.ofInt u16), .ref q31, .int (Int32.ofInt u17)])), (q2, .inl (cA 0, 5580, .inl (za i_row))), (q12, .inl (cA 2, 13, .inr (.inl (zl i_set)))), (q13, .inl (cA 2, 400, .inr (.inl (zl i_rest)))), (q14, .inl (cA 0, 12, .inl (za i_high))), (q15, .inl (cA 0, 120, .inl (za i_heaps)))]
def wf_HM_isCarried (cA : Nat → ClassId) (q0 q1 q2 q3 q4 q5 q6 q7 q8 q9 q10 q11 q12 q13 q14 q15 q16 q17 q18 q19 q20 q21 q22 q23 q24 q25 q26 q27 q28 q29 q30 q31 : Nat) (u0 u1 u2 u3 u4 u5 u6 u7 u8 u9 u10 u11 u12 u13 u14 u15 u16 u17 : Int) (i_row : Nat → Int) (i_high : Nat → Int) (i_heaps : Nat → Int) (o : Int × Int × Int × Int × Int × (Nat → Int) × (Nat → Int)) : va_W := wd_HM_isCarried cA q0 q1 q2 q3 q4 q5 q6 q7 q8 q9 q10 q11 q12 q13 q14 q15 q16 q17 q18 q19 q20 q21 q22 q23 q24 q25 q26 q27 q28 q29 q30 q31 u0 u1 u2 u3 u4 u5 u6 u7 u8 u9 u10 u11 u12 u13 u14 u15 u16 u17 i_row i_high i_heaps o.2.1 o.2.2.1 o.2.2.2.1 o.2.2.2.2.1 o.2.2.2.2.2.1 o.2.2.2.2.2.2
def f_HM_isCarried_63 (i_row : Nat → Int) (i_high : Nat → Int) (i_heaps : Nat → Int) (k14 : Int → Int → Int → Int → Int → Int → Int → Int → (Nat → Int) → (Nat → Int) → Option (Int × Int × Int × Int × Int × (Nat → Int) × (Nat → Int))) (x2 : Int) (x3 : Int) (x5 : Int) (s0 : Int) (i_law : Int) (i_broken : Int) (i_value : Int) (i_sum : Int) (i_set : Nat → Int) (i_rest : Nat → Int) : Option (Int × Int × Int × Int × Int × (Nat → Int) × (Nat → Int)) :=
  zn (x5 + 1) fun v1 =>
  k14 x2 x3 s0 v1 i_law i_broken i_value i_sum i_set i_rest
def f_HM_isCarried_58 (i_row : Nat → Int) (i_high : Nat → Int) (i_heaps : Nat → Int) (k14 : Int → Int → Int → Int → Int → Int → Int → Int → (Nat → Int) → (Nat → Int) → Option (Int × Int × Int × Int × Int × (Nat → Int) × (Nat → Int))) (x2 : Int) (x3 : Int) (x5 : Int) (i_law : Int) (i_broken : Int) (i_value : Int) (i_sum : Int) (i_set : Nat → Int) (i_rest : Nat → Int) : Option (Int × Int × Int × Int × Int × (Nat → Int) × (Nat → Int)) :=
  f_HM_isCarried_63 i_row i_high i_heaps k14 x2 x3 x5 1 i_law i_broken i_value i_sum i_set i_rest
def f_HM_isCarried_14_b (i_row : Nat → Int) (i_high : Nat → Int) (i_heaps : Nat → Int) (k14 : Int → Int → Int → Int → Int → Int → Int → Int → (Nat → Int) → (Nat → Int) → Option (Int × Int × Int × Int × Int × (Nat → Int) × (Nat → Int))) (x2 : Int) (x3 : Int) (x4 : Int) (x5 : Int) (i_law : Int) (i_broken : Int) (i_value : Int) (i_sum : Int) (i_set : Nat → Int) (i_rest : Nat → Int) : Option (Int × Int × Int × Int × Int × (Nat → Int) × (Nat → Int)) :=
  zg 5580 i_row 1 fun v1 =>
  if zi_w v1 ≤ zi_w x5 then
    if ¬ (zi_w x4 = 0 ∨ zi_w x4 = 1) then none else
    some (x4, i_law, i_broken, i_value, i_sum, i_set, i_rest)
  else
    zd1 (f_HM_columns i_row) fun v2 =>
    if zi_w v2 ≤ zi_w x2 then
      if ¬ (zi_w x4 = 0 ∨ zi_w x4 = 1) then none else
      some (x4, i_law, i_broken, i_value, i_sum, i_set, i_rest)
    else
      zd1 (f_HM_columns i_row) fun v3 =>
      if zi_w v3 ≤ zi_w x3 then
        if ¬ (zi_w x4 = 0 ∨ zi_w x4 = 1) then none else
        some (x4, i_law, i_broken, i_value, i_sum, i_set, i_rest)
      else
        if zi_w x4 ≠ 0 then
          f_HM_isCarried_58 i_row i_high i_heaps k14 x2 x3 x5 i_law i_broken i_value i_sum i_set i_rest
        else
          zd7 (f_HM_carrying x5 x2 x3 i_row i_high i_heaps i_law i_broken i_value i_sum i_set i_rest) fun v4 v5 v6 v7 v8 a9 a10 =>
          if zi_w v4 = zi_w (-1) then
            f_HM_isCarried_63 i_row i_high i_heaps k14 x2 x3 x5 0 v5 v6 v7 v8 a9 a10
          else
            f_HM_isCarried_58 i_row i_high i_heaps k14 x2 x3 x5 v5 v6 v7 v8 a9 a10
def f_HM_isCarried_14 (i_row : Nat → Int) (i_high : Nat → Int) (i_heaps : Nat → Int) : Nat → Int → Int → Int → Int → Int → Int → Int → Int → (Nat → Int) → (Nat → Int) → Option (Int × Int × Int × Int × Int × (Nat → Int) × (Nat → Int))
  | 0 => fun _ _ _ _ _ _ _ _ _ _ => none
  | n + 1 => fun y0 y1 y2 y3 y4 y5 y6 y7 y8 y9 => f_HM_isCarried_14_b i_row i_high i_heaps (f_HM_isCarried_14 i_row i_high i_heaps n) y0 y1 y2 y3 y4 y5 y6 y7 y8 y9
def f_HM_isCarried (x1 : Int) (i_row : Nat → Int) (i_high : Nat → Int) (i_heaps : Nat → Int) (i_law : Int) (i_broken : Int) (i_value : Int) (i_sum : Int) (i_set : Nat → Int) (i_rest : Nat → Int) : Option (Int × Int × Int × Int × Int × (Nat → Int) × (Nat → Int)) :=
  if zi_w 4 = 0 then none else zn (zi_div x1 4) fun v1 =>
  if zi_w 4 = 0 then none else zn (zi_rem x1 4) fun v2 =>
  f_HM_isCarried_14 i_row i_high i_heaps zfu v1 v2 0 0 i_law i_broken i_value i_sum i_set i_rest
set_option maxHeartbeats 4000000 in
set_option maxRecDepth 100000 in
theorem c_HM_isCarried (l : Launch) (ev : zEv) (dC : Nat → ClassId) (dI : Nat → Nat → Nat) (cA : Nat → ClassId) (q0 q1 q2 q3 q4 q5 q6 q7 q8 q9 q10 q11 q12 q13 q14 q15 q16 q17 q18 q19 q20 q21 q22 q23 q24 q25 q26 q27 q28 q29 q30 q31 : Nat) (u0 u1 u2 u3 u4 u5 u6 u7 u8 u9 u10 u11 u12 u13 u14 u15 u16 u17 : Int) {x1 : Int} {i_row : Nat → Int} {i_high : Nat → Int} {i_heaps : Nat → Int} {i_law : Int} {i_broken : Int} {i_value : Int} {i_sum : Int} {i_set : Nat → Int} {i_rest : Nat → Int} {out : Int × Int × Int × Int × Int × (Nat → Int) × (Nat → Int)} (hf : f_HM_isCarried x1 i_row i_high i_heaps i_law i_broken i_value i_sum i_set i_rest = some out) : xc_I l ev (dC, dI) vwCl (tyl cA) yX11_isCarried w_HM_isCarried rm_HM_isCarried [.ref q0, .int (Int32.ofInt x1)] (wd_HM_isCarried cA q0 q1 q2 q3 q4 q5 q6 q7 q8 q9 q10 q11 q12 q13 q14 q15 q16 q17 q18 q19 q20 q21 q22 q23 q24 q25 q26 q27 q28 q29 q30 q31 u0 u1 u2 u3 u4 u5 u6 u7 u8 u9 u10 u11 u12 u13 u14 u15 u16 u17 i_row i_high i_heaps i_law i_broken i_value i_sum i_set i_rest) (wf_HM_isCarried cA q0 q1 q2 q3 q4 q5 q6 q7 q8 q9 q10 q11 q12 q13 q14 q15 q16 q17 q18 q19 q20 q21 q22 q23 q24 q25 q26 q27 q28 q29 q30 q31 u0 u1 u2 u3 u4 u5 u6 u7 u8 u9 u10 u11 u12 u13 u14 u15 u16 u17 i_row i_high i_heaps out) out.1 := by
  refine xv_startI (cc := cX11_isCarried) (maxL := 6) (rt := .boolean) (by decide +kernel) rfl (Nat.le_of_ble_eq_true rfl) ?_
  intro p e s m args below meth c A Q H ls hx hb hml hts hown hK hA hP hD hS hl hE hret
  have hown : s.vm.findClass "HillSchoolModel" = some m.cls := hown
  have hz : ∀ w ∈ zall, w.before args s = true := fun w h => hts w (List.mem_cons_of_mem _ h)
  have hl : lv_has ls 6 [(0, .ref q0), (1, .int (Int32.ofInt x1))] := hl
  have b_63 : ∀ (k14 : Int → Int → Int → Int → Int → Int → Int → Int → (Nat → Int) → (Nat → Int) → Option (Int × Int × Int × Int × Int × (Nat → Int) × (Nat → Int))) (_ : ∀ (x2 : Int) (x3 : Int) (x4 : Int) (x5 : Int) (i_law : Int) (i_broken : Int) (i_value : Int) (i_sum : Int) (i_set : Nat → Int) (i_rest : Nat → Int) (H : Heap) (locs : List Loc) (ls : Array Slot), k14 x2 x3 x4 x5 i_law i_broken i_value i_sum i_set i_rest = some out → va_P (dC, dI) vwCl (wd_HM_isCarried cA q0 q1 q2 q3 q4 q5 q6 q7 q8 q9 q10 q11 q12 q13 q14 q15 q16 q17 q18 q19 q20 q21 q22 q23 q24 q25 q26 q27 q28 q29 q30 q31 u0 u1 u2 u3 u4 u5 u6 u7 u8 u9 u10 u11 u12 u13 u14 u15 u16 u17 i_row i_high i_heaps i_law i_broken i_value i_sum i_set i_rest) H → va_D A (wd_HM_isCarried cA q0 q1 q2 q3 q4 q5 q6 q7 q8 q9 q10 q11 q12 q13 q14 q15 q16 q17 q18 q19 q20 q21 q22 q23 q24 q25 q26 q27 q28 q29 q30 q31 u0 u1 u2 u3 u4 u5 u6 u7 u8 u9 u10 u11 u12 u13 u14 u15 u16 u17 i_row i_high i_heaps i_law i_broken i_value i_sum i_set i_rest) → va_S A s.heap H locs → lv_has ls 6 [(0, .ref q0), (2, .int (Int32.ofInt x2)), (3, .int (Int32.ofInt x3)), (4, .int (Int32.ofInt x4)), (5, .int (Int32.ofInt x5))] → W p l e rm_HM_isCarried s m args below meth c H locs 0 0 Q (F0 m 14 ls [])), ∀ (x2 : Int) (x3 : Int) (x5 : Int) (s0 : Int) (i_law : Int) (i_broken : Int) (i_value : Int) (i_sum : Int) (i_set : Nat → Int) (i_rest : Nat → Int) (H : Heap) (locs : List Loc) (ls : Array Slot), f_HM_isCarried_63 i_row i_high i_heaps k14 x2 x3 x5 s0 i_law i_broken i_value i_sum i_set i_rest = some out → va_P (dC, dI) vwCl (wd_HM_isCarried cA q0 q1 q2 q3 q4 q5 q6 q7 q8 q9 q10 q11 q12 q13 q14 q15 q16 q17 q18 q19 q20 q21 q22 q23 q24 q25 q26 q27 q28 q29 q30 q31 u0 u1 u2 u3 u4 u5 u6 u7 u8 u9 u10 u11 u12 u13 u14 u15 u16 u17 i_row i_high i_heaps i_law i_broken i_value i_sum i_set i_rest) H → va_D A (wd_HM_isCarried cA q0 q1 q2 q3 q4 q5 q6 q7 q8 q9 q10 q11 q12 q13 q14 q15 q16 q17 q18 q19 q20 q21 q22 q23 q24 q25 q26 q27 q28 q29 q30 q31 u0 u1 u2 u3 u4 u5 u6 u7 u8 u9 u10 u11 u12 u13 u14 u15 u16 u17 i_row i_high i_heaps i_law i_broken i_value i_sum i_set i_rest) → va_S A s.heap H locs → lv_has ls 6 [(0, .ref q0), (2, .int (Int32.ofInt x2)), (3, .int (Int32.ofInt x3)), (5, .int (Int32.ofInt x5))] → W p l e rm_HM_isCarried s m args below meth c H locs 0 0 Q (F0 m 63 ls [.int (Int32.ofInt s0)]) := by
    intro k14 ih14 x2 x3 x5 s0 i_law i_broken i_value i_sum i_set i_rest H locs ls hf hP hD hS hl
    unfold f_HM_isCarried_63 at hf
    refine lv_istore (lv' := [(4, .int (Int32.ofInt s0)), (0, .ref q0), (2, .int (Int32.ofInt x2)), (3, .int (Int32.ofInt x3)), (5, .int (Int32.ofInt x5))]) hx hb dX11_isCarried_63 hl (by decide) rfl (fun ls hl => ?_)
    refine xi_iinc hx hb dX11_isCarried_65 hl (k := 4) rfl (by decide) hf (fun v1 ls hl hf => ?_)
    have hl : lv_has ls 6 [(5, .int (Int32.ofInt v1)), (4, .int (Int32.ofInt s0)), (0, .ref q0), (2, .int (Int32.ofInt x2)), (3, .int (Int32.ofInt x3))] := hl
    refine lv_goto (tgt := 14) hx hb dX11_isCarried_68 (by decide) ?_
    exact ih14 _ _ _ _ _ _ _ _ _ _ _ _ _ hf hP hD hS (lv_sub hl [2, 3, 4, 1, 0] rfl)
  have b_58 : ∀ (k14 : Int → Int → Int → Int → Int → Int → Int → Int → (Nat → Int) → (Nat → Int) → Option (Int × Int × Int × Int × Int × (Nat → Int) × (Nat → Int))) (_ : ∀ (x2 : Int) (x3 : Int) (x4 : Int) (x5 : Int) (i_law : Int) (i_broken : Int) (i_value : Int) (i_sum : Int) (i_set : Nat → Int) (i_rest : Nat → Int) (H : Heap) (locs : List Loc) (ls : Array Slot), k14 x2 x3 x4 x5 i_law i_broken i_value i_sum i_set i_rest = some out → va_P (dC, dI) vwCl (wd_HM_isCarried cA q0 q1 q2 q3 q4 q5 q6 q7 q8 q9 q10 q11 q12 q13 q14 q15 q16 q17 q18 q19 q20 q21 q22 q23 q24 q25 q26 q27 q28 q29 q30 q31 u0 u1 u2 u3 u4 u5 u6 u7 u8 u9 u10 u11 u12 u13 u14 u15 u16 u17 i_row i_high i_heaps i_law i_broken i_value i_sum i_set i_rest) H → va_D A (wd_HM_isCarried cA q0 q1 q2 q3 q4 q5 q6 q7 q8 q9 q10 q11 q12 q13 q14 q15 q16 q17 q18 q19 q20 q21 q22 q23 q24 q25 q26 q27 q28 q29 q30 q31 u0 u1 u2 u3 u4 u5 u6 u7 u8 u9 u10 u11 u12 u13 u14 u15 u16 u17 i_row i_high i_heaps i_law i_broken i_value i_sum i_set i_rest) → va_S A s.heap H locs → lv_has ls 6 [(0, .ref q0), (2, .int (Int32.ofInt x2)), (3, .int (Int32.ofInt x3)), (4, .int (Int32.ofInt x4)), (5, .int (Int32.ofInt x5))] → W p l e rm_HM_isCarried s m args below meth c H locs 0 0 Q (F0 m 14 ls [])), ∀ (x2 : Int) (x3 : Int) (x5 : Int) (i_law : Int) (i_broken : Int) (i_value : Int) (i_sum : Int) (i_set : Nat → Int) (i_rest : Nat → Int) (H : Heap) (locs : List Loc) (ls : Array Slot), f_HM_isCarried_58 i_row i_high i_heaps k14 x2 x3 x5 i_law i_broken i_value i_sum i_set i_rest = some out → va_P (dC, dI) vwCl (wd_HM_isCarried cA q0 q1 q2 q3 q4 q5 q6 q7 q8 q9 q10 q11 q12 q13 q14 q15 q16 q17 q18 q19 q20 q21 q22 q23 q24 q25 q26 q27 q28 q29 q30 q31 u0 u1 u2 u3 u4 u5 u6 u7 u8 u9 u10 u11 u12 u13 u14 u15 u16 u17 i_row i_high i_heaps i_law i_broken i_value i_sum i_set i_rest) H → va_D A (wd_HM_isCarried cA q0 q1 q2 q3 q4 q5 q6 q7 q8 q9 q10 q11 q12 q13 q14 q15 q16 q17 q18 q19 q20 q21 q22 q23 q24 q25 q26 q27 q28 q29 q30 q31 u0 u1 u2 u3 u4 u5 u6 u7 u8 u9 u10 u11 u12 u13 u14 u15 u16 u17 i_row i_high i_heaps i_law i_broken i_value i_sum i_set i_rest) → va_S A s.heap H locs → lv_has ls 6 [(0, .ref q0), (2, .int (Int32.ofInt x2)), (3, .int (Int32.ofInt x3)), (5, .int (Int32.ofInt x5))] → W p l e rm_HM_isCarried s m args below meth c H locs 0 0 Q (F0 m 58 ls []) := by
    intro k14 ih14 x2 x3 x5 i_law i_broken i_value i_sum i_set i_rest H locs ls hf hP hD hS hl
    unfold f_HM_isCarried_58 at hf
    refine lv_iconst (v := Int32.ofInt 1) hx hb dX11_isCarried_58 rfl ?_
    refine lv_goto (tgt := 63) hx hb dX11_isCarried_59 (by decide) ?_
    exact b_63 _ ih14 _ _ _ _ _ _ _ _ _ _ _ _ _ hf hP hD hS (lv_sub hl [0, 1, 2, 3] rfl)
  have b_14 : ∀ (k14 : Int → Int → Int → Int → Int → Int → Int → Int → (Nat → Int) → (Nat → Int) → Option (Int × Int × Int × Int × Int × (Nat → Int) × (Nat → Int))) (_ : ∀ (x2 : Int) (x3 : Int) (x4 : Int) (x5 : Int) (i_law : Int) (i_broken : Int) (i_value : Int) (i_sum : Int) (i_set : Nat → Int) (i_rest : Nat → Int) (H : Heap) (locs : List Loc) (ls : Array Slot), k14 x2 x3 x4 x5 i_law i_broken i_value i_sum i_set i_rest = some out → va_P (dC, dI) vwCl (wd_HM_isCarried cA q0 q1 q2 q3 q4 q5 q6 q7 q8 q9 q10 q11 q12 q13 q14 q15 q16 q17 q18 q19 q20 q21 q22 q23 q24 q25 q26 q27 q28 q29 q30 q31 u0 u1 u2 u3 u4 u5 u6 u7 u8 u9 u10 u11 u12 u13 u14 u15 u16 u17 i_row i_high i_heaps i_law i_broken i_value i_sum i_set i_rest) H → va_D A (wd_HM_isCarried cA q0 q1 q2 q3 q4 q5 q6 q7 q8 q9 q10 q11 q12 q13 q14 q15 q16 q17 q18 q19 q20 q21 q22 q23 q24 q25 q26 q27 q28 q29 q30 q31 u0 u1 u2 u3 u4 u5 u6 u7 u8 u9 u10 u11 u12 u13 u14 u15 u16 u17 i_row i_high i_heaps i_law i_broken i_value i_sum i_set i_rest) → va_S A s.heap H locs → lv_has ls 6 [(0, .ref q0), (2, .int (Int32.ofInt x2)), (3, .int (Int32.ofInt x3)), (4, .int (Int32.ofInt x4)), (5, .int (Int32.ofInt x5))] → W p l e rm_HM_isCarried s m args below meth c H locs 0 0 Q (F0 m 14 ls [])), ∀ (x2 : Int) (x3 : Int) (x4 : Int) (x5 : Int) (i_law : Int) (i_broken : Int) (i_value : Int) (i_sum : Int) (i_set : Nat → Int) (i_rest : Nat → Int) (H : Heap) (locs : List Loc) (ls : Array Slot), f_HM_isCarried_14_b i_row i_high i_heaps k14 x2 x3 x4 x5 i_law i_broken i_value i_sum i_set i_rest = some out → va_P (dC, dI) vwCl (wd_HM_isCarried cA q0 q1 q2 q3 q4 q5 q6 q7 q8 q9 q10 q11 q12 q13 q14 q15 q16 q17 q18 q19 q20 q21 q22 q23 q24 q25 q26 q27 q28 q29 q30 q31 u0 u1 u2 u3 u4 u5 u6 u7 u8 u9 u10 u11 u12 u13 u14 u15 u16 u17 i_row i_high i_heaps i_law i_broken i_value i_sum i_set i_rest) H → va_D A (wd_HM_isCarried cA q0 q1 q2 q3 q4 q5 q6 q7 q8 q9 q10 q11 q12 q13 q14 q15 q16 q17 q18 q19 q20 q21 q22 q23 q24 q25 q26 q27 q28 q29 q30 q31 u0 u1 u2 u3 u4 u5 u6 u7 u8 u9 u10 u11 u12 u13 u14 u15 u16 u17 i_row i_high i_heaps i_law i_broken i_value i_sum i_set i_rest) → va_S A s.heap H locs → lv_has ls 6 [(0, .ref q0), (2, .int (Int32.ofInt x2)), (3, .int (Int32.ofInt x3)), (4, .int (Int32.ofInt x4)), (5, .int (Int32.ofInt x5))] → W p l e rm_HM_isCarried s m args below meth c H locs 0 0 Q (F0 m 14 ls []) := by
    intro k14 ih14 x2 x3 x4 x5 i_law i_broken i_value i_sum i_set i_rest H locs ls hf hP hD hS hl
    unfold f_HM_isCarried_14_b at hf
    refine lv_iload hx hb dX11_isCarried_14 (lv_at hl 4 rfl) ?_
    refine lv_aload_n hx hb dX11_isCarried_16 rfl (lv_at hl 0 rfl) ?_
    refine va_get (D := (dC, dI)) (ci := 11) (v := .ref q2) (C := RX11) (T := TX11) (N := 53) hx hb hz zi_X11 hown hK hP 0 rfl rfl 3 (by decide) (hz _ zw_1168) (fun _ h9 => h9) rfl dX11_isCarried_17 ?_
    refine lv_iconst (v := Int32.ofInt 1) hx hb dX11_isCarried_20 rfl ?_
    refine xi_iald hx hb hK hP 1 0 rfl rfl dX11_isCarried_21 hf (fun v1 hf => ?_)
    refine xi_icmp_ge (tgt := 71) hx hb dX11_isCarried_22 (by decide) hf (fun hf => ?_) (fun hf => ?_)
    · refine lv_iload hx hb dX11_isCarried_71 (lv_at hl 3 rfl) ?_
      obtain ⟨hzb, hf⟩ := xz_q hf
      obtain rfl := Option.some.inj hf
      exact hret _ _ _ _ (zz_bool hzb) dX11_isCarried_73 hP hD hS
    · refine lv_iload_n hx hb dX11_isCarried_25 rfl (lv_at hl 1 rfl) ?_
      refine lv_aload_n hx hb dX11_isCarried_26 rfl (lv_at hl 0 rfl) ?_
      refine xe_d1 hf (fun v2 hg hf => ?_)
      have hC : ([0, 1] : List Nat).map (fun i => (wd_HM_isCarried cA q0 q1 q2 q3 q4 q5 q6 q7 q8 q9 q10 q11 q12 q13 q14 q15 q16 q17 q18 q19 q20 q21 q22 q23 q24 q25 q26 q27 q28 q29 q30 q31 u0 u1 u2 u3 u4 u5 u6 u7 u8 u9 u10 u11 u12 u13 u14 u15 u16 u17 i_row i_high i_heaps i_law i_broken i_value i_sum i_set i_rest)[i]?) = (wd_HM_columns cA q0 q1 q2 q3 q4 q5 q6 q7 q8 q9 q10 q11 q12 q13 q14 q15 q16 q17 q18 q19 q20 q21 q22 q23 q24 q25 q26 q27 q28 q29 q30 q31 u0 u1 u2 u3 u4 u5 u6 u7 u8 u9 u10 u11 u12 u13 u14 i_law i_broken i_value i_sum u15 u16 u17 i_row).map some := rfl
      refine xv_afterI (ws' := (wd_HM_isCarried cA q0 q1 q2 q3 q4 q5 q6 q7 q8 q9 q10 q11 q12 q13 q14 q15 q16 q17 q18 q19 q20 q21 q22 q23 q24 q25 q26 q27 q28 q29 q30 q31 u0 u1 u2 u3 u4 u5 u6 u7 u8 u9 u10 u11 u12 u13 u14 u15 u16 u17 i_row i_high i_heaps i_law i_broken i_value i_sum i_set i_rest)) (isC := [0, 1]) (ps := [some 0, some 1, none, none, none, none]) (va_runV (As := []) (rest := [.int (Int32.ofInt x2)]) ⟨hx, hb, hml, hown, hts⟩ (c_HM_columns l ev dC dI cA q0 q1 q2 q3 q4 q5 q6 q7 q8 q9 q10 q11 q12 q13 q14 q15 q16 q17 q18 q19 q20 q21 q22 q23 q24 q25 q26 q27 q28 q29 q30 q31 u0 u1 u2 u3 u4 u5 u6 u7 u8 u9 u10 u11 u12 u13 u14 i_law i_broken i_value i_sum u15 u16 u17 hg H.size) (cwV 0 hts (zgV zw_1344 zw_1346 zw_41 zw_115 zw_1347) rfl rfl rfl hd_HM_columns ⟨Nat.le_of_ble_eq_true rfl, Nat.le_of_ble_eq_true rfl⟩) (xv_preV (T := TX11) (N := 53) hE hA hS hK hP hD (isC := [0, 1]) (by decide +kernel) hC (q0 := 0) (ci := 11) rfl rfl) rfl rfl hl.1 rfl (lv_room (Nat.le_of_ble_eq_true rfl)) dX11_isCarried_27 ⟨Nat.le_refl _, Nat.le_refl _⟩) hP hD hS hA (by decide +kernel) rfl hC rfl rfl (fun H locs hP hD hS => ?_)
      refine xi_icmp_ge (tgt := 71) hx hb dX11_isCarried_30 (by decide) hf (fun hf => ?_) (fun hf => ?_)
      · refine lv_iload hx hb dX11_isCarried_71 (lv_at hl 3 rfl) ?_
        obtain ⟨hzb, hf⟩ := xz_q hf
        obtain rfl := Option.some.inj hf
        exact hret _ _ _ _ (zz_bool hzb) dX11_isCarried_73 hP hD hS
      · refine lv_iload_n hx hb dX11_isCarried_33 rfl (lv_at hl 2 rfl) ?_
        refine lv_aload_n hx hb dX11_isCarried_34 rfl (lv_at hl 0 rfl) ?_
        refine xe_d1 hf (fun v3 hg hf => ?_)
        have hC : ([0, 1] : List Nat).map (fun i => (wd_HM_isCarried cA q0 q1 q2 q3 q4 q5 q6 q7 q8 q9 q10 q11 q12 q13 q14 q15 q16 q17 q18 q19 q20 q21 q22 q23 q24 q25 q26 q27 q28 q29 q30 q31 u0 u1 u2 u3 u4 u5 u6 u7 u8 u9 u10 u11 u12 u13 u14 u15 u16 u17 i_row i_high i_heaps i_law i_broken i_value i_sum i_set i_rest)[i]?) = (wd_HM_columns cA q0 q1 q2 q3 q4 q5 q6 q7 q8 q9 q10 q11 q12 q13 q14 q15 q16 q17 q18 q19 q20 q21 q22 q23 q24 q25 q26 q27 q28 q29 q30 q31 u0 u1 u2 u3 u4 u5 u6 u7 u8 u9 u10 u11 u12 u13 u14 i_law i_broken i_value i_sum u15 u16 u17 i_row).map some := rfl
        refine xv_afterI (ws' := (wd_HM_isCarried cA q0 q1 q2 q3 q4 q5 q6 q7 q8 q9 q10 q11 q12 q13 q14 q15 q16 q17 q18 q19 q20 q21 q22 q23 q24 q25 q26 q27 q28 q29 q30 q31 u0 u1 u2 u3 u4 u5 u6 u7 u8 u9 u10 u11 u12 u13 u14 u15 u16 u17 i_row i_high i_heaps i_law i_broken i_value i_sum i_set i_rest)) (isC := [0, 1]) (ps := [some 0, some 1, none, none, none, none]) (va_runV (As := []) (rest := [.int (Int32.ofInt x3)]) ⟨hx, hb, hml, hown, hts⟩ (c_HM_columns l ev dC dI cA q0 q1 q2 q3 q4 q5 q6 q7 q8 q9 q10 q11 q12 q13 q14 q15 q16 q17 q18 q19 q20 q21 q22 q23 q24 q25 q26 q27 q28 q29 q30 q31 u0 u1 u2 u3 u4 u5 u6 u7 u8 u9 u10 u11 u12 u13 u14 i_law i_broken i_value i_sum u15 u16 u17 hg H.size) (cwV 0 hts (zgV zw_1344 zw_1346 zw_41 zw_115 zw_1347) rfl rfl rfl hd_HM_columns ⟨Nat.le_of_ble_eq_true rfl, Nat.le_of_ble_eq_true rfl⟩) (xv_preV (T := TX11) (N := 53) hE hA hS hK hP hD (isC := [0, 1]) (by decide +kernel) hC (q0 := 0) (ci := 11) rfl rfl) rfl rfl hl.1 rfl (lv_room (Nat.le_of_ble_eq_true rfl)) dX11_isCarried_35 ⟨Nat.le_refl _, Nat.le_refl _⟩) hP hD hS hA (by decide +kernel) rfl hC rfl rfl (fun H locs hP hD hS => ?_)
        refine xi_icmp_ge (tgt := 71) hx hb dX11_isCarried_38 (by decide) hf (fun hf => ?_) (fun hf => ?_)
        · refine lv_iload hx hb dX11_isCarried_71 (lv_at hl 3 rfl) ?_
          obtain ⟨hzb, hf⟩ := xz_q hf
          obtain rfl := Option.some.inj hf
          exact hret _ _ _ _ (zz_bool hzb) dX11_isCarried_73 hP hD hS
        · refine lv_iload hx hb dX11_isCarried_41 (lv_at hl 3 rfl) ?_
          refine xi_if_ne (tgt := 58) hx hb dX11_isCarried_43 (by decide) hf (fun hf => ?_) (fun hf => ?_)
          · exact b_58 _ ih14 _ _ _ _ _ _ _ _ _ _ _ _ hf hP hD hS (lv_sub hl [0, 1, 2, 4] rfl)
          · refine lv_aload_n hx hb dX11_isCarried_46 rfl (lv_at hl 0 rfl) ?_
            refine lv_iload hx hb dX11_isCarried_47 (lv_at hl 4 rfl) ?_
            refine lv_iload_n hx hb dX11_isCarried_49 rfl (lv_at hl 1 rfl) ?_
            refine lv_iload_n hx hb dX11_isCarried_50 rfl (lv_at hl 2 rfl) ?_
            refine xe_d7 hf (fun v4 v5 v6 v7 v8 a9 a10 hg hf => ?_)
            have hC : ([0, 1, 2, 3, 4, 5] : List Nat).map (fun i => (wd_HM_isCarried cA q0 q1 q2 q3 q4 q5 q6 q7 q8 q9 q10 q11 q12 q13 q14 q15 q16 q17 q18 q19 q20 q21 q22 q23 q24 q25 q26 q27 q28 q29 q30 q31 u0 u1 u2 u3 u4 u5 u6 u7 u8 u9 u10 u11 u12 u13 u14 u15 u16 u17 i_row i_high i_heaps i_law i_broken i_value i_sum i_set i_rest)[i]?) = (wd_HM_carrying cA q0 q1 q2 q3 q4 q5 q6 q7 q8 q9 q10 q11 q12 q13 q14 q15 q16 q17 q18 q19 q20 q21 q22 q23 q24 q25 q26 q27 q28 q29 q30 q31 u0 u1 u2 u3 u4 u5 u6 u7 u8 u9 u10 u11 u12 u13 u14 u15 u16 u17 i_row i_high i_heaps i_law i_broken i_value i_sum i_set i_rest).map some := rfl
            refine xv_afterI (ws' := (wd_HM_isCarried cA q0 q1 q2 q3 q4 q5 q6 q7 q8 q9 q10 q11 q12 q13 q14 q15 q16 q17 q18 q19 q20 q21 q22 q23 q24 q25 q26 q27 q28 q29 q30 q31 u0 u1 u2 u3 u4 u5 u6 u7 u8 u9 u10 u11 u12 u13 u14 u15 u16 u17 i_row i_high i_heaps v5 v6 v7 v8 a9 a10)) (isC := [0, 1, 2, 3, 4, 5]) (ps := [some 0, some 1, some 2, some 3, some 4, some 5]) (va_runV (As := [.int (Int32.ofInt x5), .int (Int32.ofInt x2), .int (Int32.ofInt x3)]) (rest := []) ⟨hx, hb, hml, hown, hts⟩ (c_HM_carrying l ev dC dI cA q0 q1 q2 q3 q4 q5 q6 q7 q8 q9 q10 q11 q12 q13 q14 q15 q16 q17 q18 q19 q20 q21 q22 q23 q24 q25 q26 q27 q28 q29 q30 q31 u0 u1 u2 u3 u4 u5 u6 u7 u8 u9 u10 u11 u12 u13 u14 u15 u16 u17 hg H.size) (cwV 3 hts (zgV zw_1553 zw_1555 zw_67 zw_115 zw_1556) rfl rfl rfl hd_HM_carrying ⟨Nat.le_of_ble_eq_true rfl, Nat.le_of_ble_eq_true rfl⟩) (xv_preV (T := TX11) (N := 53) hE hA hS hK hP hD (isC := [0, 1, 2, 3, 4, 5]) (by decide +kernel) hC (q0 := 0) (ci := 11) rfl rfl) rfl rfl hl.1 rfl (lv_room (Nat.le_of_ble_eq_true rfl)) dX11_isCarried_51 ⟨Nat.le_refl _, Nat.le_refl _⟩) hP hD hS hA (by decide +kernel) rfl hC rfl rfl (fun H locs hP hD hS => ?_)
            refine lv_iconst (v := Int32.ofInt (-1)) hx hb dX11_isCarried_54 rfl ?_
            refine xi_icmp_eq (tgt := 62) hx hb dX11_isCarried_55 (by decide) hf (fun hf => ?_) (fun hf => ?_)
            · refine lv_iconst (v := Int32.ofInt 0) hx hb dX11_isCarried_62 rfl ?_
              exact b_63 _ ih14 _ _ _ _ _ _ _ _ _ _ _ _ _ hf hP hD hS (lv_sub hl [0, 1, 2, 4] rfl)
            · exact b_58 _ ih14 _ _ _ _ _ _ _ _ _ _ _ _ hf hP hD hS (lv_sub hl [0, 1, 2, 4] rfl)
  have l_14 : ∀ (n : Nat), ∀ (x2 : Int) (x3 : Int) (x4 : Int) (x5 : Int) (i_law : Int) (i_broken : Int) (i_value : Int) (i_sum : Int) (i_set : Nat → Int) (i_rest : Nat → Int) (H : Heap) (locs : List Loc) (ls : Array Slot), f_HM_isCarried_14 i_row i_high i_heaps n x2 x3 x4 x5 i_law i_broken i_value i_sum i_set i_rest = some out → va_P (dC, dI) vwCl (wd_HM_isCarried cA q0 q1 q2 q3 q4 q5 q6 q7 q8 q9 q10 q11 q12 q13 q14 q15 q16 q17 q18 q19 q20 q21 q22 q23 q24 q25 q26 q27 q28 q29 q30 q31 u0 u1 u2 u3 u4 u5 u6 u7 u8 u9 u10 u11 u12 u13 u14 u15 u16 u17 i_row i_high i_heaps i_law i_broken i_value i_sum i_set i_rest) H → va_D A (wd_HM_isCarried cA q0 q1 q2 q3 q4 q5 q6 q7 q8 q9 q10 q11 q12 q13 q14 q15 q16 q17 q18 q19 q20 q21 q22 q23 q24 q25 q26 q27 q28 q29 q30 q31 u0 u1 u2 u3 u4 u5 u6 u7 u8 u9 u10 u11 u12 u13 u14 u15 u16 u17 i_row i_high i_heaps i_law i_broken i_value i_sum i_set i_rest) → va_S A s.heap H locs → lv_has ls 6 [(0, .ref q0), (2, .int (Int32.ofInt x2)), (3, .int (Int32.ofInt x3)), (4, .int (Int32.ofInt x4)), (5, .int (Int32.ofInt x5))] → W p l e rm_HM_isCarried s m args below meth c H locs 0 0 Q (F0 m 14 ls []) := by
    intro n
    induction n with
    | zero => intro x2 x3 x4 x5 i_law i_broken i_value i_sum i_set i_rest H locs ls hf hP hD hS hl; exact nomatch hf
    | succ n ih => intro x2 x3 x4 x5 i_law i_broken i_value i_sum i_set i_rest H locs ls hf hP hD hS hl; exact b_14 (f_HM_isCarried_14 i_row i_high i_heaps n) ih x2 x3 x4 x5 i_law i_broken i_value i_sum i_set i_rest H locs ls hf hP hD hS hl
  unfold f_HM_isCarried at hf
  refine lv_iload_n hx hb dX11_isCarried_0 rfl (lv_at hl 1 rfl) ?_
  refine lv_iconst (v := Int32.ofInt 4) hx hb dX11_isCarried_1 rfl ?_
  refine xi_idiv hx hb dX11_isCarried_2 hf (fun v1 hf => ?_)
  refine lv_istore_n (lv' := [(2, .int (Int32.ofInt v1)), (0, .ref q0), (1, .int (Int32.ofInt x1))]) hx hb dX11_isCarried_3 rfl hl (by decide) rfl (fun ls hl => ?_)
  refine lv_iload_n hx hb dX11_isCarried_4 rfl (lv_at hl 2 rfl) ?_
  refine lv_iconst (v := Int32.ofInt 4) hx hb dX11_isCarried_5 rfl ?_
  refine xi_irem hx hb dX11_isCarried_6 hf (fun v2 hf => ?_)
  refine lv_istore_n (lv' := [(3, .int (Int32.ofInt v2)), (2, .int (Int32.ofInt v1)), (0, .ref q0), (1, .int (Int32.ofInt x1))]) hx hb dX11_isCarried_7 rfl hl (by decide) rfl (fun ls hl => ?_)
  refine lv_iconst (v := Int32.ofInt 0) hx hb dX11_isCarried_8 rfl ?_
  refine lv_istore (lv' := [(4, .int (Int32.ofInt 0)), (3, .int (Int32.ofInt v2)), (2, .int (Int32.ofInt v1)), (0, .ref q0), (1, .int (Int32.ofInt x1))]) hx hb dX11_isCarried_9 hl (by decide) rfl (fun ls hl => ?_)
  refine lv_iconst (v := Int32.ofInt 0) hx hb dX11_isCarried_11 rfl ?_
  refine lv_istore (lv' := [(5, .int (Int32.ofInt 0)), (4, .int (Int32.ofInt 0)), (3, .int (Int32.ofInt v2)), (2, .int (Int32.ofInt v1)), (0, .ref q0), (1, .int (Int32.ofInt x1))]) hx hb dX11_isCarried_12 hl (by decide) rfl (fun ls hl => ?_)
  exact l_14  _ _ _ _ _ _ _ _ _ _ _ _ _ _ hf hP hD hS (lv_sub hl [4, 3, 2, 1, 0] rfl)
theorem dX11_nextMove_0 : decode cX11_nextMove 0 = .ok (.aload_n 0, 1) := by decide +kernel
theorem dX11_nextMove_1 : decode cX11_nextMove 1 = .ok (.getfield 114, 3) := by decide +kernel
theorem dX11_nextMove_4 : decode cX11_nextMove 4 = .ok (.iload_n 1, 1) := by decide +kernel
theorem dX11_nextMove_5 : decode cX11_nextMove 5 = .ok (.iaload, 1) := by decide +kernel
theorem dX11_nextMove_6 : decode cX11_nextMove 6 = .ok (.iconst 1, 1) := by decide +kernel
theorem dX11_nextMove_7 : decode cX11_nextMove 7 = .ok (.iadd, 1) := by decide +kernel
theorem dX11_nextMove_8 : decode cX11_nextMove 8 = .ok (.istore_n 2, 1) := by decide +kernel
theorem dX11_nextMove_9 : decode cX11_nextMove 9 = .ok (.iload_n 2, 1) := by decide +kernel
theorem dX11_nextMove_10 : decode cX11_nextMove 10 = .ok (.bipush 16, 2) := by decide +kernel
theorem dX11_nextMove_12 : decode cX11_nextMove 12 = .ok (.if_icmp .ge 17, 3) := by decide +kernel
theorem dX11_nextMove_15 : decode cX11_nextMove 15 = .ok (.aload_n 0, 1) := by decide +kernel
theorem dX11_nextMove_16 : decode cX11_nextMove 16 = .ok (.iload_n 2, 1) := by decide +kernel
theorem dX11_nextMove_17 : decode cX11_nextMove 17 = .ok (.invokevirtual 463, 3) := by decide +kernel
theorem dX11_nextMove_20 : decode cX11_nextMove 20 = .ok (.ifCond .ne 9, 3) := by decide +kernel
theorem dX11_nextMove_23 : decode cX11_nextMove 23 = .ok (.iinc 2 1, 3) := by decide +kernel
theorem dX11_nextMove_26 : decode cX11_nextMove 26 = .ok (.goto (-17), 3) := by decide +kernel
theorem dX11_nextMove_29 : decode cX11_nextMove 29 = .ok (.iload_n 2, 1) := by decide +kernel
theorem dX11_nextMove_30 : decode cX11_nextMove 30 = .ok (.bipush 16, 2) := by decide +kernel
theorem dX11_nextMove_32 : decode cX11_nextMove 32 = .ok (.if_icmp .lt 31, 3) := by decide +kernel
theorem dX11_nextMove_35 : decode cX11_nextMove 35 = .ok (.aload_n 0, 1) := by decide +kernel
theorem dX11_nextMove_36 : decode cX11_nextMove 36 = .ok (.getfield 117, 3) := by decide +kernel
theorem dX11_nextMove_39 : decode cX11_nextMove 39 = .ok (.iload_n 1, 1) := by decide +kernel
theorem dX11_nextMove_40 : decode cX11_nextMove 40 = .ok (.iaload, 1) := by decide +kernel
theorem dX11_nextMove_41 : decode cX11_nextMove 41 = .ok (.sipush (-1000), 3) := by decide +kernel
theorem dX11_nextMove_44 : decode cX11_nextMove 44 = .ok (.if_icmp .ne 19, 3) := by decide +kernel
theorem dX11_nextMove_47 : decode cX11_nextMove 47 = .ok (.aload_n 0, 1) := by decide +kernel
theorem dX11_nextMove_48 : decode cX11_nextMove 48 = .ok (.getfield 114, 3) := by decide +kernel
theorem dX11_nextMove_51 : decode cX11_nextMove 51 = .ok (.iload_n 1, 1) := by decide +kernel
theorem dX11_nextMove_52 : decode cX11_nextMove 52 = .ok (.iaload, 1) := by decide +kernel
theorem dX11_nextMove_53 : decode cX11_nextMove 53 = .ok (.bipush 16, 2) := by decide +kernel
theorem dX11_nextMove_55 : decode cX11_nextMove 55 = .ok (.if_icmp .ge 8, 3) := by decide +kernel
theorem dX11_nextMove_58 : decode cX11_nextMove 58 = .ok (.bipush 17, 2) := by decide +kernel
theorem dX11_nextMove_60 : decode cX11_nextMove 60 = .ok (.goto 4, 3) := by decide +kernel
theorem dX11_nextMove_63 : decode cX11_nextMove 63 = .ok (.iload_n 2, 1) := by decide +kernel
theorem dX11_nextMove_64 : decode cX11_nextMove 64 = .ok (.ireturn, 1) := by decide +kernel
theorem zw_100 : (Jvm.Cond.selects "HillSchoolModel" ({ cls := "HillSchoolModel", name := "isCarried", desc := "(I)Z" } : Jvm.MethodName) ({ cls := "HillSchoolModel", name := "isCarried", desc := "(I)Z" } : Jvm.MethodName)) ∈ zall := zmemG (zmj_0 100 rfl) rfl
theorem zw_1749 : (Jvm.Cond.code ({ cls := "HillSchoolModel", name := "nextMove", desc := "(I)I" } : Jvm.MethodName) prog_13_method_104_code (3 : Nat) (Option.some Jvm.ClassFile.FieldType.int)) ∈ zall := zmemG (zmj_7 206 rfl) rfl
theorem zw_1750 : (Jvm.Cond.methodLink "HillSchoolModel" (463 : Nat) ({ cls := "HillSchoolModel", name := "isCarried", desc := "(I)Z" } : Jvm.MethodName)) ∈ zall := zmemG (zmj_7 207 rfl) rfl
theorem zw_1752 : (Jvm.Cond.instanceMethod ({ cls := "HillSchoolModel", name := "isCarried", desc := "(I)Z" } : Jvm.MethodName)) ∈ zall := zmemG (zmj_7 209 rfl) rfl
abbrev w_HM_nextMove : List Cond := .code yX11_nextMove cX11_nextMove 3 (some .int) :: zall
abbrev rm_HM_nextMove : Room := { frames := 6, cells := 0, slots := 0, locals := 151 }
theorem hd_HM_nextMove : yX11_nextMove.cls = "HillSchoolModel" ∧ yX11_nextMove.cls ≠ "java/lang/invoke/MethodHandle" ∧ yX11_nextMove.cls ≠ "java/lang/invoke/VarHandle" ∧ (parseMethodDescriptor yX11_nextMove.desc).map (fun d => d.parameters.length) = some 1 := by decide +kernel
def wd_HM_nextMove (cA : Nat → ClassId) (q0 q1 q2 q3 q4 q5 q6 q7 q8 q9 q10 q11 q12 q13 q14 q15 q16 q17 q18 q19 q20 q21 q22 q23 q24 q25 q26 q27 q28 q29 q30 q31 : Nat) (u0 u1 u2 u3 u4 u5 u6 u7 u8 u9 u10 u11 u12 u13 u14 u15 u16 u17 : Int) (i_row : Nat → Int) (i_high : Nat → Int) (i_heaps : Nat → Int) (i_tried : Nat → Int) (i_bests : Nat → Int) (i_law : Int) (i_broken : Int) (i_value : Int) (i_sum : Int) (i_set : Nat → Int) (i_rest : Nat → Int) : va_W := [(q0, .inr (11, [.int (Int32.ofInt u0), .int (Int32.ofInt u1), .ref q1, .ref q2, .ref q3, .ref q4, .int (Int32.ofInt u2), .ref q5, .int (Int32.ofInt u3), .int (Int32.ofInt u4), .int (Int32.ofInt u5), .int (Int32.ofInt u6), .long (Int64.ofInt u7), .int (Int32.ofInt u8), .int (Int32.ofInt u9), .int (Int32.ofInt u10), .ref q6, .int (Int32.ofInt u11), .ref q7, .ref q8, .int (Int32.ofInt u12), .ref q9, .ref q10, .int (Int32.ofInt u13), .int (Int32.ofInt u14), .ref q11, .int (Int32.ofInt i_law), .ref q12, .ref q13, .int (Int32.ofInt i_broken), .long (Int64.ofInt i_value), .long (Int64.ofInt i_sum), .ref q14, .ref q15, .ref q16, .ref q17, .ref q18, .int (Int32.ofInt u15), .ref q19, .ref q20, .ref q21, .ref q22, .ref q23, .ref q24, .ref q25, .ref q26, .ref q27, .ref q28, .ref q29, .ref q30, .long (Int64.ofInt u16), .ref q31, .int (Int32.ofInt u17)])), (q2, .inl (cA 0, 5580, .inl (za i_row))), (q12, .inl (cA 2, 13, .inr (.inl (zl i_set)))), (q13, .inl (cA 2, 400, .inr (.inl (zl i_rest)))), (q14, .inl (cA 0, 12, .inl (za i_high))), (q15, .inl (cA 0, 120, .inl (za i_heaps))), (q28, .inl (cA 0, 5, .inl (za i_tried))), (q29, .inl (cA 0, 5, .inl (za i_bests)))]
def wf_HM_nextMove (cA : Nat → ClassId) (q0 q1 q2 q3 q4 q5 q6 q7 q8 q9 q10 q11 q12 q13 q14 q15 q16 q17 q18 q19 q20 q21 q22 q23 q24 q25 q26 q27 q28 q29 q30 q31 : Nat) (u0 u1 u2 u3 u4 u5 u6 u7 u8 u9 u10 u11 u12 u13 u14 u15 u16 u17 : Int) (i_row : Nat → Int) (i_high : Nat → Int) (i_heaps : Nat → Int) (i_tried : Nat → Int) (i_bests : Nat → Int) (o : Int × Int × Int × Int × Int × (Nat → Int) × (Nat → Int)) : va_W := wd_HM_nextMove cA q0 q1 q2 q3 q4 q5 q6 q7 q8 q9 q10 q11 q12 q13 q14 q15 q16 q17 q18 q19 q20 q21 q22 q23 q24 q25 q26 q27 q28 q29 q30 q31 u0 u1 u2 u3 u4 u5 u6 u7 u8 u9 u10 u11 u12 u13 u14 u15 u16 u17 i_row i_high i_heaps i_tried i_bests o.2.1 o.2.2.1 o.2.2.2.1 o.2.2.2.2.1 o.2.2.2.2.2.1 o.2.2.2.2.2.2
def f_HM_nextMove_29 (i_row : Nat → Int) (i_high : Nat → Int) (i_heaps : Nat → Int) (i_tried : Nat → Int) (i_bests : Nat → Int) (x1 : Int) (x2 : Int) (i_law : Int) (i_broken : Int) (i_value : Int) (i_sum : Int) (i_set : Nat → Int) (i_rest : Nat → Int) : Option (Int × Int × Int × Int × Int × (Nat → Int) × (Nat → Int)) :=
  if zi_w x2 < zi_w 16 then
    some (x2, i_law, i_broken, i_value, i_sum, i_set, i_rest)
  else
    zg 5 i_bests x1 fun v1 =>
    if zi_w v1 ≠ zi_w (-1000) then
      some (x2, i_law, i_broken, i_value, i_sum, i_set, i_rest)
    else
      zg 5 i_tried x1 fun v2 =>
      if zi_w 16 ≤ zi_w v2 then
        some (x2, i_law, i_broken, i_value, i_sum, i_set, i_rest)
      else
        some (17, i_law, i_broken, i_value, i_sum, i_set, i_rest)
def f_HM_nextMove_9_b (i_row : Nat → Int) (i_high : Nat → Int) (i_heaps : Nat → Int) (i_tried : Nat → Int) (i_bests : Nat → Int) (k9 : Int → Int → Int → Int → Int → Int → (Nat → Int) → (Nat → Int) → Option (Int × Int × Int × Int × Int × (Nat → Int) × (Nat → Int))) (x1 : Int) (x2 : Int) (i_law : Int) (i_broken : Int) (i_value : Int) (i_sum : Int) (i_set : Nat → Int) (i_rest : Nat → Int) : Option (Int × Int × Int × Int × Int × (Nat → Int) × (Nat → Int)) :=
  if zi_w 16 ≤ zi_w x2 then
    f_HM_nextMove_29 i_row i_high i_heaps i_tried i_bests x1 x2 i_law i_broken i_value i_sum i_set i_rest
  else
    zd7 (f_HM_isCarried x2 i_row i_high i_heaps i_law i_broken i_value i_sum i_set i_rest) fun v1 v2 v3 v4 v5 a6 a7 =>
    if zi_w v1 ≠ 0 then
      f_HM_nextMove_29 i_row i_high i_heaps i_tried i_bests x1 x2 v2 v3 v4 v5 a6 a7
    else
      zn (x2 + 1) fun v8 =>
      k9 x1 v8 v2 v3 v4 v5 a6 a7
def f_HM_nextMove_9 (i_row : Nat → Int) (i_high : Nat → Int) (i_heaps : Nat → Int) (i_tried : Nat → Int) (i_bests : Nat → Int) : Nat → Int → Int → Int → Int → Int → Int → (Nat → Int) → (Nat → Int) → Option (Int × Int × Int × Int × Int × (Nat → Int) × (Nat → Int))
  | 0 => fun _ _ _ _ _ _ _ _ => none
  | n + 1 => fun y0 y1 y2 y3 y4 y5 y6 y7 => f_HM_nextMove_9_b i_row i_high i_heaps i_tried i_bests (f_HM_nextMove_9 i_row i_high i_heaps i_tried i_bests n) y0 y1 y2 y3 y4 y5 y6 y7
def f_HM_nextMove (x1 : Int) (i_row : Nat → Int) (i_high : Nat → Int) (i_heaps : Nat → Int) (i_tried : Nat → Int) (i_bests : Nat → Int) (i_law : Int) (i_broken : Int) (i_value : Int) (i_sum : Int) (i_set : Nat → Int) (i_rest : Nat → Int) : Option (Int × Int × Int × Int × Int × (Nat → Int) × (Nat → Int)) :=
  zg 5 i_tried x1 fun v1 =>
  zn (v1 + 1) fun v2 =>
  f_HM_nextMove_9 i_row i_high i_heaps i_tried i_bests zfu x1 v2 i_law i_broken i_value i_sum i_set i_rest
set_option maxHeartbeats 4000000 in
set_option maxRecDepth 100000 in
theorem c_HM_nextMove (l : Launch) (ev : zEv) (dC : Nat → ClassId) (dI : Nat → Nat → Nat) (cA : Nat → ClassId) (q0 q1 q2 q3 q4 q5 q6 q7 q8 q9 q10 q11 q12 q13 q14 q15 q16 q17 q18 q19 q20 q21 q22 q23 q24 q25 q26 q27 q28 q29 q30 q31 : Nat) (u0 u1 u2 u3 u4 u5 u6 u7 u8 u9 u10 u11 u12 u13 u14 u15 u16 u17 : Int) {x1 : Int} {i_row : Nat → Int} {i_high : Nat → Int} {i_heaps : Nat → Int} {i_tried : Nat → Int} {i_bests : Nat → Int} {i_law : Int} {i_broken : Int} {i_value : Int} {i_sum : Int} {i_set : Nat → Int} {i_rest : Nat → Int} {out : Int × Int × Int × Int × Int × (Nat → Int) × (Nat → Int)} (hf : f_HM_nextMove x1 i_row i_high i_heaps i_tried i_bests i_law i_broken i_value i_sum i_set i_rest = some out) : xc_I l ev (dC, dI) vwCl (tyl cA) yX11_nextMove w_HM_nextMove rm_HM_nextMove [.ref q0, .int (Int32.ofInt x1)] (wd_HM_nextMove cA q0 q1 q2 q3 q4 q5 q6 q7 q8 q9 q10 q11 q12 q13 q14 q15 q16 q17 q18 q19 q20 q21 q22 q23 q24 q25 q26 q27 q28 q29 q30 q31 u0 u1 u2 u3 u4 u5 u6 u7 u8 u9 u10 u11 u12 u13 u14 u15 u16 u17 i_row i_high i_heaps i_tried i_bests i_law i_broken i_value i_sum i_set i_rest) (wf_HM_nextMove cA q0 q1 q2 q3 q4 q5 q6 q7 q8 q9 q10 q11 q12 q13 q14 q15 q16 q17 q18 q19 q20 q21 q22 q23 q24 q25 q26 q27 q28 q29 q30 q31 u0 u1 u2 u3 u4 u5 u6 u7 u8 u9 u10 u11 u12 u13 u14 u15 u16 u17 i_row i_high i_heaps i_tried i_bests out) out.1 := by
  refine xv_startI (cc := cX11_nextMove) (maxL := 3) (rt := .int) (by decide +kernel) rfl (Nat.le_of_ble_eq_true rfl) ?_
  intro p e s m args below meth c A Q H ls hx hb hml hts hown hK hA hP hD hS hl hE hret
  have hown : s.vm.findClass "HillSchoolModel" = some m.cls := hown
  have hz : ∀ w ∈ zall, w.before args s = true := fun w h => hts w (List.mem_cons_of_mem _ h)
  have hl : lv_has ls 3 [(0, .ref q0), (1, .int (Int32.ofInt x1))] := hl
  have b_29 : ∀ (x1 : Int) (x2 : Int) (i_law : Int) (i_broken : Int) (i_value : Int) (i_sum : Int) (i_set : Nat → Int) (i_rest : Nat → Int) (H : Heap) (locs : List Loc) (ls : Array Slot), f_HM_nextMove_29 i_row i_high i_heaps i_tried i_bests x1 x2 i_law i_broken i_value i_sum i_set i_rest = some out → va_P (dC, dI) vwCl (wd_HM_nextMove cA q0 q1 q2 q3 q4 q5 q6 q7 q8 q9 q10 q11 q12 q13 q14 q15 q16 q17 q18 q19 q20 q21 q22 q23 q24 q25 q26 q27 q28 q29 q30 q31 u0 u1 u2 u3 u4 u5 u6 u7 u8 u9 u10 u11 u12 u13 u14 u15 u16 u17 i_row i_high i_heaps i_tried i_bests i_law i_broken i_value i_sum i_set i_rest) H → va_D A (wd_HM_nextMove cA q0 q1 q2 q3 q4 q5 q6 q7 q8 q9 q10 q11 q12 q13 q14 q15 q16 q17 q18 q19 q20 q21 q22 q23 q24 q25 q26 q27 q28 q29 q30 q31 u0 u1 u2 u3 u4 u5 u6 u7 u8 u9 u10 u11 u12 u13 u14 u15 u16 u17 i_row i_high i_heaps i_tried i_bests i_law i_broken i_value i_sum i_set i_rest) → va_S A s.heap H locs → lv_has ls 3 [(0, .ref q0), (1, .int (Int32.ofInt x1)), (2, .int (Int32.ofInt x2))] → W p l e rm_HM_nextMove s m args below meth c H locs 0 0 Q (F0 m 29 ls []) := by
    intro x1 x2 i_law i_broken i_value i_sum i_set i_rest H locs ls hf hP hD hS hl
    unfold f_HM_nextMove_29 at hf
    refine lv_iload_n hx hb dX11_nextMove_29 rfl (lv_at hl 2 rfl) ?_
    refine lv_bipush (v := Int32.ofInt 16) hx hb dX11_nextMove_30 (by decide) ?_
    refine xi_icmp_lt (tgt := 63) hx hb dX11_nextMove_32 (by decide) hf (fun hf => ?_) (fun hf => ?_)
    · refine lv_iload_n hx hb dX11_nextMove_63 rfl (lv_at hl 2 rfl) ?_
      obtain rfl := Option.some.inj hf
      exact hret _ _ _ _ rfl dX11_nextMove_64 hP hD hS
    · refine lv_aload_n hx hb dX11_nextMove_35 rfl (lv_at hl 0 rfl) ?_
      refine va_get (D := (dC, dI)) (ci := 11) (v := .ref q29) (C := RX11) (T := TX11) (N := 53) hx hb hz zi_X11 hown hK hP 0 rfl rfl 48 (by decide) (hz _ zw_1213) (fun _ h9 => h9) rfl dX11_nextMove_36 ?_
      refine lv_iload_n hx hb dX11_nextMove_39 rfl (lv_at hl 1 rfl) ?_
      refine xi_iald hx hb hK hP 7 0 rfl rfl dX11_nextMove_40 hf (fun v1 hf => ?_)
      refine lv_sipush (v := Int32.ofInt (-1000)) hx hb dX11_nextMove_41 (by decide) ?_
      refine xi_icmp_ne (tgt := 63) hx hb dX11_nextMove_44 (by decide) hf (fun hf => ?_) (fun hf => ?_)
      · refine lv_iload_n hx hb dX11_nextMove_63 rfl (lv_at hl 2 rfl) ?_
        obtain rfl := Option.some.inj hf
        exact hret _ _ _ _ rfl dX11_nextMove_64 hP hD hS
      · refine lv_aload_n hx hb dX11_nextMove_47 rfl (lv_at hl 0 rfl) ?_
        refine va_get (D := (dC, dI)) (ci := 11) (v := .ref q28) (C := RX11) (T := TX11) (N := 53) hx hb hz zi_X11 hown hK hP 0 rfl rfl 47 (by decide) (hz _ zw_1212) (fun _ h9 => h9) rfl dX11_nextMove_48 ?_
        refine lv_iload_n hx hb dX11_nextMove_51 rfl (lv_at hl 1 rfl) ?_
        refine xi_iald hx hb hK hP 6 0 rfl rfl dX11_nextMove_52 hf (fun v2 hf => ?_)
        refine lv_bipush (v := Int32.ofInt 16) hx hb dX11_nextMove_53 (by decide) ?_
        refine xi_icmp_ge (tgt := 63) hx hb dX11_nextMove_55 (by decide) hf (fun hf => ?_) (fun hf => ?_)
        · refine lv_iload_n hx hb dX11_nextMove_63 rfl (lv_at hl 2 rfl) ?_
          obtain rfl := Option.some.inj hf
          exact hret _ _ _ _ rfl dX11_nextMove_64 hP hD hS
        · refine lv_bipush (v := Int32.ofInt 17) hx hb dX11_nextMove_58 (by decide) ?_
          refine lv_goto (tgt := 64) hx hb dX11_nextMove_60 (by decide) ?_
          obtain rfl := Option.some.inj hf
          exact hret _ _ _ _ rfl dX11_nextMove_64 hP hD hS
  have b_9 : ∀ (k9 : Int → Int → Int → Int → Int → Int → (Nat → Int) → (Nat → Int) → Option (Int × Int × Int × Int × Int × (Nat → Int) × (Nat → Int))) (_ : ∀ (x1 : Int) (x2 : Int) (i_law : Int) (i_broken : Int) (i_value : Int) (i_sum : Int) (i_set : Nat → Int) (i_rest : Nat → Int) (H : Heap) (locs : List Loc) (ls : Array Slot), k9 x1 x2 i_law i_broken i_value i_sum i_set i_rest = some out → va_P (dC, dI) vwCl (wd_HM_nextMove cA q0 q1 q2 q3 q4 q5 q6 q7 q8 q9 q10 q11 q12 q13 q14 q15 q16 q17 q18 q19 q20 q21 q22 q23 q24 q25 q26 q27 q28 q29 q30 q31 u0 u1 u2 u3 u4 u5 u6 u7 u8 u9 u10 u11 u12 u13 u14 u15 u16 u17 i_row i_high i_heaps i_tried i_bests i_law i_broken i_value i_sum i_set i_rest) H → va_D A (wd_HM_nextMove cA q0 q1 q2 q3 q4 q5 q6 q7 q8 q9 q10 q11 q12 q13 q14 q15 q16 q17 q18 q19 q20 q21 q22 q23 q24 q25 q26 q27 q28 q29 q30 q31 u0 u1 u2 u3 u4 u5 u6 u7 u8 u9 u10 u11 u12 u13 u14 u15 u16 u17 i_row i_high i_heaps i_tried i_bests i_law i_broken i_value i_sum i_set i_rest) → va_S A s.heap H locs → lv_has ls 3 [(0, .ref q0), (1, .int (Int32.ofInt x1)), (2, .int (Int32.ofInt x2))] → W p l e rm_HM_nextMove s m args below meth c H locs 0 0 Q (F0 m 9 ls [])), ∀ (x1 : Int) (x2 : Int) (i_law : Int) (i_broken : Int) (i_value : Int) (i_sum : Int) (i_set : Nat → Int) (i_rest : Nat → Int) (H : Heap) (locs : List Loc) (ls : Array Slot), f_HM_nextMove_9_b i_row i_high i_heaps i_tried i_bests k9 x1 x2 i_law i_broken i_value i_sum i_set i_rest = some out → va_P (dC, dI) vwCl (wd_HM_nextMove cA q0 q1 q2 q3 q4 q5 q6 q7 q8 q9 q10 q11 q12 q13 q14 q15 q16 q17 q18 q19 q20 q21 q22 q23 q24 q25 q26 q27 q28 q29 q30 q31 u0 u1 u2 u3 u4 u5 u6 u7 u8 u9 u10 u11 u12 u13 u14 u15 u16 u17 i_row i_high i_heaps i_tried i_bests i_law i_broken i_value i_sum i_set i_rest) H → va_D A (wd_HM_nextMove cA q0 q1 q2 q3 q4 q5 q6 q7 q8 q9 q10 q11 q12 q13 q14 q15 q16 q17 q18 q19 q20 q21 q22 q23 q24 q25 q26 q27 q28 q29 q30 q31 u0 u1 u2 u3 u4 u5 u6 u7 u8 u9 u10 u11 u12 u13 u14 u15 u16 u17 i_row i_high i_heaps i_tried i_bests i_law i_broken i_value i_sum i_set i_rest) → va_S A s.heap H locs → lv_has ls 3 [(0, .ref q0), (1, .int (Int32.ofInt x1)), (2, .int (Int32.ofInt x2))] → W p l e rm_HM_nextMove s m args below meth c H locs 0 0 Q (F0 m 9 ls []) := by
    intro k9 ih9 x1 x2 i_law i_broken i_value i_sum i_set i_rest H locs ls hf hP hD hS hl
    unfold f_HM_nextMove_9_b at hf
    refine lv_iload_n hx hb dX11_nextMove_9 rfl (lv_at hl 2 rfl) ?_
    refine lv_bipush (v := Int32.ofInt 16) hx hb dX11_nextMove_10 (by decide) ?_
    refine xi_icmp_ge (tgt := 29) hx hb dX11_nextMove_12 (by decide) hf (fun hf => ?_) (fun hf => ?_)
    · exact b_29  _ _ _ _ _ _ _ _ _ _ _ hf hP hD hS (lv_sub hl [0, 1, 2] rfl)
    · refine lv_aload_n hx hb dX11_nextMove_15 rfl (lv_at hl 0 rfl) ?_
      refine lv_iload_n hx hb dX11_nextMove_16 rfl (lv_at hl 2 rfl) ?_
      refine xe_d7 hf (fun v1 v2 v3 v4 v5 a6 a7 hg hf => ?_)
      have hC : ([0, 1, 2, 3, 4, 5] : List Nat).map (fun i => (wd_HM_nextMove cA q0 q1 q2 q3 q4 q5 q6 q7 q8 q9 q10 q11 q12 q13 q14 q15 q16 q17 q18 q19 q20 q21 q22 q23 q24 q25 q26 q27 q28 q29 q30 q31 u0 u1 u2 u3 u4 u5 u6 u7 u8 u9 u10 u11 u12 u13 u14 u15 u16 u17 i_row i_high i_heaps i_tried i_bests i_law i_broken i_value i_sum i_set i_rest)[i]?) = (wd_HM_isCarried cA q0 q1 q2 q3 q4 q5 q6 q7 q8 q9 q10 q11 q12 q13 q14 q15 q16 q17 q18 q19 q20 q21 q22 q23 q24 q25 q26 q27 q28 q29 q30 q31 u0 u1 u2 u3 u4 u5 u6 u7 u8 u9 u10 u11 u12 u13 u14 u15 u16 u17 i_row i_high i_heaps i_law i_broken i_value i_sum i_set i_rest).map some := rfl
      refine xv_afterI (ws' := (wd_HM_nextMove cA q0 q1 q2 q3 q4 q5 q6 q7 q8 q9 q10 q11 q12 q13 q14 q15 q16 q17 q18 q19 q20 q21 q22 q23 q24 q25 q26 q27 q28 q29 q30 q31 u0 u1 u2 u3 u4 u5 u6 u7 u8 u9 u10 u11 u12 u13 u14 u15 u16 u17 i_row i_high i_heaps i_tried i_bests v2 v3 v4 v5 a6 a7)) (isC := [0, 1, 2, 3, 4, 5]) (ps := [some 0, some 1, some 2, some 3, some 4, some 5, none, none]) (va_runV (As := [.int (Int32.ofInt x2)]) (rest := []) ⟨hx, hb, hml, hown, hts⟩ (c_HM_isCarried l ev dC dI cA q0 q1 q2 q3 q4 q5 q6 q7 q8 q9 q10 q11 q12 q13 q14 q15 q16 q17 q18 q19 q20 q21 q22 q23 q24 q25 q26 q27 q28 q29 q30 q31 u0 u1 u2 u3 u4 u5 u6 u7 u8 u9 u10 u11 u12 u13 u14 u15 u16 u17 hg H.size) (cwV 1 hts (zgV zw_1750 zw_1752 zw_100 zw_115 zw_1753) rfl rfl rfl hd_HM_isCarried ⟨Nat.le_of_ble_eq_true rfl, Nat.le_of_ble_eq_true rfl⟩) (xv_preV (T := TX11) (N := 53) hE hA hS hK hP hD (isC := [0, 1, 2, 3, 4, 5]) (by decide +kernel) hC (q0 := 0) (ci := 11) rfl rfl) rfl rfl hl.1 rfl (lv_room (Nat.le_of_ble_eq_true rfl)) dX11_nextMove_17 ⟨Nat.le_refl _, Nat.le_refl _⟩) hP hD hS hA (by decide +kernel) rfl hC rfl rfl (fun H locs hP hD hS => ?_)
      refine xi_if_ne (tgt := 29) hx hb dX11_nextMove_20 (by decide) hf (fun hf => ?_) (fun hf => ?_)
      · exact b_29  _ _ _ _ _ _ _ _ _ _ _ hf hP hD hS (lv_sub hl [0, 1, 2] rfl)
      · refine xi_iinc hx hb dX11_nextMove_23 hl (k := 2) rfl (by decide) hf (fun v8 ls hl hf => ?_)
        have hl : lv_has ls 3 [(2, .int (Int32.ofInt v8)), (0, .ref q0), (1, .int (Int32.ofInt x1))] := hl
        refine lv_goto (tgt := 9) hx hb dX11_nextMove_26 (by decide) ?_
        exact ih9 _ _ _ _ _ _ _ _ _ _ _ hf hP hD hS (lv_sub hl [1, 2, 0] rfl)
  have l_9 : ∀ (n : Nat), ∀ (x1 : Int) (x2 : Int) (i_law : Int) (i_broken : Int) (i_value : Int) (i_sum : Int) (i_set : Nat → Int) (i_rest : Nat → Int) (H : Heap) (locs : List Loc) (ls : Array Slot), f_HM_nextMove_9 i_row i_high i_heaps i_tried i_bests n x1 x2 i_law i_broken i_value i_sum i_set i_rest = some out → va_P (dC, dI) vwCl (wd_HM_nextMove cA q0 q1 q2 q3 q4 q5 q6 q7 q8 q9 q10 q11 q12 q13 q14 q15 q16 q17 q18 q19 q20 q21 q22 q23 q24 q25 q26 q27 q28 q29 q30 q31 u0 u1 u2 u3 u4 u5 u6 u7 u8 u9 u10 u11 u12 u13 u14 u15 u16 u17 i_row i_high i_heaps i_tried i_bests i_law i_broken i_value i_sum i_set i_rest) H → va_D A (wd_HM_nextMove cA q0 q1 q2 q3 q4 q5 q6 q7 q8 q9 q10 q11 q12 q13 q14 q15 q16 q17 q18 q19 q20 q21 q22 q23 q24 q25 q26 q27 q28 q29 q30 q31 u0 u1 u2 u3 u4 u5 u6 u7 u8 u9 u10 u11 u12 u13 u14 u15 u16 u17 i_row i_high i_heaps i_tried i_bests i_law i_broken i_value i_sum i_set i_rest) → va_S A s.heap H locs → lv_has ls 3 [(0, .ref q0), (1, .int (Int32.ofInt x1)), (2, .int (Int32.ofInt x2))] → W p l e rm_HM_nextMove s m args below meth c H locs 0 0 Q (F0 m 9 ls []) := by
    intro n
    induction n with
    | zero => intro x1 x2 i_law i_broken i_value i_sum i_set i_rest H locs ls hf hP hD hS hl; exact nomatch hf
    | succ n ih => intro x1 x2 i_law i_broken i_value i_sum i_set i_rest H locs ls hf hP hD hS hl; exact b_9 (f_HM_nextMove_9 i_row i_high i_heaps i_tried i_bests n) ih x1 x2 i_law i_broken i_value i_sum i_set i_rest H locs ls hf hP hD hS hl
  unfold f_HM_nextMove at hf
  refine lv_aload_n hx hb dX11_nextMove_0 rfl (lv_at hl 0 rfl) ?_
  refine va_get (D := (dC, dI)) (ci := 11) (v := .ref q28) (C := RX11) (T := TX11) (N := 53) hx hb hz zi_X11 hown hK hP 0 rfl rfl 47 (by decide) (hz _ zw_1212) (fun _ h9 => h9) rfl dX11_nextMove_1 ?_
  refine lv_iload_n hx hb dX11_nextMove_4 rfl (lv_at hl 1 rfl) ?_
  refine xi_iald hx hb hK hP 6 0 rfl rfl dX11_nextMove_5 hf (fun v1 hf => ?_)
  refine lv_iconst (v := Int32.ofInt 1) hx hb dX11_nextMove_6 rfl ?_
  refine xi_iadd hx hb dX11_nextMove_7 hf (fun v2 hf => ?_)
  refine lv_istore_n (lv' := [(2, .int (Int32.ofInt v2)), (0, .ref q0), (1, .int (Int32.ofInt x1))]) hx hb dX11_nextMove_8 rfl hl (by decide) rfl (fun ls hl => ?_)
  exact l_9  _ _ _ _ _ _ _ _ _ _ _ _ hf hP hD hS (lv_sub hl [1, 2, 0] rfl)
theorem dX11_unmove_0 : decode cX11_unmove 0 = .ok (.iload_n 1, 1) := by decide +kernel
theorem dX11_unmove_1 : decode cX11_unmove 1 = .ok (.bipush 16, 2) := by decide +kernel
theorem dX11_unmove_3 : decode cX11_unmove 3 = .ok (.if_icmp .ge 13, 3) := by decide +kernel
theorem dX11_unmove_6 : decode cX11_unmove 6 = .ok (.aload_n 0, 1) := by decide +kernel
theorem dX11_unmove_7 : decode cX11_unmove 7 = .ok (.iload_n 1, 1) := by decide +kernel
theorem dX11_unmove_8 : decode cX11_unmove 8 = .ok (.iconst 4, 1) := by decide +kernel
theorem dX11_unmove_9 : decode cX11_unmove 9 = .ok (.irem, 1) := by decide +kernel
theorem dX11_unmove_10 : decode cX11_unmove 10 = .ok (.iload_n 1, 1) := by decide +kernel
theorem dX11_unmove_11 : decode cX11_unmove 11 = .ok (.iconst 4, 1) := by decide +kernel
theorem dX11_unmove_12 : decode cX11_unmove 12 = .ok (.idiv, 1) := by decide +kernel
theorem dX11_unmove_13 : decode cX11_unmove 13 = .ok (.invokevirtual 367, 3) := by decide +kernel
theorem dX11_unmove_16 : decode cX11_unmove 16 = .ok (.return_, 1) := by decide +kernel
theorem zw_1757 : (Jvm.Cond.code ({ cls := "HillSchoolModel", name := "unmove", desc := "(I)V" } : Jvm.MethodName) prog_13_method_106_code (2 : Nat) (Option.none : Option Jvm.ClassFile.FieldType)) ∈ zall := zmemG (zmj_7 214 rfl) rfl
abbrev w_HM_unmove : List Cond := .code yX11_unmove cX11_unmove 2 none :: zall
abbrev rm_HM_unmove : Room := { frames := 2, cells := 0, slots := 0, locals := 44 }
theorem hd_HM_unmove : yX11_unmove.cls = "HillSchoolModel" ∧ yX11_unmove.cls ≠ "java/lang/invoke/MethodHandle" ∧ yX11_unmove.cls ≠ "java/lang/invoke/VarHandle" ∧ (parseMethodDescriptor yX11_unmove.desc).map (fun d => d.parameters.length) = some 1 := by decide +kernel
def wd_HM_unmove (cA : Nat → ClassId) (q0 q1 q2 q3 q4 q5 q6 q7 q8 q9 q10 q11 q12 q13 q14 q15 q16 q17 q18 q19 q20 q21 q22 q23 q24 q25 q26 q27 q28 q29 q30 q31 : Nat) (u0 u1 u2 u3 u4 u5 u6 u7 u8 u9 u10 u11 u12 u13 u14 u15 u16 u17 u18 u19 u20 u21 : Int)  (i_high : Nat → Int) (i_heaps : Nat → Int) : va_W := [(q0, .inr (11, [.int (Int32.ofInt u0), .int (Int32.ofInt u1), .ref q1, .ref q2, .ref q3, .ref q4, .int (Int32.ofInt u2), .ref q5, .int (Int32.ofInt u3), .int (Int32.ofInt u4), .int (Int32.ofInt u5), .int (Int32.ofInt u6), .long (Int64.ofInt u7), .int (Int32.ofInt u8), .int (Int32.ofInt u9), .int (Int32.ofInt u10), .ref q6, .int (Int32.ofInt u11), .ref q7, .ref q8, .int (Int32.ofInt u12), .ref q9, .ref q10, .int (Int32.ofInt u13), .int (Int32.ofInt u14), .ref q11, .int (Int32.ofInt u15), .ref q12, .ref q13, .int (Int32.ofInt u16), .long (Int64.ofInt u17), .long (Int64.ofInt u18), .ref q14, .ref q15, .ref q16, .ref q17, .ref q18, .int (Int32.ofInt u19), .ref q19, .ref q20, .ref q21, .ref q22, .ref q23, .ref q24, .ref q25, .ref q26, .ref q27, .ref q28, .ref q29, .ref q30, .long (Int64.ofInt u20), .ref q31, .int (Int32.ofInt u21)])), (q14, .inl (cA 0, 12, .inl (za i_high))), (q15, .inl (cA 0, 120, .inl (za i_heaps)))]
def wf_HM_unmove (cA : Nat → ClassId) (q0 q1 q2 q3 q4 q5 q6 q7 q8 q9 q10 q11 q12 q13 q14 q15 q16 q17 q18 q19 q20 q21 q22 q23 q24 q25 q26 q27 q28 q29 q30 q31 : Nat) (u0 u1 u2 u3 u4 u5 u6 u7 u8 u9 u10 u11 u12 u13 u14 u15 u16 u17 u18 u19 u20 u21 : Int)  (o : (Nat → Int) × (Nat → Int)) : va_W := wd_HM_unmove cA q0 q1 q2 q3 q4 q5 q6 q7 q8 q9 q10 q11 q12 q13 q14 q15 q16 q17 q18 q19 q20 q21 q22 q23 q24 q25 q26 q27 q28 q29 q30 q31 u0 u1 u2 u3 u4 u5 u6 u7 u8 u9 u10 u11 u12 u13 u14 u15 u16 u17 u18 u19 u20 u21 o.1 o.2
def f_HM_unmove (x1 : Int) (i_high : Nat → Int) (i_heaps : Nat → Int) : Option ((Nat → Int) × (Nat → Int)) :=
  if zi_w 16 ≤ zi_w x1 then
    some (i_high, i_heaps)
  else
    if zi_w 4 = 0 then none else zn (zi_rem x1 4) fun v1 =>
    if zi_w 4 = 0 then none else zn (zi_div x1 4) fun v2 =>
    zd2 (f_HM_shift v1 v2 i_high i_heaps) fun a3 a4 =>
    some (a3, a4)
set_option maxHeartbeats 4000000 in
set_option maxRecDepth 100000 in
theorem c_HM_unmove (l : Launch) (ev : zEv) (dC : Nat → ClassId) (dI : Nat → Nat → Nat) (cA : Nat → ClassId) (q0 q1 q2 q3 q4 q5 q6 q7 q8 q9 q10 q11 q12 q13 q14 q15 q16 q17 q18 q19 q20 q21 q22 q23 q24 q25 q26 q27 q28 q29 q30 q31 : Nat) (u0 u1 u2 u3 u4 u5 u6 u7 u8 u9 u10 u11 u12 u13 u14 u15 u16 u17 u18 u19 u20 u21 : Int) {x1 : Int} {i_high : Nat → Int} {i_heaps : Nat → Int} {out : (Nat → Int) × (Nat → Int)} (hf : f_HM_unmove x1 i_high i_heaps = some out) : xc_V l ev (dC, dI) vwCl (tyl cA) yX11_unmove w_HM_unmove rm_HM_unmove [.ref q0, .int (Int32.ofInt x1)] (wd_HM_unmove cA q0 q1 q2 q3 q4 q5 q6 q7 q8 q9 q10 q11 q12 q13 q14 q15 q16 q17 q18 q19 q20 q21 q22 q23 q24 q25 q26 q27 q28 q29 q30 q31 u0 u1 u2 u3 u4 u5 u6 u7 u8 u9 u10 u11 u12 u13 u14 u15 u16 u17 u18 u19 u20 u21 i_high i_heaps) (wf_HM_unmove cA q0 q1 q2 q3 q4 q5 q6 q7 q8 q9 q10 q11 q12 q13 q14 q15 q16 q17 q18 q19 q20 q21 q22 q23 q24 q25 q26 q27 q28 q29 q30 q31 u0 u1 u2 u3 u4 u5 u6 u7 u8 u9 u10 u11 u12 u13 u14 u15 u16 u17 u18 u19 u20 u21 out) := by
  refine xv_startV (cc := cX11_unmove) (maxL := 2) (by decide +kernel) rfl (Nat.le_of_ble_eq_true rfl) ?_
  intro p e s m args below meth c A Q H ls hx hb hml hts hown hK hA hP hD hS hl hE hret
  have hown : s.vm.findClass "HillSchoolModel" = some m.cls := hown
  have hz : ∀ w ∈ zall, w.before args s = true := fun w h => hts w (List.mem_cons_of_mem _ h)
  have hl : lv_has ls 2 [(0, .ref q0), (1, .int (Int32.ofInt x1))] := hl
  unfold f_HM_unmove at hf
  refine lv_iload_n hx hb dX11_unmove_0 rfl (lv_at hl 1 rfl) ?_
  refine lv_bipush (v := Int32.ofInt 16) hx hb dX11_unmove_1 (by decide) ?_
  refine xi_icmp_ge (tgt := 16) hx hb dX11_unmove_3 (by decide) hf (fun hf => ?_) (fun hf => ?_)
  · obtain rfl := Option.some.inj hf
    exact hret _ _ _ _ dX11_unmove_16 hP hD hS
  · refine lv_aload_n hx hb dX11_unmove_6 rfl (lv_at hl 0 rfl) ?_
    refine lv_iload_n hx hb dX11_unmove_7 rfl (lv_at hl 1 rfl) ?_
    refine lv_iconst (v := Int32.ofInt 4) hx hb dX11_unmove_8 rfl ?_
    refine xi_irem hx hb dX11_unmove_9 hf (fun v1 hf => ?_)
    refine lv_iload_n hx hb dX11_unmove_10 rfl (lv_at hl 1 rfl) ?_
    refine lv_iconst (v := Int32.ofInt 4) hx hb dX11_unmove_11 rfl ?_
    refine xi_idiv hx hb dX11_unmove_12 hf (fun v2 hf => ?_)
    refine xe_d2 hf (fun a3 a4 hg hf => ?_)
    have hC : ([0, 1, 2] : List Nat).map (fun i => (wd_HM_unmove cA q0 q1 q2 q3 q4 q5 q6 q7 q8 q9 q10 q11 q12 q13 q14 q15 q16 q17 q18 q19 q20 q21 q22 q23 q24 q25 q26 q27 q28 q29 q30 q31 u0 u1 u2 u3 u4 u5 u6 u7 u8 u9 u10 u11 u12 u13 u14 u15 u16 u17 u18 u19 u20 u21 i_high i_heaps)[i]?) = (wd_HM_shift cA q0 q1 q2 q3 q4 q5 q6 q7 q8 q9 q10 q11 q12 q13 q14 q15 q16 q17 q18 q19 q20 q21 q22 q23 q24 q25 q26 q27 q28 q29 q30 q31 u0 u1 u2 u3 u4 u5 u6 u7 u8 u9 u10 u11 u12 u13 u14 u15 u16 u17 u18 u19 u20 u21 i_high i_heaps).map some := rfl
    refine xv_afterV (ws' := (wd_HM_unmove cA q0 q1 q2 q3 q4 q5 q6 q7 q8 q9 q10 q11 q12 q13 q14 q15 q16 q17 q18 q19 q20 q21 q22 q23 q24 q25 q26 q27 q28 q29 q30 q31 u0 u1 u2 u3 u4 u5 u6 u7 u8 u9 u10 u11 u12 u13 u14 u15 u16 u17 u18 u19 u20 u21 a3 a4)) (isC := [0, 1, 2]) (ps := [some 0, some 1, some 2]) (va_runV (As := [.int (Int32.ofInt v1), .int (Int32.ofInt v2)]) (rest := []) ⟨hx, hb, hml, hown, hts⟩ (c_HM_shift l ev dC dI cA q0 q1 q2 q3 q4 q5 q6 q7 q8 q9 q10 q11 q12 q13 q14 q15 q16 q17 q18 q19 q20 q21 q22 q23 q24 q25 q26 q27 q28 q29 q30 q31 u0 u1 u2 u3 u4 u5 u6 u7 u8 u9 u10 u11 u12 u13 u14 u15 u16 u17 u18 u19 u20 u21 hg H.size) (cwV 2 hts (zgV zw_1590 zw_1592 zw_73 zw_115 zw_1593) rfl rfl rfl hd_HM_shift ⟨Nat.le_of_ble_eq_true rfl, Nat.le_of_ble_eq_true rfl⟩) (xv_preV (T := TX11) (N := 53) hE hA hS hK hP hD (isC := [0, 1, 2]) (by decide +kernel) hC (q0 := 0) (ci := 11) rfl rfl) rfl rfl hl.1 rfl (lv_room (Nat.le_of_ble_eq_true rfl)) dX11_unmove_13 ⟨Nat.le_refl _, Nat.le_refl _⟩) hP hD hS hA (by decide +kernel) rfl hC rfl rfl (fun H locs hP hD hS => ?_)
    obtain rfl := Option.some.inj hf
    exact hret _ _ _ _ dX11_unmove_16 hP hD hS
theorem dX11_duel_0 : decode cX11_duel 0 = .ok (.aload_n 0, 1) := by decide +kernel
theorem dX11_duel_1 : decode cX11_duel 1 = .ok (.iconst 0, 1) := by decide +kernel
theorem dX11_duel_2 : decode cX11_duel 2 = .ok (.putfield 126, 3) := by decide +kernel
theorem dX11_duel_5 : decode cX11_duel 5 = .ok (.iload_n 1, 1) := by decide +kernel
theorem dX11_duel_6 : decode cX11_duel 6 = .ok (.i2l, 1) := by decide +kernel
theorem dX11_duel_7 : decode cX11_duel 7 = .ok (.lconst 1, 1) := by decide +kernel
theorem dX11_duel_8 : decode cX11_duel 8 = .ok (.ldc2_w 455, 3) := by decide +kernel
theorem dX11_duel_11 : decode cX11_duel 11 = .ok (.invokestatic 132, 3) := by decide +kernel
theorem dX11_duel_14 : decode cX11_duel 14 = .ok (.ifCond .eq 33, 3) := by decide +kernel
theorem dX11_duel_17 : decode cX11_duel 17 = .ok (.iload_n 2, 1) := by decide +kernel
theorem dX11_duel_18 : decode cX11_duel 18 = .ok (.i2l, 1) := by decide +kernel
theorem dX11_duel_19 : decode cX11_duel 19 = .ok (.lconst 0, 1) := by decide +kernel
theorem dX11_duel_20 : decode cX11_duel 20 = .ok (.lconst 1, 1) := by decide +kernel
theorem dX11_duel_21 : decode cX11_duel 21 = .ok (.invokestatic 132, 3) := by decide +kernel
theorem dX11_duel_24 : decode cX11_duel 24 = .ok (.ifCond .eq 23, 3) := by decide +kernel
theorem dX11_duel_27 : decode cX11_duel 27 = .ok (.iload_n 3, 1) := by decide +kernel
theorem dX11_duel_28 : decode cX11_duel 28 = .ok (.i2l, 1) := by decide +kernel
theorem dX11_duel_29 : decode cX11_duel 29 = .ok (.lconst 0, 1) := by decide +kernel
theorem dX11_duel_30 : decode cX11_duel 30 = .ok (.ldc2_w 162, 3) := by decide +kernel
theorem dX11_duel_33 : decode cX11_duel 33 = .ok (.invokestatic 132, 3) := by decide +kernel
theorem dX11_duel_36 : decode cX11_duel 36 = .ok (.ifCond .eq 11, 3) := by decide +kernel
theorem dX11_duel_39 : decode cX11_duel 39 = .ok (.aload_n 0, 1) := by decide +kernel
theorem dX11_duel_40 : decode cX11_duel 40 = .ok (.invokevirtual 140, 3) := by decide +kernel
theorem dX11_duel_43 : decode cX11_duel 43 = .ok (.iconst 4, 1) := by decide +kernel
theorem dX11_duel_44 : decode cX11_duel 44 = .ok (.if_icmp .le 5, 3) := by decide +kernel
theorem dX11_duel_47 : decode cX11_duel 47 = .ok (.iconst (-1), 1) := by decide +kernel
theorem dX11_duel_48 : decode cX11_duel 48 = .ok (.ireturn, 1) := by decide +kernel
theorem dX11_duel_49 : decode cX11_duel 49 = .ok (.aload_n 0, 1) := by decide +kernel
theorem dX11_duel_50 : decode cX11_duel 50 = .ok (.invokevirtual 360, 3) := by decide +kernel
theorem dX11_duel_53 : decode cX11_duel 53 = .ok (.iconst 0, 1) := by decide +kernel
theorem dX11_duel_54 : decode cX11_duel 54 = .ok (.istore 4, 2) := by decide +kernel
theorem dX11_duel_56 : decode cX11_duel 56 = .ok (.aload_n 0, 1) := by decide +kernel
theorem dX11_duel_57 : decode cX11_duel 57 = .ok (.getfield 114, 3) := by decide +kernel
theorem dX11_duel_60 : decode cX11_duel 60 = .ok (.iconst 0, 1) := by decide +kernel
theorem dX11_duel_61 : decode cX11_duel 61 = .ok (.iconst (-1), 1) := by decide +kernel
theorem dX11_duel_62 : decode cX11_duel 62 = .ok (.iastore, 1) := by decide +kernel
theorem dX11_duel_63 : decode cX11_duel 63 = .ok (.aload_n 0, 1) := by decide +kernel
theorem dX11_duel_64 : decode cX11_duel 64 = .ok (.getfield 117, 3) := by decide +kernel
theorem dX11_duel_67 : decode cX11_duel 67 = .ok (.iconst 0, 1) := by decide +kernel
theorem dX11_duel_68 : decode cX11_duel 68 = .ok (.sipush (-1000), 3) := by decide +kernel
theorem dX11_duel_71 : decode cX11_duel 71 = .ok (.iastore, 1) := by decide +kernel
theorem dX11_duel_72 : decode cX11_duel 72 = .ok (.iload 4, 2) := by decide +kernel
theorem dX11_duel_74 : decode cX11_duel 74 = .ok (.ifCond .lt 153, 3) := by decide +kernel
theorem dX11_duel_77 : decode cX11_duel 77 = .ok (.iload 4, 2) := by decide +kernel
theorem dX11_duel_79 : decode cX11_duel 79 = .ok (.iload_n 1, 1) := by decide +kernel
theorem dX11_duel_80 : decode cX11_duel 80 = .ok (.if_icmp .ge 12, 3) := by decide +kernel
theorem dX11_duel_83 : decode cX11_duel 83 = .ok (.aload_n 0, 1) := by decide +kernel
theorem dX11_duel_84 : decode cX11_duel 84 = .ok (.iload 4, 2) := by decide +kernel
theorem dX11_duel_86 : decode cX11_duel 86 = .ok (.invokevirtual 466, 3) := by decide +kernel
theorem dX11_duel_89 : decode cX11_duel 89 = .ok (.goto 5, 3) := by decide +kernel
theorem dX11_duel_92 : decode cX11_duel 92 = .ok (.bipush 16, 2) := by decide +kernel
theorem dX11_duel_94 : decode cX11_duel 94 = .ok (.istore 5, 2) := by decide +kernel
theorem dX11_duel_96 : decode cX11_duel 96 = .ok (.iload 4, 2) := by decide +kernel
theorem dX11_duel_98 : decode cX11_duel 98 = .ok (.iload_n 1, 1) := by decide +kernel
theorem dX11_duel_99 : decode cX11_duel 99 = .ok (.if_icmp .eq 17, 3) := by decide +kernel
theorem dX11_duel_102 : decode cX11_duel 102 = .ok (.iload 5, 2) := by decide +kernel
theorem dX11_duel_104 : decode cX11_duel 104 = .ok (.bipush 16, 2) := by decide +kernel
theorem dX11_duel_106 : decode cX11_duel 106 = .ok (.if_icmp .eq 10, 3) := by decide +kernel
theorem dX11_duel_109 : decode cX11_duel 109 = .ok (.iload 5, 2) := by decide +kernel
theorem dX11_duel_111 : decode cX11_duel 111 = .ok (.bipush 18, 2) := by decide +kernel
theorem dX11_duel_113 : decode cX11_duel 113 = .ok (.if_icmp .ne 56, 3) := by decide +kernel
theorem dX11_duel_116 : decode cX11_duel 116 = .ok (.iload 4, 2) := by decide +kernel
theorem dX11_duel_118 : decode cX11_duel 118 = .ok (.iload_n 1, 1) := by decide +kernel
theorem dX11_duel_119 : decode cX11_duel 119 = .ok (.if_icmp .ne 10, 3) := by decide +kernel
theorem dX11_duel_122 : decode cX11_duel 122 = .ok (.aload_n 0, 1) := by decide +kernel
theorem dX11_duel_123 : decode cX11_duel 123 = .ok (.invokevirtual 385, 3) := by decide +kernel
theorem dX11_duel_126 : decode cX11_duel 126 = .ok (.goto 10, 3) := by decide +kernel
theorem dX11_duel_129 : decode cX11_duel 129 = .ok (.aload_n 0, 1) := by decide +kernel
theorem dX11_duel_130 : decode cX11_duel 130 = .ok (.getfield 117, 3) := by decide +kernel
theorem dX11_duel_133 : decode cX11_duel 133 = .ok (.iload 4, 2) := by decide +kernel
theorem dX11_duel_135 : decode cX11_duel 135 = .ok (.iaload, 1) := by decide +kernel
theorem dX11_duel_136 : decode cX11_duel 136 = .ok (.istore 6, 2) := by decide +kernel
theorem dX11_duel_138 : decode cX11_duel 138 = .ok (.iinc 4 (-1), 3) := by decide +kernel
theorem dX11_duel_141 : decode cX11_duel 141 = .ok (.iload 4, 2) := by decide +kernel
theorem dX11_duel_143 : decode cX11_duel 143 = .ok (.ifCond .lt 23, 3) := by decide +kernel
theorem dX11_duel_146 : decode cX11_duel 146 = .ok (.aload_n 0, 1) := by decide +kernel
theorem dX11_duel_147 : decode cX11_duel 147 = .ok (.aload_n 0, 1) := by decide +kernel
theorem dX11_duel_148 : decode cX11_duel 148 = .ok (.getfield 114, 3) := by decide +kernel
theorem dX11_duel_151 : decode cX11_duel 151 = .ok (.iload 4, 2) := by decide +kernel
theorem dX11_duel_153 : decode cX11_duel 153 = .ok (.iaload, 1) := by decide +kernel
theorem dX11_duel_154 : decode cX11_duel 154 = .ok (.invokevirtual 469, 3) := by decide +kernel
theorem dX11_duel_157 : decode cX11_duel 157 = .ok (.aload_n 0, 1) := by decide +kernel
theorem dX11_duel_158 : decode cX11_duel 158 = .ok (.iload 4, 2) := by decide +kernel
theorem dX11_duel_160 : decode cX11_duel 160 = .ok (.iload_n 2, 1) := by decide +kernel
theorem dX11_duel_161 : decode cX11_duel 161 = .ok (.iload 6, 2) := by decide +kernel
theorem dX11_duel_163 : decode cX11_duel 163 = .ok (.invokevirtual 472, 3) := by decide +kernel
theorem dX11_duel_166 : decode cX11_duel 166 = .ok (.goto 58, 3) := by decide +kernel
theorem dX11_duel_169 : decode cX11_duel 169 = .ok (.aload_n 0, 1) := by decide +kernel
theorem dX11_duel_170 : decode cX11_duel 170 = .ok (.getfield 114, 3) := by decide +kernel
theorem dX11_duel_173 : decode cX11_duel 173 = .ok (.iload 4, 2) := by decide +kernel
theorem dX11_duel_175 : decode cX11_duel 175 = .ok (.iload 5, 2) := by decide +kernel
theorem dX11_duel_177 : decode cX11_duel 177 = .ok (.iastore, 1) := by decide +kernel
theorem dX11_duel_178 : decode cX11_duel 178 = .ok (.iload 5, 2) := by decide +kernel
theorem dX11_duel_180 : decode cX11_duel 180 = .ok (.bipush 16, 2) := by decide +kernel
theorem dX11_duel_182 : decode cX11_duel 182 = .ok (.if_icmp .ge 15, 3) := by decide +kernel
theorem dX11_duel_185 : decode cX11_duel 185 = .ok (.aload_n 0, 1) := by decide +kernel
theorem dX11_duel_186 : decode cX11_duel 186 = .ok (.iload 5, 2) := by decide +kernel
theorem dX11_duel_188 : decode cX11_duel 188 = .ok (.iconst 4, 1) := by decide +kernel
theorem dX11_duel_189 : decode cX11_duel 189 = .ok (.idiv, 1) := by decide +kernel
theorem dX11_duel_190 : decode cX11_duel 190 = .ok (.iload 5, 2) := by decide +kernel
theorem dX11_duel_192 : decode cX11_duel 192 = .ok (.iconst 4, 1) := by decide +kernel
theorem dX11_duel_193 : decode cX11_duel 193 = .ok (.irem, 1) := by decide +kernel
theorem dX11_duel_194 : decode cX11_duel 194 = .ok (.invokevirtual 367, 3) := by decide +kernel
theorem dX11_duel_197 : decode cX11_duel 197 = .ok (.iinc 4 1, 3) := by decide +kernel
theorem dX11_duel_200 : decode cX11_duel 200 = .ok (.iload 4, 2) := by decide +kernel
theorem dX11_duel_202 : decode cX11_duel 202 = .ok (.iload_n 1, 1) := by decide +kernel
theorem dX11_duel_203 : decode cX11_duel 203 = .ok (.if_icmp .ge 21, 3) := by decide +kernel
theorem dX11_duel_206 : decode cX11_duel 206 = .ok (.aload_n 0, 1) := by decide +kernel
theorem dX11_duel_207 : decode cX11_duel 207 = .ok (.getfield 114, 3) := by decide +kernel
theorem dX11_duel_210 : decode cX11_duel 210 = .ok (.iload 4, 2) := by decide +kernel
theorem dX11_duel_212 : decode cX11_duel 212 = .ok (.iconst (-1), 1) := by decide +kernel
theorem dX11_duel_213 : decode cX11_duel 213 = .ok (.iastore, 1) := by decide +kernel
theorem dX11_duel_214 : decode cX11_duel 214 = .ok (.aload_n 0, 1) := by decide +kernel
theorem dX11_duel_215 : decode cX11_duel 215 = .ok (.getfield 117, 3) := by decide +kernel
theorem dX11_duel_218 : decode cX11_duel 218 = .ok (.iload 4, 2) := by decide +kernel
theorem dX11_duel_220 : decode cX11_duel 220 = .ok (.sipush (-1000), 3) := by decide +kernel
theorem dX11_duel_223 : decode cX11_duel 223 = .ok (.iastore, 1) := by decide +kernel
theorem dX11_duel_224 : decode cX11_duel 224 = .ok (.goto (-152), 3) := by decide +kernel
theorem dX11_duel_227 : decode cX11_duel 227 = .ok (.iload_n 3, 1) := by decide +kernel
theorem dX11_duel_228 : decode cX11_duel 228 = .ok (.ifCond .ne 12, 3) := by decide +kernel
theorem dX11_duel_231 : decode cX11_duel 231 = .ok (.aload_n 0, 1) := by decide +kernel
theorem dX11_duel_232 : decode cX11_duel 232 = .ok (.getfield 117, 3) := by decide +kernel
theorem dX11_duel_235 : decode cX11_duel 235 = .ok (.iconst 0, 1) := by decide +kernel
theorem dX11_duel_236 : decode cX11_duel 236 = .ok (.iaload, 1) := by decide +kernel
theorem dX11_duel_237 : decode cX11_duel 237 = .ok (.goto 42, 3) := by decide +kernel
theorem dX11_duel_240 : decode cX11_duel 240 = .ok (.aload_n 0, 1) := by decide +kernel
theorem dX11_duel_241 : decode cX11_duel 241 = .ok (.getfield 120, 3) := by decide +kernel
theorem dX11_duel_244 : decode cX11_duel 244 = .ok (.iconst 0, 1) := by decide +kernel
theorem dX11_duel_245 : decode cX11_duel 245 = .ok (.iaload, 1) := by decide +kernel
theorem dX11_duel_246 : decode cX11_duel 246 = .ok (.bipush 15, 2) := by decide +kernel
theorem dX11_duel_248 : decode cX11_duel 248 = .ok (.if_icmp .le 7, 3) := by decide +kernel
theorem dX11_duel_251 : decode cX11_duel 251 = .ok (.iconst (-1), 1) := by decide +kernel
theorem dX11_duel_252 : decode cX11_duel 252 = .ok (.goto 27, 3) := by decide +kernel
theorem dX11_duel_255 : decode cX11_duel 255 = .ok (.iload_n 3, 1) := by decide +kernel
theorem dX11_duel_256 : decode cX11_duel 256 = .ok (.iconst 1, 1) := by decide +kernel
theorem dX11_duel_257 : decode cX11_duel 257 = .ok (.if_icmp .ne 14, 3) := by decide +kernel
theorem dX11_duel_260 : decode cX11_duel 260 = .ok (.aload_n 0, 1) := by decide +kernel
theorem dX11_duel_261 : decode cX11_duel 261 = .ok (.getfield 120, 3) := by decide +kernel
theorem dX11_duel_264 : decode cX11_duel 264 = .ok (.iconst 0, 1) := by decide +kernel
theorem dX11_duel_265 : decode cX11_duel 265 = .ok (.iaload, 1) := by decide +kernel
theorem dX11_duel_266 : decode cX11_duel 266 = .ok (.iconst 4, 1) := by decide +kernel
theorem dX11_duel_267 : decode cX11_duel 267 = .ok (.idiv, 1) := by decide +kernel
theorem dX11_duel_268 : decode cX11_duel 268 = .ok (.goto 11, 3) := by decide +kernel
theorem dX11_duel_271 : decode cX11_duel 271 = .ok (.aload_n 0, 1) := by decide +kernel
theorem dX11_duel_272 : decode cX11_duel 272 = .ok (.getfield 120, 3) := by decide +kernel
theorem dX11_duel_275 : decode cX11_duel 275 = .ok (.iconst 0, 1) := by decide +kernel
theorem dX11_duel_276 : decode cX11_duel 276 = .ok (.iaload, 1) := by decide +kernel
theorem dX11_duel_277 : decode cX11_duel 277 = .ok (.iconst 4, 1) := by decide +kernel
theorem dX11_duel_278 : decode cX11_duel 278 = .ok (.irem, 1) := by decide +kernel
theorem dX11_duel_279 : decode cX11_duel 279 = .ok (.ireturn, 1) := by decide +kernel
theorem zw_99 : (Jvm.Cond.selects "HillSchoolModel" ({ cls := "HillSchoolModel", name := "nextMove", desc := "(I)I" } : Jvm.MethodName) ({ cls := "HillSchoolModel", name := "nextMove", desc := "(I)I" } : Jvm.MethodName)) ∈ zall := zmemG (zmj_0 99 rfl) rfl
theorem zw_101 : (Jvm.Cond.selects "HillSchoolModel" ({ cls := "HillSchoolModel", name := "unmove", desc := "(I)V" } : Jvm.MethodName) ({ cls := "HillSchoolModel", name := "unmove", desc := "(I)V" } : Jvm.MethodName)) ∈ zall := zmemG (zmj_0 101 rfl) rfl
theorem zw_102 : (Jvm.Cond.selects "HillSchoolModel" ({ cls := "HillSchoolModel", name := "settle", desc := "(III)V" } : Jvm.MethodName) ({ cls := "HillSchoolModel", name := "settle", desc := "(III)V" } : Jvm.MethodName)) ∈ zall := zmemG (zmj_0 102 rfl) rfl
theorem zw_1745 : (Jvm.Cond.code ({ cls := "HillSchoolModel", name := "duel", desc := "(III)I" } : Jvm.MethodName) prog_13_method_107_code (7 : Nat) (Option.some Jvm.ClassFile.FieldType.int)) ∈ zall := zmemG (zmj_7 202 rfl) rfl
theorem zw_1746 : (Jvm.Cond.methodLink "HillSchoolModel" (466 : Nat) ({ cls := "HillSchoolModel", name := "nextMove", desc := "(I)I" } : Jvm.MethodName)) ∈ zall := zmemG (zmj_7 203 rfl) rfl
theorem zw_1748 : (Jvm.Cond.instanceMethod ({ cls := "HillSchoolModel", name := "nextMove", desc := "(I)I" } : Jvm.MethodName)) ∈ zall := zmemG (zmj_7 205 rfl) rfl
theorem zw_1754 : (Jvm.Cond.methodLink "HillSchoolModel" (469 : Nat) ({ cls := "HillSchoolModel", name := "unmove", desc := "(I)V" } : Jvm.MethodName)) ∈ zall := zmemG (zmj_7 211 rfl) rfl
theorem zw_1756 : (Jvm.Cond.instanceMethod ({ cls := "HillSchoolModel", name := "unmove", desc := "(I)V" } : Jvm.MethodName)) ∈ zall := zmemG (zmj_7 213 rfl) rfl
theorem zw_1758 : (Jvm.Cond.methodLink "HillSchoolModel" (472 : Nat) ({ cls := "HillSchoolModel", name := "settle", desc := "(III)V" } : Jvm.MethodName)) ∈ zall := zmemG (zmj_7 215 rfl) rfl
theorem zw_1760 : (Jvm.Cond.instanceMethod ({ cls := "HillSchoolModel", name := "settle", desc := "(III)V" } : Jvm.MethodName)) ∈ zall := zmemG (zmj_7 217 rfl) rfl
abbrev w_HM_duel : List Cond := .code yX11_duel cX11_duel 7 (some .int) :: zall
abbrev rm_HM_duel : Room := { frames := 7, cells := 0, slots := 0, locals := 173 }
theorem hd_HM_duel : yX11_duel.cls = "HillSchoolModel" ∧ yX11_duel.cls ≠ "java/lang/invoke/MethodHandle" ∧ yX11_duel.cls ≠ "java/lang/invoke/VarHandle" ∧ (parseMethodDescriptor yX11_duel.desc).map (fun d => d.parameters.length) = some 3 := by decide +kernel
def wd_HM_duel (cA : Nat → ClassId) (q0 q1 q2 q3 q4 q5 q6 q7 q8 q9 q10 q11 q12 q13 q14 q15 q16 q17 q18 q19 q20 q21 q22 q23 q24 q25 q26 q27 q28 q29 q30 q31 : Nat) (u0 u1 u2 u3 u4 u5 u6 u7 u8 u9 u10 u11 u12 u13 u14 u15 u16 : Int) (i_row : Nat → Int) (i_thrown : Int) (i_law : Int) (i_broken : Int) (i_value : Int) (i_sum : Int) (i_set : Nat → Int) (i_rest : Nat → Int) (i_high : Nat → Int) (i_heaps : Nat → Int) (i_tried : Nat → Int) (i_bests : Nat → Int) (i_firsts : Nat → Int) : va_W := [(q0, .inr (11, [.int (Int32.ofInt i_thrown), .int (Int32.ofInt u0), .ref q1, .ref q2, .ref q3, .ref q4, .int (Int32.ofInt u1), .ref q5, .int (Int32.ofInt u2), .int (Int32.ofInt u3), .int (Int32.ofInt u4), .int (Int32.ofInt u5), .long (Int64.ofInt u6), .int (Int32.ofInt u7), .int (Int32.ofInt u8), .int (Int32.ofInt u9), .ref q6, .int (Int32.ofInt u10), .ref q7, .ref q8, .int (Int32.ofInt u11), .ref q9, .ref q10, .int (Int32.ofInt u12), .int (Int32.ofInt u13), .ref q11, .int (Int32.ofInt i_law), .ref q12, .ref q13, .int (Int32.ofInt i_broken), .long (Int64.ofInt i_value), .long (Int64.ofInt i_sum), .ref q14, .ref q15, .ref q16, .ref q17, .ref q18, .int (Int32.ofInt u14), .ref q19, .ref q20, .ref q21, .ref q22, .ref q23, .ref q24, .ref q25, .ref q26, .ref q27, .ref q28, .ref q29, .ref q30, .long (Int64.ofInt u15), .ref q31, .int (Int32.ofInt u16)])), (q2, .inl (cA 0, 5580, .inl (za i_row))), (q12, .inl (cA 2, 13, .inr (.inl (zl i_set)))), (q13, .inl (cA 2, 400, .inr (.inl (zl i_rest)))), (q14, .inl (cA 0, 12, .inl (za i_high))), (q15, .inl (cA 0, 120, .inl (za i_heaps))), (q28, .inl (cA 0, 5, .inl (za i_tried))), (q29, .inl (cA 0, 5, .inl (za i_bests))), (q30, .inl (cA 0, 5, .inl (za i_firsts)))]
def wf_HM_duel (cA : Nat → ClassId) (q0 q1 q2 q3 q4 q5 q6 q7 q8 q9 q10 q11 q12 q13 q14 q15 q16 q17 q18 q19 q20 q21 q22 q23 q24 q25 q26 q27 q28 q29 q30 q31 : Nat) (u0 u1 u2 u3 u4 u5 u6 u7 u8 u9 u10 u11 u12 u13 u14 u15 u16 : Int) (i_row : Nat → Int) (o : Int × Int × Int × Int × Int × Int × (Nat → Int) × (Nat → Int) × (Nat → Int) × (Nat → Int) × (Nat → Int) × (Nat → Int) × (Nat → Int)) : va_W := wd_HM_duel cA q0 q1 q2 q3 q4 q5 q6 q7 q8 q9 q10 q11 q12 q13 q14 q15 q16 q17 q18 q19 q20 q21 q22 q23 q24 q25 q26 q27 q28 q29 q30 q31 u0 u1 u2 u3 u4 u5 u6 u7 u8 u9 u10 u11 u12 u13 u14 u15 u16 i_row o.2.1 o.2.2.1 o.2.2.2.1 o.2.2.2.2.1 o.2.2.2.2.2.1 o.2.2.2.2.2.2.1 o.2.2.2.2.2.2.2.1 o.2.2.2.2.2.2.2.2.1 o.2.2.2.2.2.2.2.2.2.1 o.2.2.2.2.2.2.2.2.2.2.1 o.2.2.2.2.2.2.2.2.2.2.2.1 o.2.2.2.2.2.2.2.2.2.2.2.2
def f_HM_duel_224 (i_row : Nat → Int) (k72 : Int → Int → Int → Int → Int → Int → Int → Int → Int → (Nat → Int) → (Nat → Int) → (Nat → Int) → (Nat → Int) → (Nat → Int) → (Nat → Int) → (Nat → Int) → Option (Int × Int × Int × Int × Int × Int × (Nat → Int) × (Nat → Int) × (Nat → Int) × (Nat → Int) × (Nat → Int) × (Nat → Int) × (Nat → Int))) (x1 : Int) (x2 : Int) (x3 : Int) (x4 : Int) (i_thrown : Int) (i_law : Int) (i_broken : Int) (i_value : Int) (i_sum : Int) (i_set : Nat → Int) (i_rest : Nat → Int) (i_high : Nat → Int) (i_heaps : Nat → Int) (i_tried : Nat → Int) (i_bests : Nat → Int) (i_firsts : Nat → Int) : Option (Int × Int × Int × Int × Int × Int × (Nat → Int) × (Nat → Int) × (Nat → Int) × (Nat → Int) × (Nat → Int) × (Nat → Int) × (Nat → Int)) :=
  k72 x1 x2 x3 x4 i_thrown i_law i_broken i_value i_sum i_set i_rest i_high i_heaps i_tried i_bests i_firsts
def f_HM_duel_166 (i_row : Nat → Int) (k72 : Int → Int → Int → Int → Int → Int → Int → Int → Int → (Nat → Int) → (Nat → Int) → (Nat → Int) → (Nat → Int) → (Nat → Int) → (Nat → Int) → (Nat → Int) → Option (Int × Int × Int × Int × Int × Int × (Nat → Int) × (Nat → Int) × (Nat → Int) × (Nat → Int) × (Nat → Int) × (Nat → Int) × (Nat → Int))) (x1 : Int) (x2 : Int) (x3 : Int) (x4 : Int) (i_thrown : Int) (i_law : Int) (i_broken : Int) (i_value : Int) (i_sum : Int) (i_set : Nat → Int) (i_rest : Nat → Int) (i_high : Nat → Int) (i_heaps : Nat → Int) (i_tried : Nat → Int) (i_bests : Nat → Int) (i_firsts : Nat → Int) : Option (Int × Int × Int × Int × Int × Int × (Nat → Int) × (Nat → Int) × (Nat → Int) × (Nat → Int) × (Nat → Int) × (Nat → Int) × (Nat → Int)) :=
  f_HM_duel_224 i_row k72 x1 x2 x3 x4 i_thrown i_law i_broken i_value i_sum i_set i_rest i_high i_heaps i_tried i_bests i_firsts
def f_HM_duel_136 (i_row : Nat → Int) (k72 : Int → Int → Int → Int → Int → Int → Int → Int → Int → (Nat → Int) → (Nat → Int) → (Nat → Int) → (Nat → Int) → (Nat → Int) → (Nat → Int) → (Nat → Int) → Option (Int × Int × Int × Int × Int × Int × (Nat → Int) × (Nat → Int) × (Nat → Int) × (Nat → Int) × (Nat → Int) × (Nat → Int) × (Nat → Int))) (x1 : Int) (x2 : Int) (x3 : Int) (x4 : Int) (s0 : Int) (i_thrown : Int) (i_law : Int) (i_broken : Int) (i_value : Int) (i_sum : Int) (i_set : Nat → Int) (i_rest : Nat → Int) (i_high : Nat → Int) (i_heaps : Nat → Int) (i_tried : Nat → Int) (i_bests : Nat → Int) (i_firsts : Nat → Int) : Option (Int × Int × Int × Int × Int × Int × (Nat → Int) × (Nat → Int) × (Nat → Int) × (Nat → Int) × (Nat → Int) × (Nat → Int) × (Nat → Int)) :=
  zn (x4 + (-1)) fun v1 =>
  if zi_w v1 < 0 then
    f_HM_duel_166 i_row k72 x1 x2 x3 v1 i_thrown i_law i_broken i_value i_sum i_set i_rest i_high i_heaps i_tried i_bests i_firsts
  else
    zg 5 i_tried v1 fun v2 =>
    zd2 (f_HM_unmove v2 i_high i_heaps) fun a3 a4 =>
    zd2 (f_HM_settlex v1 x2 s0 i_tried i_bests i_firsts) fun a5 a6 =>
    f_HM_duel_166 i_row k72 x1 x2 x3 v1 i_thrown i_law i_broken i_value i_sum i_set i_rest a3 a4 i_tried a5 a6
def f_HM_duel_116 (i_row : Nat → Int) (k72 : Int → Int → Int → Int → Int → Int → Int → Int → Int → (Nat → Int) → (Nat → Int) → (Nat → Int) → (Nat → Int) → (Nat → Int) → (Nat → Int) → (Nat → Int) → Option (Int × Int × Int × Int × Int × Int × (Nat → Int) × (Nat → Int) × (Nat → Int) × (Nat → Int) × (Nat → Int) × (Nat → Int) × (Nat → Int))) (x1 : Int) (x2 : Int) (x3 : Int) (x4 : Int) (i_thrown : Int) (i_law : Int) (i_broken : Int) (i_value : Int) (i_sum : Int) (i_set : Nat → Int) (i_rest : Nat → Int) (i_high : Nat → Int) (i_heaps : Nat → Int) (i_tried : Nat → Int) (i_bests : Nat → Int) (i_firsts : Nat → Int) : Option (Int × Int × Int × Int × Int × Int × (Nat → Int) × (Nat → Int) × (Nat → Int) × (Nat → Int) × (Nat → Int) × (Nat → Int) × (Nat → Int)) :=
  if zi_w x4 ≠ zi_w x1 then
    zg 5 i_bests x4 fun v1 =>
    f_HM_duel_136 i_row k72 x1 x2 x3 x4 v1 i_thrown i_law i_broken i_value i_sum i_set i_rest i_high i_heaps i_tried i_bests i_firsts
  else
    zd1 (f_HM_allShades i_row i_high) fun v2 =>
    f_HM_duel_136 i_row k72 x1 x2 x3 x4 v2 i_thrown i_law i_broken i_value i_sum i_set i_rest i_high i_heaps i_tried i_bests i_firsts
def f_HM_duel_197 (i_row : Nat → Int) (k72 : Int → Int → Int → Int → Int → Int → Int → Int → Int → (Nat → Int) → (Nat → Int) → (Nat → Int) → (Nat → Int) → (Nat → Int) → (Nat → Int) → (Nat → Int) → Option (Int × Int × Int × Int × Int × Int × (Nat → Int) × (Nat → Int) × (Nat → Int) × (Nat → Int) × (Nat → Int) × (Nat → Int) × (Nat → Int))) (x1 : Int) (x2 : Int) (x3 : Int) (x4 : Int) (i_thrown : Int) (i_law : Int) (i_broken : Int) (i_value : Int) (i_sum : Int) (i_set : Nat → Int) (i_rest : Nat → Int) (i_high : Nat → Int) (i_heaps : Nat → Int) (i_tried : Nat → Int) (i_bests : Nat → Int) (i_firsts : Nat → Int) : Option (Int × Int × Int × Int × Int × Int × (Nat → Int) × (Nat → Int) × (Nat → Int) × (Nat → Int) × (Nat → Int) × (Nat → Int) × (Nat → Int)) :=
  zn (x4 + 1) fun v1 =>
  if zi_w x1 ≤ zi_w v1 then
    f_HM_duel_224 i_row k72 x1 x2 x3 v1 i_thrown i_law i_broken i_value i_sum i_set i_rest i_high i_heaps i_tried i_bests i_firsts
  else
    zs 5 i_tried v1 (-1) fun a2 =>
    zs 5 i_bests v1 (-1000) fun a3 =>
    f_HM_duel_224 i_row k72 x1 x2 x3 v1 i_thrown i_law i_broken i_value i_sum i_set i_rest i_high i_heaps a2 a3 i_firsts
def f_HM_duel_94 (i_row : Nat → Int) (k72 : Int → Int → Int → Int → Int → Int → Int → Int → Int → (Nat → Int) → (Nat → Int) → (Nat → Int) → (Nat → Int) → (Nat → Int) → (Nat → Int) → (Nat → Int) → Option (Int × Int × Int × Int × Int × Int × (Nat → Int) × (Nat → Int) × (Nat → Int) × (Nat → Int) × (Nat → Int) × (Nat → Int) × (Nat → Int))) (x1 : Int) (x2 : Int) (x3 : Int) (x4 : Int) (s0 : Int) (i_thrown : Int) (i_law : Int) (i_broken : Int) (i_value : Int) (i_sum : Int) (i_set : Nat → Int) (i_rest : Nat → Int) (i_high : Nat → Int) (i_heaps : Nat → Int) (i_tried : Nat → Int) (i_bests : Nat → Int) (i_firsts : Nat → Int) : Option (Int × Int × Int × Int × Int × Int × (Nat → Int) × (Nat → Int) × (Nat → Int) × (Nat → Int) × (Nat → Int) × (Nat → Int) × (Nat → Int)) :=
  if zi_w x4 = zi_w x1 then
    f_HM_duel_116 i_row k72 x1 x2 x3 x4 i_thrown i_law i_broken i_value i_sum i_set i_rest i_high i_heaps i_tried i_bests i_firsts
  else
    if zi_w s0 = zi_w 16 then
      f_HM_duel_116 i_row k72 x1 x2 x3 x4 i_thrown i_law i_broken i_value i_sum i_set i_rest i_high i_heaps i_tried i_bests i_firsts
    else
      if zi_w s0 ≠ zi_w 18 then
        zs 5 i_tried x4 s0 fun a1 =>
        if zi_w 16 ≤ zi_w s0 then
          f_HM_duel_197 i_row k72 x1 x2 x3 x4 i_thrown i_law i_broken i_value i_sum i_set i_rest i_high i_heaps a1 i_bests i_firsts
        else
          if zi_w 4 = 0 then none else zn (zi_div s0 4) fun v2 =>
          if zi_w 4 = 0 then none else zn (zi_rem s0 4) fun v3 =>
          zd2 (f_HM_shift v2 v3 i_high i_heaps) fun a4 a5 =>
          f_HM_duel_197 i_row k72 x1 x2 x3 x4 i_thrown i_law i_broken i_value i_sum i_set i_rest a4 a5 a1 i_bests i_firsts
      else
        f_HM_duel_116 i_row k72 x1 x2 x3 x4 i_thrown i_law i_broken i_value i_sum i_set i_rest i_high i_heaps i_tried i_bests i_firsts
def f_HM_duel_72_b (i_row : Nat → Int) (k72 : Int → Int → Int → Int → Int → Int → Int → Int → Int → (Nat → Int) → (Nat → Int) → (Nat → Int) → (Nat → Int) → (Nat → Int) → (Nat → Int) → (Nat → Int) → Option (Int × Int × Int × Int × Int × Int × (Nat → Int) × (Nat → Int) × (Nat → Int) × (Nat → Int) × (Nat → Int) × (Nat → Int) × (Nat → Int))) (x1 : Int) (x2 : Int) (x3 : Int) (x4 : Int) (i_thrown : Int) (i_law : Int) (i_broken : Int) (i_value : Int) (i_sum : Int) (i_set : Nat → Int) (i_rest : Nat → Int) (i_high : Nat → Int) (i_heaps : Nat → Int) (i_tried : Nat → Int) (i_bests : Nat → Int) (i_firsts : Nat → Int) : Option (Int × Int × Int × Int × Int × Int × (Nat → Int) × (Nat → Int) × (Nat → Int) × (Nat → Int) × (Nat → Int) × (Nat → Int) × (Nat → Int)) :=
  if zi_w x4 < 0 then
    if zi_w x3 ≠ 0 then
      zg 5 i_firsts 0 fun v1 =>
      if zi_w v1 ≤ zi_w 15 then
        if zi_w x3 ≠ zi_w 1 then
          zg 5 i_firsts 0 fun v2 =>
          if zi_w 4 = 0 then none else zn (zi_rem v2 4) fun v3 =>
          some (v3, i_thrown, i_law, i_broken, i_value, i_sum, i_set, i_rest, i_high, i_heaps, i_tried, i_bests, i_firsts)
        else
          zg 5 i_firsts 0 fun v4 =>
          if zi_w 4 = 0 then none else zn (zi_div v4 4) fun v5 =>
          some (v5, i_thrown, i_law, i_broken, i_value, i_sum, i_set, i_rest, i_high, i_heaps, i_tried, i_bests, i_firsts)
      else
        some ((-1), i_thrown, i_law, i_broken, i_value, i_sum, i_set, i_rest, i_high, i_heaps, i_tried, i_bests, i_firsts)
    else
      zg 5 i_bests 0 fun v6 =>
      some (v6, i_thrown, i_law, i_broken, i_value, i_sum, i_set, i_rest, i_high, i_heaps, i_tried, i_bests, i_firsts)
  else
    if zi_w x1 ≤ zi_w x4 then
      f_HM_duel_94 i_row k72 x1 x2 x3 x4 16 i_thrown i_law i_broken i_value i_sum i_set i_rest i_high i_heaps i_tried i_bests i_firsts
    else
      zd7 (f_HM_nextMove x4 i_row i_high i_heaps i_tried i_bests i_law i_broken i_value i_sum i_set i_rest) fun v7 v8 v9 v10 v11 a12 a13 =>
      f_HM_duel_94 i_row k72 x1 x2 x3 x4 v7 i_thrown v8 v9 v10 v11 a12 a13 i_high i_heaps i_tried i_bests i_firsts
def f_HM_duel_72 (i_row : Nat → Int) : Nat → Int → Int → Int → Int → Int → Int → Int → Int → Int → (Nat → Int) → (Nat → Int) → (Nat → Int) → (Nat → Int) → (Nat → Int) → (Nat → Int) → (Nat → Int) → Option (Int × Int × Int × Int × Int × Int × (Nat → Int) × (Nat → Int) × (Nat → Int) × (Nat → Int) × (Nat → Int) × (Nat → Int) × (Nat → Int))
  | 0 => fun _ _ _ _ _ _ _ _ _ _ _ _ _ _ _ _ => none
  | n + 1 => fun y0 y1 y2 y3 y4 y5 y6 y7 y8 y9 y10 y11 y12 y13 y14 y15 => f_HM_duel_72_b i_row (f_HM_duel_72 i_row n) y0 y1 y2 y3 y4 y5 y6 y7 y8 y9 y10 y11 y12 y13 y14 y15
def f_HM_duel (x1 : Int) (x2 : Int) (x3 : Int) (i_row : Nat → Int) (i_thrown : Int) (i_law : Int) (i_broken : Int) (i_value : Int) (i_sum : Int) (i_set : Nat → Int) (i_rest : Nat → Int) (i_high : Nat → Int) (i_heaps : Nat → Int) (i_tried : Nat → Int) (i_bests : Nat → Int) (i_firsts : Nat → Int) : Option (Int × Int × Int × Int × Int × Int × (Nat → Int) × (Nat → Int) × (Nat → Int) × (Nat → Int) × (Nat → Int) × (Nat → Int) × (Nat → Int)) :=
  zn (zi_w x1) fun v1 =>
  zd1 (f_HM_in v1 1 4) fun v2 =>
  if zi_w v2 = 0 then
    some ((-1), 0, i_law, i_broken, i_value, i_sum, i_set, i_rest, i_high, i_heaps, i_tried, i_bests, i_firsts)
  else
    zn (zi_w x2) fun v3 =>
    zd1 (f_HM_in v3 0 1) fun v4 =>
    if zi_w v4 = 0 then
      some ((-1), 0, i_law, i_broken, i_value, i_sum, i_set, i_rest, i_high, i_heaps, i_tried, i_bests, i_firsts)
    else
      zn (zi_w x3) fun v5 =>
      zd1 (f_HM_in v5 0 2) fun v6 =>
      if zi_w v6 = 0 then
        some ((-1), 0, i_law, i_broken, i_value, i_sum, i_set, i_rest, i_high, i_heaps, i_tried, i_bests, i_firsts)
      else
        zd1 (f_HM_columns i_row) fun v7 =>
        if zi_w v7 ≤ zi_w 4 then
          zd2 (f_HM_load i_row i_high i_heaps) fun a8 a9 =>
          zs 5 i_tried 0 (-1) fun a10 =>
          zs 5 i_bests 0 (-1000) fun a11 =>
          f_HM_duel_72 i_row zfu x1 x2 x3 0 0 i_law i_broken i_value i_sum i_set i_rest a8 a9 a10 a11 i_firsts
        else
          some ((-1), 0, i_law, i_broken, i_value, i_sum, i_set, i_rest, i_high, i_heaps, i_tried, i_bests, i_firsts)
set_option maxHeartbeats 4000000 in
set_option maxRecDepth 100000 in
theorem c_HM_duel (l : Launch) (ev : zEv) (dC : Nat → ClassId) (dI : Nat → Nat → Nat) (cA : Nat → ClassId) (q0 q1 q2 q3 q4 q5 q6 q7 q8 q9 q10 q11 q12 q13 q14 q15 q16 q17 q18 q19 q20 q21 q22 q23 q24 q25 q26 q27 q28 q29 q30 q31 : Nat) (u0 u1 u2 u3 u4 u5 u6 u7 u8 u9 u10 u11 u12 u13 u14 u15 u16 : Int) {x1 x2 x3 : Int} {i_row : Nat → Int} {i_thrown : Int} {i_law : Int} {i_broken : Int} {i_value : Int} {i_sum : Int} {i_set : Nat → Int} {i_rest : Nat → Int} {i_high : Nat → Int} {i_heaps : Nat → Int} {i_tried : Nat → Int} {i_bests : Nat → Int} {i_firsts : Nat → Int} {out : Int × Int × Int × Int × Int × Int × (Nat → Int) × (Nat → Int) × (Nat → Int) × (Nat → Int) × (Nat → Int) × (Nat → Int) × (Nat → Int)} (hf : f_HM_duel x1 x2 x3 i_row i_thrown i_law i_broken i_value i_sum i_set i_rest i_high i_heaps i_tried i_bests i_firsts = some out) : xc_I l ev (dC, dI) vwCl (tyl cA) yX11_duel w_HM_duel rm_HM_duel [.ref q0, .int (Int32.ofInt x1), .int (Int32.ofInt x2), .int (Int32.ofInt x3)] (wd_HM_duel cA q0 q1 q2 q3 q4 q5 q6 q7 q8 q9 q10 q11 q12 q13 q14 q15 q16 q17 q18 q19 q20 q21 q22 q23 q24 q25 q26 q27 q28 q29 q30 q31 u0 u1 u2 u3 u4 u5 u6 u7 u8 u9 u10 u11 u12 u13 u14 u15 u16 i_row i_thrown i_law i_broken i_value i_sum i_set i_rest i_high i_heaps i_tried i_bests i_firsts) (wf_HM_duel cA q0 q1 q2 q3 q4 q5 q6 q7 q8 q9 q10 q11 q12 q13 q14 q15 q16 q17 q18 q19 q20 q21 q22 q23 q24 q25 q26 q27 q28 q29 q30 q31 u0 u1 u2 u3 u4 u5 u6 u7 u8 u9 u10 u11 u12 u13 u14 u15 u16 i_row out) out.1 := by
  refine xv_startI (cc := cX11_duel) (maxL := 7) (rt := .int) (by decide +kernel) rfl (Nat.le_of_ble_eq_true rfl) ?_
  intro p e s m args below meth c A Q H ls hx hb hml hts hown hK hA hP hD hS hl hE hret
  have hown : s.vm.findClass "HillSchoolModel" = some m.cls := hown
  have hz : ∀ w ∈ zall, w.before args s = true := fun w h => hts w (List.mem_cons_of_mem _ h)
  have hl : lv_has ls 7 [(0, .ref q0), (1, .int (Int32.ofInt x1)), (2, .int (Int32.ofInt x2)), (3, .int (Int32.ofInt x3))] := hl
  have b_224 : ∀ (k72 : Int → Int → Int → Int → Int → Int → Int → Int → Int → (Nat → Int) → (Nat → Int) → (Nat → Int) → (Nat → Int) → (Nat → Int) → (Nat → Int) → (Nat → Int) → Option (Int × Int × Int × Int × Int × Int × (Nat → Int) × (Nat → Int) × (Nat → Int) × (Nat → Int) × (Nat → Int) × (Nat → Int) × (Nat → Int))) (_ : ∀ (x1 : Int) (x2 : Int) (x3 : Int) (x4 : Int) (i_thrown : Int) (i_law : Int) (i_broken : Int) (i_value : Int) (i_sum : Int) (i_set : Nat → Int) (i_rest : Nat → Int) (i_high : Nat → Int) (i_heaps : Nat → Int) (i_tried : Nat → Int) (i_bests : Nat → Int) (i_firsts : Nat → Int) (H : Heap) (locs : List Loc) (ls : Array Slot), k72 x1 x2 x3 x4 i_thrown i_law i_broken i_value i_sum i_set i_rest i_high i_heaps i_tried i_bests i_firsts = some out → va_P (dC, dI) vwCl (wd_HM_duel cA q0 q1 q2 q3 q4 q5 q6 q7 q8 q9 q10 q11 q12 q13 q14 q15 q16 q17 q18 q19 q20 q21 q22 q23 q24 q25 q26 q27 q28 q29 q30 q31 u0 u1 u2 u3 u4 u5 u6 u7 u8 u9 u10 u11 u12 u13 u14 u15 u16 i_row i_thrown i_law i_broken i_value i_sum i_set i_rest i_high i_heaps i_tried i_bests i_firsts) H → va_D A (wd_HM_duel cA q0 q1 q2 q3 q4 q5 q6 q7 q8 q9 q10 q11 q12 q13 q14 q15 q16 q17 q18 q19 q20 q21 q22 q23 q24 q25 q26 q27 q28 q29 q30 q31 u0 u1 u2 u3 u4 u5 u6 u7 u8 u9 u10 u11 u12 u13 u14 u15 u16 i_row i_thrown i_law i_broken i_value i_sum i_set i_rest i_high i_heaps i_tried i_bests i_firsts) → va_S A s.heap H locs → lv_has ls 7 [(0, .ref q0), (1, .int (Int32.ofInt x1)), (2, .int (Int32.ofInt x2)), (3, .int (Int32.ofInt x3)), (4, .int (Int32.ofInt x4))] → W p l e rm_HM_duel s m args below meth c H locs 0 0 Q (F0 m 72 ls [])), ∀ (x1 : Int) (x2 : Int) (x3 : Int) (x4 : Int) (i_thrown : Int) (i_law : Int) (i_broken : Int) (i_value : Int) (i_sum : Int) (i_set : Nat → Int) (i_rest : Nat → Int) (i_high : Nat → Int) (i_heaps : Nat → Int) (i_tried : Nat → Int) (i_bests : Nat → Int) (i_firsts : Nat → Int) (H : Heap) (locs : List Loc) (ls : Array Slot), f_HM_duel_224 i_row k72 x1 x2 x3 x4 i_thrown i_law i_broken i_value i_sum i_set i_rest i_high i_heaps i_tried i_bests i_firsts = some out → va_P (dC, dI) vwCl (wd_HM_duel cA q0 q1 q2 q3 q4 q5 q6 q7 q8 q9 q10 q11 q12 q13 q14 q15 q16 q17 q18 q19 q20 q21 q22 q23 q24 q25 q26 q27 q28 q29 q30 q31 u0 u1 u2 u3 u4 u5 u6 u7 u8 u9 u10 u11 u12 u13 u14 u15 u16 i_row i_thrown i_law i_broken i_value i_sum i_set i_rest i_high i_heaps i_tried i_bests i_firsts) H → va_D A (wd_HM_duel cA q0 q1 q2 q3 q4 q5 q6 q7 q8 q9 q10 q11 q12 q13 q14 q15 q16 q17 q18 q19 q20 q21 q22 q23 q24 q25 q26 q27 q28 q29 q30 q31 u0 u1 u2 u3 u4 u5 u6 u7 u8 u9 u10 u11 u12 u13 u14 u15 u16 i_row i_thrown i_law i_broken i_value i_sum i_set i_rest i_high i_heaps i_tried i_bests i_firsts) → va_S A s.heap H locs → lv_has ls 7 [(0, .ref q0), (1, .int (Int32.ofInt x1)), (2, .int (Int32.ofInt x2)), (3, .int (Int32.ofInt x3)), (4, .int (Int32.ofInt x4))] → W p l e rm_HM_duel s m args below meth c H locs 0 0 Q (F0 m 224 ls []) := by
    intro k72 ih72 x1 x2 x3 x4 i_thrown i_law i_broken i_value i_sum i_set i_rest i_high i_heaps i_tried i_bests i_firsts H locs ls hf hP hD hS hl
    unfold f_HM_duel_224 at hf
    refine lv_goto (tgt := 72) hx hb dX11_duel_224 (by decide) ?_
    exact ih72 _ _ _ _ _ _ _ _ _ _ _ _ _ _ _ _ _ _ _ hf hP hD hS (lv_sub hl [0, 1, 2, 3, 4] rfl)
  have b_166 : ∀ (k72 : Int → Int → Int → Int → Int → Int → Int → Int → Int → (Nat → Int) → (Nat → Int) → (Nat → Int) → (Nat → Int) → (Nat → Int) → (Nat → Int) → (Nat → Int) → Option (Int × Int × Int × Int × Int × Int × (Nat → Int) × (Nat → Int) × (Nat → Int) × (Nat → Int) × (Nat → Int) × (Nat → Int) × (Nat → Int))) (_ : ∀ (x1 : Int) (x2 : Int) (x3 : Int) (x4 : Int) (i_thrown : Int) (i_law : Int) (i_broken : Int) (i_value : Int) (i_sum : Int) (i_set : Nat → Int) (i_rest : Nat → Int) (i_high : Nat → Int) (i_heaps : Nat → Int) (i_tried : Nat → Int) (i_bests : Nat → Int) (i_firsts : Nat → Int) (H : Heap) (locs : List Loc) (ls : Array Slot), k72 x1 x2 x3 x4 i_thrown i_law i_broken i_value i_sum i_set i_rest i_high i_heaps i_tried i_bests i_firsts = some out → va_P (dC, dI) vwCl (wd_HM_duel cA q0 q1 q2 q3 q4 q5 q6 q7 q8 q9 q10 q11 q12 q13 q14 q15 q16 q17 q18 q19 q20 q21 q22 q23 q24 q25 q26 q27 q28 q29 q30 q31 u0 u1 u2 u3 u4 u5 u6 u7 u8 u9 u10 u11 u12 u13 u14 u15 u16 i_row i_thrown i_law i_broken i_value i_sum i_set i_rest i_high i_heaps i_tried i_bests i_firsts) H → va_D A (wd_HM_duel cA q0 q1 q2 q3 q4 q5 q6 q7 q8 q9 q10 q11 q12 q13 q14 q15 q16 q17 q18 q19 q20 q21 q22 q23 q24 q25 q26 q27 q28 q29 q30 q31 u0 u1 u2 u3 u4 u5 u6 u7 u8 u9 u10 u11 u12 u13 u14 u15 u16 i_row i_thrown i_law i_broken i_value i_sum i_set i_rest i_high i_heaps i_tried i_bests i_firsts) → va_S A s.heap H locs → lv_has ls 7 [(0, .ref q0), (1, .int (Int32.ofInt x1)), (2, .int (Int32.ofInt x2)), (3, .int (Int32.ofInt x3)), (4, .int (Int32.ofInt x4))] → W p l e rm_HM_duel s m args below meth c H locs 0 0 Q (F0 m 72 ls [])), ∀ (x1 : Int) (x2 : Int) (x3 : Int) (x4 : Int) (i_thrown : Int) (i_law : Int) (i_broken : Int) (i_value : Int) (i_sum : Int) (i_set : Nat → Int) (i_rest : Nat → Int) (i_high : Nat → Int) (i_heaps : Nat → Int) (i_tried : Nat → Int) (i_bests : Nat → Int) (i_firsts : Nat → Int) (H : Heap) (locs : List Loc) (ls : Array Slot), f_HM_duel_166 i_row k72 x1 x2 x3 x4 i_thrown i_law i_broken i_value i_sum i_set i_rest i_high i_heaps i_tried i_bests i_firsts = some out → va_P (dC, dI) vwCl (wd_HM_duel cA q0 q1 q2 q3 q4 q5 q6 q7 q8 q9 q10 q11 q12 q13 q14 q15 q16 q17 q18 q19 q20 q21 q22 q23 q24 q25 q26 q27 q28 q29 q30 q31 u0 u1 u2 u3 u4 u5 u6 u7 u8 u9 u10 u11 u12 u13 u14 u15 u16 i_row i_thrown i_law i_broken i_value i_sum i_set i_rest i_high i_heaps i_tried i_bests i_firsts) H → va_D A (wd_HM_duel cA q0 q1 q2 q3 q4 q5 q6 q7 q8 q9 q10 q11 q12 q13 q14 q15 q16 q17 q18 q19 q20 q21 q22 q23 q24 q25 q26 q27 q28 q29 q30 q31 u0 u1 u2 u3 u4 u5 u6 u7 u8 u9 u10 u11 u12 u13 u14 u15 u16 i_row i_thrown i_law i_broken i_value i_sum i_set i_rest i_high i_heaps i_tried i_bests i_firsts) → va_S A s.heap H locs → lv_has ls 7 [(0, .ref q0), (1, .int (Int32.ofInt x1)), (2, .int (Int32.ofInt x2)), (3, .int (Int32.ofInt x3)), (4, .int (Int32.ofInt x4))] → W p l e rm_HM_duel s m args below meth c H locs 0 0 Q (F0 m 166 ls []) := by
    intro k72 ih72 x1 x2 x3 x4 i_thrown i_law i_broken i_value i_sum i_set i_rest i_high i_heaps i_tried i_bests i_firsts H locs ls hf hP hD hS hl
    unfold f_HM_duel_166 at hf
    refine lv_goto (tgt := 224) hx hb dX11_duel_166 (by decide) ?_
    exact b_224 _ ih72 _ _ _ _ _ _ _ _ _ _ _ _ _ _ _ _ _ _ _ hf hP hD hS (lv_sub hl [0, 1, 2, 3, 4] rfl)
  have b_136 : ∀ (k72 : Int → Int → Int → Int → Int → Int → Int → Int → Int → (Nat → Int) → (Nat → Int) → (Nat → Int) → (Nat → Int) → (Nat → Int) → (Nat → Int) → (Nat → Int) → Option (Int × Int × Int × Int × Int × Int × (Nat → Int) × (Nat → Int) × (Nat → Int) × (Nat → Int) × (Nat → Int) × (Nat → Int) × (Nat → Int))) (_ : ∀ (x1 : Int) (x2 : Int) (x3 : Int) (x4 : Int) (i_thrown : Int) (i_law : Int) (i_broken : Int) (i_value : Int) (i_sum : Int) (i_set : Nat → Int) (i_rest : Nat → Int) (i_high : Nat → Int) (i_heaps : Nat → Int) (i_tried : Nat → Int) (i_bests : Nat → Int) (i_firsts : Nat → Int) (H : Heap) (locs : List Loc) (ls : Array Slot), k72 x1 x2 x3 x4 i_thrown i_law i_broken i_value i_sum i_set i_rest i_high i_heaps i_tried i_bests i_firsts = some out → va_P (dC, dI) vwCl (wd_HM_duel cA q0 q1 q2 q3 q4 q5 q6 q7 q8 q9 q10 q11 q12 q13 q14 q15 q16 q17 q18 q19 q20 q21 q22 q23 q24 q25 q26 q27 q28 q29 q30 q31 u0 u1 u2 u3 u4 u5 u6 u7 u8 u9 u10 u11 u12 u13 u14 u15 u16 i_row i_thrown i_law i_broken i_value i_sum i_set i_rest i_high i_heaps i_tried i_bests i_firsts) H → va_D A (wd_HM_duel cA q0 q1 q2 q3 q4 q5 q6 q7 q8 q9 q10 q11 q12 q13 q14 q15 q16 q17 q18 q19 q20 q21 q22 q23 q24 q25 q26 q27 q28 q29 q30 q31 u0 u1 u2 u3 u4 u5 u6 u7 u8 u9 u10 u11 u12 u13 u14 u15 u16 i_row i_thrown i_law i_broken i_value i_sum i_set i_rest i_high i_heaps i_tried i_bests i_firsts) → va_S A s.heap H locs → lv_has ls 7 [(0, .ref q0), (1, .int (Int32.ofInt x1)), (2, .int (Int32.ofInt x2)), (3, .int (Int32.ofInt x3)), (4, .int (Int32.ofInt x4))] → W p l e rm_HM_duel s m args below meth c H locs 0 0 Q (F0 m 72 ls [])), ∀ (x1 : Int) (x2 : Int) (x3 : Int) (x4 : Int) (s0 : Int) (i_thrown : Int) (i_law : Int) (i_broken : Int) (i_value : Int) (i_sum : Int) (i_set : Nat → Int) (i_rest : Nat → Int) (i_high : Nat → Int) (i_heaps : Nat → Int) (i_tried : Nat → Int) (i_bests : Nat → Int) (i_firsts : Nat → Int) (H : Heap) (locs : List Loc) (ls : Array Slot), f_HM_duel_136 i_row k72 x1 x2 x3 x4 s0 i_thrown i_law i_broken i_value i_sum i_set i_rest i_high i_heaps i_tried i_bests i_firsts = some out → va_P (dC, dI) vwCl (wd_HM_duel cA q0 q1 q2 q3 q4 q5 q6 q7 q8 q9 q10 q11 q12 q13 q14 q15 q16 q17 q18 q19 q20 q21 q22 q23 q24 q25 q26 q27 q28 q29 q30 q31 u0 u1 u2 u3 u4 u5 u6 u7 u8 u9 u10 u11 u12 u13 u14 u15 u16 i_row i_thrown i_law i_broken i_value i_sum i_set i_rest i_high i_heaps i_tried i_bests i_firsts) H → va_D A (wd_HM_duel cA q0 q1 q2 q3 q4 q5 q6 q7 q8 q9 q10 q11 q12 q13 q14 q15 q16 q17 q18 q19 q20 q21 q22 q23 q24 q25 q26 q27 q28 q29 q30 q31 u0 u1 u2 u3 u4 u5 u6 u7 u8 u9 u10 u11 u12 u13 u14 u15 u16 i_row i_thrown i_law i_broken i_value i_sum i_set i_rest i_high i_heaps i_tried i_bests i_firsts) → va_S A s.heap H locs → lv_has ls 7 [(0, .ref q0), (1, .int (Int32.ofInt x1)), (2, .int (Int32.ofInt x2)), (3, .int (Int32.ofInt x3)), (4, .int (Int32.ofInt x4))] → W p l e rm_HM_duel s m args below meth c H locs 0 0 Q (F0 m 136 ls [.int (Int32.ofInt s0)]) := by
    intro k72 ih72 x1 x2 x3 x4 s0 i_thrown i_law i_broken i_value i_sum i_set i_rest i_high i_heaps i_tried i_bests i_firsts H locs ls hf hP hD hS hl
    unfold f_HM_duel_136 at hf
    refine lv_istore (lv' := [(6, .int (Int32.ofInt s0)), (0, .ref q0), (1, .int (Int32.ofInt x1)), (2, .int (Int32.ofInt x2)), (3, .int (Int32.ofInt x3)), (4, .int (Int32.ofInt x4))]) hx hb dX11_duel_136 hl (by decide) rfl (fun ls hl => ?_)
    refine xi_iinc hx hb dX11_duel_138 hl (k := 5) rfl (by decide) hf (fun v1 ls hl hf => ?_)
    have hl : lv_has ls 7 [(4, .int (Int32.ofInt v1)), (6, .int (Int32.ofInt s0)), (0, .ref q0), (1, .int (Int32.ofInt x1)), (2, .int (Int32.ofInt x2)), (3, .int (Int32.ofInt x3))] := hl
    refine lv_iload hx hb dX11_duel_141 (lv_at hl 0 rfl) ?_
    refine xi_if_lt (tgt := 166) hx hb dX11_duel_143 (by decide) hf (fun hf => ?_) (fun hf => ?_)
    · exact b_166 _ ih72 _ _ _ _ _ _ _ _ _ _ _ _ _ _ _ _ _ _ _ hf hP hD hS (lv_sub hl [2, 3, 4, 5, 0] rfl)
    · refine lv_aload_n hx hb dX11_duel_146 rfl (lv_at hl 2 rfl) ?_
      refine lv_aload_n hx hb dX11_duel_147 rfl (lv_at hl 2 rfl) ?_
      refine va_get (D := (dC, dI)) (ci := 11) (v := .ref q28) (C := RX11) (T := TX11) (N := 53) hx hb hz zi_X11 hown hK hP 0 rfl rfl 47 (by decide) (hz _ zw_1212) (fun _ h9 => h9) rfl dX11_duel_148 ?_
      refine lv_iload hx hb dX11_duel_151 (lv_at hl 0 rfl) ?_
      refine xi_iald hx hb hK hP 6 0 rfl rfl dX11_duel_153 hf (fun v2 hf => ?_)
      refine xe_d2 hf (fun a3 a4 hg hf => ?_)
      have hC : ([0, 4, 5] : List Nat).map (fun i => (wd_HM_duel cA q0 q1 q2 q3 q4 q5 q6 q7 q8 q9 q10 q11 q12 q13 q14 q15 q16 q17 q18 q19 q20 q21 q22 q23 q24 q25 q26 q27 q28 q29 q30 q31 u0 u1 u2 u3 u4 u5 u6 u7 u8 u9 u10 u11 u12 u13 u14 u15 u16 i_row i_thrown i_law i_broken i_value i_sum i_set i_rest i_high i_heaps i_tried i_bests i_firsts)[i]?) = (wd_HM_unmove cA q0 q1 q2 q3 q4 q5 q6 q7 q8 q9 q10 q11 q12 q13 q14 q15 q16 q17 q18 q19 q20 q21 q22 q23 q24 q25 q26 q27 q28 q29 q30 q31 i_thrown u0 u1 u2 u3 u4 u5 u6 u7 u8 u9 u10 u11 u12 u13 i_law i_broken i_value i_sum u14 u15 u16 i_high i_heaps).map some := rfl
      refine xv_afterV (ws' := (wd_HM_duel cA q0 q1 q2 q3 q4 q5 q6 q7 q8 q9 q10 q11 q12 q13 q14 q15 q16 q17 q18 q19 q20 q21 q22 q23 q24 q25 q26 q27 q28 q29 q30 q31 u0 u1 u2 u3 u4 u5 u6 u7 u8 u9 u10 u11 u12 u13 u14 u15 u16 i_row i_thrown i_law i_broken i_value i_sum i_set i_rest a3 a4 i_tried i_bests i_firsts)) (isC := [0, 4, 5]) (ps := [some 0, none, none, none, some 1, some 2, none, none, none]) (va_runV (As := [.int (Int32.ofInt v2)]) (rest := []) ⟨hx, hb, hml, hown, hts⟩ (c_HM_unmove l ev dC dI cA q0 q1 q2 q3 q4 q5 q6 q7 q8 q9 q10 q11 q12 q13 q14 q15 q16 q17 q18 q19 q20 q21 q22 q23 q24 q25 q26 q27 q28 q29 q30 q31 i_thrown u0 u1 u2 u3 u4 u5 u6 u7 u8 u9 u10 u11 u12 u13 i_law i_broken i_value i_sum u14 u15 u16 hg H.size) (cwV 1 hts (zgV zw_1754 zw_1756 zw_101 zw_115 zw_1757) rfl rfl rfl hd_HM_unmove ⟨Nat.le_of_ble_eq_true rfl, Nat.le_of_ble_eq_true rfl⟩) (xv_preV (T := TX11) (N := 53) hE hA hS hK hP hD (isC := [0, 4, 5]) (by decide +kernel) hC (q0 := 0) (ci := 11) rfl rfl) rfl rfl hl.1 rfl (lv_room (Nat.le_of_ble_eq_true rfl)) dX11_duel_154 ⟨Nat.le_refl _, Nat.le_refl _⟩) hP hD hS hA (by decide +kernel) rfl hC rfl rfl (fun H locs hP hD hS => ?_)
      refine lv_aload_n hx hb dX11_duel_157 rfl (lv_at hl 2 rfl) ?_
      refine lv_iload hx hb dX11_duel_158 (lv_at hl 0 rfl) ?_
      refine lv_iload_n hx hb dX11_duel_160 rfl (lv_at hl 4 rfl) ?_
      refine lv_iload hx hb dX11_duel_161 (lv_at hl 1 rfl) ?_
      refine xe_d2 hf (fun a5 a6 hg hf => ?_)
      have hC : ([0, 6, 7, 8] : List Nat).map (fun i => (wd_HM_duel cA q0 q1 q2 q3 q4 q5 q6 q7 q8 q9 q10 q11 q12 q13 q14 q15 q16 q17 q18 q19 q20 q21 q22 q23 q24 q25 q26 q27 q28 q29 q30 q31 u0 u1 u2 u3 u4 u5 u6 u7 u8 u9 u10 u11 u12 u13 u14 u15 u16 i_row i_thrown i_law i_broken i_value i_sum i_set i_rest a3 a4 i_tried i_bests i_firsts)[i]?) = (wd_HM_settlex cA q0 q1 q2 q3 q4 q5 q6 q7 q8 q9 q10 q11 q12 q13 q14 q15 q16 q17 q18 q19 q20 q21 q22 q23 q24 q25 q26 q27 q28 q29 q30 q31 i_thrown u0 u1 u2 u3 u4 u5 u6 u7 u8 u9 u10 u11 u12 u13 i_law i_broken i_value i_sum u14 u15 u16 i_tried i_bests i_firsts).map some := rfl
      refine xv_afterV (ws' := (wd_HM_duel cA q0 q1 q2 q3 q4 q5 q6 q7 q8 q9 q10 q11 q12 q13 q14 q15 q16 q17 q18 q19 q20 q21 q22 q23 q24 q25 q26 q27 q28 q29 q30 q31 u0 u1 u2 u3 u4 u5 u6 u7 u8 u9 u10 u11 u12 u13 u14 u15 u16 i_row i_thrown i_law i_broken i_value i_sum i_set i_rest a3 a4 i_tried a5 a6)) (isC := [0, 6, 7, 8]) (ps := [some 0, none, none, none, none, none, some 1, some 2, some 3]) (va_runV (As := [.int (Int32.ofInt v1), .int (Int32.ofInt x2), .int (Int32.ofInt s0)]) (rest := []) ⟨hx, hb, hml, hown, hts⟩ (c_HM_settlex l ev dC dI cA q0 q1 q2 q3 q4 q5 q6 q7 q8 q9 q10 q11 q12 q13 q14 q15 q16 q17 q18 q19 q20 q21 q22 q23 q24 q25 q26 q27 q28 q29 q30 q31 i_thrown u0 u1 u2 u3 u4 u5 u6 u7 u8 u9 u10 u11 u12 u13 i_law i_broken i_value i_sum u14 u15 u16 hg H.size) (cwV 3 hts (zgV zw_1758 zw_1760 zw_102 zw_115 zw_1761) rfl rfl rfl hd_HM_settlex ⟨Nat.le_of_ble_eq_true rfl, Nat.le_of_ble_eq_true rfl⟩) (xv_preV (T := TX11) (N := 53) hE hA hS hK hP hD (isC := [0, 6, 7, 8]) (by decide +kernel) hC (q0 := 0) (ci := 11) rfl rfl) rfl rfl hl.1 rfl (lv_room (Nat.le_of_ble_eq_true rfl)) dX11_duel_163 ⟨Nat.le_refl _, Nat.le_refl _⟩) hP hD hS hA (by decide +kernel) rfl hC rfl rfl (fun H locs hP hD hS => ?_)
      exact b_166 _ ih72 _ _ _ _ _ _ _ _ _ _ _ _ _ _ _ _ _ _ _ hf hP hD hS (lv_sub hl [2, 3, 4, 5, 0] rfl)
  have b_116 : ∀ (k72 : Int → Int → Int → Int → Int → Int → Int → Int → Int → (Nat → Int) → (Nat → Int) → (Nat → Int) → (Nat → Int) → (Nat → Int) → (Nat → Int) → (Nat → Int) → Option (Int × Int × Int × Int × Int × Int × (Nat → Int) × (Nat → Int) × (Nat → Int) × (Nat → Int) × (Nat → Int) × (Nat → Int) × (Nat → Int))) (_ : ∀ (x1 : Int) (x2 : Int) (x3 : Int) (x4 : Int) (i_thrown : Int) (i_law : Int) (i_broken : Int) (i_value : Int) (i_sum : Int) (i_set : Nat → Int) (i_rest : Nat → Int) (i_high : Nat → Int) (i_heaps : Nat → Int) (i_tried : Nat → Int) (i_bests : Nat → Int) (i_firsts : Nat → Int) (H : Heap) (locs : List Loc) (ls : Array Slot), k72 x1 x2 x3 x4 i_thrown i_law i_broken i_value i_sum i_set i_rest i_high i_heaps i_tried i_bests i_firsts = some out → va_P (dC, dI) vwCl (wd_HM_duel cA q0 q1 q2 q3 q4 q5 q6 q7 q8 q9 q10 q11 q12 q13 q14 q15 q16 q17 q18 q19 q20 q21 q22 q23 q24 q25 q26 q27 q28 q29 q30 q31 u0 u1 u2 u3 u4 u5 u6 u7 u8 u9 u10 u11 u12 u13 u14 u15 u16 i_row i_thrown i_law i_broken i_value i_sum i_set i_rest i_high i_heaps i_tried i_bests i_firsts) H → va_D A (wd_HM_duel cA q0 q1 q2 q3 q4 q5 q6 q7 q8 q9 q10 q11 q12 q13 q14 q15 q16 q17 q18 q19 q20 q21 q22 q23 q24 q25 q26 q27 q28 q29 q30 q31 u0 u1 u2 u3 u4 u5 u6 u7 u8 u9 u10 u11 u12 u13 u14 u15 u16 i_row i_thrown i_law i_broken i_value i_sum i_set i_rest i_high i_heaps i_tried i_bests i_firsts) → va_S A s.heap H locs → lv_has ls 7 [(0, .ref q0), (1, .int (Int32.ofInt x1)), (2, .int (Int32.ofInt x2)), (3, .int (Int32.ofInt x3)), (4, .int (Int32.ofInt x4))] → W p l e rm_HM_duel s m args below meth c H locs 0 0 Q (F0 m 72 ls [])), ∀ (x1 : Int) (x2 : Int) (x3 : Int) (x4 : Int) (i_thrown : Int) (i_law : Int) (i_broken : Int) (i_value : Int) (i_sum : Int) (i_set : Nat → Int) (i_rest : Nat → Int) (i_high : Nat → Int) (i_heaps : Nat → Int) (i_tried : Nat → Int) (i_bests : Nat → Int) (i_firsts : Nat → Int) (H : Heap) (locs : List Loc) (ls : Array Slot), f_HM_duel_116 i_row k72 x1 x2 x3 x4 i_thrown i_law i_broken i_value i_sum i_set i_rest i_high i_heaps i_tried i_bests i_firsts = some out → va_P (dC, dI) vwCl (wd_HM_duel cA q0 q1 q2 q3 q4 q5 q6 q7 q8 q9 q10 q11 q12 q13 q14 q15 q16 q17 q18 q19 q20 q21 q22 q23 q24 q25 q26 q27 q28 q29 q30 q31 u0 u1 u2 u3 u4 u5 u6 u7 u8 u9 u10 u11 u12 u13 u14 u15 u16 i_row i_thrown i_law i_broken i_value i_sum i_set i_rest i_high i_heaps i_tried i_bests i_firsts) H → va_D A (wd_HM_duel cA q0 q1 q2 q3 q4 q5 q6 q7 q8 q9 q10 q11 q12 q13 q14 q15 q16 q17 q18 q19 q20 q21 q22 q23 q24 q25 q26 q27 q28 q29 q30 q31 u0 u1 u2 u3 u4 u5 u6 u7 u8 u9 u10 u11 u12 u13 u14 u15 u16 i_row i_thrown i_law i_broken i_value i_sum i_set i_rest i_high i_heaps i_tried i_bests i_firsts) → va_S A s.heap H locs → lv_has ls 7 [(0, .ref q0), (1, .int (Int32.ofInt x1)), (2, .int (Int32.ofInt x2)), (3, .int (Int32.ofInt x3)), (4, .int (Int32.ofInt x4))] → W p l e rm_HM_duel s m args below meth c H locs 0 0 Q (F0 m 116 ls []) := by
    intro k72 ih72 x1 x2 x3 x4 i_thrown i_law i_broken i_value i_sum i_set i_rest i_high i_heaps i_tried i_bests i_firsts H locs ls hf hP hD hS hl
    unfold f_HM_duel_116 at hf
    refine lv_iload hx hb dX11_duel_116 (lv_at hl 4 rfl) ?_
    refine lv_iload_n hx hb dX11_duel_118 rfl (lv_at hl 1 rfl) ?_
    refine xi_icmp_ne (tgt := 129) hx hb dX11_duel_119 (by decide) hf (fun hf => ?_) (fun hf => ?_)
    · refine lv_aload_n hx hb dX11_duel_129 rfl (lv_at hl 0 rfl) ?_
      refine va_get (D := (dC, dI)) (ci := 11) (v := .ref q29) (C := RX11) (T := TX11) (N := 53) hx hb hz zi_X11 hown hK hP 0 rfl rfl 48 (by decide) (hz _ zw_1213) (fun _ h9 => h9) rfl dX11_duel_130 ?_
      refine lv_iload hx hb dX11_duel_133 (lv_at hl 4 rfl) ?_
      refine xi_iald hx hb hK hP 7 0 rfl rfl dX11_duel_135 hf (fun v1 hf => ?_)
      exact b_136 _ ih72 _ _ _ _ _ _ _ _ _ _ _ _ _ _ _ _ _ _ _ _ hf hP hD hS (lv_sub hl [0, 1, 2, 3, 4] rfl)
    · refine lv_aload_n hx hb dX11_duel_122 rfl (lv_at hl 0 rfl) ?_
      refine xe_d1 hf (fun v2 hg hf => ?_)
      have hC : ([0, 1, 4] : List Nat).map (fun i => (wd_HM_duel cA q0 q1 q2 q3 q4 q5 q6 q7 q8 q9 q10 q11 q12 q13 q14 q15 q16 q17 q18 q19 q20 q21 q22 q23 q24 q25 q26 q27 q28 q29 q30 q31 u0 u1 u2 u3 u4 u5 u6 u7 u8 u9 u10 u11 u12 u13 u14 u15 u16 i_row i_thrown i_law i_broken i_value i_sum i_set i_rest i_high i_heaps i_tried i_bests i_firsts)[i]?) = (wd_HM_allShades cA q0 q1 q2 q3 q4 q5 q6 q7 q8 q9 q10 q11 q12 q13 q14 q15 q16 q17 q18 q19 q20 q21 q22 q23 q24 q25 q26 q27 q28 q29 q30 q31 i_thrown u0 u1 u2 u3 u4 u5 u6 u7 u8 u9 u10 u11 u12 u13 i_law i_broken i_value i_sum u14 u15 u16 i_row i_high).map some := rfl
      refine xv_afterI (ws' := (wd_HM_duel cA q0 q1 q2 q3 q4 q5 q6 q7 q8 q9 q10 q11 q12 q13 q14 q15 q16 q17 q18 q19 q20 q21 q22 q23 q24 q25 q26 q27 q28 q29 q30 q31 u0 u1 u2 u3 u4 u5 u6 u7 u8 u9 u10 u11 u12 u13 u14 u15 u16 i_row i_thrown i_law i_broken i_value i_sum i_set i_rest i_high i_heaps i_tried i_bests i_firsts)) (isC := [0, 1, 4]) (ps := [some 0, some 1, none, none, some 2, none, none, none, none]) (va_runV (As := []) (rest := []) ⟨hx, hb, hml, hown, hts⟩ (c_HM_allShades l ev dC dI cA q0 q1 q2 q3 q4 q5 q6 q7 q8 q9 q10 q11 q12 q13 q14 q15 q16 q17 q18 q19 q20 q21 q22 q23 q24 q25 q26 q27 q28 q29 q30 q31 i_thrown u0 u1 u2 u3 u4 u5 u6 u7 u8 u9 u10 u11 u12 u13 i_law i_broken i_value i_sum u14 u15 u16 hg H.size) (cwV 0 hts (zgV zw_1626 zw_1628 zw_78 zw_115 zw_1629) rfl rfl rfl hd_HM_allShades ⟨Nat.le_of_ble_eq_true rfl, Nat.le_of_ble_eq_true rfl⟩) (xv_preV (T := TX11) (N := 53) hE hA hS hK hP hD (isC := [0, 1, 4]) (by decide +kernel) hC (q0 := 0) (ci := 11) rfl rfl) rfl rfl hl.1 rfl (lv_room (Nat.le_of_ble_eq_true rfl)) dX11_duel_123 ⟨Nat.le_refl _, Nat.le_refl _⟩) hP hD hS hA (by decide +kernel) rfl hC rfl rfl (fun H locs hP hD hS => ?_)
      refine lv_goto (tgt := 136) hx hb dX11_duel_126 (by decide) ?_
      exact b_136 _ ih72 _ _ _ _ _ _ _ _ _ _ _ _ _ _ _ _ _ _ _ _ hf hP hD hS (lv_sub hl [0, 1, 2, 3, 4] rfl)
  have b_197 : ∀ (k72 : Int → Int → Int → Int → Int → Int → Int → Int → Int → (Nat → Int) → (Nat → Int) → (Nat → Int) → (Nat → Int) → (Nat → Int) → (Nat → Int) → (Nat → Int) → Option (Int × Int × Int × Int × Int × Int × (Nat → Int) × (Nat → Int) × (Nat → Int) × (Nat → Int) × (Nat → Int) × (Nat → Int) × (Nat → Int))) (_ : ∀ (x1 : Int) (x2 : Int) (x3 : Int) (x4 : Int) (i_thrown : Int) (i_law : Int) (i_broken : Int) (i_value : Int) (i_sum : Int) (i_set : Nat → Int) (i_rest : Nat → Int) (i_high : Nat → Int) (i_heaps : Nat → Int) (i_tried : Nat → Int) (i_bests : Nat → Int) (i_firsts : Nat → Int) (H : Heap) (locs : List Loc) (ls : Array Slot), k72 x1 x2 x3 x4 i_thrown i_law i_broken i_value i_sum i_set i_rest i_high i_heaps i_tried i_bests i_firsts = some out → va_P (dC, dI) vwCl (wd_HM_duel cA q0 q1 q2 q3 q4 q5 q6 q7 q8 q9 q10 q11 q12 q13 q14 q15 q16 q17 q18 q19 q20 q21 q22 q23 q24 q25 q26 q27 q28 q29 q30 q31 u0 u1 u2 u3 u4 u5 u6 u7 u8 u9 u10 u11 u12 u13 u14 u15 u16 i_row i_thrown i_law i_broken i_value i_sum i_set i_rest i_high i_heaps i_tried i_bests i_firsts) H → va_D A (wd_HM_duel cA q0 q1 q2 q3 q4 q5 q6 q7 q8 q9 q10 q11 q12 q13 q14 q15 q16 q17 q18 q19 q20 q21 q22 q23 q24 q25 q26 q27 q28 q29 q30 q31 u0 u1 u2 u3 u4 u5 u6 u7 u8 u9 u10 u11 u12 u13 u14 u15 u16 i_row i_thrown i_law i_broken i_value i_sum i_set i_rest i_high i_heaps i_tried i_bests i_firsts) → va_S A s.heap H locs → lv_has ls 7 [(0, .ref q0), (1, .int (Int32.ofInt x1)), (2, .int (Int32.ofInt x2)), (3, .int (Int32.ofInt x3)), (4, .int (Int32.ofInt x4))] → W p l e rm_HM_duel s m args below meth c H locs 0 0 Q (F0 m 72 ls [])), ∀ (x1 : Int) (x2 : Int) (x3 : Int) (x4 : Int) (i_thrown : Int) (i_law : Int) (i_broken : Int) (i_value : Int) (i_sum : Int) (i_set : Nat → Int) (i_rest : Nat → Int) (i_high : Nat → Int) (i_heaps : Nat → Int) (i_tried : Nat → Int) (i_bests : Nat → Int) (i_firsts : Nat → Int) (H : Heap) (locs : List Loc) (ls : Array Slot), f_HM_duel_197 i_row k72 x1 x2 x3 x4 i_thrown i_law i_broken i_value i_sum i_set i_rest i_high i_heaps i_tried i_bests i_firsts = some out → va_P (dC, dI) vwCl (wd_HM_duel cA q0 q1 q2 q3 q4 q5 q6 q7 q8 q9 q10 q11 q12 q13 q14 q15 q16 q17 q18 q19 q20 q21 q22 q23 q24 q25 q26 q27 q28 q29 q30 q31 u0 u1 u2 u3 u4 u5 u6 u7 u8 u9 u10 u11 u12 u13 u14 u15 u16 i_row i_thrown i_law i_broken i_value i_sum i_set i_rest i_high i_heaps i_tried i_bests i_firsts) H → va_D A (wd_HM_duel cA q0 q1 q2 q3 q4 q5 q6 q7 q8 q9 q10 q11 q12 q13 q14 q15 q16 q17 q18 q19 q20 q21 q22 q23 q24 q25 q26 q27 q28 q29 q30 q31 u0 u1 u2 u3 u4 u5 u6 u7 u8 u9 u10 u11 u12 u13 u14 u15 u16 i_row i_thrown i_law i_broken i_value i_sum i_set i_rest i_high i_heaps i_tried i_bests i_firsts) → va_S A s.heap H locs → lv_has ls 7 [(0, .ref q0), (1, .int (Int32.ofInt x1)), (2, .int (Int32.ofInt x2)), (3, .int (Int32.ofInt x3)), (4, .int (Int32.ofInt x4))] → W p l e rm_HM_duel s m args below meth c H locs 0 0 Q (F0 m 197 ls []) := by
    intro k72 ih72 x1 x2 x3 x4 i_thrown i_law i_broken i_value i_sum i_set i_rest i_high i_heaps i_tried i_bests i_firsts H locs ls hf hP hD hS hl
    unfold f_HM_duel_197 at hf
    refine xi_iinc hx hb dX11_duel_197 hl (k := 4) rfl (by decide) hf (fun v1 ls hl hf => ?_)
    have hl : lv_has ls 7 [(4, .int (Int32.ofInt v1)), (0, .ref q0), (1, .int (Int32.ofInt x1)), (2, .int (Int32.ofInt x2)), (3, .int (Int32.ofInt x3))] := hl
    refine lv_iload hx hb dX11_duel_200 (lv_at hl 0 rfl) ?_
    refine lv_iload_n hx hb dX11_duel_202 rfl (lv_at hl 2 rfl) ?_
    refine xi_icmp_ge (tgt := 224) hx hb dX11_duel_203 (by decide) hf (fun hf => ?_) (fun hf => ?_)
    · exact b_224 _ ih72 _ _ _ _ _ _ _ _ _ _ _ _ _ _ _ _ _ _ _ hf hP hD hS (lv_sub hl [1, 2, 3, 4, 0] rfl)
    · refine lv_aload_n hx hb dX11_duel_206 rfl (lv_at hl 1 rfl) ?_
      refine va_get (D := (dC, dI)) (ci := 11) (v := .ref q28) (C := RX11) (T := TX11) (N := 53) hx hb hz zi_X11 hown hK hP 0 rfl rfl 47 (by decide) (hz _ zw_1212) (fun _ h9 => h9) rfl dX11_duel_207 ?_
      refine lv_iload hx hb dX11_duel_210 (lv_at hl 0 rfl) ?_
      refine lv_iconst (v := Int32.ofInt (-1)) hx hb dX11_duel_212 rfl ?_
      refine xi_iast hx hb hK hP hD hS 6 0 rfl rfl dX11_duel_213 hf (fun a2 H locs hP hD hS hf => ?_)
      have hP : va_P (dC, dI) vwCl (wd_HM_duel cA q0 q1 q2 q3 q4 q5 q6 q7 q8 q9 q10 q11 q12 q13 q14 q15 q16 q17 q18 q19 q20 q21 q22 q23 q24 q25 q26 q27 q28 q29 q30 q31 u0 u1 u2 u3 u4 u5 u6 u7 u8 u9 u10 u11 u12 u13 u14 u15 u16 i_row i_thrown i_law i_broken i_value i_sum i_set i_rest i_high i_heaps a2 i_bests i_firsts) H := hP
      have hD : va_D A (wd_HM_duel cA q0 q1 q2 q3 q4 q5 q6 q7 q8 q9 q10 q11 q12 q13 q14 q15 q16 q17 q18 q19 q20 q21 q22 q23 q24 q25 q26 q27 q28 q29 q30 q31 u0 u1 u2 u3 u4 u5 u6 u7 u8 u9 u10 u11 u12 u13 u14 u15 u16 i_row i_thrown i_law i_broken i_value i_sum i_set i_rest i_high i_heaps a2 i_bests i_firsts) := hD
      refine lv_aload_n hx hb dX11_duel_214 rfl (lv_at hl 1 rfl) ?_
      refine va_get (D := (dC, dI)) (ci := 11) (v := .ref q29) (C := RX11) (T := TX11) (N := 53) hx hb hz zi_X11 hown hK hP 0 rfl rfl 48 (by decide) (hz _ zw_1213) (fun _ h9 => h9) rfl dX11_duel_215 ?_
      refine lv_iload hx hb dX11_duel_218 (lv_at hl 0 rfl) ?_
      refine lv_sipush (v := Int32.ofInt (-1000)) hx hb dX11_duel_220 (by decide) ?_
      refine xi_iast hx hb hK hP hD hS 7 0 rfl rfl dX11_duel_223 hf (fun a3 H locs hP hD hS hf => ?_)
      have hP : va_P (dC, dI) vwCl (wd_HM_duel cA q0 q1 q2 q3 q4 q5 q6 q7 q8 q9 q10 q11 q12 q13 q14 q15 q16 q17 q18 q19 q20 q21 q22 q23 q24 q25 q26 q27 q28 q29 q30 q31 u0 u1 u2 u3 u4 u5 u6 u7 u8 u9 u10 u11 u12 u13 u14 u15 u16 i_row i_thrown i_law i_broken i_value i_sum i_set i_rest i_high i_heaps a2 a3 i_firsts) H := hP
      have hD : va_D A (wd_HM_duel cA q0 q1 q2 q3 q4 q5 q6 q7 q8 q9 q10 q11 q12 q13 q14 q15 q16 q17 q18 q19 q20 q21 q22 q23 q24 q25 q26 q27 q28 q29 q30 q31 u0 u1 u2 u3 u4 u5 u6 u7 u8 u9 u10 u11 u12 u13 u14 u15 u16 i_row i_thrown i_law i_broken i_value i_sum i_set i_rest i_high i_heaps a2 a3 i_firsts) := hD
      exact b_224 _ ih72 _ _ _ _ _ _ _ _ _ _ _ _ _ _ _ _ _ _ _ hf hP hD hS (lv_sub hl [1, 2, 3, 4, 0] rfl)
  have b_94 : ∀ (k72 : Int → Int → Int → Int → Int → Int → Int → Int → Int → (Nat → Int) → (Nat → Int) → (Nat → Int) → (Nat → Int) → (Nat → Int) → (Nat → Int) → (Nat → Int) → Option (Int × Int × Int × Int × Int × Int × (Nat → Int) × (Nat → Int) × (Nat → Int) × (Nat → Int) × (Nat → Int) × (Nat → Int) × (Nat → Int))) (_ : ∀ (x1 : Int) (x2 : Int) (x3 : Int) (x4 : Int) (i_thrown : Int) (i_law : Int) (i_broken : Int) (i_value : Int) (i_sum : Int) (i_set : Nat → Int) (i_rest : Nat → Int) (i_high : Nat → Int) (i_heaps : Nat → Int) (i_tried : Nat → Int) (i_bests : Nat → Int) (i_firsts : Nat → Int) (H : Heap) (locs : List Loc) (ls : Array Slot), k72 x1 x2 x3 x4 i_thrown i_law i_broken i_value i_sum i_set i_rest i_high i_heaps i_tried i_bests i_firsts = some out → va_P (dC, dI) vwCl (wd_HM_duel cA q0 q1 q2 q3 q4 q5 q6 q7 q8 q9 q10 q11 q12 q13 q14 q15 q16 q17 q18 q19 q20 q21 q22 q23 q24 q25 q26 q27 q28 q29 q30 q31 u0 u1 u2 u3 u4 u5 u6 u7 u8 u9 u10 u11 u12 u13 u14 u15 u16 i_row i_thrown i_law i_broken i_value i_sum i_set i_rest i_high i_heaps i_tried i_bests i_firsts) H → va_D A (wd_HM_duel cA q0 q1 q2 q3 q4 q5 q6 q7 q8 q9 q10 q11 q12 q13 q14 q15 q16 q17 q18 q19 q20 q21 q22 q23 q24 q25 q26 q27 q28 q29 q30 q31 u0 u1 u2 u3 u4 u5 u6 u7 u8 u9 u10 u11 u12 u13 u14 u15 u16 i_row i_thrown i_law i_broken i_value i_sum i_set i_rest i_high i_heaps i_tried i_bests i_firsts) → va_S A s.heap H locs → lv_has ls 7 [(0, .ref q0), (1, .int (Int32.ofInt x1)), (2, .int (Int32.ofInt x2)), (3, .int (Int32.ofInt x3)), (4, .int (Int32.ofInt x4))] → W p l e rm_HM_duel s m args below meth c H locs 0 0 Q (F0 m 72 ls [])), ∀ (x1 : Int) (x2 : Int) (x3 : Int) (x4 : Int) (s0 : Int) (i_thrown : Int) (i_law : Int) (i_broken : Int) (i_value : Int) (i_sum : Int) (i_set : Nat → Int) (i_rest : Nat → Int) (i_high : Nat → Int) (i_heaps : Nat → Int) (i_tried : Nat → Int) (i_bests : Nat → Int) (i_firsts : Nat → Int) (H : Heap) (locs : List Loc) (ls : Array Slot), f_HM_duel_94 i_row k72 x1 x2 x3 x4 s0 i_thrown i_law i_broken i_value i_sum i_set i_rest i_high i_heaps i_tried i_bests i_firsts = some out → va_P (dC, dI) vwCl (wd_HM_duel cA q0 q1 q2 q3 q4 q5 q6 q7 q8 q9 q10 q11 q12 q13 q14 q15 q16 q17 q18 q19 q20 q21 q22 q23 q24 q25 q26 q27 q28 q29 q30 q31 u0 u1 u2 u3 u4 u5 u6 u7 u8 u9 u10 u11 u12 u13 u14 u15 u16 i_row i_thrown i_law i_broken i_value i_sum i_set i_rest i_high i_heaps i_tried i_bests i_firsts) H → va_D A (wd_HM_duel cA q0 q1 q2 q3 q4 q5 q6 q7 q8 q9 q10 q11 q12 q13 q14 q15 q16 q17 q18 q19 q20 q21 q22 q23 q24 q25 q26 q27 q28 q29 q30 q31 u0 u1 u2 u3 u4 u5 u6 u7 u8 u9 u10 u11 u12 u13 u14 u15 u16 i_row i_thrown i_law i_broken i_value i_sum i_set i_rest i_high i_heaps i_tried i_bests i_firsts) → va_S A s.heap H locs → lv_has ls 7 [(0, .ref q0), (1, .int (Int32.ofInt x1)), (2, .int (Int32.ofInt x2)), (3, .int (Int32.ofInt x3)), (4, .int (Int32.ofInt x4))] → W p l e rm_HM_duel s m args below meth c H locs 0 0 Q (F0 m 94 ls [.int (Int32.ofInt s0)]) := by
    intro k72 ih72 x1 x2 x3 x4 s0 i_thrown i_law i_broken i_value i_sum i_set i_rest i_high i_heaps i_tried i_bests i_firsts H locs ls hf hP hD hS hl
    unfold f_HM_duel_94 at hf
    refine lv_istore (lv' := [(5, .int (Int32.ofInt s0)), (0, .ref q0), (1, .int (Int32.ofInt x1)), (2, .int (Int32.ofInt x2)), (3, .int (Int32.ofInt x3)), (4, .int (Int32.ofInt x4))]) hx hb dX11_duel_94 hl (by decide) rfl (fun ls hl => ?_)
    refine lv_iload hx hb dX11_duel_96 (lv_at hl 5 rfl) ?_
    refine lv_iload_n hx hb dX11_duel_98 rfl (lv_at hl 2 rfl) ?_
    refine xi_icmp_eq (tgt := 116) hx hb dX11_duel_99 (by decide) hf (fun hf => ?_) (fun hf => ?_)
    · exact b_116 _ ih72 _ _ _ _ _ _ _ _ _ _ _ _ _ _ _ _ _ _ _ hf hP hD hS (lv_sub hl [1, 2, 3, 4, 5] rfl)
    · refine lv_iload hx hb dX11_duel_102 (lv_at hl 0 rfl) ?_
      refine lv_bipush (v := Int32.ofInt 16) hx hb dX11_duel_104 (by decide) ?_
      refine xi_icmp_eq (tgt := 116) hx hb dX11_duel_106 (by decide) hf (fun hf => ?_) (fun hf => ?_)
      · exact b_116 _ ih72 _ _ _ _ _ _ _ _ _ _ _ _ _ _ _ _ _ _ _ hf hP hD hS (lv_sub hl [1, 2, 3, 4, 5] rfl)
      · refine lv_iload hx hb dX11_duel_109 (lv_at hl 0 rfl) ?_
        refine lv_bipush (v := Int32.ofInt 18) hx hb dX11_duel_111 (by decide) ?_
        refine xi_icmp_ne (tgt := 169) hx hb dX11_duel_113 (by decide) hf (fun hf => ?_) (fun hf => ?_)
        · refine lv_aload_n hx hb dX11_duel_169 rfl (lv_at hl 1 rfl) ?_
          refine va_get (D := (dC, dI)) (ci := 11) (v := .ref q28) (C := RX11) (T := TX11) (N := 53) hx hb hz zi_X11 hown hK hP 0 rfl rfl 47 (by decide) (hz _ zw_1212) (fun _ h9 => h9) rfl dX11_duel_170 ?_
          refine lv_iload hx hb dX11_duel_173 (lv_at hl 5 rfl) ?_
          refine lv_iload hx hb dX11_duel_175 (lv_at hl 0 rfl) ?_
          refine xi_iast hx hb hK hP hD hS 6 0 rfl rfl dX11_duel_177 hf (fun a1 H locs hP hD hS hf => ?_)
          have hP : va_P (dC, dI) vwCl (wd_HM_duel cA q0 q1 q2 q3 q4 q5 q6 q7 q8 q9 q10 q11 q12 q13 q14 q15 q16 q17 q18 q19 q20 q21 q22 q23 q24 q25 q26 q27 q28 q29 q30 q31 u0 u1 u2 u3 u4 u5 u6 u7 u8 u9 u10 u11 u12 u13 u14 u15 u16 i_row i_thrown i_law i_broken i_value i_sum i_set i_rest i_high i_heaps a1 i_bests i_firsts) H := hP
          have hD : va_D A (wd_HM_duel cA q0 q1 q2 q3 q4 q5 q6 q7 q8 q9 q10 q11 q12 q13 q14 q15 q16 q17 q18 q19 q20 q21 q22 q23 q24 q25 q26 q27 q28 q29 q30 q31 u0 u1 u2 u3 u4 u5 u6 u7 u8 u9 u10 u11 u12 u13 u14 u15 u16 i_row i_thrown i_law i_broken i_value i_sum i_set i_rest i_high i_heaps a1 i_bests i_firsts) := hD
          refine lv_iload hx hb dX11_duel_178 (lv_at hl 0 rfl) ?_
          refine lv_bipush (v := Int32.ofInt 16) hx hb dX11_duel_180 (by decide) ?_
          refine xi_icmp_ge (tgt := 197) hx hb dX11_duel_182 (by decide) hf (fun hf => ?_) (fun hf => ?_)
          · exact b_197 _ ih72 _ _ _ _ _ _ _ _ _ _ _ _ _ _ _ _ _ _ _ hf hP hD hS (lv_sub hl [1, 2, 3, 4, 5] rfl)
          · refine lv_aload_n hx hb dX11_duel_185 rfl (lv_at hl 1 rfl) ?_
            refine lv_iload hx hb dX11_duel_186 (lv_at hl 0 rfl) ?_
            refine lv_iconst (v := Int32.ofInt 4) hx hb dX11_duel_188 rfl ?_
            refine xi_idiv hx hb dX11_duel_189 hf (fun v2 hf => ?_)
            refine lv_iload hx hb dX11_duel_190 (lv_at hl 0 rfl) ?_
            refine lv_iconst (v := Int32.ofInt 4) hx hb dX11_duel_192 rfl ?_
            refine xi_irem hx hb dX11_duel_193 hf (fun v3 hf => ?_)
            refine xe_d2 hf (fun a4 a5 hg hf => ?_)
            have hC : ([0, 4, 5] : List Nat).map (fun i => (wd_HM_duel cA q0 q1 q2 q3 q4 q5 q6 q7 q8 q9 q10 q11 q12 q13 q14 q15 q16 q17 q18 q19 q20 q21 q22 q23 q24 q25 q26 q27 q28 q29 q30 q31 u0 u1 u2 u3 u4 u5 u6 u7 u8 u9 u10 u11 u12 u13 u14 u15 u16 i_row i_thrown i_law i_broken i_value i_sum i_set i_rest i_high i_heaps a1 i_bests i_firsts)[i]?) = (wd_HM_shift cA q0 q1 q2 q3 q4 q5 q6 q7 q8 q9 q10 q11 q12 q13 q14 q15 q16 q17 q18 q19 q20 q21 q22 q23 q24 q25 q26 q27 q28 q29 q30 q31 i_thrown u0 u1 u2 u3 u4 u5 u6 u7 u8 u9 u10 u11 u12 u13 i_law i_broken i_value i_sum u14 u15 u16 i_high i_heaps).map some := rfl
            refine xv_afterV (ws' := (wd_HM_duel cA q0 q1 q2 q3 q4 q5 q6 q7 q8 q9 q10 q11 q12 q13 q14 q15 q16 q17 q18 q19 q20 q21 q22 q23 q24 q25 q26 q27 q28 q29 q30 q31 u0 u1 u2 u3 u4 u5 u6 u7 u8 u9 u10 u11 u12 u13 u14 u15 u16 i_row i_thrown i_law i_broken i_value i_sum i_set i_rest a4 a5 a1 i_bests i_firsts)) (isC := [0, 4, 5]) (ps := [some 0, none, none, none, some 1, some 2, none, none, none]) (va_runV (As := [.int (Int32.ofInt v2), .int (Int32.ofInt v3)]) (rest := []) ⟨hx, hb, hml, hown, hts⟩ (c_HM_shift l ev dC dI cA q0 q1 q2 q3 q4 q5 q6 q7 q8 q9 q10 q11 q12 q13 q14 q15 q16 q17 q18 q19 q20 q21 q22 q23 q24 q25 q26 q27 q28 q29 q30 q31 i_thrown u0 u1 u2 u3 u4 u5 u6 u7 u8 u9 u10 u11 u12 u13 i_law i_broken i_value i_sum u14 u15 u16 hg H.size) (cwV 2 hts (zgV zw_1590 zw_1592 zw_73 zw_115 zw_1593) rfl rfl rfl hd_HM_shift ⟨Nat.le_of_ble_eq_true rfl, Nat.le_of_ble_eq_true rfl⟩) (xv_preV (T := TX11) (N := 53) hE hA hS hK hP hD (isC := [0, 4, 5]) (by decide +kernel) hC (q0 := 0) (ci := 11) rfl rfl) rfl rfl hl.1 rfl (lv_room (Nat.le_of_ble_eq_true rfl)) dX11_duel_194 ⟨Nat.le_refl _, Nat.le_refl _⟩) hP hD hS hA (by decide +kernel) rfl hC rfl rfl (fun H locs hP hD hS => ?_)
            exact b_197 _ ih72 _ _ _ _ _ _ _ _ _ _ _ _ _ _ _ _ _ _ _ hf hP hD hS (lv_sub hl [1, 2, 3, 4, 5] rfl)
        · exact b_116 _ ih72 _ _ _ _ _ _ _ _ _ _ _ _ _ _ _ _ _ _ _ hf hP hD hS (lv_sub hl [1, 2, 3, 4, 5] rfl)
  have b_72 : ∀ (k72 : Int → Int → Int → Int → Int → Int → Int → Int → Int → (Nat → Int) → (Nat → Int) → (Nat → Int) → (Nat → Int) → (Nat → Int) → (Nat → Int) → (Nat → Int) → Option (Int × Int × Int × Int × Int × Int × (Nat → Int) × (Nat → Int) × (Nat → Int) × (Nat → Int) × (Nat → Int) × (Nat → Int) × (Nat → Int))) (_ : ∀ (x1 : Int) (x2 : Int) (x3 : Int) (x4 : Int) (i_thrown : Int) (i_law : Int) (i_broken : Int) (i_value : Int) (i_sum : Int) (i_set : Nat → Int) (i_rest : Nat → Int) (i_high : Nat → Int) (i_heaps : Nat → Int) (i_tried : Nat → Int) (i_bests : Nat → Int) (i_firsts : Nat → Int) (H : Heap) (locs : List Loc) (ls : Array Slot), k72 x1 x2 x3 x4 i_thrown i_law i_broken i_value i_sum i_set i_rest i_high i_heaps i_tried i_bests i_firsts = some out → va_P (dC, dI) vwCl (wd_HM_duel cA q0 q1 q2 q3 q4 q5 q6 q7 q8 q9 q10 q11 q12 q13 q14 q15 q16 q17 q18 q19 q20 q21 q22 q23 q24 q25 q26 q27 q28 q29 q30 q31 u0 u1 u2 u3 u4 u5 u6 u7 u8 u9 u10 u11 u12 u13 u14 u15 u16 i_row i_thrown i_law i_broken i_value i_sum i_set i_rest i_high i_heaps i_tried i_bests i_firsts) H → va_D A (wd_HM_duel cA q0 q1 q2 q3 q4 q5 q6 q7 q8 q9 q10 q11 q12 q13 q14 q15 q16 q17 q18 q19 q20 q21 q22 q23 q24 q25 q26 q27 q28 q29 q30 q31 u0 u1 u2 u3 u4 u5 u6 u7 u8 u9 u10 u11 u12 u13 u14 u15 u16 i_row i_thrown i_law i_broken i_value i_sum i_set i_rest i_high i_heaps i_tried i_bests i_firsts) → va_S A s.heap H locs → lv_has ls 7 [(0, .ref q0), (1, .int (Int32.ofInt x1)), (2, .int (Int32.ofInt x2)), (3, .int (Int32.ofInt x3)), (4, .int (Int32.ofInt x4))] → W p l e rm_HM_duel s m args below meth c H locs 0 0 Q (F0 m 72 ls [])), ∀ (x1 : Int) (x2 : Int) (x3 : Int) (x4 : Int) (i_thrown : Int) (i_law : Int) (i_broken : Int) (i_value : Int) (i_sum : Int) (i_set : Nat → Int) (i_rest : Nat → Int) (i_high : Nat → Int) (i_heaps : Nat → Int) (i_tried : Nat → Int) (i_bests : Nat → Int) (i_firsts : Nat → Int) (H : Heap) (locs : List Loc) (ls : Array Slot), f_HM_duel_72_b i_row k72 x1 x2 x3 x4 i_thrown i_law i_broken i_value i_sum i_set i_rest i_high i_heaps i_tried i_bests i_firsts = some out → va_P (dC, dI) vwCl (wd_HM_duel cA q0 q1 q2 q3 q4 q5 q6 q7 q8 q9 q10 q11 q12 q13 q14 q15 q16 q17 q18 q19 q20 q21 q22 q23 q24 q25 q26 q27 q28 q29 q30 q31 u0 u1 u2 u3 u4 u5 u6 u7 u8 u9 u10 u11 u12 u13 u14 u15 u16 i_row i_thrown i_law i_broken i_value i_sum i_set i_rest i_high i_heaps i_tried i_bests i_firsts) H → va_D A (wd_HM_duel cA q0 q1 q2 q3 q4 q5 q6 q7 q8 q9 q10 q11 q12 q13 q14 q15 q16 q17 q18 q19 q20 q21 q22 q23 q24 q25 q26 q27 q28 q29 q30 q31 u0 u1 u2 u3 u4 u5 u6 u7 u8 u9 u10 u11 u12 u13 u14 u15 u16 i_row i_thrown i_law i_broken i_value i_sum i_set i_rest i_high i_heaps i_tried i_bests i_firsts) → va_S A s.heap H locs → lv_has ls 7 [(0, .ref q0), (1, .int (Int32.ofInt x1)), (2, .int (Int32.ofInt x2)), (3, .int (Int32.ofInt x3)), (4, .int (Int32.ofInt x4))] → W p l e rm_HM_duel s m args below meth c H locs 0 0 Q (F0 m 72 ls []) := by
    intro k72 ih72 x1 x2 x3 x4 i_thrown i_law i_broken i_value i_sum i_set i_rest i_high i_heaps i_tried i_bests i_firsts H locs ls hf hP hD hS hl
    unfold f_HM_duel_72_b at hf
    refine lv_iload hx hb dX11_duel_72 (lv_at hl 4 rfl) ?_
    refine xi_if_lt (tgt := 227) hx hb dX11_duel_74 (by decide) hf (fun hf => ?_) (fun hf => ?_)
    · refine lv_iload_n hx hb dX11_duel_227 rfl (lv_at hl 3 rfl) ?_
      refine xi_if_ne (tgt := 240) hx hb dX11_duel_228 (by decide) hf (fun hf => ?_) (fun hf => ?_)
      · refine lv_aload_n hx hb dX11_duel_240 rfl (lv_at hl 0 rfl) ?_
        refine va_get (D := (dC, dI)) (ci := 11) (v := .ref q30) (C := RX11) (T := TX11) (N := 53) hx hb hz zi_X11 hown hK hP 0 rfl rfl 49 (by decide) (hz _ zw_1214) (fun _ h9 => h9) rfl dX11_duel_241 ?_
        refine lv_iconst (v := Int32.ofInt 0) hx hb dX11_duel_244 rfl ?_
        refine xi_iald hx hb hK hP 8 0 rfl rfl dX11_duel_245 hf (fun v1 hf => ?_)
        refine lv_bipush (v := Int32.ofInt 15) hx hb dX11_duel_246 (by decide) ?_
        refine xi_icmp_le (tgt := 255) hx hb dX11_duel_248 (by decide) hf (fun hf => ?_) (fun hf => ?_)
        · refine lv_iload_n hx hb dX11_duel_255 rfl (lv_at hl 3 rfl) ?_
          refine lv_iconst (v := Int32.ofInt 1) hx hb dX11_duel_256 rfl ?_
          refine xi_icmp_ne (tgt := 271) hx hb dX11_duel_257 (by decide) hf (fun hf => ?_) (fun hf => ?_)
          · refine lv_aload_n hx hb dX11_duel_271 rfl (lv_at hl 0 rfl) ?_
            refine va_get (D := (dC, dI)) (ci := 11) (v := .ref q30) (C := RX11) (T := TX11) (N := 53) hx hb hz zi_X11 hown hK hP 0 rfl rfl 49 (by decide) (hz _ zw_1214) (fun _ h9 => h9) rfl dX11_duel_272 ?_
            refine lv_iconst (v := Int32.ofInt 0) hx hb dX11_duel_275 rfl ?_
            refine xi_iald hx hb hK hP 8 0 rfl rfl dX11_duel_276 hf (fun v2 hf => ?_)
            refine lv_iconst (v := Int32.ofInt 4) hx hb dX11_duel_277 rfl ?_
            refine xi_irem hx hb dX11_duel_278 hf (fun v3 hf => ?_)
            obtain rfl := Option.some.inj hf
            exact hret _ _ _ _ rfl dX11_duel_279 hP hD hS
          · refine lv_aload_n hx hb dX11_duel_260 rfl (lv_at hl 0 rfl) ?_
            refine va_get (D := (dC, dI)) (ci := 11) (v := .ref q30) (C := RX11) (T := TX11) (N := 53) hx hb hz zi_X11 hown hK hP 0 rfl rfl 49 (by decide) (hz _ zw_1214) (fun _ h9 => h9) rfl dX11_duel_261 ?_
            refine lv_iconst (v := Int32.ofInt 0) hx hb dX11_duel_264 rfl ?_
            refine xi_iald hx hb hK hP 8 0 rfl rfl dX11_duel_265 hf (fun v4 hf => ?_)
            refine lv_iconst (v := Int32.ofInt 4) hx hb dX11_duel_266 rfl ?_
            refine xi_idiv hx hb dX11_duel_267 hf (fun v5 hf => ?_)
            refine lv_goto (tgt := 279) hx hb dX11_duel_268 (by decide) ?_
            obtain rfl := Option.some.inj hf
            exact hret _ _ _ _ rfl dX11_duel_279 hP hD hS
        · refine lv_iconst (v := Int32.ofInt (-1)) hx hb dX11_duel_251 rfl ?_
          refine lv_goto (tgt := 279) hx hb dX11_duel_252 (by decide) ?_
          obtain rfl := Option.some.inj hf
          exact hret _ _ _ _ rfl dX11_duel_279 hP hD hS
      · refine lv_aload_n hx hb dX11_duel_231 rfl (lv_at hl 0 rfl) ?_
        refine va_get (D := (dC, dI)) (ci := 11) (v := .ref q29) (C := RX11) (T := TX11) (N := 53) hx hb hz zi_X11 hown hK hP 0 rfl rfl 48 (by decide) (hz _ zw_1213) (fun _ h9 => h9) rfl dX11_duel_232 ?_
        refine lv_iconst (v := Int32.ofInt 0) hx hb dX11_duel_235 rfl ?_
        refine xi_iald hx hb hK hP 7 0 rfl rfl dX11_duel_236 hf (fun v6 hf => ?_)
        refine lv_goto (tgt := 279) hx hb dX11_duel_237 (by decide) ?_
        obtain rfl := Option.some.inj hf
        exact hret _ _ _ _ rfl dX11_duel_279 hP hD hS
    · refine lv_iload hx hb dX11_duel_77 (lv_at hl 4 rfl) ?_
      refine lv_iload_n hx hb dX11_duel_79 rfl (lv_at hl 1 rfl) ?_
      refine xi_icmp_ge (tgt := 92) hx hb dX11_duel_80 (by decide) hf (fun hf => ?_) (fun hf => ?_)
      · refine lv_bipush (v := Int32.ofInt 16) hx hb dX11_duel_92 (by decide) ?_
        exact b_94 _ ih72 _ _ _ _ _ _ _ _ _ _ _ _ _ _ _ _ _ _ _ _ hf hP hD hS (lv_sub hl [0, 1, 2, 3, 4] rfl)
      · refine lv_aload_n hx hb dX11_duel_83 rfl (lv_at hl 0 rfl) ?_
        refine lv_iload hx hb dX11_duel_84 (lv_at hl 4 rfl) ?_
        refine xe_d7 hf (fun v7 v8 v9 v10 v11 a12 a13 hg hf => ?_)
        have hC : ([0, 1, 2, 3, 4, 5, 6, 7] : List Nat).map (fun i => (wd_HM_duel cA q0 q1 q2 q3 q4 q5 q6 q7 q8 q9 q10 q11 q12 q13 q14 q15 q16 q17 q18 q19 q20 q21 q22 q23 q24 q25 q26 q27 q28 q29 q30 q31 u0 u1 u2 u3 u4 u5 u6 u7 u8 u9 u10 u11 u12 u13 u14 u15 u16 i_row i_thrown i_law i_broken i_value i_sum i_set i_rest i_high i_heaps i_tried i_bests i_firsts)[i]?) = (wd_HM_nextMove cA q0 q1 q2 q3 q4 q5 q6 q7 q8 q9 q10 q11 q12 q13 q14 q15 q16 q17 q18 q19 q20 q21 q22 q23 q24 q25 q26 q27 q28 q29 q30 q31 i_thrown u0 u1 u2 u3 u4 u5 u6 u7 u8 u9 u10 u11 u12 u13 u14 u15 u16 i_row i_high i_heaps i_tried i_bests i_law i_broken i_value i_sum i_set i_rest).map some := rfl
        refine xv_afterI (ws' := (wd_HM_duel cA q0 q1 q2 q3 q4 q5 q6 q7 q8 q9 q10 q11 q12 q13 q14 q15 q16 q17 q18 q19 q20 q21 q22 q23 q24 q25 q26 q27 q28 q29 q30 q31 u0 u1 u2 u3 u4 u5 u6 u7 u8 u9 u10 u11 u12 u13 u14 u15 u16 i_row i_thrown v8 v9 v10 v11 a12 a13 i_high i_heaps i_tried i_bests i_firsts)) (isC := [0, 1, 2, 3, 4, 5, 6, 7]) (ps := [some 0, some 1, some 2, some 3, some 4, some 5, some 6, some 7, none]) (va_runV (As := [.int (Int32.ofInt x4)]) (rest := []) ⟨hx, hb, hml, hown, hts⟩ (c_HM_nextMove l ev dC dI cA q0 q1 q2 q3 q4 q5 q6 q7 q8 q9 q10 q11 q12 q13 q14 q15 q16 q17 q18 q19 q20 q21 q22 q23 q24 q25 q26 q27 q28 q29 q30 q31 i_thrown u0 u1 u2 u3 u4 u5 u6 u7 u8 u9 u10 u11 u12 u13 u14 u15 u16 hg H.size) (cwV 1 hts (zgV zw_1746 zw_1748 zw_99 zw_115 zw_1749) rfl rfl rfl hd_HM_nextMove ⟨Nat.le_of_ble_eq_true rfl, Nat.le_of_ble_eq_true rfl⟩) (xv_preV (T := TX11) (N := 53) hE hA hS hK hP hD (isC := [0, 1, 2, 3, 4, 5, 6, 7]) (by decide +kernel) hC (q0 := 0) (ci := 11) rfl rfl) rfl rfl hl.1 rfl (lv_room (Nat.le_of_ble_eq_true rfl)) dX11_duel_86 ⟨Nat.le_refl _, Nat.le_refl _⟩) hP hD hS hA (by decide +kernel) rfl hC rfl rfl (fun H locs hP hD hS => ?_)
        refine lv_goto (tgt := 94) hx hb dX11_duel_89 (by decide) ?_
        exact b_94 _ ih72 _ _ _ _ _ _ _ _ _ _ _ _ _ _ _ _ _ _ _ _ hf hP hD hS (lv_sub hl [0, 1, 2, 3, 4] rfl)
  have l_72 : ∀ (n : Nat), ∀ (x1 : Int) (x2 : Int) (x3 : Int) (x4 : Int) (i_thrown : Int) (i_law : Int) (i_broken : Int) (i_value : Int) (i_sum : Int) (i_set : Nat → Int) (i_rest : Nat → Int) (i_high : Nat → Int) (i_heaps : Nat → Int) (i_tried : Nat → Int) (i_bests : Nat → Int) (i_firsts : Nat → Int) (H : Heap) (locs : List Loc) (ls : Array Slot), f_HM_duel_72 i_row n x1 x2 x3 x4 i_thrown i_law i_broken i_value i_sum i_set i_rest i_high i_heaps i_tried i_bests i_firsts = some out → va_P (dC, dI) vwCl (wd_HM_duel cA q0 q1 q2 q3 q4 q5 q6 q7 q8 q9 q10 q11 q12 q13 q14 q15 q16 q17 q18 q19 q20 q21 q22 q23 q24 q25 q26 q27 q28 q29 q30 q31 u0 u1 u2 u3 u4 u5 u6 u7 u8 u9 u10 u11 u12 u13 u14 u15 u16 i_row i_thrown i_law i_broken i_value i_sum i_set i_rest i_high i_heaps i_tried i_bests i_firsts) H → va_D A (wd_HM_duel cA q0 q1 q2 q3 q4 q5 q6 q7 q8 q9 q10 q11 q12 q13 q14 q15 q16 q17 q18 q19 q20 q21 q22 q23 q24 q25 q26 q27 q28 q29 q30 q31 u0 u1 u2 u3 u4 u5 u6 u7 u8 u9 u10 u11 u12 u13 u14 u15 u16 i_row i_thrown i_law i_broken i_value i_sum i_set i_rest i_high i_heaps i_tried i_bests i_firsts) → va_S A s.heap H locs → lv_has ls 7 [(0, .ref q0), (1, .int (Int32.ofInt x1)), (2, .int (Int32.ofInt x2)), (3, .int (Int32.ofInt x3)), (4, .int (Int32.ofInt x4))] → W p l e rm_HM_duel s m args below meth c H locs 0 0 Q (F0 m 72 ls []) := by
    intro n
    induction n with
    | zero => intro x1 x2 x3 x4 i_thrown i_law i_broken i_value i_sum i_set i_rest i_high i_heaps i_tried i_bests i_firsts H locs ls hf hP hD hS hl; exact nomatch hf
    | succ n ih => intro x1 x2 x3 x4 i_thrown i_law i_broken i_value i_sum i_set i_rest i_high i_heaps i_tried i_bests i_firsts H locs ls hf hP hD hS hl; exact b_72 (f_HM_duel_72 i_row n) ih x1 x2 x3 x4 i_thrown i_law i_broken i_value i_sum i_set i_rest i_high i_heaps i_tried i_bests i_firsts H locs ls hf hP hD hS hl
  unfold f_HM_duel at hf
  refine lv_aload_n hx hb dX11_duel_0 rfl (lv_at hl 0 rfl) ?_
  refine lv_iconst (v := Int32.ofInt 0) hx hb dX11_duel_1 rfl ?_
  refine va_put (D := (dC, dI)) (ci := 11) (v := .int (Int32.ofInt 0)) (ty := .int) (C := RX11) (T := TX11) (N := 53) hx hb hz zi_X11 tyX11 tyX11_ok nmX11 hown hK hP hD hS 0 rfl rfl 0 (by decide) (hz _ zw_1165) (fun _ h9 => h9) rfl (by decide +kernel) rfl rfl (Nat.le_of_ble_eq_true rfl) dX11_duel_2 (fun H locs hP hD hS => ?_)
  have hP : va_P (dC, dI) vwCl (wd_HM_duel cA q0 q1 q2 q3 q4 q5 q6 q7 q8 q9 q10 q11 q12 q13 q14 q15 q16 q17 q18 q19 q20 q21 q22 q23 q24 q25 q26 q27 q28 q29 q30 q31 u0 u1 u2 u3 u4 u5 u6 u7 u8 u9 u10 u11 u12 u13 u14 u15 u16 i_row 0 i_law i_broken i_value i_sum i_set i_rest i_high i_heaps i_tried i_bests i_firsts) H := hP
  have hD : va_D A (wd_HM_duel cA q0 q1 q2 q3 q4 q5 q6 q7 q8 q9 q10 q11 q12 q13 q14 q15 q16 q17 q18 q19 q20 q21 q22 q23 q24 q25 q26 q27 q28 q29 q30 q31 u0 u1 u2 u3 u4 u5 u6 u7 u8 u9 u10 u11 u12 u13 u14 u15 u16 i_row 0 i_law i_broken i_value i_sum i_set i_rest i_high i_heaps i_tried i_bests i_firsts) := hD
  refine lv_iload_n hx hb dX11_duel_5 rfl (lv_at hl 1 rfl) ?_
  refine xi_i2l hx hb dX11_duel_6 hf (fun v1 hf => ?_)
  refine lv_lconst (v := Int64.ofInt 1) hx hb dX11_duel_7 (by decide) ?_
  refine lv_ldc2 (v := Int64.ofInt 4) hx hb hown (hz _ zw_1734) dX11_duel_8 ?_
  refine xe_d1 hf (fun v2 hg hf => ?_)
  have hC : ([] : List Nat).map (fun i => (wd_HM_duel cA q0 q1 q2 q3 q4 q5 q6 q7 q8 q9 q10 q11 q12 q13 q14 q15 q16 q17 q18 q19 q20 q21 q22 q23 q24 q25 q26 q27 q28 q29 q30 q31 u0 u1 u2 u3 u4 u5 u6 u7 u8 u9 u10 u11 u12 u13 u14 u15 u16 i_row 0 i_law i_broken i_value i_sum i_set i_rest i_high i_heaps i_tried i_bests i_firsts)[i]?) = (wd_HM_in cA).map some := rfl
  refine xv_afterI (ws' := (wd_HM_duel cA q0 q1 q2 q3 q4 q5 q6 q7 q8 q9 q10 q11 q12 q13 q14 q15 q16 q17 q18 q19 q20 q21 q22 q23 q24 q25 q26 q27 q28 q29 q30 q31 u0 u1 u2 u3 u4 u5 u6 u7 u8 u9 u10 u11 u12 u13 u14 u15 u16 i_row 0 i_law i_broken i_value i_sum i_set i_rest i_high i_heaps i_tried i_bests i_firsts)) (isC := []) (ps := [none, none, none, none, none, none, none, none, none]) (va_runS (As := [.long (Int64.ofInt v1), .long (Int64.ofInt 1), .long (Int64.ofInt 4)]) (rest := []) ⟨hx, hb, hml, hown, hts⟩ (c_HM_in l ev dC dI cA hg H.size) (va_cwS 3 hts (zgS zw_1329 zw_1330 zw_115 zw_1331) rfl rfl rfl hd_HM_in.2 ⟨Nat.le_of_ble_eq_true rfl, Nat.le_of_ble_eq_true rfl⟩) (xv_preS hE hA hS hK hP hD (isC := []) (by decide +kernel) hC) rfl rfl hl.1 rfl (lv_room (Nat.le_of_ble_eq_true rfl)) dX11_duel_11 ⟨Nat.le_refl _, Nat.le_refl _⟩) hP hD hS hA (by decide +kernel) rfl hC rfl rfl (fun H locs hP hD hS => ?_)
  refine xi_if_eq (tgt := 47) hx hb dX11_duel_14 (by decide) hf (fun hf => ?_) (fun hf => ?_)
  · refine lv_iconst (v := Int32.ofInt (-1)) hx hb dX11_duel_47 rfl ?_
    obtain rfl := Option.some.inj hf
    exact hret _ _ _ _ rfl dX11_duel_48 hP hD hS
  · refine lv_iload_n hx hb dX11_duel_17 rfl (lv_at hl 2 rfl) ?_
    refine xi_i2l hx hb dX11_duel_18 hf (fun v3 hf => ?_)
    refine lv_lconst (v := Int64.ofInt 0) hx hb dX11_duel_19 (by decide) ?_
    refine lv_lconst (v := Int64.ofInt 1) hx hb dX11_duel_20 (by decide) ?_
    refine xe_d1 hf (fun v4 hg hf => ?_)
    have hC : ([] : List Nat).map (fun i => (wd_HM_duel cA q0 q1 q2 q3 q4 q5 q6 q7 q8 q9 q10 q11 q12 q13 q14 q15 q16 q17 q18 q19 q20 q21 q22 q23 q24 q25 q26 q27 q28 q29 q30 q31 u0 u1 u2 u3 u4 u5 u6 u7 u8 u9 u10 u11 u12 u13 u14 u15 u16 i_row 0 i_law i_broken i_value i_sum i_set i_rest i_high i_heaps i_tried i_bests i_firsts)[i]?) = (wd_HM_in cA).map some := rfl
    refine xv_afterI (ws' := (wd_HM_duel cA q0 q1 q2 q3 q4 q5 q6 q7 q8 q9 q10 q11 q12 q13 q14 q15 q16 q17 q18 q19 q20 q21 q22 q23 q24 q25 q26 q27 q28 q29 q30 q31 u0 u1 u2 u3 u4 u5 u6 u7 u8 u9 u10 u11 u12 u13 u14 u15 u16 i_row 0 i_law i_broken i_value i_sum i_set i_rest i_high i_heaps i_tried i_bests i_firsts)) (isC := []) (ps := [none, none, none, none, none, none, none, none, none]) (va_runS (As := [.long (Int64.ofInt v3), .long (Int64.ofInt 0), .long (Int64.ofInt 1)]) (rest := []) ⟨hx, hb, hml, hown, hts⟩ (c_HM_in l ev dC dI cA hg H.size) (va_cwS 3 hts (zgS zw_1329 zw_1330 zw_115 zw_1331) rfl rfl rfl hd_HM_in.2 ⟨Nat.le_of_ble_eq_true rfl, Nat.le_of_ble_eq_true rfl⟩) (xv_preS hE hA hS hK hP hD (isC := []) (by decide +kernel) hC) rfl rfl hl.1 rfl (lv_room (Nat.le_of_ble_eq_true rfl)) dX11_duel_21 ⟨Nat.le_refl _, Nat.le_refl _⟩) hP hD hS hA (by decide +kernel) rfl hC rfl rfl (fun H locs hP hD hS => ?_)
    refine xi_if_eq (tgt := 47) hx hb dX11_duel_24 (by decide) hf (fun hf => ?_) (fun hf => ?_)
    · refine lv_iconst (v := Int32.ofInt (-1)) hx hb dX11_duel_47 rfl ?_
      obtain rfl := Option.some.inj hf
      exact hret _ _ _ _ rfl dX11_duel_48 hP hD hS
    · refine lv_iload_n hx hb dX11_duel_27 rfl (lv_at hl 3 rfl) ?_
      refine xi_i2l hx hb dX11_duel_28 hf (fun v5 hf => ?_)
      refine lv_lconst (v := Int64.ofInt 0) hx hb dX11_duel_29 (by decide) ?_
      refine lv_ldc2 (v := Int64.ofInt 2) hx hb hown (hz _ zw_1393) dX11_duel_30 ?_
      refine xe_d1 hf (fun v6 hg hf => ?_)
      have hC : ([] : List Nat).map (fun i => (wd_HM_duel cA q0 q1 q2 q3 q4 q5 q6 q7 q8 q9 q10 q11 q12 q13 q14 q15 q16 q17 q18 q19 q20 q21 q22 q23 q24 q25 q26 q27 q28 q29 q30 q31 u0 u1 u2 u3 u4 u5 u6 u7 u8 u9 u10 u11 u12 u13 u14 u15 u16 i_row 0 i_law i_broken i_value i_sum i_set i_rest i_high i_heaps i_tried i_bests i_firsts)[i]?) = (wd_HM_in cA).map some := rfl
      refine xv_afterI (ws' := (wd_HM_duel cA q0 q1 q2 q3 q4 q5 q6 q7 q8 q9 q10 q11 q12 q13 q14 q15 q16 q17 q18 q19 q20 q21 q22 q23 q24 q25 q26 q27 q28 q29 q30 q31 u0 u1 u2 u3 u4 u5 u6 u7 u8 u9 u10 u11 u12 u13 u14 u15 u16 i_row 0 i_law i_broken i_value i_sum i_set i_rest i_high i_heaps i_tried i_bests i_firsts)) (isC := []) (ps := [none, none, none, none, none, none, none, none, none]) (va_runS (As := [.long (Int64.ofInt v5), .long (Int64.ofInt 0), .long (Int64.ofInt 2)]) (rest := []) ⟨hx, hb, hml, hown, hts⟩ (c_HM_in l ev dC dI cA hg H.size) (va_cwS 3 hts (zgS zw_1329 zw_1330 zw_115 zw_1331) rfl rfl rfl hd_HM_in.2 ⟨Nat.le_of_ble_eq_true rfl, Nat.le_of_ble_eq_true rfl⟩) (xv_preS hE hA hS hK hP hD (isC := []) (by decide +kernel) hC) rfl rfl hl.1 rfl (lv_room (Nat.le_of_ble_eq_true rfl)) dX11_duel_33 ⟨Nat.le_refl _, Nat.le_refl _⟩) hP hD hS hA (by decide +kernel) rfl hC rfl rfl (fun H locs hP hD hS => ?_)
      refine xi_if_eq (tgt := 47) hx hb dX11_duel_36 (by decide) hf (fun hf => ?_) (fun hf => ?_)
      · refine lv_iconst (v := Int32.ofInt (-1)) hx hb dX11_duel_47 rfl ?_
        obtain rfl := Option.some.inj hf
        exact hret _ _ _ _ rfl dX11_duel_48 hP hD hS
      · refine lv_aload_n hx hb dX11_duel_39 rfl (lv_at hl 0 rfl) ?_
        refine xe_d1 hf (fun v7 hg hf => ?_)
        have hC : ([0, 1] : List Nat).map (fun i => (wd_HM_duel cA q0 q1 q2 q3 q4 q5 q6 q7 q8 q9 q10 q11 q12 q13 q14 q15 q16 q17 q18 q19 q20 q21 q22 q23 q24 q25 q26 q27 q28 q29 q30 q31 u0 u1 u2 u3 u4 u5 u6 u7 u8 u9 u10 u11 u12 u13 u14 u15 u16 i_row 0 i_law i_broken i_value i_sum i_set i_rest i_high i_heaps i_tried i_bests i_firsts)[i]?) = (wd_HM_columns cA q0 q1 q2 q3 q4 q5 q6 q7 q8 q9 q10 q11 q12 q13 q14 q15 q16 q17 q18 q19 q20 q21 q22 q23 q24 q25 q26 q27 q28 q29 q30 q31 0 u0 u1 u2 u3 u4 u5 u6 u7 u8 u9 u10 u11 u12 u13 i_law i_broken i_value i_sum u14 u15 u16 i_row).map some := rfl
        refine xv_afterI (ws' := (wd_HM_duel cA q0 q1 q2 q3 q4 q5 q6 q7 q8 q9 q10 q11 q12 q13 q14 q15 q16 q17 q18 q19 q20 q21 q22 q23 q24 q25 q26 q27 q28 q29 q30 q31 u0 u1 u2 u3 u4 u5 u6 u7 u8 u9 u10 u11 u12 u13 u14 u15 u16 i_row 0 i_law i_broken i_value i_sum i_set i_rest i_high i_heaps i_tried i_bests i_firsts)) (isC := [0, 1]) (ps := [some 0, some 1, none, none, none, none, none, none, none]) (va_runV (As := []) (rest := []) ⟨hx, hb, hml, hown, hts⟩ (c_HM_columns l ev dC dI cA q0 q1 q2 q3 q4 q5 q6 q7 q8 q9 q10 q11 q12 q13 q14 q15 q16 q17 q18 q19 q20 q21 q22 q23 q24 q25 q26 q27 q28 q29 q30 q31 0 u0 u1 u2 u3 u4 u5 u6 u7 u8 u9 u10 u11 u12 u13 i_law i_broken i_value i_sum u14 u15 u16 hg H.size) (cwV 0 hts (zgV zw_1344 zw_1346 zw_41 zw_115 zw_1347) rfl rfl rfl hd_HM_columns ⟨Nat.le_of_ble_eq_true rfl, Nat.le_of_ble_eq_true rfl⟩) (xv_preV (T := TX11) (N := 53) hE hA hS hK hP hD (isC := [0, 1]) (by decide +kernel) hC (q0 := 0) (ci := 11) rfl rfl) rfl rfl hl.1 rfl (lv_room (Nat.le_of_ble_eq_true rfl)) dX11_duel_40 ⟨Nat.le_refl _, Nat.le_refl _⟩) hP hD hS hA (by decide +kernel) rfl hC rfl rfl (fun H locs hP hD hS => ?_)
        refine lv_iconst (v := Int32.ofInt 4) hx hb dX11_duel_43 rfl ?_
        refine xi_icmp_le (tgt := 49) hx hb dX11_duel_44 (by decide) hf (fun hf => ?_) (fun hf => ?_)
        · refine lv_aload_n hx hb dX11_duel_49 rfl (lv_at hl 0 rfl) ?_
          refine xe_d2 hf (fun a8 a9 hg hf => ?_)
          have hC : ([0, 1, 4, 5] : List Nat).map (fun i => (wd_HM_duel cA q0 q1 q2 q3 q4 q5 q6 q7 q8 q9 q10 q11 q12 q13 q14 q15 q16 q17 q18 q19 q20 q21 q22 q23 q24 q25 q26 q27 q28 q29 q30 q31 u0 u1 u2 u3 u4 u5 u6 u7 u8 u9 u10 u11 u12 u13 u14 u15 u16 i_row 0 i_law i_broken i_value i_sum i_set i_rest i_high i_heaps i_tried i_bests i_firsts)[i]?) = (wd_HM_load cA q0 q1 q2 q3 q4 q5 q6 q7 q8 q9 q10 q11 q12 q13 q14 q15 q16 q17 q18 q19 q20 q21 q22 q23 q24 q25 q26 q27 q28 q29 q30 q31 0 u0 u1 u2 u3 u4 u5 u6 u7 u8 u9 u10 u11 u12 u13 i_law i_broken i_value i_sum u14 u15 u16 i_row i_high i_heaps).map some := rfl
          refine xv_afterV (ws' := (wd_HM_duel cA q0 q1 q2 q3 q4 q5 q6 q7 q8 q9 q10 q11 q12 q13 q14 q15 q16 q17 q18 q19 q20 q21 q22 q23 q24 q25 q26 q27 q28 q29 q30 q31 u0 u1 u2 u3 u4 u5 u6 u7 u8 u9 u10 u11 u12 u13 u14 u15 u16 i_row 0 i_law i_broken i_value i_sum i_set i_rest a8 a9 i_tried i_bests i_firsts)) (isC := [0, 1, 4, 5]) (ps := [some 0, some 1, none, none, some 2, some 3, none, none, none]) (va_runV (As := []) (rest := []) ⟨hx, hb, hml, hown, hts⟩ (c_HM_load l ev dC dI cA q0 q1 q2 q3 q4 q5 q6 q7 q8 q9 q10 q11 q12 q13 q14 q15 q16 q17 q18 q19 q20 q21 q22 q23 q24 q25 q26 q27 q28 q29 q30 q31 0 u0 u1 u2 u3 u4 u5 u6 u7 u8 u9 u10 u11 u12 u13 i_law i_broken i_value i_sum u14 u15 u16 hg H.size) (cwV 0 hts (zgV zw_1549 zw_1551 zw_66 zw_115 zw_1552) rfl rfl rfl hd_HM_load ⟨Nat.le_of_ble_eq_true rfl, Nat.le_of_ble_eq_true rfl⟩) (xv_preV (T := TX11) (N := 53) hE hA hS hK hP hD (isC := [0, 1, 4, 5]) (by decide +kernel) hC (q0 := 0) (ci := 11) rfl rfl) rfl rfl hl.1 rfl (lv_room (Nat.le_of_ble_eq_true rfl)) dX11_duel_50 ⟨Nat.le_refl _, Nat.le_refl _⟩) hP hD hS hA (by decide +kernel) rfl hC rfl rfl (fun H locs hP hD hS => ?_)
          refine lv_iconst (v := Int32.ofInt 0) hx hb dX11_duel_53 rfl ?_
          refine lv_istore (lv' := [(4, .int (Int32.ofInt 0)), (0, .ref q0), (1, .int (Int32.ofInt x1)), (2, .int (Int32.ofInt x2)), (3, .int (Int32.ofInt x3))]) hx hb dX11_duel_54 hl (by decide) rfl (fun ls hl => ?_)
          refine lv_aload_n hx hb dX11_duel_56 rfl (lv_at hl 1 rfl) ?_
          refine va_get (D := (dC, dI)) (ci := 11) (v := .ref q28) (C := RX11) (T := TX11) (N := 53) hx hb hz zi_X11 hown hK hP 0 rfl rfl 47 (by decide) (hz _ zw_1212) (fun _ h9 => h9) rfl dX11_duel_57 ?_
          refine lv_iconst (v := Int32.ofInt 0) hx hb dX11_duel_60 rfl ?_
          refine lv_iconst (v := Int32.ofInt (-1)) hx hb dX11_duel_61 rfl ?_
          refine xi_iast hx hb hK hP hD hS 6 0 rfl rfl dX11_duel_62 hf (fun a10 H locs hP hD hS hf => ?_)
          have hP : va_P (dC, dI) vwCl (wd_HM_duel cA q0 q1 q2 q3 q4 q5 q6 q7 q8 q9 q10 q11 q12 q13 q14 q15 q16 q17 q18 q19 q20 q21 q22 q23 q24 q25 q26 q27 q28 q29 q30 q31 u0 u1 u2 u3 u4 u5 u6 u7 u8 u9 u10 u11 u12 u13 u14 u15 u16 i_row 0 i_law i_broken i_value i_sum i_set i_rest a8 a9 a10 i_bests i_firsts) H := hP
          have hD : va_D A (wd_HM_duel cA q0 q1 q2 q3 q4 q5 q6 q7 q8 q9 q10 q11 q12 q13 q14 q15 q16 q17 q18 q19 q20 q21 q22 q23 q24 q25 q26 q27 q28 q29 q30 q31 u0 u1 u2 u3 u4 u5 u6 u7 u8 u9 u10 u11 u12 u13 u14 u15 u16 i_row 0 i_law i_broken i_value i_sum i_set i_rest a8 a9 a10 i_bests i_firsts) := hD
          refine lv_aload_n hx hb dX11_duel_63 rfl (lv_at hl 1 rfl) ?_
          refine va_get (D := (dC, dI)) (ci := 11) (v := .ref q29) (C := RX11) (T := TX11) (N := 53) hx hb hz zi_X11 hown hK hP 0 rfl rfl 48 (by decide) (hz _ zw_1213) (fun _ h9 => h9) rfl dX11_duel_64 ?_
          refine lv_iconst (v := Int32.ofInt 0) hx hb dX11_duel_67 rfl ?_
          refine lv_sipush (v := Int32.ofInt (-1000)) hx hb dX11_duel_68 (by decide) ?_
          refine xi_iast hx hb hK hP hD hS 7 0 rfl rfl dX11_duel_71 hf (fun a11 H locs hP hD hS hf => ?_)
          have hP : va_P (dC, dI) vwCl (wd_HM_duel cA q0 q1 q2 q3 q4 q5 q6 q7 q8 q9 q10 q11 q12 q13 q14 q15 q16 q17 q18 q19 q20 q21 q22 q23 q24 q25 q26 q27 q28 q29 q30 q31 u0 u1 u2 u3 u4 u5 u6 u7 u8 u9 u10 u11 u12 u13 u14 u15 u16 i_row 0 i_law i_broken i_value i_sum i_set i_rest a8 a9 a10 a11 i_firsts) H := hP
          have hD : va_D A (wd_HM_duel cA q0 q1 q2 q3 q4 q5 q6 q7 q8 q9 q10 q11 q12 q13 q14 q15 q16 q17 q18 q19 q20 q21 q22 q23 q24 q25 q26 q27 q28 q29 q30 q31 u0 u1 u2 u3 u4 u5 u6 u7 u8 u9 u10 u11 u12 u13 u14 u15 u16 i_row 0 i_law i_broken i_value i_sum i_set i_rest a8 a9 a10 a11 i_firsts) := hD
          exact l_72  _ _ _ _ _ _ _ _ _ _ _ _ _ _ _ _ _ _ _ _ hf hP hD hS (lv_sub hl [1, 2, 3, 4, 0] rfl)
        · refine lv_iconst (v := Int32.ofInt (-1)) hx hb dX11_duel_47 rfl ?_
          obtain rfl := Option.some.inj hf
          exact hret _ _ _ _ rfl dX11_duel_48 hP hD hS
