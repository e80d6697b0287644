theorem dX11_fact_0 : decode cX11_fact 0 = .ok (.aload_n 0, 1) := by decide +kernel
theorem dX11_fact_1 : decode cX11_fact 1 = .ok (.iconst 0, 1) := by decide +kernel
theorem dX11_fact_2 : decode cX11_fact 2 = .ok (.putfield 126, 3) := by decide +kernel
theorem dX11_fact_5 : decode cX11_fact 5 = .ok (.aload_n 0, 1) := by decide +kernel
theorem dX11_fact_6 : decode cX11_fact 6 = .ok (.iload_n 1, 1) := by decide +kernel
theorem dX11_fact_7 : decode cX11_fact 7 = .ok (.invokevirtual 155, 3) := by decide +kernel
theorem dX11_fact_10 : decode cX11_fact 10 = .ok (.ifCond .eq 32, 3) := by decide +kernel
theorem dX11_fact_13 : decode cX11_fact 13 = .ok (.iload_n 2, 1) := by decide +kernel
theorem dX11_fact_14 : decode cX11_fact 14 = .ok (.i2l, 1) := by decide +kernel
theorem dX11_fact_15 : decode cX11_fact 15 = .ok (.lconst 0, 1) := by decide +kernel
theorem dX11_fact_16 : decode cX11_fact 16 = .ok (.ldc2_w 162, 3) := by decide +kernel
theorem dX11_fact_19 : decode cX11_fact 19 = .ok (.invokestatic 132, 3) := by decide +kernel
theorem dX11_fact_22 : decode cX11_fact 22 = .ok (.ifCond .eq 20, 3) := by decide +kernel
theorem dX11_fact_25 : decode cX11_fact 25 = .ok (.aload_n 0, 1) := by decide +kernel
theorem dX11_fact_26 : decode cX11_fact 26 = .ok (.getfield 13, 3) := by decide +kernel
theorem dX11_fact_29 : decode cX11_fact 29 = .ok (.sipush 153, 3) := by decide +kernel
theorem dX11_fact_32 : decode cX11_fact 32 = .ok (.iconst 3, 1) := by decide +kernel
theorem dX11_fact_33 : decode cX11_fact 33 = .ok (.iload_n 1, 1) := by decide +kernel
theorem dX11_fact_34 : decode cX11_fact 34 = .ok (.imul, 1) := by decide +kernel
theorem dX11_fact_35 : decode cX11_fact 35 = .ok (.iadd, 1) := by decide +kernel
theorem dX11_fact_36 : decode cX11_fact 36 = .ok (.iload_n 2, 1) := by decide +kernel
theorem dX11_fact_37 : decode cX11_fact 37 = .ok (.iadd, 1) := by decide +kernel
theorem dX11_fact_38 : decode cX11_fact 38 = .ok (.iaload, 1) := by decide +kernel
theorem dX11_fact_39 : decode cX11_fact 39 = .ok (.goto 4, 3) := by decide +kernel
theorem dX11_fact_42 : decode cX11_fact 42 = .ok (.iconst (-1), 1) := by decide +kernel
theorem dX11_fact_43 : decode cX11_fact 43 = .ok (.ireturn, 1) := by decide +kernel
theorem zw_1392 : (Jvm.Cond.code ({ cls := "HillSchoolModel", name := "fact", desc := "(II)I" } : Jvm.MethodName) prog_13_method_21_code (3 : Nat) (Option.some Jvm.ClassFile.FieldType.int)) ∈ zall := zmemG (zmj_6 89 rfl) rfl
theorem zw_1393 : (Jvm.Cond.constantLong "HillSchoolModel" (162 : Nat) (2 : Int64)) ∈ zall := zmemG (zmj_6 90 rfl) rfl
abbrev w_HM_fact : List Cond := .code yX11_fact cX11_fact 3 (some .int) :: zall
abbrev rm_HM_fact : Room := { frames := 2, cells := 0, slots := 0, locals := 46 }
theorem hd_HM_fact : yX11_fact.cls = "HillSchoolModel" ∧ yX11_fact.cls ≠ "java/lang/invoke/MethodHandle" ∧ yX11_fact.cls ≠ "java/lang/invoke/VarHandle" ∧ (parseMethodDescriptor yX11_fact.desc).map (fun d => d.parameters.length) = some 2 := by decide +kernel
def wd_HM_fact (cA : Nat → ClassId) (q0 q1 q2 q3 q4 q5 q6 q7 q8 q9 q10 q11 q12 q13 q14 q15 q16 q17 q18 q19 q20 q21 q22 q23 q24 q25 q26 q27 q28 q29 q30 q31 : Nat) (u0 u1 u2 u3 u4 u5 u6 u7 u8 u9 u10 u11 u12 u13 u14 u15 u16 u17 u18 u19 u20 : Int) (i_row : Nat → Int) (i_thrown : Int) : va_W := [(q0, .inr (11, [.int (Int32.ofInt i_thrown), .int (Int32.ofInt u0), .ref q1, .ref q2, .ref q3, .ref q4, .int (Int32.ofInt u1), .ref q5, .int (Int32.ofInt u2), .int (Int32.ofInt u3), .int (Int32.ofInt u4), .int (Int32.ofInt u5), .long (Int64.ofInt u6), .int (Int32.ofInt u7), .int (Int32.ofInt u8), .int (Int32.ofInt u9), .ref q6, .int (Int32.ofInt u10), .ref q7, .ref q8, .int (Int32.ofInt u11), .ref q9, .ref q10, .int (Int32.ofInt u12), .int (Int32.ofInt u13), .ref q11, .int (Int32.ofInt u14), .ref q12, .ref q13, .int (Int32.ofInt u15), .long (Int64.ofInt u16), .long (Int64.ofInt u17), .ref q14, .ref q15, .ref q16, .ref q17, .ref q18, .int (Int32.ofInt u18), .ref q19, .ref q20, .ref q21, .ref q22, .ref q23, .ref q24, .ref q25, .ref q26, .ref q27, .ref q28, .ref q29, .ref q30, .long (Int64.ofInt u19), .ref q31, .int (Int32.ofInt u20)])), (q2, .inl (cA 0, 5580, .inl (za i_row)))]
def wf_HM_fact (cA : Nat → ClassId) (q0 q1 q2 q3 q4 q5 q6 q7 q8 q9 q10 q11 q12 q13 q14 q15 q16 q17 q18 q19 q20 q21 q22 q23 q24 q25 q26 q27 q28 q29 q30 q31 : Nat) (u0 u1 u2 u3 u4 u5 u6 u7 u8 u9 u10 u11 u12 u13 u14 u15 u16 u17 u18 u19 u20 : Int) (i_row : Nat → Int) (o : Int × Int) : va_W := wd_HM_fact cA q0 q1 q2 q3 q4 q5 q6 q7 q8 q9 q10 q11 q12 q13 q14 q15 q16 q17 q18 q19 q20 q21 q22 q23 q24 q25 q26 q27 q28 q29 q30 q31 u0 u1 u2 u3 u4 u5 u6 u7 u8 u9 u10 u11 u12 u13 u14 u15 u16 u17 u18 u19 u20 i_row o.2
def f_HM_fact (x1 : Int) (x2 : Int) (i_row : Nat → Int) (i_thrown : Int) : Option (Int × Int) :=
  zd1 (f_HM_isChild x1 i_row) fun v1 =>
  if zi_w v1 = 0 then
    some ((-1), 0)
  else
    zn (zi_w x2) fun v2 =>
    zd1 (f_HM_in v2 0 2) fun v3 =>
    if zi_w v3 = 0 then
      some ((-1), 0)
    else
      zn (3 * x1) fun v4 =>
      zn (153 + v4) fun v5 =>
      zn (v5 + x2) fun v6 =>
      zg 5580 i_row v6 fun v7 =>
      some (v7, 0)
set_option maxHeartbeats 4000000 in
set_option maxRecDepth 100000 in
theorem c_HM_fact (l : Launch) (ev : zEv) (dC : Nat → ClassId) (dI : Nat → Nat → Nat) (cA : Nat → ClassId) (q0 q1 q2 q3 q4 q5 q6 q7 q8 q9 q10 q11 q12 q13 q14 q15 q16 q17 q18 q19 q20 q21 q22 q23 q24 q25 q26 q27 q28 q29 q30 q31 : Nat) (u0 u1 u2 u3 u4 u5 u6 u7 u8 u9 u10 u11 u12 u13 u14 u15 u16 u17 u18 u19 u20 : Int) {x1 x2 : Int} {i_row : Nat → Int} {i_thrown : Int} {out : Int × Int} (hf : f_HM_fact x1 x2 i_row i_thrown = some out) : xc_I l ev (dC, dI) vwCl (tyl cA) yX11_fact w_HM_fact rm_HM_fact [.ref q0, .int (Int32.ofInt x1), .int (Int32.ofInt x2)] (wd_HM_fact cA q0 q1 q2 q3 q4 q5 q6 q7 q8 q9 q10 q11 q12 q13 q14 q15 q16 q17 q18 q19 q20 q21 q22 q23 q24 q25 q26 q27 q28 q29 q30 q31 u0 u1 u2 u3 u4 u5 u6 u7 u8 u9 u10 u11 u12 u13 u14 u15 u16 u17 u18 u19 u20 i_row i_thrown) (wf_HM_fact cA q0 q1 q2 q3 q4 q5 q6 q7 q8 q9 q10 q11 q12 q13 q14 q15 q16 q17 q18 q19 q20 q21 q22 q23 q24 q25 q26 q27 q28 q29 q30 q31 u0 u1 u2 u3 u4 u5 u6 u7 u8 u9 u10 u11 u12 u13 u14 u15 u16 u17 u18 u19 u20 i_row out) out.1 := by
  refine xv_startI (cc := cX11_fact) (maxL := 3) (rt := .int) (by decide +kernel) rfl (Nat.le_of_ble_eq_true rfl) ?_
  intro p e s m args below meth c A Q H ls hx hb hml hts hown hK hA hP hD hS hl hE hret
  have hown : s.vm.findClass "HillSchoolModel" = some m.cls := hown
  have hz : ∀ w ∈ zall, w.before args s = true := fun w h => hts w (List.mem_cons_of_mem _ h)
  have hl : lv_has ls 3 [(0, .ref q0), (1, .int (Int32.ofInt x1)), (2, .int (Int32.ofInt x2))] := hl
  unfold f_HM_fact at hf
  refine lv_aload_n hx hb dX11_fact_0 rfl (lv_at hl 0 rfl) ?_
  refine lv_iconst (v := Int32.ofInt 0) hx hb dX11_fact_1 rfl ?_
  refine va_put (D := (dC, dI)) (ci := 11) (v := .int (Int32.ofInt 0)) (ty := .int) (C := RX11) (T := TX11) (N := 53) hx hb hz zi_X11 tyX11 tyX11_ok nmX11 hown hK hP hD hS 0 rfl rfl 0 (by decide) (hz _ zw_1165) (fun _ h9 => h9) rfl (by decide +kernel) rfl rfl (Nat.le_of_ble_eq_true rfl) dX11_fact_2 (fun H locs hP hD hS => ?_)
  have hP : va_P (dC, dI) vwCl (wd_HM_fact cA q0 q1 q2 q3 q4 q5 q6 q7 q8 q9 q10 q11 q12 q13 q14 q15 q16 q17 q18 q19 q20 q21 q22 q23 q24 q25 q26 q27 q28 q29 q30 q31 u0 u1 u2 u3 u4 u5 u6 u7 u8 u9 u10 u11 u12 u13 u14 u15 u16 u17 u18 u19 u20 i_row 0) H := hP
  have hD : va_D A (wd_HM_fact cA q0 q1 q2 q3 q4 q5 q6 q7 q8 q9 q10 q11 q12 q13 q14 q15 q16 q17 q18 q19 q20 q21 q22 q23 q24 q25 q26 q27 q28 q29 q30 q31 u0 u1 u2 u3 u4 u5 u6 u7 u8 u9 u10 u11 u12 u13 u14 u15 u16 u17 u18 u19 u20 i_row 0) := hD
  refine lv_aload_n hx hb dX11_fact_5 rfl (lv_at hl 0 rfl) ?_
  refine lv_iload_n hx hb dX11_fact_6 rfl (lv_at hl 1 rfl) ?_
  refine xe_d1 hf (fun v1 hg hf => ?_)
  have hC : ([0, 1] : List Nat).map (fun i => (wd_HM_fact cA q0 q1 q2 q3 q4 q5 q6 q7 q8 q9 q10 q11 q12 q13 q14 q15 q16 q17 q18 q19 q20 q21 q22 q23 q24 q25 q26 q27 q28 q29 q30 q31 u0 u1 u2 u3 u4 u5 u6 u7 u8 u9 u10 u11 u12 u13 u14 u15 u16 u17 u18 u19 u20 i_row 0)[i]?) = (wd_HM_isChild cA q0 q1 q2 q3 q4 q5 q6 q7 q8 q9 q10 q11 q12 q13 q14 q15 q16 q17 q18 q19 q20 q21 q22 q23 q24 q25 q26 q27 q28 q29 q30 q31 0 u0 u1 u2 u3 u4 u5 u6 u7 u8 u9 u10 u11 u12 u13 u14 u15 u16 u17 u18 u19 u20 i_row).map some := rfl
  refine xv_afterI (ws' := (wd_HM_fact cA q0 q1 q2 q3 q4 q5 q6 q7 q8 q9 q10 q11 q12 q13 q14 q15 q16 q17 q18 q19 q20 q21 q22 q23 q24 q25 q26 q27 q28 q29 q30 q31 u0 u1 u2 u3 u4 u5 u6 u7 u8 u9 u10 u11 u12 u13 u14 u15 u16 u17 u18 u19 u20 i_row 0)) (isC := [0, 1]) (ps := [some 0, some 1]) (va_runV (As := [.int (Int32.ofInt x1)]) (rest := []) ⟨hx, hb, hml, hown, hts⟩ (c_HM_isChild l ev dC dI cA q0 q1 q2 q3 q4 q5 q6 q7 q8 q9 q10 q11 q12 q13 q14 q15 q16 q17 q18 q19 q20 q21 q22 q23 q24 q25 q26 q27 q28 q29 q30 q31 0 u0 u1 u2 u3 u4 u5 u6 u7 u8 u9 u10 u11 u12 u13 u14 u15 u16 u17 u18 u19 u20 hg H.size) (cwV 1 hts (zgV zw_1381 zw_1383 zw_43 zw_115 zw_1384) rfl rfl rfl hd_HM_isChild ⟨Nat.le_of_ble_eq_true rfl, Nat.le_of_ble_eq_true rfl⟩) (xv_preV (T := TX11) (N := 53) hE hA hS hK hP hD (isC := [0, 1]) (by decide +kernel) hC (q0 := 0) (ci := 11) rfl rfl) rfl rfl hl.1 rfl (lv_room (Nat.le_of_ble_eq_true rfl)) dX11_fact_7 ⟨Nat.le_refl _, Nat.le_refl _⟩) hP hD hS hA (by decide +kernel) rfl hC rfl rfl (fun H locs hP hD hS => ?_)
  refine xi_if_eq (tgt := 42) hx hb dX11_fact_10 (by decide) hf (fun hf => ?_) (fun hf => ?_)
  · refine lv_iconst (v := Int32.ofInt (-1)) hx hb dX11_fact_42 rfl ?_
    obtain rfl := Option.some.inj hf
    exact hret _ _ _ _ rfl dX11_fact_43 hP hD hS
  · refine lv_iload_n hx hb dX11_fact_13 rfl (lv_at hl 2 rfl) ?_
    refine xi_i2l hx hb dX11_fact_14 hf (fun v2 hf => ?_)
    refine lv_lconst (v := Int64.ofInt 0) hx hb dX11_fact_15 (by decide) ?_
    refine lv_ldc2 (v := Int64.ofInt 2) hx hb hown (hz _ zw_1393) dX11_fact_16 ?_
    refine xe_d1 hf (fun v3 hg hf => ?_)
    have hC : ([] : List Nat).map (fun i => (wd_HM_fact cA q0 q1 q2 q3 q4 q5 q6 q7 q8 q9 q10 q11 q12 q13 q14 q15 q16 q17 q18 q19 q20 q21 q22 q23 q24 q25 q26 q27 q28 q29 q30 q31 u0 u1 u2 u3 u4 u5 u6 u7 u8 u9 u10 u11 u12 u13 u14 u15 u16 u17 u18 u19 u20 i_row 0)[i]?) = (wd_HM_in cA).map some := rfl
    refine xv_afterI (ws' := (wd_HM_fact cA q0 q1 q2 q3 q4 q5 q6 q7 q8 q9 q10 q11 q12 q13 q14 q15 q16 q17 q18 q19 q20 q21 q22 q23 q24 q25 q26 q27 q28 q29 q30 q31 u0 u1 u2 u3 u4 u5 u6 u7 u8 u9 u10 u11 u12 u13 u14 u15 u16 u17 u18 u19 u20 i_row 0)) (isC := []) (ps := [none, none]) (va_runS (As := [.long (Int64.ofInt v2), .long (Int64.ofInt 0), .long (Int64.ofInt 2)]) (rest := []) ⟨hx, hb, hml, hown, hts⟩ (c_HM_in l ev dC dI cA hg H.size) (va_cwS 3 hts (zgS zw_1329 zw_1330 zw_115 zw_1331) rfl rfl rfl hd_HM_in.2 ⟨Nat.le_of_ble_eq_true rfl, Nat.le_of_ble_eq_true rfl⟩) (xv_preS hE hA hS hK hP hD (isC := []) (by decide +kernel) hC) rfl rfl hl.1 rfl (lv_room (Nat.le_of_ble_eq_true rfl)) dX11_fact_19 ⟨Nat.le_refl _, Nat.le_refl _⟩) hP hD hS hA (by decide +kernel) rfl hC rfl rfl (fun H locs hP hD hS => ?_)
    refine xi_if_eq (tgt := 42) hx hb dX11_fact_22 (by decide) hf (fun hf => ?_) (fun hf => ?_)
    · refine lv_iconst (v := Int32.ofInt (-1)) hx hb dX11_fact_42 rfl ?_
      obtain rfl := Option.some.inj hf
      exact hret _ _ _ _ rfl dX11_fact_43 hP hD hS
    · refine lv_aload_n hx hb dX11_fact_25 rfl (lv_at hl 0 rfl) ?_
      refine va_get (D := (dC, dI)) (ci := 11) (v := .ref q2) (C := RX11) (T := TX11) (N := 53) hx hb hz zi_X11 hown hK hP 0 rfl rfl 3 (by decide) (hz _ zw_1168) (fun _ h9 => h9) rfl dX11_fact_26 ?_
      refine lv_sipush (v := Int32.ofInt 153) hx hb dX11_fact_29 (by decide) ?_
      refine lv_iconst (v := Int32.ofInt 3) hx hb dX11_fact_32 rfl ?_
      refine lv_iload_n hx hb dX11_fact_33 rfl (lv_at hl 1 rfl) ?_
      refine xi_imul hx hb dX11_fact_34 hf (fun v4 hf => ?_)
      refine xi_iadd hx hb dX11_fact_35 hf (fun v5 hf => ?_)
      refine lv_iload_n hx hb dX11_fact_36 rfl (lv_at hl 2 rfl) ?_
      refine xi_iadd hx hb dX11_fact_37 hf (fun v6 hf => ?_)
      refine xi_iald hx hb hK hP 1 0 rfl rfl dX11_fact_38 hf (fun v7 hf => ?_)
      refine lv_goto (tgt := 43) hx hb dX11_fact_39 (by decide) ?_
      obtain rfl := Option.some.inj hf
      exact hret _ _ _ _ rfl dX11_fact_43 hP hD hS
theorem dX11_parish_0 : decode cX11_parish 0 = .ok (.aload_n 0, 1) := by decide +kernel
theorem dX11_parish_1 : decode cX11_parish 1 = .ok (.iconst 0, 1) := by decide +kernel
theorem dX11_parish_2 : decode cX11_parish 2 = .ok (.putfield 126, 3) := by decide +kernel
theorem dX11_parish_5 : decode cX11_parish 5 = .ok (.aload_n 0, 1) := by decide +kernel
theorem dX11_parish_6 : decode cX11_parish 6 = .ok (.iload_n 1, 1) := by decide +kernel
theorem dX11_parish_7 : decode cX11_parish 7 = .ok (.invokevirtual 150, 3) := by decide +kernel
theorem dX11_parish_10 : decode cX11_parish 10 = .ok (.ifCond .ne 10, 3) := by decide +kernel
theorem dX11_parish_13 : decode cX11_parish 13 = .ok (.aload_n 0, 1) := by decide +kernel
theorem dX11_parish_14 : decode cX11_parish 14 = .ok (.bipush (-2), 2) := by decide +kernel
theorem dX11_parish_16 : decode cX11_parish 16 = .ok (.invokevirtual 136, 3) := by decide +kernel
theorem dX11_parish_19 : decode cX11_parish 19 = .ok (.ireturn, 1) := by decide +kernel
theorem dX11_parish_20 : decode cX11_parish 20 = .ok (.aload_n 0, 1) := by decide +kernel
theorem dX11_parish_21 : decode cX11_parish 21 = .ok (.getfield 13, 3) := by decide +kernel
theorem dX11_parish_24 : decode cX11_parish 24 = .ok (.iconst 2, 1) := by decide +kernel
theorem dX11_parish_25 : decode cX11_parish 25 = .ok (.iaload, 1) := by decide +kernel
theorem dX11_parish_26 : decode cX11_parish 26 = .ok (.istore_n 2, 1) := by decide +kernel
theorem dX11_parish_27 : decode cX11_parish 27 = .ok (.iload_n 2, 1) := by decide +kernel
theorem dX11_parish_28 : decode cX11_parish 28 = .ok (.bipush 6, 2) := by decide +kernel
theorem dX11_parish_30 : decode cX11_parish 30 = .ok (.if_icmp .ne 10, 3) := by decide +kernel
theorem dX11_parish_33 : decode cX11_parish 33 = .ok (.aload_n 0, 1) := by decide +kernel
theorem dX11_parish_34 : decode cX11_parish 34 = .ok (.bipush (-5), 2) := by decide +kernel
theorem dX11_parish_36 : decode cX11_parish 36 = .ok (.invokevirtual 136, 3) := by decide +kernel
theorem dX11_parish_39 : decode cX11_parish 39 = .ok (.ireturn, 1) := by decide +kernel
theorem dX11_parish_40 : decode cX11_parish 40 = .ok (.aload_n 0, 1) := by decide +kernel
theorem dX11_parish_41 : decode cX11_parish 41 = .ok (.getfield 13, 3) := by decide +kernel
theorem dX11_parish_44 : decode cX11_parish 44 = .ok (.sipush 171, 3) := by decide +kernel
theorem dX11_parish_47 : decode cX11_parish 47 = .ok (.iload_n 2, 1) := by decide +kernel
theorem dX11_parish_48 : decode cX11_parish 48 = .ok (.iadd, 1) := by decide +kernel
theorem dX11_parish_49 : decode cX11_parish 49 = .ok (.iload_n 1, 1) := by decide +kernel
theorem dX11_parish_50 : decode cX11_parish 50 = .ok (.iastore, 1) := by decide +kernel
theorem dX11_parish_51 : decode cX11_parish 51 = .ok (.aload_n 0, 1) := by decide +kernel
theorem dX11_parish_52 : decode cX11_parish 52 = .ok (.getfield 13, 3) := by decide +kernel
theorem dX11_parish_55 : decode cX11_parish 55 = .ok (.iconst 2, 1) := by decide +kernel
theorem dX11_parish_56 : decode cX11_parish 56 = .ok (.dup2, 1) := by decide +kernel
theorem dX11_parish_57 : decode cX11_parish 57 = .ok (.iaload, 1) := by decide +kernel
theorem dX11_parish_58 : decode cX11_parish 58 = .ok (.iconst 1, 1) := by decide +kernel
theorem dX11_parish_59 : decode cX11_parish 59 = .ok (.iadd, 1) := by decide +kernel
theorem dX11_parish_60 : decode cX11_parish 60 = .ok (.iastore, 1) := by decide +kernel
theorem dX11_parish_61 : decode cX11_parish 61 = .ok (.aload_n 0, 1) := by decide +kernel
theorem dX11_parish_62 : decode cX11_parish 62 = .ok (.iload_n 2, 1) := by decide +kernel
theorem dX11_parish_63 : decode cX11_parish 63 = .ok (.invokevirtual 136, 3) := by decide +kernel
theorem dX11_parish_66 : decode cX11_parish 66 = .ok (.ireturn, 1) := by decide +kernel
theorem zw_1397 : (Jvm.Cond.code ({ cls := "HillSchoolModel", name := "parish", desc := "(I)I" } : Jvm.MethodName) prog_13_method_22_code (3 : Nat) (Option.some Jvm.ClassFile.FieldType.int)) ∈ zall := zmemG (zmj_6 94 rfl) rfl
abbrev w_HM_parish : List Cond := .code yX11_parish cX11_parish 3 (some .int) :: zall
abbrev rm_HM_parish : Room := { frames := 2, cells := 0, slots := 0, locals := 46 }
theorem hd_HM_parish : yX11_parish.cls = "HillSchoolModel" ∧ yX11_parish.cls ≠ "java/lang/invoke/MethodHandle" ∧ yX11_parish.cls ≠ "java/lang/invoke/VarHandle" ∧ (parseMethodDescriptor yX11_parish.desc).map (fun d => d.parameters.length) = some 1 := by decide +kernel
def wd_HM_parish (cA : Nat → ClassId) (q0 q1 q2 q3 q4 q5 q6 q7 q8 q9 q10 q11 q12 q13 q14 q15 q16 q17 q18 q19 q20 q21 q22 q23 q24 q25 q26 q27 q28 q29 q30 q31 : Nat) (u0 u1 u2 u3 u4 u5 u6 u7 u8 u9 u10 u11 u12 u13 u14 u15 u16 u17 u18 u19 : Int)  (i_thrown : Int) (i_status : Int) (i_refusals : Nat → Int) (i_row : Nat → Int) : va_W := [(q0, .inr (11, [.int (Int32.ofInt i_thrown), .int (Int32.ofInt i_status), .ref q1, .ref q2, .ref q3, .ref q4, .int (Int32.ofInt u0), .ref q5, .int (Int32.ofInt u1), .int (Int32.ofInt u2), .int (Int32.ofInt u3), .int (Int32.ofInt u4), .long (Int64.ofInt u5), .int (Int32.ofInt u6), .int (Int32.ofInt u7), .int (Int32.ofInt u8), .ref q6, .int (Int32.ofInt u9), .ref q7, .ref q8, .int (Int32.ofInt u10), .ref q9, .ref q10, .int (Int32.ofInt u11), .int (Int32.ofInt u12), .ref q11, .int (Int32.ofInt u13), .ref q12, .ref q13, .int (Int32.ofInt u14), .long (Int64.ofInt u15), .long (Int64.ofInt u16), .ref q14, .ref q15, .ref q16, .ref q17, .ref q18, .int (Int32.ofInt u17), .ref q19, .ref q20, .ref q21, .ref q22, .ref q23, .ref q24, .ref q25, .ref q26, .ref q27, .ref q28, .ref q29, .ref q30, .long (Int64.ofInt u18), .ref q31, .int (Int32.ofInt u19)])), (q1, .inl (cA 0, 7, .inl (za i_refusals))), (q2, .inl (cA 0, 5580, .inl (za i_row)))]
def wf_HM_parish (cA : Nat → ClassId) (q0 q1 q2 q3 q4 q5 q6 q7 q8 q9 q10 q11 q12 q13 q14 q15 q16 q17 q18 q19 q20 q21 q22 q23 q24 q25 q26 q27 q28 q29 q30 q31 : Nat) (u0 u1 u2 u3 u4 u5 u6 u7 u8 u9 u10 u11 u12 u13 u14 u15 u16 u17 u18 u19 : Int)  (o : Int × Int × Int × (Nat → Int) × (Nat → Int)) : va_W := wd_HM_parish cA q0 q1 q2 q3 q4 q5 q6 q7 q8 q9 q10 q11 q12 q13 q14 q15 q16 q17 q18 q19 q20 q21 q22 q23 q24 q25 q26 q27 q28 q29 q30 q31 u0 u1 u2 u3 u4 u5 u6 u7 u8 u9 u10 u11 u12 u13 u14 u15 u16 u17 u18 u19 o.2.1 o.2.2.1 o.2.2.2.1 o.2.2.2.2
def f_HM_parish (x1 : Int) (i_thrown : Int) (i_status : Int) (i_refusals : Nat → Int) (i_row : Nat → Int) : Option (Int × Int × Int × (Nat → Int) × (Nat → Int)) :=
  zd1 (f_HM_isColumn x1 i_row) fun v1 =>
  if zi_w v1 ≠ 0 then
    zg 5580 i_row 2 fun v2 =>
    if zi_w v2 ≠ zi_w 6 then
      zn (171 + v2) fun v3 =>
      zs 5580 i_row v3 x1 fun a4 =>
      zg 5580 a4 2 fun v5 =>
      zn (v5 + 1) fun v6 =>
      zs 5580 a4 2 v6 fun a7 =>
      zd3 (f_HM_tell v2 i_status i_refusals) fun v8 v9 a10 =>
      some (v8, 0, v9, a10, a7)
    else
      zd3 (f_HM_tell (-5) i_status i_refusals) fun v11 v12 a13 =>
      some (v11, 0, v12, a13, i_row)
  else
    zd3 (f_HM_tell (-2) i_status i_refusals) fun v14 v15 a16 =>
    some (v14, 0, v15, a16, i_row)
set_option maxHeartbeats 4000000 in
set_option maxRecDepth 100000 in
theorem c_HM_parish (l : Launch) (ev : zEv) (dC : Nat → ClassId) (dI : Nat → Nat → Nat) (cA : Nat → ClassId) (q0 q1 q2 q3 q4 q5 q6 q7 q8 q9 q10 q11 q12 q13 q14 q15 q16 q17 q18 q19 q20 q21 q22 q23 q24 q25 q26 q27 q28 q29 q30 q31 : Nat) (u0 u1 u2 u3 u4 u5 u6 u7 u8 u9 u10 u11 u12 u13 u14 u15 u16 u17 u18 u19 : Int) {x1 : Int} {i_thrown : Int} {i_status : Int} {i_refusals : Nat → Int} {i_row : Nat → Int} {out : Int × Int × Int × (Nat → Int) × (Nat → Int)} (hf : f_HM_parish x1 i_thrown i_status i_refusals i_row = some out) : xc_I l ev (dC, dI) vwCl (tyl cA) yX11_parish w_HM_parish rm_HM_parish [.ref q0, .int (Int32.ofInt x1)] (wd_HM_parish cA q0 q1 q2 q3 q4 q5 q6 q7 q8 q9 q10 q11 q12 q13 q14 q15 q16 q17 q18 q19 q20 q21 q22 q23 q24 q25 q26 q27 q28 q29 q30 q31 u0 u1 u2 u3 u4 u5 u6 u7 u8 u9 u10 u11 u12 u13 u14 u15 u16 u17 u18 u19 i_thrown i_status i_refusals i_row) (wf_HM_parish cA q0 q1 q2 q3 q4 q5 q6 q7 q8 q9 q10 q11 q12 q13 q14 q15 q16 q17 q18 q19 q20 q21 q22 q23 q24 q25 q26 q27 q28 q29 q30 q31 u0 u1 u2 u3 u4 u5 u6 u7 u8 u9 u10 u11 u12 u13 u14 u15 u16 u17 u18 u19 out) out.1 := by
  refine xv_startI (cc := cX11_parish) (maxL := 3) (rt := .int) (by decide +kernel) rfl (Nat.le_of_ble_eq_true rfl) ?_
  intro p e s m args below meth c A Q H ls hx hb hml hts hown hK hA hP hD hS hl hE hret
  have hown : s.vm.findClass "HillSchoolModel" = some m.cls := hown
  have hz : ∀ w ∈ zall, w.before args s = true := fun w h => hts w (List.mem_cons_of_mem _ h)
  have hl : lv_has ls 3 [(0, .ref q0), (1, .int (Int32.ofInt x1))] := hl
  unfold f_HM_parish at hf
  refine lv_aload_n hx hb dX11_parish_0 rfl (lv_at hl 0 rfl) ?_
  refine lv_iconst (v := Int32.ofInt 0) hx hb dX11_parish_1 rfl ?_
  refine va_put (D := (dC, dI)) (ci := 11) (v := .int (Int32.ofInt 0)) (ty := .int) (C := RX11) (T := TX11) (N := 53) hx hb hz zi_X11 tyX11 tyX11_ok nmX11 hown hK hP hD hS 0 rfl rfl 0 (by decide) (hz _ zw_1165) (fun _ h9 => h9) rfl (by decide +kernel) rfl rfl (Nat.le_of_ble_eq_true rfl) dX11_parish_2 (fun H locs hP hD hS => ?_)
  have hP : va_P (dC, dI) vwCl (wd_HM_parish cA q0 q1 q2 q3 q4 q5 q6 q7 q8 q9 q10 q11 q12 q13 q14 q15 q16 q17 q18 q19 q20 q21 q22 q23 q24 q25 q26 q27 q28 q29 q30 q31 u0 u1 u2 u3 u4 u5 u6 u7 u8 u9 u10 u11 u12 u13 u14 u15 u16 u17 u18 u19 0 i_status i_refusals i_row) H := hP
  have hD : va_D A (wd_HM_parish cA q0 q1 q2 q3 q4 q5 q6 q7 q8 q9 q10 q11 q12 q13 q14 q15 q16 q17 q18 q19 q20 q21 q22 q23 q24 q25 q26 q27 q28 q29 q30 q31 u0 u1 u2 u3 u4 u5 u6 u7 u8 u9 u10 u11 u12 u13 u14 u15 u16 u17 u18 u19 0 i_status i_refusals i_row) := hD
  refine lv_aload_n hx hb dX11_parish_5 rfl (lv_at hl 0 rfl) ?_
  refine lv_iload_n hx hb dX11_parish_6 rfl (lv_at hl 1 rfl) ?_
  refine xe_d1 hf (fun v1 hg hf => ?_)
  have hC : ([0, 2] : List Nat).map (fun i => (wd_HM_parish cA q0 q1 q2 q3 q4 q5 q6 q7 q8 q9 q10 q11 q12 q13 q14 q15 q16 q17 q18 q19 q20 q21 q22 q23 q24 q25 q26 q27 q28 q29 q30 q31 u0 u1 u2 u3 u4 u5 u6 u7 u8 u9 u10 u11 u12 u13 u14 u15 u16 u17 u18 u19 0 i_status i_refusals i_row)[i]?) = (wd_HM_isColumn cA q0 q1 q2 q3 q4 q5 q6 q7 q8 q9 q10 q11 q12 q13 q14 q15 q16 q17 q18 q19 q20 q21 q22 q23 q24 q25 q26 q27 q28 q29 q30 q31 0 i_status u0 u1 u2 u3 u4 u5 u6 u7 u8 u9 u10 u11 u12 u13 u14 u15 u16 u17 u18 u19 i_row).map some := rfl
  refine xv_afterI (ws' := (wd_HM_parish cA q0 q1 q2 q3 q4 q5 q6 q7 q8 q9 q10 q11 q12 q13 q14 q15 q16 q17 q18 q19 q20 q21 q22 q23 q24 q25 q26 q27 q28 q29 q30 q31 u0 u1 u2 u3 u4 u5 u6 u7 u8 u9 u10 u11 u12 u13 u14 u15 u16 u17 u18 u19 0 i_status i_refusals i_row)) (isC := [0, 2]) (ps := [some 0, none, some 1]) (va_runV (As := [.int (Int32.ofInt x1)]) (rest := []) ⟨hx, hb, hml, hown, hts⟩ (c_HM_isColumn l ev dC dI cA q0 q1 q2 q3 q4 q5 q6 q7 q8 q9 q10 q11 q12 q13 q14 q15 q16 q17 q18 q19 q20 q21 q22 q23 q24 q25 q26 q27 q28 q29 q30 q31 0 i_status u0 u1 u2 u3 u4 u5 u6 u7 u8 u9 u10 u11 u12 u13 u14 u15 u16 u17 u18 u19 hg H.size) (cwV 1 hts (zgV zw_1356 zw_1358 zw_42 zw_115 zw_1359) rfl rfl rfl hd_HM_isColumn ⟨Nat.le_of_ble_eq_true rfl, Nat.le_of_ble_eq_true rfl⟩) (xv_preV (T := TX11) (N := 53) hE hA hS hK hP hD (isC := [0, 2]) (by decide +kernel) hC (q0 := 0) (ci := 11) rfl rfl) rfl rfl hl.1 rfl (lv_room (Nat.le_of_ble_eq_true rfl)) dX11_parish_7 ⟨Nat.le_refl _, Nat.le_refl _⟩) hP hD hS hA (by decide +kernel) rfl hC rfl rfl (fun H locs hP hD hS => ?_)
  refine xi_if_ne (tgt := 20) hx hb dX11_parish_10 (by decide) hf (fun hf => ?_) (fun hf => ?_)
  · refine lv_aload_n hx hb dX11_parish_20 rfl (lv_at hl 0 rfl) ?_
    refine va_get (D := (dC, dI)) (ci := 11) (v := .ref q2) (C := RX11) (T := TX11) (N := 53) hx hb hz zi_X11 hown hK hP 0 rfl rfl 3 (by decide) (hz _ zw_1168) (fun _ h9 => h9) rfl dX11_parish_21 ?_
    refine lv_iconst (v := Int32.ofInt 2) hx hb dX11_parish_24 rfl ?_
    refine xi_iald hx hb hK hP 2 0 rfl rfl dX11_parish_25 hf (fun v2 hf => ?_)
    refine lv_istore_n (lv' := [(2, .int (Int32.ofInt v2)), (0, .ref q0), (1, .int (Int32.ofInt x1))]) hx hb dX11_parish_26 rfl hl (by decide) rfl (fun ls hl => ?_)
    refine lv_iload_n hx hb dX11_parish_27 rfl (lv_at hl 0 rfl) ?_
    refine lv_bipush (v := Int32.ofInt 6) hx hb dX11_parish_28 (by decide) ?_
    refine xi_icmp_ne (tgt := 40) hx hb dX11_parish_30 (by decide) hf (fun hf => ?_) (fun hf => ?_)
    · refine lv_aload_n hx hb dX11_parish_40 rfl (lv_at hl 1 rfl) ?_
      refine va_get (D := (dC, dI)) (ci := 11) (v := .ref q2) (C := RX11) (T := TX11) (N := 53) hx hb hz zi_X11 hown hK hP 0 rfl rfl 3 (by decide) (hz _ zw_1168) (fun _ h9 => h9) rfl dX11_parish_41 ?_
      refine lv_sipush (v := Int32.ofInt 171) hx hb dX11_parish_44 (by decide) ?_
      refine lv_iload_n hx hb dX11_parish_47 rfl (lv_at hl 0 rfl) ?_
      refine xi_iadd hx hb dX11_parish_48 hf (fun v3 hf => ?_)
      refine lv_iload_n hx hb dX11_parish_49 rfl (lv_at hl 2 rfl) ?_
      refine xi_iast hx hb hK hP hD hS 2 0 rfl rfl dX11_parish_50 hf (fun a4 H locs hP hD hS hf => ?_)
      have hP : va_P (dC, dI) vwCl (wd_HM_parish cA q0 q1 q2 q3 q4 q5 q6 q7 q8 q9 q10 q11 q12 q13 q14 q15 q16 q17 q18 q19 q20 q21 q22 q23 q24 q25 q26 q27 q28 q29 q30 q31 u0 u1 u2 u3 u4 u5 u6 u7 u8 u9 u10 u11 u12 u13 u14 u15 u16 u17 u18 u19 0 i_status i_refusals a4) H := hP
      have hD : va_D A (wd_HM_parish cA q0 q1 q2 q3 q4 q5 q6 q7 q8 q9 q10 q11 q12 q13 q14 q15 q16 q17 q18 q19 q20 q21 q22 q23 q24 q25 q26 q27 q28 q29 q30 q31 u0 u1 u2 u3 u4 u5 u6 u7 u8 u9 u10 u11 u12 u13 u14 u15 u16 u17 u18 u19 0 i_status i_refusals a4) := hD
      refine lv_aload_n hx hb dX11_parish_51 rfl (lv_at hl 1 rfl) ?_
      refine va_get (D := (dC, dI)) (ci := 11) (v := .ref q2) (C := RX11) (T := TX11) (N := 53) hx hb hz zi_X11 hown hK hP 0 rfl rfl 3 (by decide) (hz _ zw_1168) (fun _ h9 => h9) rfl dX11_parish_52 ?_
      refine lv_iconst (v := Int32.ofInt 2) hx hb dX11_parish_55 rfl ?_
      refine lv_dup2_11 hx hb dX11_parish_56 rfl rfl ?_
      refine xi_iald hx hb hK hP 2 0 rfl rfl dX11_parish_57 hf (fun v5 hf => ?_)
      refine lv_iconst (v := Int32.ofInt 1) hx hb dX11_parish_58 rfl ?_
      refine xi_iadd hx hb dX11_parish_59 hf (fun v6 hf => ?_)
      refine xi_iast hx hb hK hP hD hS 2 0 rfl rfl dX11_parish_60 hf (fun a7 H locs hP hD hS hf => ?_)
      have hP : va_P (dC, dI) vwCl (wd_HM_parish cA q0 q1 q2 q3 q4 q5 q6 q7 q8 q9 q10 q11 q12 q13 q14 q15 q16 q17 q18 q19 q20 q21 q22 q23 q24 q25 q26 q27 q28 q29 q30 q31 u0 u1 u2 u3 u4 u5 u6 u7 u8 u9 u10 u11 u12 u13 u14 u15 u16 u17 u18 u19 0 i_status i_refusals a7) H := hP
      have hD : va_D A (wd_HM_parish cA q0 q1 q2 q3 q4 q5 q6 q7 q8 q9 q10 q11 q12 q13 q14 q15 q16 q17 q18 q19 q20 q21 q22 q23 q24 q25 q26 q27 q28 q29 q30 q31 u0 u1 u2 u3 u4 u5 u6 u7 u8 u9 u10 u11 u12 u13 u14 u15 u16 u17 u18 u19 0 i_status i_refusals a7) := hD
      refine lv_aload_n hx hb dX11_parish_61 rfl (lv_at hl 1 rfl) ?_
      refine lv_iload_n hx hb dX11_parish_62 rfl (lv_at hl 0 rfl) ?_
      refine xe_d3 hf (fun v8 v9 a10 hg hf => ?_)
      have hC : ([0, 1] : List Nat).map (fun i => (wd_HM_parish cA q0 q1 q2 q3 q4 q5 q6 q7 q8 q9 q10 q11 q12 q13 q14 q15 q16 q17 q18 q19 q20 q21 q22 q23 q24 q25 q26 q27 q28 q29 q30 q31 u0 u1 u2 u3 u4 u5 u6 u7 u8 u9 u10 u11 u12 u13 u14 u15 u16 u17 u18 u19 0 i_status i_refusals a7)[i]?) = (wd_HM_tell cA q0 q1 q2 q3 q4 q5 q6 q7 q8 q9 q10 q11 q12 q13 q14 q15 q16 q17 q18 q19 q20 q21 q22 q23 q24 q25 q26 q27 q28 q29 q30 q31 0 u0 u1 u2 u3 u4 u5 u6 u7 u8 u9 u10 u11 u12 u13 u14 u15 u16 u17 u18 u19 i_status i_refusals).map some := rfl
      refine xv_afterI (ws' := (wd_HM_parish cA q0 q1 q2 q3 q4 q5 q6 q7 q8 q9 q10 q11 q12 q13 q14 q15 q16 q17 q18 q19 q20 q21 q22 q23 q24 q25 q26 q27 q28 q29 q30 q31 u0 u1 u2 u3 u4 u5 u6 u7 u8 u9 u10 u11 u12 u13 u14 u15 u16 u17 u18 u19 0 v9 a10 a7)) (isC := [0, 1]) (ps := [some 0, some 1, none]) (va_runV (As := [.int (Int32.ofInt v2)]) (rest := []) ⟨hx, hb, hml, hown, hts⟩ (c_HM_tell l ev dC dI cA q0 q1 q2 q3 q4 q5 q6 q7 q8 q9 q10 q11 q12 q13 q14 q15 q16 q17 q18 q19 q20 q21 q22 q23 q24 q25 q26 q27 q28 q29 q30 q31 0 u0 u1 u2 u3 u4 u5 u6 u7 u8 u9 u10 u11 u12 u13 u14 u15 u16 u17 u18 u19 hg H.size) (cwV 1 hts (zgV zw_1332 zw_1334 zw_40 zw_115 zw_1335) rfl rfl rfl hd_HM_tell ⟨Nat.le_of_ble_eq_true rfl, Nat.le_of_ble_eq_true rfl⟩) (xv_preV (T := TX11) (N := 53) hE hA hS hK hP hD (isC := [0, 1]) (by decide +kernel) hC (q0 := 0) (ci := 11) rfl rfl) rfl rfl hl.1 rfl (lv_room (Nat.le_of_ble_eq_true rfl)) dX11_parish_63 ⟨Nat.le_refl _, Nat.le_refl _⟩) hP hD hS hA (by decide +kernel) rfl hC rfl rfl (fun H locs hP hD hS => ?_)
      obtain rfl := Option.some.inj hf
      exact hret _ _ _ _ rfl dX11_parish_66 hP hD hS
    · refine lv_aload_n hx hb dX11_parish_33 rfl (lv_at hl 1 rfl) ?_
      refine lv_bipush (v := Int32.ofInt (-5)) hx hb dX11_parish_34 (by decide) ?_
      refine xe_d3 hf (fun v11 v12 a13 hg hf => ?_)
      have hC : ([0, 1] : List Nat).map (fun i => (wd_HM_parish cA q0 q1 q2 q3 q4 q5 q6 q7 q8 q9 q10 q11 q12 q13 q14 q15 q16 q17 q18 q19 q20 q21 q22 q23 q24 q25 q26 q27 q28 q29 q30 q31 u0 u1 u2 u3 u4 u5 u6 u7 u8 u9 u10 u11 u12 u13 u14 u15 u16 u17 u18 u19 0 i_status i_refusals i_row)[i]?) = (wd_HM_tell cA q0 q1 q2 q3 q4 q5 q6 q7 q8 q9 q10 q11 q12 q13 q14 q15 q16 q17 q18 q19 q20 q21 q22 q23 q24 q25 q26 q27 q28 q29 q30 q31 0 u0 u1 u2 u3 u4 u5 u6 u7 u8 u9 u10 u11 u12 u13 u14 u15 u16 u17 u18 u19 i_status i_refusals).map some := rfl
      refine xv_afterI (ws' := (wd_HM_parish cA q0 q1 q2 q3 q4 q5 q6 q7 q8 q9 q10 q11 q12 q13 q14 q15 q16 q17 q18 q19 q20 q21 q22 q23 q24 q25 q26 q27 q28 q29 q30 q31 u0 u1 u2 u3 u4 u5 u6 u7 u8 u9 u10 u11 u12 u13 u14 u15 u16 u17 u18 u19 0 v12 a13 i_row)) (isC := [0, 1]) (ps := [some 0, some 1, none]) (va_runV (As := [.int (Int32.ofInt (-5))]) (rest := []) ⟨hx, hb, hml, hown, hts⟩ (c_HM_tell l ev dC dI cA q0 q1 q2 q3 q4 q5 q6 q7 q8 q9 q10 q11 q12 q13 q14 q15 q16 q17 q18 q19 q20 q21 q22 q23 q24 q25 q26 q27 q28 q29 q30 q31 0 u0 u1 u2 u3 u4 u5 u6 u7 u8 u9 u10 u11 u12 u13 u14 u15 u16 u17 u18 u19 hg H.size) (cwV 1 hts (zgV zw_1332 zw_1334 zw_40 zw_115 zw_1335) rfl rfl rfl hd_HM_tell ⟨Nat.le_of_ble_eq_true rfl, Nat.le_of_ble_eq_true rfl⟩) (xv_preV (T := TX11) (N := 53) hE hA hS hK hP hD (isC := [0, 1]) (by decide +kernel) hC (q0 := 0) (ci := 11) rfl rfl) rfl rfl hl.1 rfl (lv_room (Nat.le_of_ble_eq_true rfl)) dX11_parish_36 ⟨Nat.le_refl _, Nat.le_refl _⟩) hP hD hS hA (by decide +kernel) rfl hC rfl rfl (fun H locs hP hD hS => ?_)
      obtain rfl := Option.some.inj hf
      exact hret _ _ _ _ rfl dX11_parish_39 hP hD hS
  · refine lv_aload_n hx hb dX11_parish_13 rfl (lv_at hl 0 rfl) ?_
    refine lv_bipush (v := Int32.ofInt (-2)) hx hb dX11_parish_14 (by decide) ?_
    refine xe_d3 hf (fun v14 v15 a16 hg hf => ?_)
    have hC : ([0, 1] : List Nat).map (fun i => (wd_HM_parish cA q0 q1 q2 q3 q4 q5 q6 q7 q8 q9 q10 q11 q12 q13 q14 q15 q16 q17 q18 q19 q20 q21 q22 q23 q24 q25 q26 q27 q28 q29 q30 q31 u0 u1 u2 u3 u4 u5 u6 u7 u8 u9 u10 u11 u12 u13 u14 u15 u16 u17 u18 u19 0 i_status i_refusals i_row)[i]?) = (wd_HM_tell cA q0 q1 q2 q3 q4 q5 q6 q7 q8 q9 q10 q11 q12 q13 q14 q15 q16 q17 q18 q19 q20 q21 q22 q23 q24 q25 q26 q27 q28 q29 q30 q31 0 u0 u1 u2 u3 u4 u5 u6 u7 u8 u9 u10 u11 u12 u13 u14 u15 u16 u17 u18 u19 i_status i_refusals).map some := rfl
    refine xv_afterI (ws' := (wd_HM_parish cA q0 q1 q2 q3 q4 q5 q6 q7 q8 q9 q10 q11 q12 q13 q14 q15 q16 q17 q18 q19 q20 q21 q22 q23 q24 q25 q26 q27 q28 q29 q30 q31 u0 u1 u2 u3 u4 u5 u6 u7 u8 u9 u10 u11 u12 u13 u14 u15 u16 u17 u18 u19 0 v15 a16 i_row)) (isC := [0, 1]) (ps := [some 0, some 1, none]) (va_runV (As := [.int (Int32.ofInt (-2))]) (rest := []) ⟨hx, hb, hml, hown, hts⟩ (c_HM_tell l ev dC dI cA q0 q1 q2 q3 q4 q5 q6 q7 q8 q9 q10 q11 q12 q13 q14 q15 q16 q17 q18 q19 q20 q21 q22 q23 q24 q25 q26 q27 q28 q29 q30 q31 0 u0 u1 u2 u3 u4 u5 u6 u7 u8 u9 u10 u11 u12 u13 u14 u15 u16 u17 u18 u19 hg H.size) (cwV 1 hts (zgV zw_1332 zw_1334 zw_40 zw_115 zw_1335) rfl rfl rfl hd_HM_tell ⟨Nat.le_of_ble_eq_true rfl, Nat.le_of_ble_eq_true rfl⟩) (xv_preV (T := TX11) (N := 53) hE hA hS hK hP hD (isC := [0, 1]) (by decide +kernel) hC (q0 := 0) (ci := 11) rfl rfl) rfl rfl hl.1 rfl (lv_room (Nat.le_of_ble_eq_true rfl)) dX11_parish_16 ⟨Nat.le_refl _, Nat.le_refl _⟩) hP hD hS hA (by decide +kernel) rfl hC rfl rfl (fun H locs hP hD hS => ?_)
    obtain rfl := Option.some.inj hf
    exact hret _ _ _ _ rfl dX11_parish_19 hP hD hS
theorem dX11_isTerm_0 : decode cX11_isTerm 0 = .ok (.iload_n 0, 1) := by decide +kernel
theorem dX11_isTerm_1 : decode cX11_isTerm 1 = .ok (.tableswitch 71 0 3 #[31, 41, 51, 61], 31) := by decide +kernel
theorem dX11_isTerm_32 : decode cX11_isTerm 32 = .ok (.iload_n 1, 1) := by decide +kernel
theorem dX11_isTerm_33 : decode cX11_isTerm 33 = .ok (.i2l, 1) := by decide +kernel
theorem dX11_isTerm_34 : decode cX11_isTerm 34 = .ok (.lconst 0, 1) := by decide +kernel
theorem dX11_isTerm_35 : decode cX11_isTerm 35 = .ok (.ldc2_w 164, 3) := by decide +kernel
theorem dX11_isTerm_38 : decode cX11_isTerm 38 = .ok (.invokestatic 132, 3) := by decide +kernel
theorem dX11_isTerm_41 : decode cX11_isTerm 41 = .ok (.ireturn, 1) := by decide +kernel
theorem dX11_isTerm_42 : decode cX11_isTerm 42 = .ok (.iload_n 1, 1) := by decide +kernel
theorem dX11_isTerm_43 : decode cX11_isTerm 43 = .ok (.i2l, 1) := by decide +kernel
theorem dX11_isTerm_44 : decode cX11_isTerm 44 = .ok (.lconst 1, 1) := by decide +kernel
theorem dX11_isTerm_45 : decode cX11_isTerm 45 = .ok (.ldc2_w 166, 3) := by decide +kernel
theorem dX11_isTerm_48 : decode cX11_isTerm 48 = .ok (.invokestatic 132, 3) := by decide +kernel
theorem dX11_isTerm_51 : decode cX11_isTerm 51 = .ok (.ireturn, 1) := by decide +kernel
theorem dX11_isTerm_52 : decode cX11_isTerm 52 = .ok (.iload_n 1, 1) := by decide +kernel
theorem dX11_isTerm_53 : decode cX11_isTerm 53 = .ok (.i2l, 1) := by decide +kernel
theorem dX11_isTerm_54 : decode cX11_isTerm 54 = .ok (.lconst 1, 1) := by decide +kernel
theorem dX11_isTerm_55 : decode cX11_isTerm 55 = .ok (.ldc2_w 166, 3) := by decide +kernel
theorem dX11_isTerm_58 : decode cX11_isTerm 58 = .ok (.invokestatic 132, 3) := by decide +kernel
theorem dX11_isTerm_61 : decode cX11_isTerm 61 = .ok (.ireturn, 1) := by decide +kernel
theorem dX11_isTerm_62 : decode cX11_isTerm 62 = .ok (.iload_n 1, 1) := by decide +kernel
theorem dX11_isTerm_63 : decode cX11_isTerm 63 = .ok (.i2l, 1) := by decide +kernel
theorem dX11_isTerm_64 : decode cX11_isTerm 64 = .ok (.lconst 0, 1) := by decide +kernel
theorem dX11_isTerm_65 : decode cX11_isTerm 65 = .ok (.ldc2_w 144, 3) := by decide +kernel
theorem dX11_isTerm_68 : decode cX11_isTerm 68 = .ok (.invokestatic 132, 3) := by decide +kernel
theorem dX11_isTerm_71 : decode cX11_isTerm 71 = .ok (.ireturn, 1) := by decide +kernel
theorem dX11_isTerm_72 : decode cX11_isTerm 72 = .ok (.iconst 0, 1) := by decide +kernel
theorem dX11_isTerm_73 : decode cX11_isTerm 73 = .ok (.ireturn, 1) := by decide +kernel
theorem zw_1404 : (Jvm.Cond.code ({ cls := "HillSchoolModel", name := "isTerm", desc := "(II)Z" } : Jvm.MethodName) prog_13_method_23_code (2 : Nat) (Option.some Jvm.ClassFile.FieldType.boolean)) ∈ zall := zmemG (zmj_6 101 rfl) rfl
theorem zw_1405 : (Jvm.Cond.constantLong "HillSchoolModel" (164 : Nat) (99 : Int64)) ∈ zall := zmemG (zmj_6 102 rfl) rfl
theorem zw_1406 : (Jvm.Cond.constantLong "HillSchoolModel" (166 : Nat) (9 : Int64)) ∈ zall := zmemG (zmj_6 103 rfl) rfl
abbrev w_HM_isTerm : List Cond := .code yX11_isTerm cX11_isTerm 2 (some .boolean) :: zall
abbrev rm_HM_isTerm : Room := { frames := 1, cells := 0, slots := 0, locals := 25 }
theorem hd_HM_isTerm : yX11_isTerm.cls = yX11_isTerm.cls ∧ yX11_isTerm.cls ≠ "java/lang/invoke/MethodHandle" ∧ yX11_isTerm.cls ≠ "java/lang/invoke/VarHandle" ∧ (parseMethodDescriptor yX11_isTerm.desc).map (fun d => d.parameters.length) = some 2 := by decide +kernel
def wd_HM_isTerm (cA : Nat → ClassId)   : va_W := []
def wf_HM_isTerm (cA : Nat → ClassId)  (o : Int) : va_W := wd_HM_isTerm cA
def f_HM_isTerm (x0 : Int) (x1 : Int) : Option (Int) :=
  if zi_w x0 = 0 then
    zn (zi_w x1) fun v1 =>
    zd1 (f_HM_in v1 0 99) fun v2 =>
    if ¬ (zi_w v2 = 0 ∨ zi_w v2 = 1) then none else
    some v2
  else if zi_w x0 = 1 then
    zn (zi_w x1) fun v3 =>
    zd1 (f_HM_in v3 1 9) fun v4 =>
    if ¬ (zi_w v4 = 0 ∨ zi_w v4 = 1) then none else
    some v4
  else if zi_w x0 = 2 then
    zn (zi_w x1) fun v5 =>
    zd1 (f_HM_in v5 1 9) fun v6 =>
    if ¬ (zi_w v6 = 0 ∨ zi_w v6 = 1) then none else
    some v6
  else if zi_w x0 = 3 then
    zn (zi_w x1) fun v7 =>
    zd1 (f_HM_in v7 0 30) fun v8 =>
    if ¬ (zi_w v8 = 0 ∨ zi_w v8 = 1) then none else
    some v8
  else
    some 0
set_option maxHeartbeats 4000000 in
set_option maxRecDepth 100000 in
theorem c_HM_isTerm (l : Launch) (ev : zEv) (dC : Nat → ClassId) (dI : Nat → Nat → Nat) (cA : Nat → ClassId) {x0 x1 : Int} {out : Int} (hf : f_HM_isTerm x0 x1 = some out) : xc_I l ev (dC, dI) vwCl (tyl cA) yX11_isTerm w_HM_isTerm rm_HM_isTerm [.int (Int32.ofInt x0), .int (Int32.ofInt x1)] (wd_HM_isTerm cA) (wf_HM_isTerm cA out) out := by
  refine xv_startI (cc := cX11_isTerm) (maxL := 2) (rt := .boolean) (by decide +kernel) rfl (Nat.le_of_ble_eq_true rfl) ?_
  intro p e s m args below meth c A Q H ls hx hb hml hts hown hK hA hP hD hS hl hE hret
  have hown : s.vm.findClass "HillSchoolModel" = some m.cls := hown
  have hz : ∀ w ∈ zall, w.before args s = true := fun w h => hts w (List.mem_cons_of_mem _ h)
  have hl : lv_has ls 2 [(0, .int (Int32.ofInt x0)), (1, .int (Int32.ofInt x1))] := hl
  unfold f_HM_isTerm at hf
  refine lv_iload_n hx hb dX11_isTerm_0 rfl (lv_at hl 0 rfl) ?_
  refine xz_if hf (fun hc hf => ?_) (fun hn0 hf => ?_)
  · refine xi_tin (tgt := 32) hx hb dX11_isTerm_1 hc (by decide) (by decide) rfl (by decide) ?_
    refine lv_iload_n hx hb dX11_isTerm_32 rfl (lv_at hl 1 rfl) ?_
    refine xi_i2l hx hb dX11_isTerm_33 hf (fun v1 hf => ?_)
    refine lv_lconst (v := Int64.ofInt 0) hx hb dX11_isTerm_34 (by decide) ?_
    refine lv_ldc2 (v := Int64.ofInt 99) hx hb hown (hz _ zw_1405) dX11_isTerm_35 ?_
    refine xe_d1 hf (fun v2 hg hf => ?_)
    have hC : ([] : List Nat).map (fun i => (wd_HM_isTerm cA)[i]?) = (wd_HM_in cA).map some := rfl
    refine xv_afterI (ws' := (wd_HM_isTerm cA)) (isC := []) (ps := []) (va_runS (As := [.long (Int64.ofInt v1), .long (Int64.ofInt 0), .long (Int64.ofInt 99)]) (rest := []) ⟨hx, hb, hml, hown, hts⟩ (c_HM_in l ev dC dI cA hg H.size) (va_cwS 3 hts (zgS zw_1329 zw_1330 zw_115 zw_1331) rfl rfl rfl hd_HM_in.2 ⟨Nat.le_of_ble_eq_true rfl, Nat.le_of_ble_eq_true rfl⟩) (xv_preS hE hA hS hK hP hD (isC := []) (by decide +kernel) hC) rfl rfl hl.1 rfl (lv_room (Nat.le_of_ble_eq_true rfl)) dX11_isTerm_38 ⟨Nat.le_refl _, Nat.le_refl _⟩) hP hD hS hA (by decide +kernel) rfl hC rfl rfl (fun H locs hP hD hS => ?_)
    obtain ⟨hzb, hf⟩ := xz_q hf
    obtain rfl := Option.some.inj hf
    exact hret _ _ _ _ (zz_bool hzb) dX11_isTerm_41 hP hD hS
  refine xz_if hf (fun hc hf => ?_) (fun hn1 hf => ?_)
  · refine xi_tin (tgt := 42) hx hb dX11_isTerm_1 hc (by decide) (by decide) rfl (by decide) ?_
    refine lv_iload_n hx hb dX11_isTerm_42 rfl (lv_at hl 1 rfl) ?_
    refine xi_i2l hx hb dX11_isTerm_43 hf (fun v3 hf => ?_)
    refine lv_lconst (v := Int64.ofInt 1) hx hb dX11_isTerm_44 (by decide) ?_
    refine lv_ldc2 (v := Int64.ofInt 9) hx hb hown (hz _ zw_1406) dX11_isTerm_45 ?_
    refine xe_d1 hf (fun v4 hg hf => ?_)
    have hC : ([] : List Nat).map (fun i => (wd_HM_isTerm cA)[i]?) = (wd_HM_in cA).map some := rfl
    refine xv_afterI (ws' := (wd_HM_isTerm cA)) (isC := []) (ps := []) (va_runS (As := [.long (Int64.ofInt v3), .long (Int64.ofInt 1), .long (Int64.ofInt 9)]) (rest := []) ⟨hx, hb, hml, hown, hts⟩ (c_HM_in l ev dC dI cA hg H.size) (va_cwS 3 hts (zgS zw_1329 zw_1330 zw_115 zw_1331) rfl rfl rfl hd_HM_in.2 ⟨Nat.le_of_ble_eq_true rfl, Nat.le_of_ble_eq_true rfl⟩) (xv_preS hE hA hS hK hP hD (isC := []) (by decide +kernel) hC) rfl rfl hl.1 rfl (lv_room (Nat.le_of_ble_eq_true rfl)) dX11_isTerm_48 ⟨Nat.le_refl _, Nat.le_refl _⟩) hP hD hS hA (by decide +kernel) rfl hC rfl rfl (fun H locs hP hD hS => ?_)
    obtain ⟨hzb, hf⟩ := xz_q hf
    obtain rfl := Option.some.inj hf
    exact hret _ _ _ _ (zz_bool hzb) dX11_isTerm_51 hP hD hS
  refine xz_if hf (fun hc hf => ?_) (fun hn2 hf => ?_)
  · refine xi_tin (tgt := 52) hx hb dX11_isTerm_1 hc (by decide) (by decide) rfl (by decide) ?_
    refine lv_iload_n hx hb dX11_isTerm_52 rfl (lv_at hl 1 rfl) ?_
    refine xi_i2l hx hb dX11_isTerm_53 hf (fun v5 hf => ?_)
    refine lv_lconst (v := Int64.ofInt 1) hx hb dX11_isTerm_54 (by decide) ?_
    refine lv_ldc2 (v := Int64.ofInt 9) hx hb hown (hz _ zw_1406) dX11_isTerm_55 ?_
    refine xe_d1 hf (fun v6 hg hf => ?_)
    have hC : ([] : List Nat).map (fun i => (wd_HM_isTerm cA)[i]?) = (wd_HM_in cA).map some := rfl
    refine xv_afterI (ws' := (wd_HM_isTerm cA)) (isC := []) (ps := []) (va_runS (As := [.long (Int64.ofInt v5), .long (Int64.ofInt 1), .long (Int64.ofInt 9)]) (rest := []) ⟨hx, hb, hml, hown, hts⟩ (c_HM_in l ev dC dI cA hg H.size) (va_cwS 3 hts (zgS zw_1329 zw_1330 zw_115 zw_1331) rfl rfl rfl hd_HM_in.2 ⟨Nat.le_of_ble_eq_true rfl, Nat.le_of_ble_eq_true rfl⟩) (xv_preS hE hA hS hK hP hD (isC := []) (by decide +kernel) hC) rfl rfl hl.1 rfl (lv_room (Nat.le_of_ble_eq_true rfl)) dX11_isTerm_58 ⟨Nat.le_refl _, Nat.le_refl _⟩) hP hD hS hA (by decide +kernel) rfl hC rfl rfl (fun H locs hP hD hS => ?_)
    obtain ⟨hzb, hf⟩ := xz_q hf
    obtain rfl := Option.some.inj hf
    exact hret _ _ _ _ (zz_bool hzb) dX11_isTerm_61 hP hD hS
  refine xz_if hf (fun hc hf => ?_) (fun hn3 hf => ?_)
  · refine xi_tin (tgt := 62) hx hb dX11_isTerm_1 hc (by decide) (by decide) rfl (by decide) ?_
    refine lv_iload_n hx hb dX11_isTerm_62 rfl (lv_at hl 1 rfl) ?_
    refine xi_i2l hx hb dX11_isTerm_63 hf (fun v7 hf => ?_)
    refine lv_lconst (v := Int64.ofInt 0) hx hb dX11_isTerm_64 (by decide) ?_
    refine lv_ldc2 (v := Int64.ofInt 30) hx hb hown (hz _ zw_1355) dX11_isTerm_65 ?_
    refine xe_d1 hf (fun v8 hg hf => ?_)
    have hC : ([] : List Nat).map (fun i => (wd_HM_isTerm cA)[i]?) = (wd_HM_in cA).map some := rfl
    refine xv_afterI (ws' := (wd_HM_isTerm cA)) (isC := []) (ps := []) (va_runS (As := [.long (Int64.ofInt v7), .long (Int64.ofInt 0), .long (Int64.ofInt 30)]) (rest := []) ⟨hx, hb, hml, hown, hts⟩ (c_HM_in l ev dC dI cA hg H.size) (va_cwS 3 hts (zgS zw_1329 zw_1330 zw_115 zw_1331) rfl rfl rfl hd_HM_in.2 ⟨Nat.le_of_ble_eq_true rfl, Nat.le_of_ble_eq_true rfl⟩) (xv_preS hE hA hS hK hP hD (isC := []) (by decide +kernel) hC) rfl rfl hl.1 rfl (lv_room (Nat.le_of_ble_eq_true rfl)) dX11_isTerm_68 ⟨Nat.le_refl _, Nat.le_refl _⟩) hP hD hS hA (by decide +kernel) rfl hC rfl rfl (fun H locs hP hD hS => ?_)
    obtain ⟨hzb, hf⟩ := xz_q hf
    obtain rfl := Option.some.inj hf
    exact hret _ _ _ _ (zz_bool hzb) dX11_isTerm_71 hP hD hS
  refine xi_tout (tgt := 72) hx hb dX11_isTerm_1 (by omega) (by decide) ?_
  refine lv_iconst (v := Int32.ofInt 0) hx hb dX11_isTerm_72 rfl ?_
  obtain rfl := Option.some.inj hf
  exact hret _ _ _ _ zz_b0 dX11_isTerm_73 hP hD hS
theorem dX11_terms_0 : decode cX11_terms 0 = .ok (.aload_n 0, 1) := by decide +kernel
theorem dX11_terms_1 : decode cX11_terms 1 = .ok (.iconst 0, 1) := by decide +kernel
theorem dX11_terms_2 : decode cX11_terms 2 = .ok (.putfield 126, 3) := by decide +kernel
theorem dX11_terms_5 : decode cX11_terms 5 = .ok (.iload_n 1, 1) := by decide +kernel
theorem dX11_terms_6 : decode cX11_terms 6 = .ok (.iload_n 2, 1) := by decide +kernel
theorem dX11_terms_7 : decode cX11_terms 7 = .ok (.invokestatic 168, 3) := by decide +kernel
theorem dX11_terms_10 : decode cX11_terms 10 = .ok (.ifCond .eq 14, 3) := by decide +kernel
theorem dX11_terms_13 : decode cX11_terms 13 = .ok (.aload_n 0, 1) := by decide +kernel
theorem dX11_terms_14 : decode cX11_terms 14 = .ok (.iconst 5, 1) := by decide +kernel
theorem dX11_terms_15 : decode cX11_terms 15 = .ok (.iload_n 1, 1) := by decide +kernel
theorem dX11_terms_16 : decode cX11_terms 16 = .ok (.iadd, 1) := by decide +kernel
theorem dX11_terms_17 : decode cX11_terms 17 = .ok (.iload_n 2, 1) := by decide +kernel
theorem dX11_terms_18 : decode cX11_terms 18 = .ok (.invokevirtual 158, 3) := by decide +kernel
theorem dX11_terms_21 : decode cX11_terms 21 = .ok (.goto 8, 3) := by decide +kernel
theorem dX11_terms_24 : decode cX11_terms 24 = .ok (.aload_n 0, 1) := by decide +kernel
theorem dX11_terms_25 : decode cX11_terms 25 = .ok (.iconst (-1), 1) := by decide +kernel
theorem dX11_terms_26 : decode cX11_terms 26 = .ok (.invokevirtual 136, 3) := by decide +kernel
theorem dX11_terms_29 : decode cX11_terms 29 = .ok (.ireturn, 1) := by decide +kernel
theorem zw_1401 : (Jvm.Cond.code ({ cls := "HillSchoolModel", name := "terms", desc := "(II)I" } : Jvm.MethodName) prog_13_method_24_code (3 : Nat) (Option.some Jvm.ClassFile.FieldType.int)) ∈ zall := zmemG (zmj_6 98 rfl) rfl
theorem zw_1402 : (Jvm.Cond.methodLink "HillSchoolModel" (168 : Nat) ({ cls := "HillSchoolModel", name := "isTerm", desc := "(II)Z" } : Jvm.MethodName)) ∈ zall := zmemG (zmj_6 99 rfl) rfl
theorem zw_1403 : (Jvm.Cond.static ({ cls := "HillSchoolModel", name := "isTerm", desc := "(II)Z" } : Jvm.MethodName)) ∈ zall := zmemG (zmj_6 100 rfl) rfl
abbrev w_HM_terms : List Cond := .code yX11_terms cX11_terms 3 (some .int) :: zall
abbrev rm_HM_terms : Room := { frames := 2, cells := 0, slots := 0, locals := 46 }
theorem hd_HM_terms : yX11_terms.cls = "HillSchoolModel" ∧ yX11_terms.cls ≠ "java/lang/invoke/MethodHandle" ∧ yX11_terms.cls ≠ "java/lang/invoke/VarHandle" ∧ (parseMethodDescriptor yX11_terms.desc).map (fun d => d.parameters.length) = some 2 := by decide +kernel
def wd_HM_terms (cA : Nat → ClassId) (q0 q1 q2 q3 q4 q5 q6 q7 q8 q9 q10 q11 q12 q13 q14 q15 q16 q17 q18 q19 q20 q21 q22 q23 q24 q25 q26 q27 q28 q29 q30 q31 : Nat) (u0 u1 u2 u3 u4 u5 u6 u7 u8 u9 u10 u11 u12 u13 u14 u15 u16 u17 u18 u19 : Int)  (i_thrown : Int) (i_status : Int) (i_refusals : Nat → Int) (i_row : Nat → Int) : va_W := [(q0, .inr (11, [.int (Int32.ofInt i_thrown), .int (Int32.ofInt i_status), .ref q1, .ref q2, .ref q3, .ref q4, .int (Int32.ofInt u0), .ref q5, .int (Int32.ofInt u1), .int (Int32.ofInt u2), .int (Int32.ofInt u3), .int (Int32.ofInt u4), .long (Int64.ofInt u5), .int (Int32.ofInt u6), .int (Int32.ofInt u7), .int (Int32.ofInt u8), .ref q6, .int (Int32.ofInt u9), .ref q7, .ref q8, .int (Int32.ofInt u10), .ref q9, .ref q10, .int (Int32.ofInt u11), .int (Int32.ofInt u12), .ref q11, .int (Int32.ofInt u13), .ref q12, .ref q13, .int (Int32.ofInt u14), .long (Int64.ofInt u15), .long (Int64.ofInt u16), .ref q14, .ref q15, .ref q16, .ref q17, .ref q18, .int (Int32.ofInt u17), .ref q19, .ref q20, .ref q21, .ref q22, .ref q23, .ref q24, .ref q25, .ref q26, .ref q27, .ref q28, .ref q29, .ref q30, .long (Int64.ofInt u18), .ref q31, .int (Int32.ofInt u19)])), (q1, .inl (cA 0, 7, .inl (za i_refusals))), (q2, .inl (cA 0, 5580, .inl (za i_row)))]
def wf_HM_terms (cA : Nat → ClassId) (q0 q1 q2 q3 q4 q5 q6 q7 q8 q9 q10 q11 q12 q13 q14 q15 q16 q17 q18 q19 q20 q21 q22 q23 q24 q25 q26 q27 q28 q29 q30 q31 : Nat) (u0 u1 u2 u3 u4 u5 u6 u7 u8 u9 u10 u11 u12 u13 u14 u15 u16 u17 u18 u19 : Int)  (o : Int × Int × Int × (Nat → Int) × (Nat → Int)) : va_W := wd_HM_terms cA q0 q1 q2 q3 q4 q5 q6 q7 q8 q9 q10 q11 q12 q13 q14 q15 q16 q17 q18 q19 q20 q21 q22 q23 q24 q25 q26 q27 q28 q29 q30 q31 u0 u1 u2 u3 u4 u5 u6 u7 u8 u9 u10 u11 u12 u13 u14 u15 u16 u17 u18 u19 o.2.1 o.2.2.1 o.2.2.2.1 o.2.2.2.2
def f_HM_terms (x1 : Int) (x2 : Int) (i_thrown : Int) (i_status : Int) (i_refusals : Nat → Int) (i_row : Nat → Int) : Option (Int × Int × Int × (Nat → Int) × (Nat → Int)) :=
  zd1 (f_HM_isTerm x1 x2) fun v1 =>
  if zi_w v1 = 0 then
    zd3 (f_HM_tell (-1) i_status i_refusals) fun v2 v3 a4 =>
    some (v2, 0, v3, a4, i_row)
  else
    zn (5 + x1) fun v5 =>
    zd3 (f_HM_change v5 x2 i_status i_row) fun v6 v7 a8 =>
    some (v6, 0, v7, i_refusals, a8)
set_option maxHeartbeats 4000000 in
set_option maxRecDepth 100000 in
theorem c_HM_terms (l : Launch) (ev : zEv) (dC : Nat → ClassId) (dI : Nat → Nat → Nat) (cA : Nat → ClassId) (q0 q1 q2 q3 q4 q5 q6 q7 q8 q9 q10 q11 q12 q13 q14 q15 q16 q17 q18 q19 q20 q21 q22 q23 q24 q25 q26 q27 q28 q29 q30 q31 : Nat) (u0 u1 u2 u3 u4 u5 u6 u7 u8 u9 u10 u11 u12 u13 u14 u15 u16 u17 u18 u19 : Int) {x1 x2 : Int} {i_thrown : Int} {i_status : Int} {i_refusals : Nat → Int} {i_row : Nat → Int} {out : Int × Int × Int × (Nat → Int) × (Nat → Int)} (hf : f_HM_terms x1 x2 i_thrown i_status i_refusals i_row = some out) : xc_I l ev (dC, dI) vwCl (tyl cA) yX11_terms w_HM_terms rm_HM_terms [.ref q0, .int (Int32.ofInt x1), .int (Int32.ofInt x2)] (wd_HM_terms cA q0 q1 q2 q3 q4 q5 q6 q7 q8 q9 q10 q11 q12 q13 q14 q15 q16 q17 q18 q19 q20 q21 q22 q23 q24 q25 q26 q27 q28 q29 q30 q31 u0 u1 u2 u3 u4 u5 u6 u7 u8 u9 u10 u11 u12 u13 u14 u15 u16 u17 u18 u19 i_thrown i_status i_refusals i_row) (wf_HM_terms cA q0 q1 q2 q3 q4 q5 q6 q7 q8 q9 q10 q11 q12 q13 q14 q15 q16 q17 q18 q19 q20 q21 q22 q23 q24 q25 q26 q27 q28 q29 q30 q31 u0 u1 u2 u3 u4 u5 u6 u7 u8 u9 u10 u11 u12 u13 u14 u15 u16 u17 u18 u19 out) out.1 := by
  refine xv_startI (cc := cX11_terms) (maxL := 3) (rt := .int) (by decide +kernel) rfl (Nat.le_of_ble_eq_true rfl) ?_
  intro p e s m args below meth c A Q H ls hx hb hml hts hown hK hA hP hD hS hl hE hret
  have hown : s.vm.findClass "HillSchoolModel" = some m.cls := hown
  have hz : ∀ w ∈ zall, w.before args s = true := fun w h => hts w (List.mem_cons_of_mem _ h)
  have hl : lv_has ls 3 [(0, .ref q0), (1, .int (Int32.ofInt x1)), (2, .int (Int32.ofInt x2))] := hl
  unfold f_HM_terms at hf
  refine lv_aload_n hx hb dX11_terms_0 rfl (lv_at hl 0 rfl) ?_
  refine lv_iconst (v := Int32.ofInt 0) hx hb dX11_terms_1 rfl ?_
  refine va_put (D := (dC, dI)) (ci := 11) (v := .int (Int32.ofInt 0)) (ty := .int) (C := RX11) (T := TX11) (N := 53) hx hb hz zi_X11 tyX11 tyX11_ok nmX11 hown hK hP hD hS 0 rfl rfl 0 (by decide) (hz _ zw_1165) (fun _ h9 => h9) rfl (by decide +kernel) rfl rfl (Nat.le_of_ble_eq_true rfl) dX11_terms_2 (fun H locs hP hD hS => ?_)
  have hP : va_P (dC, dI) vwCl (wd_HM_terms cA q0 q1 q2 q3 q4 q5 q6 q7 q8 q9 q10 q11 q12 q13 q14 q15 q16 q17 q18 q19 q20 q21 q22 q23 q24 q25 q26 q27 q28 q29 q30 q31 u0 u1 u2 u3 u4 u5 u6 u7 u8 u9 u10 u11 u12 u13 u14 u15 u16 u17 u18 u19 0 i_status i_refusals i_row) H := hP
  have hD : va_D A (wd_HM_terms cA q0 q1 q2 q3 q4 q5 q6 q7 q8 q9 q10 q11 q12 q13 q14 q15 q16 q17 q18 q19 q20 q21 q22 q23 q24 q25 q26 q27 q28 q29 q30 q31 u0 u1 u2 u3 u4 u5 u6 u7 u8 u9 u10 u11 u12 u13 u14 u15 u16 u17 u18 u19 0 i_status i_refusals i_row) := hD
  refine lv_iload_n hx hb dX11_terms_5 rfl (lv_at hl 1 rfl) ?_
  refine lv_iload_n hx hb dX11_terms_6 rfl (lv_at hl 2 rfl) ?_
  refine xe_d1 hf (fun v1 hg hf => ?_)
  have hC : ([] : List Nat).map (fun i => (wd_HM_terms cA q0 q1 q2 q3 q4 q5 q6 q7 q8 q9 q10 q11 q12 q13 q14 q15 q16 q17 q18 q19 q20 q21 q22 q23 q24 q25 q26 q27 q28 q29 q30 q31 u0 u1 u2 u3 u4 u5 u6 u7 u8 u9 u10 u11 u12 u13 u14 u15 u16 u17 u18 u19 0 i_status i_refusals i_row)[i]?) = (wd_HM_isTerm cA).map some := rfl
  refine xv_afterI (ws' := (wd_HM_terms cA q0 q1 q2 q3 q4 q5 q6 q7 q8 q9 q10 q11 q12 q13 q14 q15 q16 q17 q18 q19 q20 q21 q22 q23 q24 q25 q26 q27 q28 q29 q30 q31 u0 u1 u2 u3 u4 u5 u6 u7 u8 u9 u10 u11 u12 u13 u14 u15 u16 u17 u18 u19 0 i_status i_refusals i_row)) (isC := []) (ps := [none, none, none]) (va_runS (As := [.int (Int32.ofInt x1), .int (Int32.ofInt x2)]) (rest := []) ⟨hx, hb, hml, hown, hts⟩ (c_HM_isTerm l ev dC dI cA hg H.size) (va_cwS 2 hts (zgS zw_1402 zw_1403 zw_115 zw_1404) rfl rfl rfl hd_HM_isTerm.2 ⟨Nat.le_of_ble_eq_true rfl, Nat.le_of_ble_eq_true rfl⟩) (xv_preS hE hA hS hK hP hD (isC := []) (by decide +kernel) hC) rfl rfl hl.1 rfl (lv_room (Nat.le_of_ble_eq_true rfl)) dX11_terms_7 ⟨Nat.le_refl _, Nat.le_refl _⟩) hP hD hS hA (by decide +kernel) rfl hC rfl rfl (fun H locs hP hD hS => ?_)
  refine xi_if_eq (tgt := 24) hx hb dX11_terms_10 (by decide) hf (fun hf => ?_) (fun hf => ?_)
  · refine lv_aload_n hx hb dX11_terms_24 rfl (lv_at hl 0 rfl) ?_
    refine lv_iconst (v := Int32.ofInt (-1)) hx hb dX11_terms_25 rfl ?_
    refine xe_d3 hf (fun v2 v3 a4 hg hf => ?_)
    have hC : ([0, 1] : List Nat).map (fun i => (wd_HM_terms cA q0 q1 q2 q3 q4 q5 q6 q7 q8 q9 q10 q11 q12 q13 q14 q15 q16 q17 q18 q19 q20 q21 q22 q23 q24 q25 q26 q27 q28 q29 q30 q31 u0 u1 u2 u3 u4 u5 u6 u7 u8 u9 u10 u11 u12 u13 u14 u15 u16 u17 u18 u19 0 i_status i_refusals i_row)[i]?) = (wd_HM_tell cA q0 q1 q2 q3 q4 q5 q6 q7 q8 q9 q10 q11 q12 q13 q14 q15 q16 q17 q18 q19 q20 q21 q22 q23 q24 q25 q26 q27 q28 q29 q30 q31 0 u0 u1 u2 u3 u4 u5 u6 u7 u8 u9 u10 u11 u12 u13 u14 u15 u16 u17 u18 u19 i_status i_refusals).map some := rfl
    refine xv_afterI (ws' := (wd_HM_terms cA q0 q1 q2 q3 q4 q5 q6 q7 q8 q9 q10 q11 q12 q13 q14 q15 q16 q17 q18 q19 q20 q21 q22 q23 q24 q25 q26 q27 q28 q29 q30 q31 u0 u1 u2 u3 u4 u5 u6 u7 u8 u9 u10 u11 u12 u13 u14 u15 u16 u17 u18 u19 0 v3 a4 i_row)) (isC := [0, 1]) (ps := [some 0, some 1, none]) (va_runV (As := [.int (Int32.ofInt (-1))]) (rest := []) ⟨hx, hb, hml, hown, hts⟩ (c_HM_tell l ev dC dI cA q0 q1 q2 q3 q4 q5 q6 q7 q8 q9 q10 q11 q12 q13 q14 q15 q16 q17 q18 q19 q20 q21 q22 q23 q24 q25 q26 q27 q28 q29 q30 q31 0 u0 u1 u2 u3 u4 u5 u6 u7 u8 u9 u10 u11 u12 u13 u14 u15 u16 u17 u18 u19 hg H.size) (cwV 1 hts (zgV zw_1332 zw_1334 zw_40 zw_115 zw_1335) rfl rfl rfl hd_HM_tell ⟨Nat.le_of_ble_eq_true rfl, Nat.le_of_ble_eq_true rfl⟩) (xv_preV (T := TX11) (N := 53) hE hA hS hK hP hD (isC := [0, 1]) (by decide +kernel) hC (q0 := 0) (ci := 11) rfl rfl) rfl rfl hl.1 rfl (lv_room (Nat.le_of_ble_eq_true rfl)) dX11_terms_26 ⟨Nat.le_refl _, Nat.le_refl _⟩) hP hD hS hA (by decide +kernel) rfl hC rfl rfl (fun H locs hP hD hS => ?_)
    obtain rfl := Option.some.inj hf
    exact hret _ _ _ _ rfl dX11_terms_29 hP hD hS
  · refine lv_aload_n hx hb dX11_terms_13 rfl (lv_at hl 0 rfl) ?_
    refine lv_iconst (v := Int32.ofInt 5) hx hb dX11_terms_14 rfl ?_
    refine lv_iload_n hx hb dX11_terms_15 rfl (lv_at hl 1 rfl) ?_
    refine xi_iadd hx hb dX11_terms_16 hf (fun v5 hf => ?_)
    refine lv_iload_n hx hb dX11_terms_17 rfl (lv_at hl 2 rfl) ?_
    refine xe_d3 hf (fun v6 v7 a8 hg hf => ?_)
    have hC : ([0, 2] : List Nat).map (fun i => (wd_HM_terms cA q0 q1 q2 q3 q4 q5 q6 q7 q8 q9 q10 q11 q12 q13 q14 q15 q16 q17 q18 q19 q20 q21 q22 q23 q24 q25 q26 q27 q28 q29 q30 q31 u0 u1 u2 u3 u4 u5 u6 u7 u8 u9 u10 u11 u12 u13 u14 u15 u16 u17 u18 u19 0 i_status i_refusals i_row)[i]?) = (wd_HM_change cA q0 q1 q2 q3 q4 q5 q6 q7 q8 q9 q10 q11 q12 q13 q14 q15 q16 q17 q18 q19 q20 q21 q22 q23 q24 q25 q26 q27 q28 q29 q30 q31 0 u0 u1 u2 u3 u4 u5 u6 u7 u8 u9 u10 u11 u12 u13 u14 u15 u16 u17 u18 u19 i_status i_row).map some := rfl
    refine xv_afterI (ws' := (wd_HM_terms cA q0 q1 q2 q3 q4 q5 q6 q7 q8 q9 q10 q11 q12 q13 q14 q15 q16 q17 q18 q19 q20 q21 q22 q23 q24 q25 q26 q27 q28 q29 q30 q31 u0 u1 u2 u3 u4 u5 u6 u7 u8 u9 u10 u11 u12 u13 u14 u15 u16 u17 u18 u19 0 v7 i_refusals a8)) (isC := [0, 2]) (ps := [some 0, none, some 1]) (va_runV (As := [.int (Int32.ofInt v5), .int (Int32.ofInt x2)]) (rest := []) ⟨hx, hb, hml, hown, hts⟩ (c_HM_change l ev dC dI cA q0 q1 q2 q3 q4 q5 q6 q7 q8 q9 q10 q11 q12 q13 q14 q15 q16 q17 q18 q19 q20 q21 q22 q23 q24 q25 q26 q27 q28 q29 q30 q31 0 u0 u1 u2 u3 u4 u5 u6 u7 u8 u9 u10 u11 u12 u13 u14 u15 u16 u17 u18 u19 hg H.size) (cwV 2 hts (zgV zw_1385 zw_1387 zw_44 zw_115 zw_1388) rfl rfl rfl hd_HM_change ⟨Nat.le_of_ble_eq_true rfl, Nat.le_of_ble_eq_true rfl⟩) (xv_preV (T := TX11) (N := 53) hE hA hS hK hP hD (isC := [0, 2]) (by decide +kernel) hC (q0 := 0) (ci := 11) rfl rfl) rfl rfl hl.1 rfl (lv_room (Nat.le_of_ble_eq_true rfl)) dX11_terms_18 ⟨Nat.le_refl _, Nat.le_refl _⟩) hP hD hS hA (by decide +kernel) rfl hC rfl rfl (fun H locs hP hD hS => ?_)
    refine lv_goto (tgt := 29) hx hb dX11_terms_21 (by decide) ?_
    obtain rfl := Option.some.inj hf
    exact hret _ _ _ _ rfl dX11_terms_29 hP hD hS
theorem dX11_row_0 : decode cX11_row 0 = .ok (.aload_n 0, 1) := by decide +kernel
theorem dX11_row_1 : decode cX11_row 1 = .ok (.iconst 0, 1) := by decide +kernel
theorem dX11_row_2 : decode cX11_row 2 = .ok (.putfield 126, 3) := by decide +kernel
theorem dX11_row_5 : decode cX11_row 5 = .ok (.aload_n 0, 1) := by decide +kernel
theorem dX11_row_6 : decode cX11_row 6 = .ok (.getfield 172, 3) := by decide +kernel
theorem dX11_row_9 : decode cX11_row 9 = .ok (.istore_n 1, 1) := by decide +kernel
theorem dX11_row_10 : decode cX11_row 10 = .ok (.aload_n 0, 1) := by decide +kernel
theorem dX11_row_11 : decode cX11_row 11 = .ok (.iconst 0, 1) := by decide +kernel
theorem dX11_row_12 : decode cX11_row 12 = .ok (.putfield 172, 3) := by decide +kernel
theorem dX11_row_15 : decode cX11_row 15 = .ok (.iload_n 1, 1) := by decide +kernel
theorem dX11_row_16 : decode cX11_row 16 = .ok (.ifCond .eq 16, 3) := by decide +kernel
theorem dX11_row_19 : decode cX11_row 19 = .ok (.aload_n 0, 1) := by decide +kernel
theorem dX11_row_20 : decode cX11_row 20 = .ok (.aload_n 0, 1) := by decide +kernel
theorem dX11_row_21 : decode cX11_row 21 = .ok (.getfield 23, 3) := by decide +kernel
theorem dX11_row_24 : decode cX11_row 24 = .ok (.iconst 0, 1) := by decide +kernel
theorem dX11_row_25 : decode cX11_row 25 = .ok (.iaload, 1) := by decide +kernel
theorem dX11_row_26 : decode cX11_row 26 = .ok (.invokevirtual 150, 3) := by decide +kernel
theorem dX11_row_29 : decode cX11_row 29 = .ok (.ifCond .ne 10, 3) := by decide +kernel
theorem dX11_row_32 : decode cX11_row 32 = .ok (.aload_n 0, 1) := by decide +kernel
theorem dX11_row_33 : decode cX11_row 33 = .ok (.bipush (-6), 2) := by decide +kernel
theorem dX11_row_35 : decode cX11_row 35 = .ok (.invokevirtual 136, 3) := by decide +kernel
theorem dX11_row_38 : decode cX11_row 38 = .ok (.ireturn, 1) := by decide +kernel
theorem dX11_row_39 : decode cX11_row 39 = .ok (.aload_n 0, 1) := by decide +kernel
theorem dX11_row_40 : decode cX11_row 40 = .ok (.getfield 23, 3) := by decide +kernel
theorem dX11_row_43 : decode cX11_row 43 = .ok (.iconst 0, 1) := by decide +kernel
theorem dX11_row_44 : decode cX11_row 44 = .ok (.iaload, 1) := by decide +kernel
theorem dX11_row_45 : decode cX11_row 45 = .ok (.istore_n 2, 1) := by decide +kernel
theorem dX11_row_46 : decode cX11_row 46 = .ok (.aload_n 0, 1) := by decide +kernel
theorem dX11_row_47 : decode cX11_row 47 = .ok (.iconst 0, 1) := by decide +kernel
theorem dX11_row_48 : decode cX11_row 48 = .ok (.putfield 175, 3) := by decide +kernel
theorem dX11_row_51 : decode cX11_row 51 = .ok (.iconst 0, 1) := by decide +kernel
theorem dX11_row_52 : decode cX11_row 52 = .ok (.istore_n 3, 1) := by decide +kernel
theorem dX11_row_53 : decode cX11_row 53 = .ok (.iconst 1, 1) := by decide +kernel
theorem dX11_row_54 : decode cX11_row 54 = .ok (.istore 4, 2) := by decide +kernel
theorem dX11_row_56 : decode cX11_row 56 = .ok (.iload 4, 2) := by decide +kernel
theorem dX11_row_58 : decode cX11_row 58 = .ok (.iload_n 1, 1) := by decide +kernel
theorem dX11_row_59 : decode cX11_row 59 = .ok (.if_icmp .ge 94, 3) := by decide +kernel
theorem dX11_row_62 : decode cX11_row 62 = .ok (.aload_n 0, 1) := by decide +kernel
theorem dX11_row_63 : decode cX11_row 63 = .ok (.getfield 23, 3) := by decide +kernel
theorem dX11_row_66 : decode cX11_row 66 = .ok (.iload 4, 2) := by decide +kernel
theorem dX11_row_68 : decode cX11_row 68 = .ok (.iaload, 1) := by decide +kernel
theorem dX11_row_69 : decode cX11_row 69 = .ok (.invokestatic 146, 3) := by decide +kernel
theorem dX11_row_72 : decode cX11_row 72 = .ok (.ifCond .eq 65, 3) := by decide +kernel
theorem dX11_row_75 : decode cX11_row 75 = .ok (.aload_n 0, 1) := by decide +kernel
theorem dX11_row_76 : decode cX11_row 76 = .ok (.getfield 13, 3) := by decide +kernel
theorem dX11_row_79 : decode cX11_row 79 = .ok (.bipush 9, 2) := by decide +kernel
theorem dX11_row_81 : decode cX11_row 81 = .ok (.iload_n 2, 1) := by decide +kernel
theorem dX11_row_82 : decode cX11_row 82 = .ok (.iadd, 1) := by decide +kernel
theorem dX11_row_83 : decode cX11_row 83 = .ok (.iaload, 1) := by decide +kernel
theorem dX11_row_84 : decode cX11_row 84 = .ok (.bipush 10, 2) := by decide +kernel
theorem dX11_row_86 : decode cX11_row 86 = .ok (.if_icmp .ge 51, 3) := by decide +kernel
theorem dX11_row_89 : decode cX11_row 89 = .ok (.aload_n 0, 1) := by decide +kernel
theorem dX11_row_90 : decode cX11_row 90 = .ok (.getfield 13, 3) := by decide +kernel
theorem dX11_row_93 : decode cX11_row 93 = .ok (.bipush 21, 2) := by decide +kernel
theorem dX11_row_95 : decode cX11_row 95 = .ok (.bipush 10, 2) := by decide +kernel
theorem dX11_row_97 : decode cX11_row 97 = .ok (.iload_n 2, 1) := by decide +kernel
theorem dX11_row_98 : decode cX11_row 98 = .ok (.imul, 1) := by decide +kernel
theorem dX11_row_99 : decode cX11_row 99 = .ok (.iadd, 1) := by decide +kernel
theorem dX11_row_100 : decode cX11_row 100 = .ok (.aload_n 0, 1) := by decide +kernel
theorem dX11_row_101 : decode cX11_row 101 = .ok (.getfield 13, 3) := by decide +kernel
theorem dX11_row_104 : decode cX11_row 104 = .ok (.bipush 9, 2) := by decide +kernel
theorem dX11_row_106 : decode cX11_row 106 = .ok (.iload_n 2, 1) := by decide +kernel
theorem dX11_row_107 : decode cX11_row 107 = .ok (.iadd, 1) := by decide +kernel
theorem dX11_row_108 : decode cX11_row 108 = .ok (.iaload, 1) := by decide +kernel
theorem dX11_row_109 : decode cX11_row 109 = .ok (.iadd, 1) := by decide +kernel
theorem dX11_row_110 : decode cX11_row 110 = .ok (.aload_n 0, 1) := by decide +kernel
theorem dX11_row_111 : decode cX11_row 111 = .ok (.getfield 23, 3) := by decide +kernel
theorem dX11_row_114 : decode cX11_row 114 = .ok (.iload 4, 2) := by decide +kernel
theorem dX11_row_116 : decode cX11_row 116 = .ok (.iaload, 1) := by decide +kernel
theorem dX11_row_117 : decode cX11_row 117 = .ok (.iastore, 1) := by decide +kernel
theorem dX11_row_118 : decode cX11_row 118 = .ok (.aload_n 0, 1) := by decide +kernel
theorem dX11_row_119 : decode cX11_row 119 = .ok (.getfield 13, 3) := by decide +kernel
theorem dX11_row_122 : decode cX11_row 122 = .ok (.bipush 9, 2) := by decide +kernel
theorem dX11_row_124 : decode cX11_row 124 = .ok (.iload_n 2, 1) := by decide +kernel
theorem dX11_row_125 : decode cX11_row 125 = .ok (.iadd, 1) := by decide +kernel
theorem dX11_row_126 : decode cX11_row 126 = .ok (.dup2, 1) := by decide +kernel
theorem dX11_row_127 : decode cX11_row 127 = .ok (.iaload, 1) := by decide +kernel
theorem dX11_row_128 : decode cX11_row 128 = .ok (.iconst 1, 1) := by decide +kernel
theorem dX11_row_129 : decode cX11_row 129 = .ok (.iadd, 1) := by decide +kernel
theorem dX11_row_130 : decode cX11_row 130 = .ok (.iastore, 1) := by decide +kernel
theorem dX11_row_131 : decode cX11_row 131 = .ok (.iinc 3 1, 3) := by decide +kernel
theorem dX11_row_134 : decode cX11_row 134 = .ok (.goto 13, 3) := by decide +kernel
theorem dX11_row_137 : decode cX11_row 137 = .ok (.aload_n 0, 1) := by decide +kernel
theorem dX11_row_138 : decode cX11_row 138 = .ok (.dup, 1) := by decide +kernel
theorem dX11_row_139 : decode cX11_row 139 = .ok (.getfield 175, 3) := by decide +kernel
theorem dX11_row_142 : decode cX11_row 142 = .ok (.iconst 1, 1) := by decide +kernel
theorem dX11_row_143 : decode cX11_row 143 = .ok (.iadd, 1) := by decide +kernel
theorem dX11_row_144 : decode cX11_row 144 = .ok (.putfield 175, 3) := by decide +kernel
theorem dX11_row_147 : decode cX11_row 147 = .ok (.iinc 4 1, 3) := by decide +kernel
theorem dX11_row_150 : decode cX11_row 150 = .ok (.goto (-94), 3) := by decide +kernel
theorem dX11_row_153 : decode cX11_row 153 = .ok (.aload_n 0, 1) := by decide +kernel
theorem dX11_row_154 : decode cX11_row 154 = .ok (.iload_n 3, 1) := by decide +kernel
theorem dX11_row_155 : decode cX11_row 155 = .ok (.invokevirtual 136, 3) := by decide +kernel
theorem dX11_row_158 : decode cX11_row 158 = .ok (.ireturn, 1) := by decide +kernel
theorem zw_1171 : (Jvm.Cond.fieldLink "HillSchoolModel" (175 : Nat) "HillSchoolModel" "gravel" "I") ∈ zall := zmemG (zmj_5 108 rfl) rfl
theorem zw_1172 : (Jvm.Cond.fieldLink "HillSchoolModel" (23 : Nat) "HillSchoolModel" "tape" "[I") ∈ zall := zmemG (zmj_5 109 rfl) rfl
theorem zw_1173 : (Jvm.Cond.fieldLink "HillSchoolModel" (172 : Nat) "HillSchoolModel" "taped" "I") ∈ zall := zmemG (zmj_5 110 rfl) rfl
theorem zw_1410 : (Jvm.Cond.code ({ cls := "HillSchoolModel", name := "row", desc := "()I" } : Jvm.MethodName) prog_13_method_25_code (5 : Nat) (Option.some Jvm.ClassFile.FieldType.int)) ∈ zall := zmemG (zmj_6 107 rfl) rfl
abbrev w_HM_row : List Cond := .code yX11_row cX11_row 5 (some .int) :: zall
abbrev rm_HM_row : Room := { frames := 2, cells := 0, slots := 0, locals := 46 }
theorem hd_HM_row : yX11_row.cls = "HillSchoolModel" ∧ yX11_row.cls ≠ "java/lang/invoke/MethodHandle" ∧ yX11_row.cls ≠ "java/lang/invoke/VarHandle" ∧ (parseMethodDescriptor yX11_row.desc).map (fun d => d.parameters.length) = some 0 := by decide +kernel
def wd_HM_row (cA : Nat → ClassId) (q0 q1 q2 q3 q4 q5 q6 q7 q8 q9 q10 q11 q12 q13 q14 q15 q16 q17 q18 q19 q20 q21 q22 q23 q24 q25 q26 q27 q28 q29 q30 q31 : Nat) (u0 u1 u2 u3 u4 u5 u6 u7 u8 u9 u10 u11 u12 u13 u14 u15 u16 u17 : Int) (i_tape : Nat → Int) (i_thrown : Int) (i_status : Int) (i_gravel : Int) (i_taped : Int) (i_refusals : Nat → Int) (i_row : Nat → Int) : va_W := [(q0, .inr (11, [.int (Int32.ofInt i_thrown), .int (Int32.ofInt i_status), .ref q1, .ref q2, .ref q3, .ref q4, .int (Int32.ofInt i_gravel), .ref q5, .int (Int32.ofInt i_taped), .int (Int32.ofInt u0), .int (Int32.ofInt u1), .int (Int32.ofInt u2), .long (Int64.ofInt u3), .int (Int32.ofInt u4), .int (Int32.ofInt u5), .int (Int32.ofInt u6), .ref q6, .int (Int32.ofInt u7), .ref q7, .ref q8, .int (Int32.ofInt u8), .ref q9, .ref q10, .int (Int32.ofInt u9), .int (Int32.ofInt u10), .ref q11, .int (Int32.ofInt u11), .ref q12, .ref q13, .int (Int32.ofInt u12), .long (Int64.ofInt u13), .long (Int64.ofInt u14), .ref q14, .ref q15, .ref q16, .ref q17, .ref q18, .int (Int32.ofInt u15), .ref q19, .ref q20, .ref q21, .ref q22, .ref q23, .ref q24, .ref q25, .ref q26, .ref q27, .ref q28, .ref q29, .ref q30, .long (Int64.ofInt u16), .ref q31, .int (Int32.ofInt u17)])), (q1, .inl (cA 0, 7, .inl (za i_refusals))), (q2, .inl (cA 0, 5580, .inl (za i_row))), (q5, .inl (cA 0, 400, .inl (za i_tape)))]
def wf_HM_row (cA : Nat → ClassId) (q0 q1 q2 q3 q4 q5 q6 q7 q8 q9 q10 q11 q12 q13 q14 q15 q16 q17 q18 q19 q20 q21 q22 q23 q24 q25 q26 q27 q28 q29 q30 q31 : Nat) (u0 u1 u2 u3 u4 u5 u6 u7 u8 u9 u10 u11 u12 u13 u14 u15 u16 u17 : Int) (i_tape : Nat → Int) (o : Int × Int × Int × Int × Int × (Nat → Int) × (Nat → Int)) : va_W := wd_HM_row cA q0 q1 q2 q3 q4 q5 q6 q7 q8 q9 q10 q11 q12 q13 q14 q15 q16 q17 q18 q19 q20 q21 q22 q23 q24 q25 q26 q27 q28 q29 q30 q31 u0 u1 u2 u3 u4 u5 u6 u7 u8 u9 u10 u11 u12 u13 u14 u15 u16 u17 i_tape o.2.1 o.2.2.1 o.2.2.2.1 o.2.2.2.2.1 o.2.2.2.2.2.1 o.2.2.2.2.2.2
def f_HM_row_32 (i_tape : Nat → Int) (i_thrown : Int) (i_status : Int) (i_gravel : Int) (i_taped : Int) (i_refusals : Nat → Int) (i_row : Nat → Int) : Option (Int × Int × Int × Int × Int × (Nat → Int) × (Nat → Int)) :=
  zd3 (f_HM_tell (-6) i_status i_refusals) fun v1 v2 a3 =>
  some (v1, i_thrown, v2, i_gravel, i_taped, a3, i_row)
def f_HM_row_147 (i_tape : Nat → Int) (k56 : Int → Int → Int → Int → Int → Int → Int → Int → (Nat → Int) → (Nat → Int) → Option (Int × Int × Int × Int × Int × (Nat → Int) × (Nat → Int))) (x1 : Int) (x2 : Int) (x3 : Int) (x4 : Int) (i_thrown : Int) (i_status : Int) (i_gravel : Int) (i_taped : Int) (i_refusals : Nat → Int) (i_row : Nat → Int) : Option (Int × Int × Int × Int × Int × (Nat → Int) × (Nat → Int)) :=
  zn (x4 + 1) fun v1 =>
  k56 x1 x2 x3 v1 i_thrown i_status i_gravel i_taped i_refusals i_row
def f_HM_row_137 (i_tape : Nat → Int) (k56 : Int → Int → Int → Int → Int → Int → Int → Int → (Nat → Int) → (Nat → Int) → Option (Int × Int × Int × Int × Int × (Nat → Int) × (Nat → Int))) (x1 : Int) (x2 : Int) (x3 : Int) (x4 : Int) (i_thrown : Int) (i_status : Int) (i_gravel : Int) (i_taped : Int) (i_refusals : Nat → Int) (i_row : Nat → Int) : Option (Int × Int × Int × Int × Int × (Nat → Int) × (Nat → Int)) :=
  zn (i_gravel + 1) fun v1 =>
  f_HM_row_147 i_tape k56 x1 x2 x3 x4 i_thrown i_status v1 i_taped i_refusals i_row
def f_HM_row_56_b (i_tape : Nat → Int) (k56 : Int → Int → Int → Int → Int → Int → Int → Int → (Nat → Int) → (Nat → Int) → Option (Int × Int × Int × Int × Int × (Nat → Int) × (Nat → Int))) (x1 : Int) (x2 : Int) (x3 : Int) (x4 : Int) (i_thrown : Int) (i_status : Int) (i_gravel : Int) (i_taped : Int) (i_refusals : Nat → Int) (i_row : Nat → Int) : Option (Int × Int × Int × Int × Int × (Nat → Int) × (Nat → Int)) :=
  if zi_w x1 ≤ zi_w x4 then
    zd3 (f_HM_tell x3 i_status i_refusals) fun v1 v2 a3 =>
    some (v1, i_thrown, v2, i_gravel, i_taped, a3, i_row)
  else
    zg 400 i_tape x4 fun v4 =>
    zd1 (f_HM_isWeight v4) fun v5 =>
    if zi_w v5 = 0 then
      f_HM_row_137 i_tape k56 x1 x2 x3 x4 i_thrown i_status i_gravel i_taped i_refusals i_row
    else
      zn (9 + x2) fun v6 =>
      zg 5580 i_row v6 fun v7 =>
      if zi_w 10 ≤ zi_w v7 then
        f_HM_row_137 i_tape k56 x1 x2 x3 x4 i_thrown i_status i_gravel i_taped i_refusals i_row
      else
        zn (10 * x2) fun v8 =>
        zn (21 + v8) fun v9 =>
        zn (9 + x2) fun v10 =>
        zg 5580 i_row v10 fun v11 =>
        zn (v9 + v11) fun v12 =>
        zg 400 i_tape x4 fun v13 =>
        zs 5580 i_row v12 v13 fun a14 =>
        zn (9 + x2) fun v15 =>
        zg 5580 a14 v15 fun v16 =>
        zn (v16 + 1) fun v17 =>
        zs 5580 a14 v15 v17 fun a18 =>
        zn (x3 + 1) fun v19 =>
        f_HM_row_147 i_tape k56 x1 x2 v19 x4 i_thrown i_status i_gravel i_taped i_refusals a18
def f_HM_row_56 (i_tape : Nat → Int) : Nat → Int → Int → Int → Int → Int → Int → Int → Int → (Nat → Int) → (Nat → Int) → Option (Int × Int × Int × Int × Int × (Nat → Int) × (Nat → Int))
  | 0 => fun _ _ _ _ _ _ _ _ _ _ => none
  | n + 1 => fun y0 y1 y2 y3 y4 y5 y6 y7 y8 y9 => f_HM_row_56_b i_tape (f_HM_row_56 i_tape n) y0 y1 y2 y3 y4 y5 y6 y7 y8 y9
def f_HM_row (i_tape : Nat → Int) (i_thrown : Int) (i_status : Int) (i_gravel : Int) (i_taped : Int) (i_refusals : Nat → Int) (i_row : Nat → Int) : Option (Int × Int × Int × Int × Int × (Nat → Int) × (Nat → Int)) :=
  if zi_w i_taped = 0 then
    f_HM_row_32 i_tape 0 i_status i_gravel 0 i_refusals i_row
  else
    zg 400 i_tape 0 fun v1 =>
    zd1 (f_HM_isColumn v1 i_row) fun v2 =>
    if zi_w v2 ≠ 0 then
      zg 400 i_tape 0 fun v3 =>
      f_HM_row_56 i_tape zfu i_taped v3 0 1 0 i_status 0 0 i_refusals i_row
    else
      f_HM_row_32 i_tape 0 i_status i_gravel 0 i_refusals i_row
set_option maxHeartbeats 4000000 in
set_option maxRecDepth 100000 in
theorem c_HM_row (l : Launch) (ev : zEv) (dC : Nat → ClassId) (dI : Nat → Nat → Nat) (cA : Nat → ClassId) (q0 q1 q2 q3 q4 q5 q6 q7 q8 q9 q10 q11 q12 q13 q14 q15 q16 q17 q18 q19 q20 q21 q22 q23 q24 q25 q26 q27 q28 q29 q30 q31 : Nat) (u0 u1 u2 u3 u4 u5 u6 u7 u8 u9 u10 u11 u12 u13 u14 u15 u16 u17 : Int) {i_tape : Nat → Int} {i_thrown : Int} {i_status : Int} {i_gravel : Int} {i_taped : Int} {i_refusals : Nat → Int} {i_row : Nat → Int} {out : Int × Int × Int × Int × Int × (Nat → Int) × (Nat → Int)} (hf : f_HM_row i_tape i_thrown i_status i_gravel i_taped i_refusals i_row = some out) : xc_I l ev (dC, dI) vwCl (tyl cA) yX11_row w_HM_row rm_HM_row [.ref q0] (wd_HM_row cA q0 q1 q2 q3 q4 q5 q6 q7 q8 q9 q10 q11 q12 q13 q14 q15 q16 q17 q18 q19 q20 q21 q22 q23 q24 q25 q26 q27 q28 q29 q30 q31 u0 u1 u2 u3 u4 u5 u6 u7 u8 u9 u10 u11 u12 u13 u14 u15 u16 u17 i_tape i_thrown i_status i_gravel i_taped i_refusals i_row) (wf_HM_row cA q0 q1 q2 q3 q4 q5 q6 q7 q8 q9 q10 q11 q12 q13 q14 q15 q16 q17 q18 q19 q20 q21 q22 q23 q24 q25 q26 q27 q28 q29 q30 q31 u0 u1 u2 u3 u4 u5 u6 u7 u8 u9 u10 u11 u12 u13 u14 u15 u16 u17 i_tape out) out.1 := by
  refine xv_startI (cc := cX11_row) (maxL := 5) (rt := .int) (by decide +kernel) rfl (Nat.le_of_ble_eq_true rfl) ?_
  intro p e s m args below meth c A Q H ls hx hb hml hts hown hK hA hP hD hS hl hE hret
  have hown : s.vm.findClass "HillSchoolModel" = some m.cls := hown
  have hz : ∀ w ∈ zall, w.before args s = true := fun w h => hts w (List.mem_cons_of_mem _ h)
  have hl : lv_has ls 5 [(0, .ref q0)] := hl
  have b_32 : ∀ (i_thrown : Int) (i_status : Int) (i_gravel : Int) (i_taped : Int) (i_refusals : Nat → Int) (i_row : Nat → Int) (H : Heap) (locs : List Loc) (ls : Array Slot), f_HM_row_32 i_tape i_thrown i_status i_gravel i_taped i_refusals i_row = some out → va_P (dC, dI) vwCl (wd_HM_row cA q0 q1 q2 q3 q4 q5 q6 q7 q8 q9 q10 q11 q12 q13 q14 q15 q16 q17 q18 q19 q20 q21 q22 q23 q24 q25 q26 q27 q28 q29 q30 q31 u0 u1 u2 u3 u4 u5 u6 u7 u8 u9 u10 u11 u12 u13 u14 u15 u16 u17 i_tape i_thrown i_status i_gravel i_taped i_refusals i_row) H → va_D A (wd_HM_row cA q0 q1 q2 q3 q4 q5 q6 q7 q8 q9 q10 q11 q12 q13 q14 q15 q16 q17 q18 q19 q20 q21 q22 q23 q24 q25 q26 q27 q28 q29 q30 q31 u0 u1 u2 u3 u4 u5 u6 u7 u8 u9 u10 u11 u12 u13 u14 u15 u16 u17 i_tape i_thrown i_status i_gravel i_taped i_refusals i_row) → va_S A s.heap H locs → lv_has ls 5 [(0, .ref q0)] → W p l e rm_HM_row s m args below meth c H locs 0 0 Q (F0 m 32 ls []) := by
    intro i_thrown i_status i_gravel i_taped i_refusals i_row H locs ls hf hP hD hS hl
    unfold f_HM_row_32 at hf
    refine lv_aload_n hx hb dX11_row_32 rfl (lv_at hl 0 rfl) ?_
    refine lv_bipush (v := Int32.ofInt (-6)) hx hb dX11_row_33 (by decide) ?_
    refine xe_d3 hf (fun v1 v2 a3 hg hf => ?_)
    have hC : ([0, 1] : List Nat).map (fun i => (wd_HM_row cA q0 q1 q2 q3 q4 q5 q6 q7 q8 q9 q10 q11 q12 q13 q14 q15 q16 q17 q18 q19 q20 q21 q22 q23 q24 q25 q26 q27 q28 q29 q30 q31 u0 u1 u2 u3 u4 u5 u6 u7 u8 u9 u10 u11 u12 u13 u14 u15 u16 u17 i_tape i_thrown i_status i_gravel i_taped i_refusals i_row)[i]?) = (wd_HM_tell cA q0 q1 q2 q3 q4 q5 q6 q7 q8 q9 q10 q11 q12 q13 q14 q15 q16 q17 q18 q19 q20 q21 q22 q23 q24 q25 q26 q27 q28 q29 q30 q31 i_thrown i_gravel i_taped u0 u1 u2 u3 u4 u5 u6 u7 u8 u9 u10 u11 u12 u13 u14 u15 u16 u17 i_status i_refusals).map some := rfl
    refine xv_afterI (ws' := (wd_HM_row cA q0 q1 q2 q3 q4 q5 q6 q7 q8 q9 q10 q11 q12 q13 q14 q15 q16 q17 q18 q19 q20 q21 q22 q23 q24 q25 q26 q27 q28 q29 q30 q31 u0 u1 u2 u3 u4 u5 u6 u7 u8 u9 u10 u11 u12 u13 u14 u15 u16 u17 i_tape i_thrown v2 i_gravel i_taped a3 i_row)) (isC := [0, 1]) (ps := [some 0, some 1, none, none]) (va_runV (As := [.int (Int32.ofInt (-6))]) (rest := []) ⟨hx, hb, hml, hown, hts⟩ (c_HM_tell l ev dC dI cA q0 q1 q2 q3 q4 q5 q6 q7 q8 q9 q10 q11 q12 q13 q14 q15 q16 q17 q18 q19 q20 q21 q22 q23 q24 q25 q26 q27 q28 q29 q30 q31 i_thrown i_gravel i_taped u0 u1 u2 u3 u4 u5 u6 u7 u8 u9 u10 u11 u12 u13 u14 u15 u16 u17 hg H.size) (cwV 1 hts (zgV zw_1332 zw_1334 zw_40 zw_115 zw_1335) rfl rfl rfl hd_HM_tell ⟨Nat.le_of_ble_eq_true rfl, Nat.le_of_ble_eq_true rfl⟩) (xv_preV (T := TX11) (N := 53) hE hA hS hK hP hD (isC := [0, 1]) (by decide +kernel) hC (q0 := 0) (ci := 11) rfl rfl) rfl rfl hl.1 rfl (lv_room (Nat.le_of_ble_eq_true rfl)) dX11_row_35 ⟨Nat.le_refl _, Nat.le_refl _⟩) hP hD hS hA (by decide +kernel) rfl hC rfl rfl (fun H locs hP hD hS => ?_)
    obtain rfl := Option.some.inj hf
    exact hret _ _ _ _ rfl dX11_row_38 hP hD hS
  have b_147 : ∀ (k56 : Int → Int → Int → Int → Int → Int → Int → Int → (Nat → Int) → (Nat → Int) → Option (Int × Int × Int × Int × Int × (Nat → Int) × (Nat → Int))) (_ : ∀ (x1 : Int) (x2 : Int) (x3 : Int) (x4 : Int) (i_thrown : Int) (i_status : Int) (i_gravel : Int) (i_taped : Int) (i_refusals : Nat → Int) (i_row : Nat → Int) (H : Heap) (locs : List Loc) (ls : Array Slot), k56 x1 x2 x3 x4 i_thrown i_status i_gravel i_taped i_refusals i_row = some out → va_P (dC, dI) vwCl (wd_HM_row cA q0 q1 q2 q3 q4 q5 q6 q7 q8 q9 q10 q11 q12 q13 q14 q15 q16 q17 q18 q19 q20 q21 q22 q23 q24 q25 q26 q27 q28 q29 q30 q31 u0 u1 u2 u3 u4 u5 u6 u7 u8 u9 u10 u11 u12 u13 u14 u15 u16 u17 i_tape i_thrown i_status i_gravel i_taped i_refusals i_row) H → va_D A (wd_HM_row cA q0 q1 q2 q3 q4 q5 q6 q7 q8 q9 q10 q11 q12 q13 q14 q15 q16 q17 q18 q19 q20 q21 q22 q23 q24 q25 q26 q27 q28 q29 q30 q31 u0 u1 u2 u3 u4 u5 u6 u7 u8 u9 u10 u11 u12 u13 u14 u15 u16 u17 i_tape i_thrown i_status i_gravel i_taped i_refusals i_row) → va_S A s.heap H locs → lv_has ls 5 [(0, .ref q0), (1, .int (Int32.ofInt x1)), (2, .int (Int32.ofInt x2)), (3, .int (Int32.ofInt x3)), (4, .int (Int32.ofInt x4))] → W p l e rm_HM_row s m args below meth c H locs 0 0 Q (F0 m 56 ls [])), ∀ (x1 : Int) (x2 : Int) (x3 : Int) (x4 : Int) (i_thrown : Int) (i_status : Int) (i_gravel : Int) (i_taped : Int) (i_refusals : Nat → Int) (i_row : Nat → Int) (H : Heap) (locs : List Loc) (ls : Array Slot), f_HM_row_147 i_tape k56 x1 x2 x3 x4 i_thrown i_status i_gravel i_taped i_refusals i_row = some out → va_P (dC, dI) vwCl (wd_HM_row cA q0 q1 q2 q3 q4 q5 q6 q7 q8 q9 q10 q11 q12 q13 q14 q15 q16 q17 q18 q19 q20 q21 q22 q23 q24 q25 q26 q27 q28 q29 q30 q31 u0 u1 u2 u3 u4 u5 u6 u7 u8 u9 u10 u11 u12 u13 u14 u15 u16 u17 i_tape i_thrown i_status i_gravel i_taped i_refusals i_row) H → va_D A (wd_HM_row cA q0 q1 q2 q3 q4 q5 q6 q7 q8 q9 q10 q11 q12 q13 q14 q15 q16 q17 q18 q19 q20 q21 q22 q23 q24 q25 q26 q27 q28 q29 q30 q31 u0 u1 u2 u3 u4 u5 u6 u7 u8 u9 u10 u11 u12 u13 u14 u15 u16 u17 i_tape i_thrown i_status i_gravel i_taped i_refusals i_row) → va_S A s.heap H locs → lv_has ls 5 [(0, .ref q0), (1, .int (Int32.ofInt x1)), (2, .int (Int32.ofInt x2)), (3, .int (Int32.ofInt x3)), (4, .int (Int32.ofInt x4))] → W p l e rm_HM_row s m args below meth c H locs 0 0 Q (F0 m 147 ls []) := by
    intro k56 ih56 x1 x2 x3 x4 i_thrown i_status i_gravel i_taped i_refusals i_row H locs ls hf hP hD hS hl
    unfold f_HM_row_147 at hf
    refine xi_iinc hx hb dX11_row_147 hl (k := 4) rfl (by decide) hf (fun v1 ls hl hf => ?_)
    have hl : lv_has ls 5 [(4, .int (Int32.ofInt v1)), (0, .ref q0), (1, .int (Int32.ofInt x1)), (2, .int (Int32.ofInt x2)), (3, .int (Int32.ofInt x3))] := hl
    refine lv_goto (tgt := 56) hx hb dX11_row_150 (by decide) ?_
    exact ih56 _ _ _ _ _ _ _ _ _ _ _ _ _ hf hP hD hS (lv_sub hl [1, 2, 3, 4, 0] rfl)
  have b_137 : ∀ (k56 : Int → Int → Int → Int → Int → Int → Int → Int → (Nat → Int) → (Nat → Int) → Option (Int × Int × Int × Int × Int × (Nat → Int) × (Nat → Int))) (_ : ∀ (x1 : Int) (x2 : Int) (x3 : Int) (x4 : Int) (i_thrown : Int) (i_status : Int) (i_gravel : Int) (i_taped : Int) (i_refusals : Nat → Int) (i_row : Nat → Int) (H : Heap) (locs : List Loc) (ls : Array Slot), k56 x1 x2 x3 x4 i_thrown i_status i_gravel i_taped i_refusals i_row = some out → va_P (dC, dI) vwCl (wd_HM_row cA q0 q1 q2 q3 q4 q5 q6 q7 q8 q9 q10 q11 q12 q13 q14 q15 q16 q17 q18 q19 q20 q21 q22 q23 q24 q25 q26 q27 q28 q29 q30 q31 u0 u1 u2 u3 u4 u5 u6 u7 u8 u9 u10 u11 u12 u13 u14 u15 u16 u17 i_tape i_thrown i_status i_gravel i_taped i_refusals i_row) H → va_D A (wd_HM_row cA q0 q1 q2 q3 q4 q5 q6 q7 q8 q9 q10 q11 q12 q13 q14 q15 q16 q17 q18 q19 q20 q21 q22 q23 q24 q25 q26 q27 q28 q29 q30 q31 u0 u1 u2 u3 u4 u5 u6 u7 u8 u9 u10 u11 u12 u13 u14 u15 u16 u17 i_tape i_thrown i_status i_gravel i_taped i_refusals i_row) → va_S A s.heap H locs → lv_has ls 5 [(0, .ref q0), (1, .int (Int32.ofInt x1)), (2, .int (Int32.ofInt x2)), (3, .int (Int32.ofInt x3)), (4, .int (Int32.ofInt x4))] → W p l e rm_HM_row s m args below meth c H locs 0 0 Q (F0 m 56 ls [])), ∀ (x1 : Int) (x2 : Int) (x3 : Int) (x4 : Int) (i_thrown : Int) (i_status : Int) (i_gravel : Int) (i_taped : Int) (i_refusals : Nat → Int) (i_row : Nat → Int) (H : Heap) (locs : List Loc) (ls : Array Slot), f_HM_row_137 i_tape k56 x1 x2 x3 x4 i_thrown i_status i_gravel i_taped i_refusals i_row = some out → va_P (dC, dI) vwCl (wd_HM_row cA q0 q1 q2 q3 q4 q5 q6 q7 q8 q9 q10 q11 q12 q13 q14 q15 q16 q17 q18 q19 q20 q21 q22 q23 q24 q25 q26 q27 q28 q29 q30 q31 u0 u1 u2 u3 u4 u5 u6 u7 u8 u9 u10 u11 u12 u13 u14 u15 u16 u17 i_tape i_thrown i_status i_gravel i_taped i_refusals i_row) H → va_D A (wd_HM_row cA q0 q1 q2 q3 q4 q5 q6 q7 q8 q9 q10 q11 q12 q13 q14 q15 q16 q17 q18 q19 q20 q21 q22 q23 q24 q25 q26 q27 q28 q29 q30 q31 u0 u1 u2 u3 u4 u5 u6 u7 u8 u9 u10 u11 u12 u13 u14 u15 u16 u17 i_tape i_thrown i_status i_gravel i_taped i_refusals i_row) → va_S A s.heap H locs → lv_has ls 5 [(0, .ref q0), (1, .int (Int32.ofInt x1)), (2, .int (Int32.ofInt x2)), (3, .int (Int32.ofInt x3)), (4, .int (Int32.ofInt x4))] → W p l e rm_HM_row s m args below meth c H locs 0 0 Q (F0 m 137 ls []) := by
    intro k56 ih56 x1 x2 x3 x4 i_thrown i_status i_gravel i_taped i_refusals i_row H locs ls hf hP hD hS hl
    unfold f_HM_row_137 at hf
    refine lv_aload_n hx hb dX11_row_137 rfl (lv_at hl 0 rfl) ?_
    refine lv_dup hx hb dX11_row_138 rfl ?_
    refine va_get (D := (dC, dI)) (ci := 11) (v := .int (Int32.ofInt i_gravel)) (C := RX11) (T := TX11) (N := 53) hx hb hz zi_X11 hown hK hP 0 rfl rfl 6 (by decide) (hz _ zw_1171) (fun _ h9 => h9) rfl dX11_row_139 ?_
    refine lv_iconst (v := Int32.ofInt 1) hx hb dX11_row_142 rfl ?_
    refine xi_iadd hx hb dX11_row_143 hf (fun v1 hf => ?_)
    refine va_put (D := (dC, dI)) (ci := 11) (v := .int (Int32.ofInt v1)) (ty := .int) (C := RX11) (T := TX11) (N := 53) hx hb hz zi_X11 tyX11 tyX11_ok nmX11 hown hK hP hD hS 0 rfl rfl 6 (by decide) (hz _ zw_1171) (fun _ h9 => h9) rfl (by decide +kernel) rfl rfl (Nat.le_of_ble_eq_true rfl) dX11_row_144 (fun H locs hP hD hS => ?_)
    have hP : va_P (dC, dI) vwCl (wd_HM_row cA q0 q1 q2 q3 q4 q5 q6 q7 q8 q9 q10 q11 q12 q13 q14 q15 q16 q17 q18 q19 q20 q21 q22 q23 q24 q25 q26 q27 q28 q29 q30 q31 u0 u1 u2 u3 u4 u5 u6 u7 u8 u9 u10 u11 u12 u13 u14 u15 u16 u17 i_tape i_thrown i_status v1 i_taped i_refusals i_row) H := hP
    have hD : va_D A (wd_HM_row cA q0 q1 q2 q3 q4 q5 q6 q7 q8 q9 q10 q11 q12 q13 q14 q15 q16 q17 q18 q19 q20 q21 q22 q23 q24 q25 q26 q27 q28 q29 q30 q31 u0 u1 u2 u3 u4 u5 u6 u7 u8 u9 u10 u11 u12 u13 u14 u15 u16 u17 i_tape i_thrown i_status v1 i_taped i_refusals i_row) := hD
    exact b_147 _ ih56 _ _ _ _ _ _ _ _ _ _ _ _ _ hf hP hD hS (lv_sub hl [0, 1, 2, 3, 4] rfl)
  have b_56 : ∀ (k56 : Int → Int → Int → Int → Int → Int → Int → Int → (Nat → Int) → (Nat → Int) → Option (Int × Int × Int × Int × Int × (Nat → Int) × (Nat → Int))) (_ : ∀ (x1 : Int) (x2 : Int) (x3 : Int) (x4 : Int) (i_thrown : Int) (i_status : Int) (i_gravel : Int) (i_taped : Int) (i_refusals : Nat → Int) (i_row : Nat → Int) (H : Heap) (locs : List Loc) (ls : Array Slot), k56 x1 x2 x3 x4 i_thrown i_status i_gravel i_taped i_refusals i_row = some out → va_P (dC, dI) vwCl (wd_HM_row cA q0 q1 q2 q3 q4 q5 q6 q7 q8 q9 q10 q11 q12 q13 q14 q15 q16 q17 q18 q19 q20 q21 q22 q23 q24 q25 q26 q27 q28 q29 q30 q31 u0 u1 u2 u3 u4 u5 u6 u7 u8 u9 u10 u11 u12 u13 u14 u15 u16 u17 i_tape i_thrown i_status i_gravel i_taped i_refusals i_row) H → va_D A (wd_HM_row cA q0 q1 q2 q3 q4 q5 q6 q7 q8 q9 q10 q11 q12 q13 q14 q15 q16 q17 q18 q19 q20 q21 q22 q23 q24 q25 q26 q27 q28 q29 q30 q31 u0 u1 u2 u3 u4 u5 u6 u7 u8 u9 u10 u11 u12 u13 u14 u15 u16 u17 i_tape i_thrown i_status i_gravel i_taped i_refusals i_row) → va_S A s.heap H locs → lv_has ls 5 [(0, .ref q0), (1, .int (Int32.ofInt x1)), (2, .int (Int32.ofInt x2)), (3, .int (Int32.ofInt x3)), (4, .int (Int32.ofInt x4))] → W p l e rm_HM_row s m args below meth c H locs 0 0 Q (F0 m 56 ls [])), ∀ (x1 : Int) (x2 : Int) (x3 : Int) (x4 : Int) (i_thrown : Int) (i_status : Int) (i_gravel : Int) (i_taped : Int) (i_refusals : Nat → Int) (i_row : Nat → Int) (H : Heap) (locs : List Loc) (ls : Array Slot), f_HM_row_56_b i_tape k56 x1 x2 x3 x4 i_thrown i_status i_gravel i_taped i_refusals i_row = some out → va_P (dC, dI) vwCl (wd_HM_row cA q0 q1 q2 q3 q4 q5 q6 q7 q8 q9 q10 q11 q12 q13 q14 q15 q16 q17 q18 q19 q20 q21 q22 q23 q24 q25 q26 q27 q28 q29 q30 q31 u0 u1 u2 u3 u4 u5 u6 u7 u8 u9 u10 u11 u12 u13 u14 u15 u16 u17 i_tape i_thrown i_status i_gravel i_taped i_refusals i_row) H → va_D A (wd_HM_row cA q0 q1 q2 q3 q4 q5 q6 q7 q8 q9 q10 q11 q12 q13 q14 q15 q16 q17 q18 q19 q20 q21 q22 q23 q24 q25 q26 q27 q28 q29 q30 q31 u0 u1 u2 u3 u4 u5 u6 u7 u8 u9 u10 u11 u12 u13 u14 u15 u16 u17 i_tape i_thrown i_status i_gravel i_taped i_refusals i_row) → va_S A s.heap H locs → lv_has ls 5 [(0, .ref q0), (1, .int (Int32.ofInt x1)), (2, .int (Int32.ofInt x2)), (3, .int (Int32.ofInt x3)), (4, .int (Int32.ofInt x4))] → W p l e rm_HM_row s m args below meth c H locs 0 0 Q (F0 m 56 ls []) := by
    intro k56 ih56 x1 x2 x3 x4 i_thrown i_status i_gravel i_taped i_refusals i_row H locs ls hf hP hD hS hl
    unfold f_HM_row_56_b at hf
    refine lv_iload hx hb dX11_row_56 (lv_at hl 4 rfl) ?_
    refine lv_iload_n hx hb dX11_row_58 rfl (lv_at hl 1 rfl) ?_
    refine xi_icmp_ge (tgt := 153) hx hb dX11_row_59 (by decide) hf (fun hf => ?_) (fun hf => ?_)
    · refine lv_aload_n hx hb dX11_row_153 rfl (lv_at hl 0 rfl) ?_
      refine lv_iload_n hx hb dX11_row_154 rfl (lv_at hl 3 rfl) ?_
      refine xe_d3 hf (fun v1 v2 a3 hg hf => ?_)
      have hC : ([0, 1] : List Nat).map (fun i => (wd_HM_row cA q0 q1 q2 q3 q4 q5 q6 q7 q8 q9 q10 q11 q12 q13 q14 q15 q16 q17 q18 q19 q20 q21 q22 q23 q24 q25 q26 q27 q28 q29 q30 q31 u0 u1 u2 u3 u4 u5 u6 u7 u8 u9 u10 u11 u12 u13 u14 u15 u16 u17 i_tape i_thrown i_status i_gravel i_taped i_refusals i_row)[i]?) = (wd_HM_tell cA q0 q1 q2 q3 q4 q5 q6 q7 q8 q9 q10 q11 q12 q13 q14 q15 q16 q17 q18 q19 q20 q21 q22 q23 q24 q25 q26 q27 q28 q29 q30 q31 i_thrown i_gravel i_taped u0 u1 u2 u3 u4 u5 u6 u7 u8 u9 u10 u11 u12 u13 u14 u15 u16 u17 i_status i_refusals).map some := rfl
      refine xv_afterI (ws' := (wd_HM_row cA q0 q1 q2 q3 q4 q5 q6 q7 q8 q9 q10 q11 q12 q13 q14 q15 q16 q17 q18 q19 q20 q21 q22 q23 q24 q25 q26 q27 q28 q29 q30 q31 u0 u1 u2 u3 u4 u5 u6 u7 u8 u9 u10 u11 u12 u13 u14 u15 u16 u17 i_tape i_thrown v2 i_gravel i_taped a3 i_row)) (isC := [0, 1]) (ps := [some 0, some 1, none, none]) (va_runV (As := [.int (Int32.ofInt x3)]) (rest := []) ⟨hx, hb, hml, hown, hts⟩ (c_HM_tell l ev dC dI cA q0 q1 q2 q3 q4 q5 q6 q7 q8 q9 q10 q11 q12 q13 q14 q15 q16 q17 q18 q19 q20 q21 q22 q23 q24 q25 q26 q27 q28 q29 q30 q31 i_thrown i_gravel i_taped u0 u1 u2 u3 u4 u5 u6 u7 u8 u9 u10 u11 u12 u13 u14 u15 u16 u17 hg H.size) (cwV 1 hts (zgV zw_1332 zw_1334 zw_40 zw_115 zw_1335) rfl rfl rfl hd_HM_tell ⟨Nat.le_of_ble_eq_true rfl, Nat.le_of_ble_eq_true rfl⟩) (xv_preV (T := TX11) (N := 53) hE hA hS hK hP hD (isC := [0, 1]) (by decide +kernel) hC (q0 := 0) (ci := 11) rfl rfl) rfl rfl hl.1 rfl (lv_room (Nat.le_of_ble_eq_true rfl)) dX11_row_155 ⟨Nat.le_refl _, Nat.le_refl _⟩) hP hD hS hA (by decide +kernel) rfl hC rfl rfl (fun H locs hP hD hS => ?_)
      obtain rfl := Option.some.inj hf
      exact hret _ _ _ _ rfl dX11_row_158 hP hD hS
    · refine lv_aload_n hx hb dX11_row_62 rfl (lv_at hl 0 rfl) ?_
      refine va_get (D := (dC, dI)) (ci := 11) (v := .ref q5) (C := RX11) (T := TX11) (N := 53) hx hb hz zi_X11 hown hK hP 0 rfl rfl 7 (by decide) (hz _ zw_1172) (fun _ h9 => h9) rfl dX11_row_63 ?_
      refine lv_iload hx hb dX11_row_66 (lv_at hl 4 rfl) ?_
      refine xi_iald hx hb hK hP 3 0 rfl rfl dX11_row_68 hf (fun v4 hf => ?_)
      refine xe_d1 hf (fun v5 hg hf => ?_)
      have hC : ([] : List Nat).map (fun i => (wd_HM_row cA q0 q1 q2 q3 q4 q5 q6 q7 q8 q9 q10 q11 q12 q13 q14 q15 q16 q17 q18 q19 q20 q21 q22 q23 q24 q25 q26 q27 q28 q29 q30 q31 u0 u1 u2 u3 u4 u5 u6 u7 u8 u9 u10 u11 u12 u13 u14 u15 u16 u17 i_tape i_thrown i_status i_gravel i_taped i_refusals i_row)[i]?) = (wd_HM_isWeight cA).map some := rfl
      refine xv_afterI (ws' := (wd_HM_row cA q0 q1 q2 q3 q4 q5 q6 q7 q8 q9 q10 q11 q12 q13 q14 q15 q16 q17 q18 q19 q20 q21 q22 q23 q24 q25 q26 q27 q28 q29 q30 q31 u0 u1 u2 u3 u4 u5 u6 u7 u8 u9 u10 u11 u12 u13 u14 u15 u16 u17 i_tape i_thrown i_status i_gravel i_taped i_refusals i_row)) (isC := []) (ps := [none, none, none, none]) (va_runS (As := [.int (Int32.ofInt v4)]) (rest := []) ⟨hx, hb, hml, hown, hts⟩ (c_HM_isWeight l ev dC dI cA hg H.size) (va_cwS 1 hts (zgS zw_1352 zw_1353 zw_115 zw_1354) rfl rfl rfl hd_HM_isWeight.2 ⟨Nat.le_of_ble_eq_true rfl, Nat.le_of_ble_eq_true rfl⟩) (xv_preS hE hA hS hK hP hD (isC := []) (by decide +kernel) hC) rfl rfl hl.1 rfl (lv_room (Nat.le_of_ble_eq_true rfl)) dX11_row_69 ⟨Nat.le_refl _, Nat.le_refl _⟩) hP hD hS hA (by decide +kernel) rfl hC rfl rfl (fun H locs hP hD hS => ?_)
      refine xi_if_eq (tgt := 137) hx hb dX11_row_72 (by decide) hf (fun hf => ?_) (fun hf => ?_)
      · exact b_137 _ ih56 _ _ _ _ _ _ _ _ _ _ _ _ _ hf hP hD hS (lv_sub hl [0, 1, 2, 3, 4] rfl)
      · refine lv_aload_n hx hb dX11_row_75 rfl (lv_at hl 0 rfl) ?_
        refine va_get (D := (dC, dI)) (ci := 11) (v := .ref q2) (C := RX11) (T := TX11) (N := 53) hx hb hz zi_X11 hown hK hP 0 rfl rfl 3 (by decide) (hz _ zw_1168) (fun _ h9 => h9) rfl dX11_row_76 ?_
        refine lv_bipush (v := Int32.ofInt 9) hx hb dX11_row_79 (by decide) ?_
        refine lv_iload_n hx hb dX11_row_81 rfl (lv_at hl 2 rfl) ?_
        refine xi_iadd hx hb dX11_row_82 hf (fun v6 hf => ?_)
        refine xi_iald hx hb hK hP 2 0 rfl rfl dX11_row_83 hf (fun v7 hf => ?_)
        refine lv_bipush (v := Int32.ofInt 10) hx hb dX11_row_84 (by decide) ?_
        refine xi_icmp_ge (tgt := 137) hx hb dX11_row_86 (by decide) hf (fun hf => ?_) (fun hf => ?_)
        · exact b_137 _ ih56 _ _ _ _ _ _ _ _ _ _ _ _ _ hf hP hD hS (lv_sub hl [0, 1, 2, 3, 4] rfl)
        · refine lv_aload_n hx hb dX11_row_89 rfl (lv_at hl 0 rfl) ?_
          refine va_get (D := (dC, dI)) (ci := 11) (v := .ref q2) (C := RX11) (T := TX11) (N := 53) hx hb hz zi_X11 hown hK hP 0 rfl rfl 3 (by decide) (hz _ zw_1168) (fun _ h9 => h9) rfl dX11_row_90 ?_
          refine lv_bipush (v := Int32.ofInt 21) hx hb dX11_row_93 (by decide) ?_
          refine lv_bipush (v := Int32.ofInt 10) hx hb dX11_row_95 (by decide) ?_
          refine lv_iload_n hx hb dX11_row_97 rfl (lv_at hl 2 rfl) ?_
          refine xi_imul hx hb dX11_row_98 hf (fun v8 hf => ?_)
          refine xi_iadd hx hb dX11_row_99 hf (fun v9 hf => ?_)
          refine lv_aload_n hx hb dX11_row_100 rfl (lv_at hl 0 rfl) ?_
          refine va_get (D := (dC, dI)) (ci := 11) (v := .ref q2) (C := RX11) (T := TX11) (N := 53) hx hb hz zi_X11 hown hK hP 0 rfl rfl 3 (by decide) (hz _ zw_1168) (fun _ h9 => h9) rfl dX11_row_101 ?_
          refine lv_bipush (v := Int32.ofInt 9) hx hb dX11_row_104 (by decide) ?_
          refine lv_iload_n hx hb dX11_row_106 rfl (lv_at hl 2 rfl) ?_
          refine xi_iadd hx hb dX11_row_107 hf (fun v10 hf => ?_)
          refine xi_iald hx hb hK hP 2 0 rfl rfl dX11_row_108 hf (fun v11 hf => ?_)
          refine xi_iadd hx hb dX11_row_109 hf (fun v12 hf => ?_)
          refine lv_aload_n hx hb dX11_row_110 rfl (lv_at hl 0 rfl) ?_
          refine va_get (D := (dC, dI)) (ci := 11) (v := .ref q5) (C := RX11) (T := TX11) (N := 53) hx hb hz zi_X11 hown hK hP 0 rfl rfl 7 (by decide) (hz _ zw_1172) (fun _ h9 => h9) rfl dX11_row_111 ?_
          refine lv_iload hx hb dX11_row_114 (lv_at hl 4 rfl) ?_
          refine xi_iald hx hb hK hP 3 0 rfl rfl dX11_row_116 hf (fun v13 hf => ?_)
          refine xi_iast hx hb hK hP hD hS 2 0 rfl rfl dX11_row_117 hf (fun a14 H locs hP hD hS hf => ?_)
          have hP : va_P (dC, dI) vwCl (wd_HM_row cA q0 q1 q2 q3 q4 q5 q6 q7 q8 q9 q10 q11 q12 q13 q14 q15 q16 q17 q18 q19 q20 q21 q22 q23 q24 q25 q26 q27 q28 q29 q30 q31 u0 u1 u2 u3 u4 u5 u6 u7 u8 u9 u10 u11 u12 u13 u14 u15 u16 u17 i_tape i_thrown i_status i_gravel i_taped i_refusals a14) H := hP
          have hD : va_D A (wd_HM_row cA q0 q1 q2 q3 q4 q5 q6 q7 q8 q9 q10 q11 q12 q13 q14 q15 q16 q17 q18 q19 q20 q21 q22 q23 q24 q25 q26 q27 q28 q29 q30 q31 u0 u1 u2 u3 u4 u5 u6 u7 u8 u9 u10 u11 u12 u13 u14 u15 u16 u17 i_tape i_thrown i_status i_gravel i_taped i_refusals a14) := hD
          refine lv_aload_n hx hb dX11_row_118 rfl (lv_at hl 0 rfl) ?_
          refine va_get (D := (dC, dI)) (ci := 11) (v := .ref q2) (C := RX11) (T := TX11) (N := 53) hx hb hz zi_X11 hown hK hP 0 rfl rfl 3 (by decide) (hz _ zw_1168) (fun _ h9 => h9) rfl dX11_row_119 ?_
          refine lv_bipush (v := Int32.ofInt 9) hx hb dX11_row_122 (by decide) ?_
          refine lv_iload_n hx hb dX11_row_124 rfl (lv_at hl 2 rfl) ?_
          refine xi_iadd hx hb dX11_row_125 hf (fun v15 hf => ?_)
          refine lv_dup2_11 hx hb dX11_row_126 rfl rfl ?_
          refine xi_iald hx hb hK hP 2 0 rfl rfl dX11_row_127 hf (fun v16 hf => ?_)
          refine lv_iconst (v := Int32.ofInt 1) hx hb dX11_row_128 rfl ?_
          refine xi_iadd hx hb dX11_row_129 hf (fun v17 hf => ?_)
          refine xi_iast hx hb hK hP hD hS 2 0 rfl rfl dX11_row_130 hf (fun a18 H locs hP hD hS hf => ?_)
          have hP : va_P (dC, dI) vwCl (wd_HM_row cA q0 q1 q2 q3 q4 q5 q6 q7 q8 q9 q10 q11 q12 q13 q14 q15 q16 q17 q18 q19 q20 q21 q22 q23 q24 q25 q26 q27 q28 q29 q30 q31 u0 u1 u2 u3 u4 u5 u6 u7 u8 u9 u10 u11 u12 u13 u14 u15 u16 u17 i_tape i_thrown i_status i_gravel i_taped i_refusals a18) H := hP
          have hD : va_D A (wd_HM_row cA q0 q1 q2 q3 q4 q5 q6 q7 q8 q9 q10 q11 q12 q13 q14 q15 q16 q17 q18 q19 q20 q21 q22 q23 q24 q25 q26 q27 q28 q29 q30 q31 u0 u1 u2 u3 u4 u5 u6 u7 u8 u9 u10 u11 u12 u13 u14 u15 u16 u17 i_tape i_thrown i_status i_gravel i_taped i_refusals a18) := hD
          refine xi_iinc hx hb dX11_row_131 hl (k := 3) rfl (by decide) hf (fun v19 ls hl hf => ?_)
          have hl : lv_has ls 5 [(3, .int (Int32.ofInt v19)), (0, .ref q0), (1, .int (Int32.ofInt x1)), (2, .int (Int32.ofInt x2)), (4, .int (Int32.ofInt x4))] := hl
          refine lv_goto (tgt := 147) hx hb dX11_row_134 (by decide) ?_
          exact b_147 _ ih56 _ _ _ _ _ _ _ _ _ _ _ _ _ hf hP hD hS (lv_sub hl [1, 2, 3, 0, 4] rfl)
  have l_56 : ∀ (n : Nat), ∀ (x1 : Int) (x2 : Int) (x3 : Int) (x4 : Int) (i_thrown : Int) (i_status : Int) (i_gravel : Int) (i_taped : Int) (i_refusals : Nat → Int) (i_row : Nat → Int) (H : Heap) (locs : List Loc) (ls : Array Slot), f_HM_row_56 i_tape n x1 x2 x3 x4 i_thrown i_status i_gravel i_taped i_refusals i_row = some out → va_P (dC, dI) vwCl (wd_HM_row cA q0 q1 q2 q3 q4 q5 q6 q7 q8 q9 q10 q11 q12 q13 q14 q15 q16 q17 q18 q19 q20 q21 q22 q23 q24 q25 q26 q27 q28 q29 q30 q31 u0 u1 u2 u3 u4 u5 u6 u7 u8 u9 u10 u11 u12 u13 u14 u15 u16 u17 i_tape i_thrown i_status i_gravel i_taped i_refusals i_row) H → va_D A (wd_HM_row cA q0 q1 q2 q3 q4 q5 q6 q7 q8 q9 q10 q11 q12 q13 q14 q15 q16 q17 q18 q19 q20 q21 q22 q23 q24 q25 q26 q27 q28 q29 q30 q31 u0 u1 u2 u3 u4 u5 u6 u7 u8 u9 u10 u11 u12 u13 u14 u15 u16 u17 i_tape i_thrown i_status i_gravel i_taped i_refusals i_row) → va_S A s.heap H locs → lv_has ls 5 [(0, .ref q0), (1, .int (Int32.ofInt x1)), (2, .int (Int32.ofInt x2)), (3, .int (Int32.ofInt x3)), (4, .int (Int32.ofInt x4))] → W p l e rm_HM_row s m args below meth c H locs 0 0 Q (F0 m 56 ls []) := by
    intro n
    induction n with
    | zero => intro x1 x2 x3 x4 i_thrown i_status i_gravel i_taped i_refusals i_row H locs ls hf hP hD hS hl; exact nomatch hf
    | succ n ih => intro x1 x2 x3 x4 i_thrown i_status i_gravel i_taped i_refusals i_row H locs ls hf hP hD hS hl; exact b_56 (f_HM_row_56 i_tape n) ih x1 x2 x3 x4 i_thrown i_status i_gravel i_taped i_refusals i_row H locs ls hf hP hD hS hl
  unfold f_HM_row at hf
  refine lv_aload_n hx hb dX11_row_0 rfl (lv_at hl 0 rfl) ?_
  refine lv_iconst (v := Int32.ofInt 0) hx hb dX11_row_1 rfl ?_
  refine va_put (D := (dC, dI)) (ci := 11) (v := .int (Int32.ofInt 0)) (ty := .int) (C := RX11) (T := TX11) (N := 53) hx hb hz zi_X11 tyX11 tyX11_ok nmX11 hown hK hP hD hS 0 rfl rfl 0 (by decide) (hz _ zw_1165) (fun _ h9 => h9) rfl (by decide +kernel) rfl rfl (Nat.le_of_ble_eq_true rfl) dX11_row_2 (fun H locs hP hD hS => ?_)
  have hP : va_P (dC, dI) vwCl (wd_HM_row cA q0 q1 q2 q3 q4 q5 q6 q7 q8 q9 q10 q11 q12 q13 q14 q15 q16 q17 q18 q19 q20 q21 q22 q23 q24 q25 q26 q27 q28 q29 q30 q31 u0 u1 u2 u3 u4 u5 u6 u7 u8 u9 u10 u11 u12 u13 u14 u15 u16 u17 i_tape 0 i_status i_gravel i_taped i_refusals i_row) H := hP
  have hD : va_D A (wd_HM_row cA q0 q1 q2 q3 q4 q5 q6 q7 q8 q9 q10 q11 q12 q13 q14 q15 q16 q17 q18 q19 q20 q21 q22 q23 q24 q25 q26 q27 q28 q29 q30 q31 u0 u1 u2 u3 u4 u5 u6 u7 u8 u9 u10 u11 u12 u13 u14 u15 u16 u17 i_tape 0 i_status i_gravel i_taped i_refusals i_row) := hD
  refine lv_aload_n hx hb dX11_row_5 rfl (lv_at hl 0 rfl) ?_
  refine va_get (D := (dC, dI)) (ci := 11) (v := .int (Int32.ofInt i_taped)) (C := RX11) (T := TX11) (N := 53) hx hb hz zi_X11 hown hK hP 0 rfl rfl 8 (by decide) (hz _ zw_1173) (fun _ h9 => h9) rfl dX11_row_6 ?_
  refine lv_istore_n (lv' := [(1, .int (Int32.ofInt i_taped)), (0, .ref q0)]) hx hb dX11_row_9 rfl hl (by decide) rfl (fun ls hl => ?_)
  refine lv_aload_n hx hb dX11_row_10 rfl (lv_at hl 1 rfl) ?_
  refine lv_iconst (v := Int32.ofInt 0) hx hb dX11_row_11 rfl ?_
  refine va_put (D := (dC, dI)) (ci := 11) (v := .int (Int32.ofInt 0)) (ty := .int) (C := RX11) (T := TX11) (N := 53) hx hb hz zi_X11 tyX11 tyX11_ok nmX11 hown hK hP hD hS 0 rfl rfl 8 (by decide) (hz _ zw_1173) (fun _ h9 => h9) rfl (by decide +kernel) rfl rfl (Nat.le_of_ble_eq_true rfl) dX11_row_12 (fun H locs hP hD hS => ?_)
  have hP : va_P (dC, dI) vwCl (wd_HM_row cA q0 q1 q2 q3 q4 q5 q6 q7 q8 q9 q10 q11 q12 q13 q14 q15 q16 q17 q18 q19 q20 q21 q22 q23 q24 q25 q26 q27 q28 q29 q30 q31 u0 u1 u2 u3 u4 u5 u6 u7 u8 u9 u10 u11 u12 u13 u14 u15 u16 u17 i_tape 0 i_status i_gravel 0 i_refusals i_row) H := hP
  have hD : va_D A (wd_HM_row cA q0 q1 q2 q3 q4 q5 q6 q7 q8 q9 q10 q11 q12 q13 q14 q15 q16 q17 q18 q19 q20 q21 q22 q23 q24 q25 q26 q27 q28 q29 q30 q31 u0 u1 u2 u3 u4 u5 u6 u7 u8 u9 u10 u11 u12 u13 u14 u15 u16 u17 i_tape 0 i_status i_gravel 0 i_refusals i_row) := hD
  refine lv_iload_n hx hb dX11_row_15 rfl (lv_at hl 0 rfl) ?_
  refine xi_if_eq (tgt := 32) hx hb dX11_row_16 (by decide) hf (fun hf => ?_) (fun hf => ?_)
  · exact b_32  _ _ _ _ _ _ _ _ _ hf hP hD hS (lv_sub hl [1] rfl)
  · refine lv_aload_n hx hb dX11_row_19 rfl (lv_at hl 1 rfl) ?_
    refine lv_aload_n hx hb dX11_row_20 rfl (lv_at hl 1 rfl) ?_
    refine va_get (D := (dC, dI)) (ci := 11) (v := .ref q5) (C := RX11) (T := TX11) (N := 53) hx hb hz zi_X11 hown hK hP 0 rfl rfl 7 (by decide) (hz _ zw_1172) (fun _ h9 => h9) rfl dX11_row_21 ?_
    refine lv_iconst (v := Int32.ofInt 0) hx hb dX11_row_24 rfl ?_
    refine xi_iald hx hb hK hP 3 0 rfl rfl dX11_row_25 hf (fun v1 hf => ?_)
    refine xe_d1 hf (fun v2 hg hf => ?_)
    have hC : ([0, 2] : List Nat).map (fun i => (wd_HM_row cA q0 q1 q2 q3 q4 q5 q6 q7 q8 q9 q10 q11 q12 q13 q14 q15 q16 q17 q18 q19 q20 q21 q22 q23 q24 q25 q26 q27 q28 q29 q30 q31 u0 u1 u2 u3 u4 u5 u6 u7 u8 u9 u10 u11 u12 u13 u14 u15 u16 u17 i_tape 0 i_status i_gravel 0 i_refusals i_row)[i]?) = (wd_HM_isColumn cA q0 q1 q2 q3 q4 q5 q6 q7 q8 q9 q10 q11 q12 q13 q14 q15 q16 q17 q18 q19 q20 q21 q22 q23 q24 q25 q26 q27 q28 q29 q30 q31 0 i_status i_gravel 0 u0 u1 u2 u3 u4 u5 u6 u7 u8 u9 u10 u11 u12 u13 u14 u15 u16 u17 i_row).map some := rfl
    refine xv_afterI (ws' := (wd_HM_row cA q0 q1 q2 q3 q4 q5 q6 q7 q8 q9 q10 q11 q12 q13 q14 q15 q16 q17 q18 q19 q20 q21 q22 q23 q24 q25 q26 q27 q28 q29 q30 q31 u0 u1 u2 u3 u4 u5 u6 u7 u8 u9 u10 u11 u12 u13 u14 u15 u16 u17 i_tape 0 i_status i_gravel 0 i_refusals i_row)) (isC := [0, 2]) (ps := [some 0, none, some 1, none]) (va_runV (As := [.int (Int32.ofInt v1)]) (rest := []) ⟨hx, hb, hml, hown, hts⟩ (c_HM_isColumn l ev dC dI cA q0 q1 q2 q3 q4 q5 q6 q7 q8 q9 q10 q11 q12 q13 q14 q15 q16 q17 q18 q19 q20 q21 q22 q23 q24 q25 q26 q27 q28 q29 q30 q31 0 i_status i_gravel 0 u0 u1 u2 u3 u4 u5 u6 u7 u8 u9 u10 u11 u12 u13 u14 u15 u16 u17 hg H.size) (cwV 1 hts (zgV zw_1356 zw_1358 zw_42 zw_115 zw_1359) rfl rfl rfl hd_HM_isColumn ⟨Nat.le_of_ble_eq_true rfl, Nat.le_of_ble_eq_true rfl⟩) (xv_preV (T := TX11) (N := 53) hE hA hS hK hP hD (isC := [0, 2]) (by decide +kernel) hC (q0 := 0) (ci := 11) rfl rfl) rfl rfl hl.1 rfl (lv_room (Nat.le_of_ble_eq_true rfl)) dX11_row_26 ⟨Nat.le_refl _, Nat.le_refl _⟩) hP hD hS hA (by decide +kernel) rfl hC rfl rfl (fun H locs hP hD hS => ?_)
    refine xi_if_ne (tgt := 39) hx hb dX11_row_29 (by decide) hf (fun hf => ?_) (fun hf => ?_)
    · refine lv_aload_n hx hb dX11_row_39 rfl (lv_at hl 1 rfl) ?_
      refine va_get (D := (dC, dI)) (ci := 11) (v := .ref q5) (C := RX11) (T := TX11) (N := 53) hx hb hz zi_X11 hown hK hP 0 rfl rfl 7 (by decide) (hz _ zw_1172) (fun _ h9 => h9) rfl dX11_row_40 ?_
      refine lv_iconst (v := Int32.ofInt 0) hx hb dX11_row_43 rfl ?_
      refine xi_iald hx hb hK hP 3 0 rfl rfl dX11_row_44 hf (fun v3 hf => ?_)
      refine lv_istore_n (lv' := [(2, .int (Int32.ofInt v3)), (1, .int (Int32.ofInt i_taped)), (0, .ref q0)]) hx hb dX11_row_45 rfl hl (by decide) rfl (fun ls hl => ?_)
      refine lv_aload_n hx hb dX11_row_46 rfl (lv_at hl 2 rfl) ?_
      refine lv_iconst (v := Int32.ofInt 0) hx hb dX11_row_47 rfl ?_
      refine va_put (D := (dC, dI)) (ci := 11) (v := .int (Int32.ofInt 0)) (ty := .int) (C := RX11) (T := TX11) (N := 53) hx hb hz zi_X11 tyX11 tyX11_ok nmX11 hown hK hP hD hS 0 rfl rfl 6 (by decide) (hz _ zw_1171) (fun _ h9 => h9) rfl (by decide +kernel) rfl rfl (Nat.le_of_ble_eq_true rfl) dX11_row_48 (fun H locs hP hD hS => ?_)
      have hP : va_P (dC, dI) vwCl (wd_HM_row cA q0 q1 q2 q3 q4 q5 q6 q7 q8 q9 q10 q11 q12 q13 q14 q15 q16 q17 q18 q19 q20 q21 q22 q23 q24 q25 q26 q27 q28 q29 q30 q31 u0 u1 u2 u3 u4 u5 u6 u7 u8 u9 u10 u11 u12 u13 u14 u15 u16 u17 i_tape 0 i_status 0 0 i_refusals i_row) H := hP
      have hD : va_D A (wd_HM_row cA q0 q1 q2 q3 q4 q5 q6 q7 q8 q9 q10 q11 q12 q13 q14 q15 q16 q17 q18 q19 q20 q21 q22 q23 q24 q25 q26 q27 q28 q29 q30 q31 u0 u1 u2 u3 u4 u5 u6 u7 u8 u9 u10 u11 u12 u13 u14 u15 u16 u17 i_tape 0 i_status 0 0 i_refusals i_row) := hD
      refine lv_iconst (v := Int32.ofInt 0) hx hb dX11_row_51 rfl ?_
      refine lv_istore_n (lv' := [(3, .int (Int32.ofInt 0)), (2, .int (Int32.ofInt v3)), (1, .int (Int32.ofInt i_taped)), (0, .ref q0)]) hx hb dX11_row_52 rfl hl (by decide) rfl (fun ls hl => ?_)
      refine lv_iconst (v := Int32.ofInt 1) hx hb dX11_row_53 rfl ?_
      refine lv_istore (lv' := [(4, .int (Int32.ofInt 1)), (3, .int (Int32.ofInt 0)), (2, .int (Int32.ofInt v3)), (1, .int (Int32.ofInt i_taped)), (0, .ref q0)]) hx hb dX11_row_54 hl (by decide) rfl (fun ls hl => ?_)
      exact l_56  _ _ _ _ _ _ _ _ _ _ _ _ _ _ hf hP hD hS (lv_sub hl [4, 3, 2, 1, 0] rfl)
    · exact b_32  _ _ _ _ _ _ _ _ _ hf hP hD hS (lv_sub hl [1] rfl)
theorem dX11_gravel_0 : decode cX11_gravel 0 = .ok (.aload_n 0, 1) := by decide +kernel
theorem dX11_gravel_1 : decode cX11_gravel 1 = .ok (.iconst 0, 1) := by decide +kernel
theorem dX11_gravel_2 : decode cX11_gravel 2 = .ok (.putfield 126, 3) := by decide +kernel
theorem dX11_gravel_5 : decode cX11_gravel 5 = .ok (.aload_n 0, 1) := by decide +kernel
theorem dX11_gravel_6 : decode cX11_gravel 6 = .ok (.getfield 175, 3) := by decide +kernel
theorem dX11_gravel_9 : decode cX11_gravel 9 = .ok (.ireturn, 1) := by decide +kernel
theorem zw_1414 : (Jvm.Cond.code ({ cls := "HillSchoolModel", name := "gravel", desc := "()I" } : Jvm.MethodName) prog_13_method_26_code (1 : Nat) (Option.some Jvm.ClassFile.FieldType.int)) ∈ zall := zmemG (zmj_6 111 rfl) rfl
abbrev w_HM_gravel : List Cond := .code yX11_gravel cX11_gravel 1 (some .int) :: zall
abbrev rm_HM_gravel : Room := { frames := 0, cells := 0, slots := 0, locals := 0 }
theorem hd_HM_gravel : yX11_gravel.cls = "HillSchoolModel" ∧ yX11_gravel.cls ≠ "java/lang/invoke/MethodHandle" ∧ yX11_gravel.cls ≠ "java/lang/invoke/VarHandle" ∧ (parseMethodDescriptor yX11_gravel.desc).map (fun d => d.parameters.length) = some 0 := by decide +kernel
def wd_HM_gravel (cA : Nat → ClassId) (q0 q1 q2 q3 q4 q5 q6 q7 q8 q9 q10 q11 q12 q13 q14 q15 q16 q17 q18 q19 q20 q21 q22 q23 q24 q25 q26 q27 q28 q29 q30 q31 : Nat) (u0 u1 u2 u3 u4 u5 u6 u7 u8 u9 u10 u11 u12 u13 u14 u15 u16 u17 u18 u19 : Int) (i_gravel : Int) (i_thrown : Int) : va_W := [(q0, .inr (11, [.int (Int32.ofInt i_thrown), .int (Int32.ofInt u0), .ref q1, .ref q2, .ref q3, .ref q4, .int (Int32.ofInt i_gravel), .ref q5, .int (Int32.ofInt u1), .int (Int32.ofInt u2), .int (Int32.ofInt u3), .int (Int32.ofInt u4), .long (Int64.ofInt u5), .int (Int32.ofInt u6), .int (Int32.ofInt u7), .int (Int32.ofInt u8), .ref q6, .int (Int32.ofInt u9), .ref q7, .ref q8, .int (Int32.ofInt u10), .ref q9, .ref q10, .int (Int32.ofInt u11), .int (Int32.ofInt u12), .ref q11, .int (Int32.ofInt u13), .ref q12, .ref q13, .int (Int32.ofInt u14), .long (Int64.ofInt u15), .long (Int64.ofInt u16), .ref q14, .ref q15, .ref q16, .ref q17, .ref q18, .int (Int32.ofInt u17), .ref q19, .ref q20, .ref q21, .ref q22, .ref q23, .ref q24, .ref q25, .ref q26, .ref q27, .ref q28, .ref q29, .ref q30, .long (Int64.ofInt u18), .ref q31, .int (Int32.ofInt u19)]))]
def wf_HM_gravel (cA : Nat → ClassId) (q0 q1 q2 q3 q4 q5 q6 q7 q8 q9 q10 q11 q12 q13 q14 q15 q16 q17 q18 q19 q20 q21 q22 q23 q24 q25 q26 q27 q28 q29 q30 q31 : Nat) (u0 u1 u2 u3 u4 u5 u6 u7 u8 u9 u10 u11 u12 u13 u14 u15 u16 u17 u18 u19 : Int) (i_gravel : Int) (o : Int × Int) : va_W := wd_HM_gravel cA q0 q1 q2 q3 q4 q5 q6 q7 q8 q9 q10 q11 q12 q13 q14 q15 q16 q17 q18 q19 q20 q21 q22 q23 q24 q25 q26 q27 q28 q29 q30 q31 u0 u1 u2 u3 u4 u5 u6 u7 u8 u9 u10 u11 u12 u13 u14 u15 u16 u17 u18 u19 i_gravel o.2
def f_HM_gravel (i_gravel : Int) (i_thrown : Int) : Option (Int × Int) :=
  some (i_gravel, 0)
set_option maxHeartbeats 4000000 in
set_option maxRecDepth 100000 in
theorem c_HM_gravel (l : Launch) (ev : zEv) (dC : Nat → ClassId) (dI : Nat → Nat → Nat) (cA : Nat → ClassId) (q0 q1 q2 q3 q4 q5 q6 q7 q8 q9 q10 q11 q12 q13 q14 q15 q16 q17 q18 q19 q20 q21 q22 q23 q24 q25 q26 q27 q28 q29 q30 q31 : Nat) (u0 u1 u2 u3 u4 u5 u6 u7 u8 u9 u10 u11 u12 u13 u14 u15 u16 u17 u18 u19 : Int) {i_gravel : Int} {i_thrown : Int} {out : Int × Int} (hf : f_HM_gravel i_gravel i_thrown = some out) : xc_I l ev (dC, dI) vwCl (tyl cA) yX11_gravel w_HM_gravel rm_HM_gravel [.ref q0] (wd_HM_gravel cA q0 q1 q2 q3 q4 q5 q6 q7 q8 q9 q10 q11 q12 q13 q14 q15 q16 q17 q18 q19 q20 q21 q22 q23 q24 q25 q26 q27 q28 q29 q30 q31 u0 u1 u2 u3 u4 u5 u6 u7 u8 u9 u10 u11 u12 u13 u14 u15 u16 u17 u18 u19 i_gravel i_thrown) (wf_HM_gravel cA q0 q1 q2 q3 q4 q5 q6 q7 q8 q9 q10 q11 q12 q13 q14 q15 q16 q17 q18 q19 q20 q21 q22 q23 q24 q25 q26 q27 q28 q29 q30 q31 u0 u1 u2 u3 u4 u5 u6 u7 u8 u9 u10 u11 u12 u13 u14 u15 u16 u17 u18 u19 i_gravel out) out.1 := by
  refine xv_startI (cc := cX11_gravel) (maxL := 1) (rt := .int) (by decide +kernel) rfl (Nat.le_of_ble_eq_true rfl) ?_
  intro p e s m args below meth c A Q H ls hx hb hml hts hown hK hA hP hD hS hl hE hret
  have hown : s.vm.findClass "HillSchoolModel" = some m.cls := hown
  have hz : ∀ w ∈ zall, w.before args s = true := fun w h => hts w (List.mem_cons_of_mem _ h)
  have hl : lv_has ls 1 [(0, .ref q0)] := hl
  unfold f_HM_gravel at hf
  refine lv_aload_n hx hb dX11_gravel_0 rfl (lv_at hl 0 rfl) ?_
  refine lv_iconst (v := Int32.ofInt 0) hx hb dX11_gravel_1 rfl ?_
  refine va_put (D := (dC, dI)) (ci := 11) (v := .int (Int32.ofInt 0)) (ty := .int) (C := RX11) (T := TX11) (N := 53) hx hb hz zi_X11 tyX11 tyX11_ok nmX11 hown hK hP hD hS 0 rfl rfl 0 (by decide) (hz _ zw_1165) (fun _ h9 => h9) rfl (by decide +kernel) rfl rfl (Nat.le_of_ble_eq_true rfl) dX11_gravel_2 (fun H locs hP hD hS => ?_)
  have hP : va_P (dC, dI) vwCl (wd_HM_gravel cA q0 q1 q2 q3 q4 q5 q6 q7 q8 q9 q10 q11 q12 q13 q14 q15 q16 q17 q18 q19 q20 q21 q22 q23 q24 q25 q26 q27 q28 q29 q30 q31 u0 u1 u2 u3 u4 u5 u6 u7 u8 u9 u10 u11 u12 u13 u14 u15 u16 u17 u18 u19 i_gravel 0) H := hP
  have hD : va_D A (wd_HM_gravel cA q0 q1 q2 q3 q4 q5 q6 q7 q8 q9 q10 q11 q12 q13 q14 q15 q16 q17 q18 q19 q20 q21 q22 q23 q24 q25 q26 q27 q28 q29 q30 q31 u0 u1 u2 u3 u4 u5 u6 u7 u8 u9 u10 u11 u12 u13 u14 u15 u16 u17 u18 u19 i_gravel 0) := hD
  refine lv_aload_n hx hb dX11_gravel_5 rfl (lv_at hl 0 rfl) ?_
  refine va_get (D := (dC, dI)) (ci := 11) (v := .int (Int32.ofInt i_gravel)) (C := RX11) (T := TX11) (N := 53) hx hb hz zi_X11 hown hK hP 0 rfl rfl 6 (by decide) (hz _ zw_1171) (fun _ h9 => h9) rfl dX11_gravel_6 ?_
  obtain rfl := Option.some.inj hf
  exact hret _ _ _ _ rfl dX11_gravel_9 hP hD hS
theorem dX11_four_0 : decode cX11_four 0 = .ok (.bipush 24, 2) := by decide +kernel
theorem dX11_four_2 : decode cX11_four 2 = .ok (.istore_n 2, 1) := by decide +kernel
theorem dX11_four_3 : decode cX11_four 3 = .ok (.iload_n 2, 1) := by decide +kernel
theorem dX11_four_4 : decode cX11_four 4 = .ok (.ifCond .lt 35, 3) := by decide +kernel
theorem dX11_four_7 : decode cX11_four 7 = .ok (.aload_n 0, 1) := by decide +kernel
theorem dX11_four_8 : decode cX11_four 8 = .ok (.getfield 23, 3) := by decide +kernel
theorem dX11_four_11 : decode cX11_four 11 = .ok (.aload_n 0, 1) := by decide +kernel
theorem dX11_four_12 : decode cX11_four 12 = .ok (.getfield 172, 3) := by decide +kernel
theorem dX11_four_15 : decode cX11_four 15 = .ok (.iload_n 1, 1) := by decide +kernel
theorem dX11_four_16 : decode cX11_four 16 = .ok (.iload_n 2, 1) := by decide +kernel
theorem dX11_four_17 : decode cX11_four 17 = .ok (.ishr, 1) := by decide +kernel
theorem dX11_four_18 : decode cX11_four 18 = .ok (.sipush 255, 3) := by decide +kernel
theorem dX11_four_21 : decode cX11_four 21 = .ok (.iand, 1) := by decide +kernel
theorem dX11_four_22 : decode cX11_four 22 = .ok (.iastore, 1) := by decide +kernel
theorem dX11_four_23 : decode cX11_four 23 = .ok (.aload_n 0, 1) := by decide +kernel
theorem dX11_four_24 : decode cX11_four 24 = .ok (.dup, 1) := by decide +kernel
theorem dX11_four_25 : decode cX11_four 25 = .ok (.getfield 172, 3) := by decide +kernel
theorem dX11_four_28 : decode cX11_four 28 = .ok (.iconst 1, 1) := by decide +kernel
theorem dX11_four_29 : decode cX11_four 29 = .ok (.iadd, 1) := by decide +kernel
theorem dX11_four_30 : decode cX11_four 30 = .ok (.putfield 172, 3) := by decide +kernel
theorem dX11_four_33 : decode cX11_four 33 = .ok (.iinc 2 (-8), 3) := by decide +kernel
theorem dX11_four_36 : decode cX11_four 36 = .ok (.goto (-33), 3) := by decide +kernel
theorem dX11_four_39 : decode cX11_four 39 = .ok (.return_, 1) := by decide +kernel
theorem zw_1422 : (Jvm.Cond.code ({ cls := "HillSchoolModel", name := "four", desc := "(I)V" } : Jvm.MethodName) prog_13_method_27_code (3 : Nat) (Option.none : Option Jvm.ClassFile.FieldType)) ∈ zall := zmemG (zmj_6 119 rfl) rfl
abbrev w_HM_four : List Cond := .code yX11_four cX11_four 3 none :: zall
abbrev rm_HM_four : Room := { frames := 0, cells := 0, slots := 0, locals := 0 }
theorem hd_HM_four : yX11_four.cls = "HillSchoolModel" ∧ yX11_four.cls ≠ "java/lang/invoke/MethodHandle" ∧ yX11_four.cls ≠ "java/lang/invoke/VarHandle" ∧ (parseMethodDescriptor yX11_four.desc).map (fun d => d.parameters.length) = some 1 := by decide +kernel
def wd_HM_four (cA : Nat → ClassId) (q0 q1 q2 q3 q4 q5 q6 q7 q8 q9 q10 q11 q12 q13 q14 q15 q16 q17 q18 q19 q20 q21 q22 q23 q24 q25 q26 q27 q28 q29 q30 q31 : Nat) (u0 u1 u2 u3 u4 u5 u6 u7 u8 u9 u10 u11 u12 u13 u14 u15 u16 u17 u18 u19 u20 : Int)  (i_taped : Int) (i_tape : Nat → Int) : va_W := [(q0, .inr (11, [.int (Int32.ofInt u0), .int (Int32.ofInt u1), .ref q1, .ref q2, .ref q3, .ref q4, .int (Int32.ofInt u2), .ref q5, .int (Int32.ofInt i_taped), .int (Int32.ofInt u3), .int (Int32.ofInt u4), .int (Int32.ofInt u5), .long (Int64.ofInt u6), .int (Int32.ofInt u7), .int (Int32.ofInt u8), .int (Int32.ofInt u9), .ref q6, .int (Int32.ofInt u10), .ref q7, .ref q8, .int (Int32.ofInt u11), .ref q9, .ref q10, .int (Int32.ofInt u12), .int (Int32.ofInt u13), .ref q11, .int (Int32.ofInt u14), .ref q12, .ref q13, .int (Int32.ofInt u15), .long (Int64.ofInt u16), .long (Int64.ofInt u17), .ref q14, .ref q15, .ref q16, .ref q17, .ref q18, .int (Int32.ofInt u18), .ref q19, .ref q20, .ref q21, .ref q22, .ref q23, .ref q24, .ref q25, .ref q26, .ref q27, .ref q28, .ref q29, .ref q30, .long (Int64.ofInt u19), .ref q31, .int (Int32.ofInt u20)])), (q5, .inl (cA 0, 400, .inl (za i_tape)))]
def wf_HM_four (cA : Nat → ClassId) (q0 q1 q2 q3 q4 q5 q6 q7 q8 q9 q10 q11 q12 q13 q14 q15 q16 q17 q18 q19 q20 q21 q22 q23 q24 q25 q26 q27 q28 q29 q30 q31 : Nat) (u0 u1 u2 u3 u4 u5 u6 u7 u8 u9 u10 u11 u12 u13 u14 u15 u16 u17 u18 u19 u20 : Int)  (o : Int × (Nat → Int)) : va_W := wd_HM_four cA q0 q1 q2 q3 q4 q5 q6 q7 q8 q9 q10 q11 q12 q13 q14 q15 q16 q17 q18 q19 q20 q21 q22 q23 q24 q25 q26 q27 q28 q29 q30 q31 u0 u1 u2 u3 u4 u5 u6 u7 u8 u9 u10 u11 u12 u13 u14 u15 u16 u17 u18 u19 u20 o.1 o.2
def f_HM_four_3_b  (k3 : Int → Int → Int → (Nat → Int) → Option (Int × (Nat → Int))) (x1 : Int) (x2 : Int) (i_taped : Int) (i_tape : Nat → Int) : Option (Int × (Nat → Int)) :=
  if zi_w x2 < 0 then
    some (i_taped, i_tape)
  else
    zn (zi_shr x1 x2) fun v1 =>
    zn (zi_and v1 255) fun v2 =>
    zs 400 i_tape i_taped v2 fun a3 =>
    zn (i_taped + 1) fun v4 =>
    zn (x2 + (-8)) fun v5 =>
    k3 x1 v5 v4 a3
def f_HM_four_3  : Nat → Int → Int → Int → (Nat → Int) → Option (Int × (Nat → Int))
  | 0 => fun _ _ _ _ => none
  | n + 1 => fun y0 y1 y2 y3 => f_HM_four_3_b  (f_HM_four_3  n) y0 y1 y2 y3
def f_HM_four (x1 : Int) (i_taped : Int) (i_tape : Nat → Int) : Option (Int × (Nat → Int)) :=
  f_HM_four_3 zfu x1 24 i_taped i_tape
set_option maxHeartbeats 4000000 in
set_option maxRecDepth 100000 in
theorem c_HM_four (l : Launch) (ev : zEv) (dC : Nat → ClassId) (dI : Nat → Nat → Nat) (cA : Nat → ClassId) (q0 q1 q2 q3 q4 q5 q6 q7 q8 q9 q10 q11 q12 q13 q14 q15 q16 q17 q18 q19 q20 q21 q22 q23 q24 q25 q26 q27 q28 q29 q30 q31 : Nat) (u0 u1 u2 u3 u4 u5 u6 u7 u8 u9 u10 u11 u12 u13 u14 u15 u16 u17 u18 u19 u20 : Int) {x1 : Int} {i_taped : Int} {i_tape : Nat → Int} {out : Int × (Nat → Int)} (hf : f_HM_four x1 i_taped i_tape = some out) : xc_V l ev (dC, dI) vwCl (tyl cA) yX11_four w_HM_four rm_HM_four [.ref q0, .int (Int32.ofInt x1)] (wd_HM_four cA q0 q1 q2 q3 q4 q5 q6 q7 q8 q9 q10 q11 q12 q13 q14 q15 q16 q17 q18 q19 q20 q21 q22 q23 q24 q25 q26 q27 q28 q29 q30 q31 u0 u1 u2 u3 u4 u5 u6 u7 u8 u9 u10 u11 u12 u13 u14 u15 u16 u17 u18 u19 u20 i_taped i_tape) (wf_HM_four cA q0 q1 q2 q3 q4 q5 q6 q7 q8 q9 q10 q11 q12 q13 q14 q15 q16 q17 q18 q19 q20 q21 q22 q23 q24 q25 q26 q27 q28 q29 q30 q31 u0 u1 u2 u3 u4 u5 u6 u7 u8 u9 u10 u11 u12 u13 u14 u15 u16 u17 u18 u19 u20 out) := by
  refine xv_startV (cc := cX11_four) (maxL := 3) (by decide +kernel) rfl (Nat.le_of_ble_eq_true rfl) ?_
  intro p e s m args below meth c A Q H ls hx hb hml hts hown hK hA hP hD hS hl hE hret
  have hown : s.vm.findClass "HillSchoolModel" = some m.cls := hown
  have hz : ∀ w ∈ zall, w.before args s = true := fun w h => hts w (List.mem_cons_of_mem _ h)
  have hl : lv_has ls 3 [(0, .ref q0), (1, .int (Int32.ofInt x1))] := hl
  have b_3 : ∀ (k3 : Int → Int → Int → (Nat → Int) → Option (Int × (Nat → Int))) (_ : ∀ (x1 : Int) (x2 : Int) (i_taped : Int) (i_tape : Nat → Int) (H : Heap) (locs : List Loc) (ls : Array Slot), k3 x1 x2 i_taped i_tape = some out → va_P (dC, dI) vwCl (wd_HM_four cA q0 q1 q2 q3 q4 q5 q6 q7 q8 q9 q10 q11 q12 q13 q14 q15 q16 q17 q18 q19 q20 q21 q22 q23 q24 q25 q26 q27 q28 q29 q30 q31 u0 u1 u2 u3 u4 u5 u6 u7 u8 u9 u10 u11 u12 u13 u14 u15 u16 u17 u18 u19 u20 i_taped i_tape) H → va_D A (wd_HM_four cA q0 q1 q2 q3 q4 q5 q6 q7 q8 q9 q10 q11 q12 q13 q14 q15 q16 q17 q18 q19 q20 q21 q22 q23 q24 q25 q26 q27 q28 q29 q30 q31 u0 u1 u2 u3 u4 u5 u6 u7 u8 u9 u10 u11 u12 u13 u14 u15 u16 u17 u18 u19 u20 i_taped i_tape) → va_S A s.heap H locs → lv_has ls 3 [(0, .ref q0), (1, .int (Int32.ofInt x1)), (2, .int (Int32.ofInt x2))] → W p l e rm_HM_four s m args below meth c H locs 0 0 Q (F0 m 3 ls [])), ∀ (x1 : Int) (x2 : Int) (i_taped : Int) (i_tape : Nat → Int) (H : Heap) (locs : List Loc) (ls : Array Slot), f_HM_four_3_b k3 x1 x2 i_taped i_tape = some out → va_P (dC, dI) vwCl (wd_HM_four cA q0 q1 q2 q3 q4 q5 q6 q7 q8 q9 q10 q11 q12 q13 q14 q15 q16 q17 q18 q19 q20 q21 q22 q23 q24 q25 q26 q27 q28 q29 q30 q31 u0 u1 u2 u3 u4 u5 u6 u7 u8 u9 u10 u11 u12 u13 u14 u15 u16 u17 u18 u19 u20 i_taped i_tape) H → va_D A (wd_HM_four cA q0 q1 q2 q3 q4 q5 q6 q7 q8 q9 q10 q11 q12 q13 q14 q15 q16 q17 q18 q19 q20 q21 q22 q23 q24 q25 q26 q27 q28 q29 q30 q31 u0 u1 u2 u3 u4 u5 u6 u7 u8 u9 u10 u11 u12 u13 u14 u15 u16 u17 u18 u19 u20 i_taped i_tape) → va_S A s.heap H locs → lv_has ls 3 [(0, .ref q0), (1, .int (Int32.ofInt x1)), (2, .int (Int32.ofInt x2))] → W p l e rm_HM_four s m args below meth c H locs 0 0 Q (F0 m 3 ls []) := by
    intro k3 ih3 x1 x2 i_taped i_tape H locs ls hf hP hD hS hl
    unfold f_HM_four_3_b at hf
    refine lv_iload_n hx hb dX11_four_3 rfl (lv_at hl 2 rfl) ?_
    refine xi_if_lt (tgt := 39) hx hb dX11_four_4 (by decide) hf (fun hf => ?_) (fun hf => ?_)
    · obtain rfl := Option.some.inj hf
      exact hret _ _ _ _ dX11_four_39 hP hD hS
    · refine lv_aload_n hx hb dX11_four_7 rfl (lv_at hl 0 rfl) ?_
      refine va_get (D := (dC, dI)) (ci := 11) (v := .ref q5) (C := RX11) (T := TX11) (N := 53) hx hb hz zi_X11 hown hK hP 0 rfl rfl 7 (by decide) (hz _ zw_1172) (fun _ h9 => h9) rfl dX11_four_8 ?_
      refine lv_aload_n hx hb dX11_four_11 rfl (lv_at hl 0 rfl) ?_
      refine va_get (D := (dC, dI)) (ci := 11) (v := .int (Int32.ofInt i_taped)) (C := RX11) (T := TX11) (N := 53) hx hb hz zi_X11 hown hK hP 0 rfl rfl 8 (by decide) (hz _ zw_1173) (fun _ h9 => h9) rfl dX11_four_12 ?_
      refine lv_iload_n hx hb dX11_four_15 rfl (lv_at hl 1 rfl) ?_
      refine lv_iload_n hx hb dX11_four_16 rfl (lv_at hl 2 rfl) ?_
      refine xi_ishr hx hb dX11_four_17 hf (fun v1 hf => ?_)
      refine lv_sipush (v := Int32.ofInt 255) hx hb dX11_four_18 (by decide) ?_
      refine xi_iand hx hb dX11_four_21 hf (fun v2 hf => ?_)
      refine xi_iast hx hb hK hP hD hS 1 0 rfl rfl dX11_four_22 hf (fun a3 H locs hP hD hS hf => ?_)
      have hP : va_P (dC, dI) vwCl (wd_HM_four cA q0 q1 q2 q3 q4 q5 q6 q7 q8 q9 q10 q11 q12 q13 q14 q15 q16 q17 q18 q19 q20 q21 q22 q23 q24 q25 q26 q27 q28 q29 q30 q31 u0 u1 u2 u3 u4 u5 u6 u7 u8 u9 u10 u11 u12 u13 u14 u15 u16 u17 u18 u19 u20 i_taped a3) H := hP
      have hD : va_D A (wd_HM_four cA q0 q1 q2 q3 q4 q5 q6 q7 q8 q9 q10 q11 q12 q13 q14 q15 q16 q17 q18 q19 q20 q21 q22 q23 q24 q25 q26 q27 q28 q29 q30 q31 u0 u1 u2 u3 u4 u5 u6 u7 u8 u9 u10 u11 u12 u13 u14 u15 u16 u17 u18 u19 u20 i_taped a3) := hD
      refine lv_aload_n hx hb dX11_four_23 rfl (lv_at hl 0 rfl) ?_
      refine lv_dup hx hb dX11_four_24 rfl ?_
      refine va_get (D := (dC, dI)) (ci := 11) (v := .int (Int32.ofInt i_taped)) (C := RX11) (T := TX11) (N := 53) hx hb hz zi_X11 hown hK hP 0 rfl rfl 8 (by decide) (hz _ zw_1173) (fun _ h9 => h9) rfl dX11_four_25 ?_
      refine lv_iconst (v := Int32.ofInt 1) hx hb dX11_four_28 rfl ?_
      refine xi_iadd hx hb dX11_four_29 hf (fun v4 hf => ?_)
      refine va_put (D := (dC, dI)) (ci := 11) (v := .int (Int32.ofInt v4)) (ty := .int) (C := RX11) (T := TX11) (N := 53) hx hb hz zi_X11 tyX11 tyX11_ok nmX11 hown hK hP hD hS 0 rfl rfl 8 (by decide) (hz _ zw_1173) (fun _ h9 => h9) rfl (by decide +kernel) rfl rfl (Nat.le_of_ble_eq_true rfl) dX11_four_30 (fun H locs hP hD hS => ?_)
      have hP : va_P (dC, dI) vwCl (wd_HM_four cA q0 q1 q2 q3 q4 q5 q6 q7 q8 q9 q10 q11 q12 q13 q14 q15 q16 q17 q18 q19 q20 q21 q22 q23 q24 q25 q26 q27 q28 q29 q30 q31 u0 u1 u2 u3 u4 u5 u6 u7 u8 u9 u10 u11 u12 u13 u14 u15 u16 u17 u18 u19 u20 v4 a3) H := hP
      have hD : va_D A (wd_HM_four cA q0 q1 q2 q3 q4 q5 q6 q7 q8 q9 q10 q11 q12 q13 q14 q15 q16 q17 q18 q19 q20 q21 q22 q23 q24 q25 q26 q27 q28 q29 q30 q31 u0 u1 u2 u3 u4 u5 u6 u7 u8 u9 u10 u11 u12 u13 u14 u15 u16 u17 u18 u19 u20 v4 a3) := hD
      refine xi_iinc hx hb dX11_four_33 hl (k := 2) rfl (by decide) hf (fun v5 ls hl hf => ?_)
      have hl : lv_has ls 3 [(2, .int (Int32.ofInt v5)), (0, .ref q0), (1, .int (Int32.ofInt x1))] := hl
      refine lv_goto (tgt := 3) hx hb dX11_four_36 (by decide) ?_
      exact ih3 _ _ _ _ _ _ _ hf hP hD hS (lv_sub hl [1, 2, 0] rfl)
  have l_3 : ∀ (n : Nat), ∀ (x1 : Int) (x2 : Int) (i_taped : Int) (i_tape : Nat → Int) (H : Heap) (locs : List Loc) (ls : Array Slot), f_HM_four_3 n x1 x2 i_taped i_tape = some out → va_P (dC, dI) vwCl (wd_HM_four cA q0 q1 q2 q3 q4 q5 q6 q7 q8 q9 q10 q11 q12 q13 q14 q15 q16 q17 q18 q19 q20 q21 q22 q23 q24 q25 q26 q27 q28 q29 q30 q31 u0 u1 u2 u3 u4 u5 u6 u7 u8 u9 u10 u11 u12 u13 u14 u15 u16 u17 u18 u19 u20 i_taped i_tape) H → va_D A (wd_HM_four cA q0 q1 q2 q3 q4 q5 q6 q7 q8 q9 q10 q11 q12 q13 q14 q15 q16 q17 q18 q19 q20 q21 q22 q23 q24 q25 q26 q27 q28 q29 q30 q31 u0 u1 u2 u3 u4 u5 u6 u7 u8 u9 u10 u11 u12 u13 u14 u15 u16 u17 u18 u19 u20 i_taped i_tape) → va_S A s.heap H locs → lv_has ls 3 [(0, .ref q0), (1, .int (Int32.ofInt x1)), (2, .int (Int32.ofInt x2))] → W p l e rm_HM_four s m args below meth c H locs 0 0 Q (F0 m 3 ls []) := by
    intro n
    induction n with
    | zero => intro x1 x2 i_taped i_tape H locs ls hf hP hD hS hl; exact nomatch hf
    | succ n ih => intro x1 x2 i_taped i_tape H locs ls hf hP hD hS hl; exact b_3 (f_HM_four_3 n) ih x1 x2 i_taped i_tape H locs ls hf hP hD hS hl
  unfold f_HM_four at hf
  refine lv_bipush (v := Int32.ofInt 24) hx hb dX11_four_0 (by decide) ?_
  refine lv_istore_n (lv' := [(2, .int (Int32.ofInt 24)), (0, .ref q0), (1, .int (Int32.ofInt x1))]) hx hb dX11_four_2 rfl hl (by decide) rfl (fun ls hl => ?_)
  exact l_3  _ _ _ _ _ _ _ _ hf hP hD hS (lv_sub hl [1, 2, 0] rfl)
theorem dX11_feed_0 : decode cX11_feed 0 = .ok (.aload_n 0, 1) := by decide +kernel
theorem dX11_feed_1 : decode cX11_feed 1 = .ok (.iconst 0, 1) := by decide +kernel
theorem dX11_feed_2 : decode cX11_feed 2 = .ok (.putfield 126, 3) := by decide +kernel
theorem dX11_feed_5 : decode cX11_feed 5 = .ok (.aload_n 0, 1) := by decide +kernel
theorem dX11_feed_6 : decode cX11_feed 6 = .ok (.getfield 172, 3) := by decide +kernel
theorem dX11_feed_9 : decode cX11_feed 9 = .ok (.bipush 20, 2) := by decide +kernel
theorem dX11_feed_11 : decode cX11_feed 11 = .ok (.iadd, 1) := by decide +kernel
theorem dX11_feed_12 : decode cX11_feed 12 = .ok (.sipush 400, 3) := by decide +kernel
theorem dX11_feed_15 : decode cX11_feed 15 = .ok (.if_icmp .le 5, 3) := by decide +kernel
theorem dX11_feed_18 : decode cX11_feed 18 = .ok (.iconst (-1), 1) := by decide +kernel
theorem dX11_feed_19 : decode cX11_feed 19 = .ok (.ireturn, 1) := by decide +kernel
theorem dX11_feed_20 : decode cX11_feed 20 = .ok (.aload_n 0, 1) := by decide +kernel
theorem dX11_feed_21 : decode cX11_feed 21 = .ok (.iload_n 1, 1) := by decide +kernel
theorem dX11_feed_22 : decode cX11_feed 22 = .ok (.invokevirtual 178, 3) := by decide +kernel
theorem dX11_feed_25 : decode cX11_feed 25 = .ok (.aload_n 0, 1) := by decide +kernel
theorem dX11_feed_26 : decode cX11_feed 26 = .ok (.iload_n 2, 1) := by decide +kernel
theorem dX11_feed_27 : decode cX11_feed 27 = .ok (.invokevirtual 178, 3) := by decide +kernel
theorem dX11_feed_30 : decode cX11_feed 30 = .ok (.aload_n 0, 1) := by decide +kernel
theorem dX11_feed_31 : decode cX11_feed 31 = .ok (.iload_n 3, 1) := by decide +kernel
theorem dX11_feed_32 : decode cX11_feed 32 = .ok (.invokevirtual 178, 3) := by decide +kernel
theorem dX11_feed_35 : decode cX11_feed 35 = .ok (.aload_n 0, 1) := by decide +kernel
theorem dX11_feed_36 : decode cX11_feed 36 = .ok (.iload 4, 2) := by decide +kernel
theorem dX11_feed_38 : decode cX11_feed 38 = .ok (.invokevirtual 178, 3) := by decide +kernel
theorem dX11_feed_41 : decode cX11_feed 41 = .ok (.aload_n 0, 1) := by decide +kernel
theorem dX11_feed_42 : decode cX11_feed 42 = .ok (.iload 5, 2) := by decide +kernel
theorem dX11_feed_44 : decode cX11_feed 44 = .ok (.invokevirtual 178, 3) := by decide +kernel
theorem dX11_feed_47 : decode cX11_feed 47 = .ok (.aload_n 0, 1) := by decide +kernel
theorem dX11_feed_48 : decode cX11_feed 48 = .ok (.getfield 172, 3) := by decide +kernel
theorem dX11_feed_51 : decode cX11_feed 51 = .ok (.ireturn, 1) := by decide +kernel
theorem zw_45 : (Jvm.Cond.selects "HillSchoolModel" ({ cls := "HillSchoolModel", name := "four", desc := "(I)V" } : Jvm.MethodName) ({ cls := "HillSchoolModel", name := "four", desc := "(I)V" } : Jvm.MethodName)) ∈ zall := zmemG (zmj_0 45 rfl) rfl
theorem zw_1418 : (Jvm.Cond.code ({ cls := "HillSchoolModel", name := "feed", desc := "(IIIII)I" } : Jvm.MethodName) prog_13_method_28_code (6 : Nat) (Option.some Jvm.ClassFile.FieldType.int)) ∈ zall := zmemG (zmj_6 115 rfl) rfl
theorem zw_1419 : (Jvm.Cond.methodLink "HillSchoolModel" (178 : Nat) ({ cls := "HillSchoolModel", name := "four", desc := "(I)V" } : Jvm.MethodName)) ∈ zall := zmemG (zmj_6 116 rfl) rfl
theorem zw_1421 : (Jvm.Cond.instanceMethod ({ cls := "HillSchoolModel", name := "four", desc := "(I)V" } : Jvm.MethodName)) ∈ zall := zmemG (zmj_6 118 rfl) rfl
abbrev w_HM_feed : List Cond := .code yX11_feed cX11_feed 6 (some .int) :: zall
abbrev rm_HM_feed : Room := { frames := 1, cells := 0, slots := 0, locals := 22 }
theorem hd_HM_feed : yX11_feed.cls = "HillSchoolModel" ∧ yX11_feed.cls ≠ "java/lang/invoke/MethodHandle" ∧ yX11_feed.cls ≠ "java/lang/invoke/VarHandle" ∧ (parseMethodDescriptor yX11_feed.desc).map (fun d => d.parameters.length) = some 5 := by decide +kernel
def wd_HM_feed (cA : Nat → ClassId) (q0 q1 q2 q3 q4 q5 q6 q7 q8 q9 q10 q11 q12 q13 q14 q15 q16 q17 q18 q19 q20 q21 q22 q23 q24 q25 q26 q27 q28 q29 q30 q31 : Nat) (u0 u1 u2 u3 u4 u5 u6 u7 u8 u9 u10 u11 u12 u13 u14 u15 u16 u17 u18 u19 : Int)  (i_thrown : Int) (i_taped : Int) (i_tape : Nat → Int) : va_W := [(q0, .inr (11, [.int (Int32.ofInt i_thrown), .int (Int32.ofInt u0), .ref q1, .ref q2, .ref q3, .ref q4, .int (Int32.ofInt u1), .ref q5, .int (Int32.ofInt i_taped), .int (Int32.ofInt u2), .int (Int32.ofInt u3), .int (Int32.ofInt u4), .long (Int64.ofInt u5), .int (Int32.ofInt u6), .int (Int32.ofInt u7), .int (Int32.ofInt u8), .ref q6, .int (Int32.ofInt u9), .ref q7, .ref q8, .int (Int32.ofInt u10), .ref q9, .ref q10, .int (Int32.ofInt u11), .int (Int32.ofInt u12), .ref q11, .int (Int32.ofInt u13), .ref q12, .ref q13, .int (Int32.ofInt u14), .long (Int64.ofInt u15), .long (Int64.ofInt u16), .ref q14, .ref q15, .ref q16, .ref q17, .ref q18, .int (Int32.ofInt u17), .ref q19, .ref q20, .ref q21, .ref q22, .ref q23, .ref q24, .ref q25, .ref q26, .ref q27, .ref q28, .ref q29, .ref q30, .long (Int64.ofInt u18), .ref q31, .int (Int32.ofInt u19)])), (q5, .inl (cA 0, 400, .inl (za i_tape)))]
def wf_HM_feed (cA : Nat → ClassId) (q0 q1 q2 q3 q4 q5 q6 q7 q8 q9 q10 q11 q12 q13 q14 q15 q16 q17 q18 q19 q20 q21 q22 q23 q24 q25 q26 q27 q28 q29 q30 q31 : Nat) (u0 u1 u2 u3 u4 u5 u6 u7 u8 u9 u10 u11 u12 u13 u14 u15 u16 u17 u18 u19 : Int)  (o : Int × Int × Int × (Nat → Int)) : va_W := wd_HM_feed cA q0 q1 q2 q3 q4 q5 q6 q7 q8 q9 q10 q11 q12 q13 q14 q15 q16 q17 q18 q19 q20 q21 q22 q23 q24 q25 q26 q27 q28 q29 q30 q31 u0 u1 u2 u3 u4 u5 u6 u7 u8 u9 u10 u11 u12 u13 u14 u15 u16 u17 u18 u19 o.2.1 o.2.2.1 o.2.2.2
def f_HM_feed (x1 : Int) (x2 : Int) (x3 : Int) (x4 : Int) (x5 : Int) (i_thrown : Int) (i_taped : Int) (i_tape : Nat → Int) : Option (Int × Int × Int × (Nat → Int)) :=
  zn (i_taped + 20) fun v1 =>
  if zi_w v1 ≤ zi_w 400 then
    zd2 (f_HM_four x1 i_taped i_tape) fun v2 a3 =>
    zd2 (f_HM_four x2 v2 a3) fun v4 a5 =>
    zd2 (f_HM_four x3 v4 a5) fun v6 a7 =>
    zd2 (f_HM_four x4 v6 a7) fun v8 a9 =>
    zd2 (f_HM_four x5 v8 a9) fun v10 a11 =>
    some (v10, 0, v10, a11)
  else
    some ((-1), 0, i_taped, i_tape)
set_option maxHeartbeats 4000000 in
set_option maxRecDepth 100000 in
theorem c_HM_feed (l : Launch) (ev : zEv) (dC : Nat → ClassId) (dI : Nat → Nat → Nat) (cA : Nat → ClassId) (q0 q1 q2 q3 q4 q5 q6 q7 q8 q9 q10 q11 q12 q13 q14 q15 q16 q17 q18 q19 q20 q21 q22 q23 q24 q25 q26 q27 q28 q29 q30 q31 : Nat) (u0 u1 u2 u3 u4 u5 u6 u7 u8 u9 u10 u11 u12 u13 u14 u15 u16 u17 u18 u19 : Int) {x1 x2 x3 x4 x5 : Int} {i_thrown : Int} {i_taped : Int} {i_tape : Nat → Int} {out : Int × Int × Int × (Nat → Int)} (hf : f_HM_feed x1 x2 x3 x4 x5 i_thrown i_taped i_tape = some out) : xc_I l ev (dC, dI) vwCl (tyl cA) yX11_feed w_HM_feed rm_HM_feed [.ref q0, .int (Int32.ofInt x1), .int (Int32.ofInt x2), .int (Int32.ofInt x3), .int (Int32.ofInt x4), .int (Int32.ofInt x5)] (wd_HM_feed cA q0 q1 q2 q3 q4 q5 q6 q7 q8 q9 q10 q11 q12 q13 q14 q15 q16 q17 q18 q19 q20 q21 q22 q23 q24 q25 q26 q27 q28 q29 q30 q31 u0 u1 u2 u3 u4 u5 u6 u7 u8 u9 u10 u11 u12 u13 u14 u15 u16 u17 u18 u19 i_thrown i_taped i_tape) (wf_HM_feed cA q0 q1 q2 q3 q4 q5 q6 q7 q8 q9 q10 q11 q12 q13 q14 q15 q16 q17 q18 q19 q20 q21 q22 q23 q24 q25 q26 q27 q28 q29 q30 q31 u0 u1 u2 u3 u4 u5 u6 u7 u8 u9 u10 u11 u12 u13 u14 u15 u16 u17 u18 u19 out) out.1 := by
  refine xv_startI (cc := cX11_feed) (maxL := 6) (rt := .int) (by decide +kernel) rfl (Nat.le_of_ble_eq_true rfl) ?_
  intro p e s m args below meth c A Q H ls hx hb hml hts hown hK hA hP hD hS hl hE hret
  have hown : s.vm.findClass "HillSchoolModel" = some m.cls := hown
  have hz : ∀ w ∈ zall, w.before args s = true := fun w h => hts w (List.mem_cons_of_mem _ h)
  have hl : lv_has ls 6 [(0, .ref q0), (1, .int (Int32.ofInt x1)), (2, .int (Int32.ofInt x2)), (3, .int (Int32.ofInt x3)), (4, .int (Int32.ofInt x4)), (5, .int (Int32.ofInt x5))] := hl
  unfold f_HM_feed at hf
  refine lv_aload_n hx hb dX11_feed_0 rfl (lv_at hl 0 rfl) ?_
  refine lv_iconst (v := Int32.ofInt 0) hx hb dX11_feed_1 rfl ?_
  refine va_put (D := (dC, dI)) (ci := 11) (v := .int (Int32.ofInt 0)) (ty := .int) (C := RX11) (T := TX11) (N := 53) hx hb hz zi_X11 tyX11 tyX11_ok nmX11 hown hK hP hD hS 0 rfl rfl 0 (by decide) (hz _ zw_1165) (fun _ h9 => h9) rfl (by decide +kernel) rfl rfl (Nat.le_of_ble_eq_true rfl) dX11_feed_2 (fun H locs hP hD hS => ?_)
  have hP : va_P (dC, dI) vwCl (wd_HM_feed cA q0 q1 q2 q3 q4 q5 q6 q7 q8 q9 q10 q11 q12 q13 q14 q15 q16 q17 q18 q19 q20 q21 q22 q23 q24 q25 q26 q27 q28 q29 q30 q31 u0 u1 u2 u3 u4 u5 u6 u7 u8 u9 u10 u11 u12 u13 u14 u15 u16 u17 u18 u19 0 i_taped i_tape) H := hP
  have hD : va_D A (wd_HM_feed cA q0 q1 q2 q3 q4 q5 q6 q7 q8 q9 q10 q11 q12 q13 q14 q15 q16 q17 q18 q19 q20 q21 q22 q23 q24 q25 q26 q27 q28 q29 q30 q31 u0 u1 u2 u3 u4 u5 u6 u7 u8 u9 u10 u11 u12 u13 u14 u15 u16 u17 u18 u19 0 i_taped i_tape) := hD
  refine lv_aload_n hx hb dX11_feed_5 rfl (lv_at hl 0 rfl) ?_
  refine va_get (D := (dC, dI)) (ci := 11) (v := .int (Int32.ofInt i_taped)) (C := RX11) (T := TX11) (N := 53) hx hb hz zi_X11 hown hK hP 0 rfl rfl 8 (by decide) (hz _ zw_1173) (fun _ h9 => h9) rfl dX11_feed_6 ?_
  refine lv_bipush (v := Int32.ofInt 20) hx hb dX11_feed_9 (by decide) ?_
  refine xi_iadd hx hb dX11_feed_11 hf (fun v1 hf => ?_)
  refine lv_sipush (v := Int32.ofInt 400) hx hb dX11_feed_12 (by decide) ?_
  refine xi_icmp_le (tgt := 20) hx hb dX11_feed_15 (by decide) hf (fun hf => ?_) (fun hf => ?_)
  · refine lv_aload_n hx hb dX11_feed_20 rfl (lv_at hl 0 rfl) ?_
    refine lv_iload_n hx hb dX11_feed_21 rfl (lv_at hl 1 rfl) ?_
    refine xe_d2 hf (fun v2 a3 hg hf => ?_)
    have hC : ([0, 1] : List Nat).map (fun i => (wd_HM_feed cA q0 q1 q2 q3 q4 q5 q6 q7 q8 q9 q10 q11 q12 q13 q14 q15 q16 q17 q18 q19 q20 q21 q22 q23 q24 q25 q26 q27 q28 q29 q30 q31 u0 u1 u2 u3 u4 u5 u6 u7 u8 u9 u10 u11 u12 u13 u14 u15 u16 u17 u18 u19 0 i_taped i_tape)[i]?) = (wd_HM_four cA q0 q1 q2 q3 q4 q5 q6 q7 q8 q9 q10 q11 q12 q13 q14 q15 q16 q17 q18 q19 q20 q21 q22 q23 q24 q25 q26 q27 q28 q29 q30 q31 0 u0 u1 u2 u3 u4 u5 u6 u7 u8 u9 u10 u11 u12 u13 u14 u15 u16 u17 u18 u19 i_taped i_tape).map some := rfl
    refine xv_afterV (ws' := (wd_HM_feed cA q0 q1 q2 q3 q4 q5 q6 q7 q8 q9 q10 q11 q12 q13 q14 q15 q16 q17 q18 q19 q20 q21 q22 q23 q24 q25 q26 q27 q28 q29 q30 q31 u0 u1 u2 u3 u4 u5 u6 u7 u8 u9 u10 u11 u12 u13 u14 u15 u16 u17 u18 u19 0 v2 a3)) (isC := [0, 1]) (ps := [some 0, some 1]) (va_runV (As := [.int (Int32.ofInt x1)]) (rest := []) ⟨hx, hb, hml, hown, hts⟩ (c_HM_four l ev dC dI cA q0 q1 q2 q3 q4 q5 q6 q7 q8 q9 q10 q11 q12 q13 q14 q15 q16 q17 q18 q19 q20 q21 q22 q23 q24 q25 q26 q27 q28 q29 q30 q31 0 u0 u1 u2 u3 u4 u5 u6 u7 u8 u9 u10 u11 u12 u13 u14 u15 u16 u17 u18 u19 hg H.size) (cwV 1 hts (zgV zw_1419 zw_1421 zw_45 zw_115 zw_1422) rfl rfl rfl hd_HM_four ⟨Nat.le_of_ble_eq_true rfl, Nat.le_of_ble_eq_true rfl⟩) (xv_preV (T := TX11) (N := 53) hE hA hS hK hP hD (isC := [0, 1]) (by decide +kernel) hC (q0 := 0) (ci := 11) rfl rfl) rfl rfl hl.1 rfl (lv_room (Nat.le_of_ble_eq_true rfl)) dX11_feed_22 ⟨Nat.le_refl _, Nat.le_refl _⟩) hP hD hS hA (by decide +kernel) rfl hC rfl rfl (fun H locs hP hD hS => ?_)
    refine lv_aload_n hx hb dX11_feed_25 rfl (lv_at hl 0 rfl) ?_
    refine lv_iload_n hx hb dX11_feed_26 rfl (lv_at hl 2 rfl) ?_
    refine xe_d2 hf (fun v4 a5 hg hf => ?_)
    have hC : ([0, 1] : List Nat).map (fun i => (wd_HM_feed cA q0 q1 q2 q3 q4 q5 q6 q7 q8 q9 q10 q11 q12 q13 q14 q15 q16 q17 q18 q19 q20 q21 q22 q23 q24 q25 q26 q27 q28 q29 q30 q31 u0 u1 u2 u3 u4 u5 u6 u7 u8 u9 u10 u11 u12 u13 u14 u15 u16 u17 u18 u19 0 v2 a3)[i]?) = (wd_HM_four cA q0 q1 q2 q3 q4 q5 q6 q7 q8 q9 q10 q11 q12 q13 q14 q15 q16 q17 q18 q19 q20 q21 q22 q23 q24 q25 q26 q27 q28 q29 q30 q31 0 u0 u1 u2 u3 u4 u5 u6 u7 u8 u9 u10 u11 u12 u13 u14 u15 u16 u17 u18 u19 v2 a3).map some := rfl
    refine xv_afterV (ws' := (wd_HM_feed cA q0 q1 q2 q3 q4 q5 q6 q7 q8 q9 q10 q11 q12 q13 q14 q15 q16 q17 q18 q19 q20 q21 q22 q23 q24 q25 q26 q27 q28 q29 q30 q31 u0 u1 u2 u3 u4 u5 u6 u7 u8 u9 u10 u11 u12 u13 u14 u15 u16 u17 u18 u19 0 v4 a5)) (isC := [0, 1]) (ps := [some 0, some 1]) (va_runV (As := [.int (Int32.ofInt x2)]) (rest := []) ⟨hx, hb, hml, hown, hts⟩ (c_HM_four l ev dC dI cA q0 q1 q2 q3 q4 q5 q6 q7 q8 q9 q10 q11 q12 q13 q14 q15 q16 q17 q18 q19 q20 q21 q22 q23 q24 q25 q26 q27 q28 q29 q30 q31 0 u0 u1 u2 u3 u4 u5 u6 u7 u8 u9 u10 u11 u12 u13 u14 u15 u16 u17 u18 u19 hg H.size) (cwV 1 hts (zgV zw_1419 zw_1421 zw_45 zw_115 zw_1422) rfl rfl rfl hd_HM_four ⟨Nat.le_of_ble_eq_true rfl, Nat.le_of_ble_eq_true rfl⟩) (xv_preV (T := TX11) (N := 53) hE hA hS hK hP hD (isC := [0, 1]) (by decide +kernel) hC (q0 := 0) (ci := 11) rfl rfl) rfl rfl hl.1 rfl (lv_room (Nat.le_of_ble_eq_true rfl)) dX11_feed_27 ⟨Nat.le_refl _, Nat.le_refl _⟩) hP hD hS hA (by decide +kernel) rfl hC rfl rfl (fun H locs hP hD hS => ?_)
    refine lv_aload_n hx hb dX11_feed_30 rfl (lv_at hl 0 rfl) ?_
    refine lv_iload_n hx hb dX11_feed_31 rfl (lv_at hl 3 rfl) ?_
    refine xe_d2 hf (fun v6 a7 hg hf => ?_)
    have hC : ([0, 1] : List Nat).map (fun i => (wd_HM_feed cA q0 q1 q2 q3 q4 q5 q6 q7 q8 q9 q10 q11 q12 q13 q14 q15 q16 q17 q18 q19 q20 q21 q22 q23 q24 q25 q26 q27 q28 q29 q30 q31 u0 u1 u2 u3 u4 u5 u6 u7 u8 u9 u10 u11 u12 u13 u14 u15 u16 u17 u18 u19 0 v4 a5)[i]?) = (wd_HM_four cA q0 q1 q2 q3 q4 q5 q6 q7 q8 q9 q10 q11 q12 q13 q14 q15 q16 q17 q18 q19 q20 q21 q22 q23 q24 q25 q26 q27 q28 q29 q30 q31 0 u0 u1 u2 u3 u4 u5 u6 u7 u8 u9 u10 u11 u12 u13 u14 u15 u16 u17 u18 u19 v4 a5).map some := rfl
    refine xv_afterV (ws' := (wd_HM_feed cA q0 q1 q2 q3 q4 q5 q6 q7 q8 q9 q10 q11 q12 q13 q14 q15 q16 q17 q18 q19 q20 q21 q22 q23 q24 q25 q26 q27 q28 q29 q30 q31 u0 u1 u2 u3 u4 u5 u6 u7 u8 u9 u10 u11 u12 u13 u14 u15 u16 u17 u18 u19 0 v6 a7)) (isC := [0, 1]) (ps := [some 0, some 1]) (va_runV (As := [.int (Int32.ofInt x3)]) (rest := []) ⟨hx, hb, hml, hown, hts⟩ (c_HM_four l ev dC dI cA q0 q1 q2 q3 q4 q5 q6 q7 q8 q9 q10 q11 q12 q13 q14 q15 q16 q17 q18 q19 q20 q21 q22 q23 q24 q25 q26 q27 q28 q29 q30 q31 0 u0 u1 u2 u3 u4 u5 u6 u7 u8 u9 u10 u11 u12 u13 u14 u15 u16 u17 u18 u19 hg H.size) (cwV 1 hts (zgV zw_1419 zw_1421 zw_45 zw_115 zw_1422) rfl rfl rfl hd_HM_four ⟨Nat.le_of_ble_eq_true rfl, Nat.le_of_ble_eq_true rfl⟩) (xv_preV (T := TX11) (N := 53) hE hA hS hK hP hD (isC := [0, 1]) (by decide +kernel) hC (q0 := 0) (ci := 11) rfl rfl) rfl rfl hl.1 rfl (lv_room (Nat.le_of_ble_eq_true rfl)) dX11_feed_32 ⟨Nat.le_refl _, Nat.le_refl _⟩) hP hD hS hA (by decide +kernel) rfl hC rfl rfl (fun H locs hP hD hS => ?_)
    refine lv_aload_n hx hb dX11_feed_35 rfl (lv_at hl 0 rfl) ?_
    refine lv_iload hx hb dX11_feed_36 (lv_at hl 4 rfl) ?_
    refine xe_d2 hf (fun v8 a9 hg hf => ?_)
    have hC : ([0, 1] : List Nat).map (fun i => (wd_HM_feed cA q0 q1 q2 q3 q4 q5 q6 q7 q8 q9 q10 q11 q12 q13 q14 q15 q16 q17 q18 q19 q20 q21 q22 q23 q24 q25 q26 q27 q28 q29 q30 q31 u0 u1 u2 u3 u4 u5 u6 u7 u8 u9 u10 u11 u12 u13 u14 u15 u16 u17 u18 u19 0 v6 a7)[i]?) = (wd_HM_four cA q0 q1 q2 q3 q4 q5 q6 q7 q8 q9 q10 q11 q12 q13 q14 q15 q16 q17 q18 q19 q20 q21 q22 q23 q24 q25 q26 q27 q28 q29 q30 q31 0 u0 u1 u2 u3 u4 u5 u6 u7 u8 u9 u10 u11 u12 u13 u14 u15 u16 u17 u18 u19 v6 a7).map some := rfl
    refine xv_afterV (ws' := (wd_HM_feed cA q0 q1 q2 q3 q4 q5 q6 q7 q8 q9 q10 q11 q12 q13 q14 q15 q16 q17 q18 q19 q20 q21 q22 q23 q24 q25 q26 q27 q28 q29 q30 q31 u0 u1 u2 u3 u4 u5 u6 u7 u8 u9 u10 u11 u12 u13 u14 u15 u16 u17 u18 u19 0 v8 a9)) (isC := [0, 1]) (ps := [some 0, some 1]) (va_runV (As := [.int (Int32.ofInt x4)]) (rest := []) ⟨hx, hb, hml, hown, hts⟩ (c_HM_four l ev dC dI cA q0 q1 q2 q3 q4 q5 q6 q7 q8 q9 q10 q11 q12 q13 q14 q15 q16 q17 q18 q19 q20 q21 q22 q23 q24 q25 q26 q27 q28 q29 q30 q31 0 u0 u1 u2 u3 u4 u5 u6 u7 u8 u9 u10 u11 u12 u13 u14 u15 u16 u17 u18 u19 hg H.size) (cwV 1 hts (zgV zw_1419 zw_1421 zw_45 zw_115 zw_1422) rfl rfl rfl hd_HM_four ⟨Nat.le_of_ble_eq_true rfl, Nat.le_of_ble_eq_true rfl⟩) (xv_preV (T := TX11) (N := 53) hE hA hS hK hP hD (isC := [0, 1]) (by decide +kernel) hC (q0 := 0) (ci := 11) rfl rfl) rfl rfl hl.1 rfl (lv_room (Nat.le_of_ble_eq_true rfl)) dX11_feed_38 ⟨Nat.le_refl _, Nat.le_refl _⟩) hP hD hS hA (by decide +kernel) rfl hC rfl rfl (fun H locs hP hD hS => ?_)
    refine lv_aload_n hx hb dX11_feed_41 rfl (lv_at hl 0 rfl) ?_
    refine lv_iload hx hb dX11_feed_42 (lv_at hl 5 rfl) ?_
    refine xe_d2 hf (fun v10 a11 hg hf => ?_)
    have hC : ([0, 1] : List Nat).map (fun i => (wd_HM_feed cA q0 q1 q2 q3 q4 q5 q6 q7 q8 q9 q10 q11 q12 q13 q14 q15 q16 q17 q18 q19 q20 q21 q22 q23 q24 q25 q26 q27 q28 q29 q30 q31 u0 u1 u2 u3 u4 u5 u6 u7 u8 u9 u10 u11 u12 u13 u14 u15 u16 u17 u18 u19 0 v8 a9)[i]?) = (wd_HM_four cA q0 q1 q2 q3 q4 q5 q6 q7 q8 q9 q10 q11 q12 q13 q14 q15 q16 q17 q18 q19 q20 q21 q22 q23 q24 q25 q26 q27 q28 q29 q30 q31 0 u0 u1 u2 u3 u4 u5 u6 u7 u8 u9 u10 u11 u12 u13 u14 u15 u16 u17 u18 u19 v8 a9).map some := rfl
    refine xv_afterV (ws' := (wd_HM_feed cA q0 q1 q2 q3 q4 q5 q6 q7 q8 q9 q10 q11 q12 q13 q14 q15 q16 q17 q18 q19 q20 q21 q22 q23 q24 q25 q26 q27 q28 q29 q30 q31 u0 u1 u2 u3 u4 u5 u6 u7 u8 u9 u10 u11 u12 u13 u14 u15 u16 u17 u18 u19 0 v10 a11)) (isC := [0, 1]) (ps := [some 0, some 1]) (va_runV (As := [.int (Int32.ofInt x5)]) (rest := []) ⟨hx, hb, hml, hown, hts⟩ (c_HM_four l ev dC dI cA q0 q1 q2 q3 q4 q5 q6 q7 q8 q9 q10 q11 q12 q13 q14 q15 q16 q17 q18 q19 q20 q21 q22 q23 q24 q25 q26 q27 q28 q29 q30 q31 0 u0 u1 u2 u3 u4 u5 u6 u7 u8 u9 u10 u11 u12 u13 u14 u15 u16 u17 u18 u19 hg H.size) (cwV 1 hts (zgV zw_1419 zw_1421 zw_45 zw_115 zw_1422) rfl rfl rfl hd_HM_four ⟨Nat.le_of_ble_eq_true rfl, Nat.le_of_ble_eq_true rfl⟩) (xv_preV (T := TX11) (N := 53) hE hA hS hK hP hD (isC := [0, 1]) (by decide +kernel) hC (q0 := 0) (ci := 11) rfl rfl) rfl rfl hl.1 rfl (lv_room (Nat.le_of_ble_eq_true rfl)) dX11_feed_44 ⟨Nat.le_refl _, Nat.le_refl _⟩) hP hD hS hA (by decide +kernel) rfl hC rfl rfl (fun H locs hP hD hS => ?_)
    refine lv_aload_n hx hb dX11_feed_47 rfl (lv_at hl 0 rfl) ?_
    refine va_get (D := (dC, dI)) (ci := 11) (v := .int (Int32.ofInt v10)) (C := RX11) (T := TX11) (N := 53) hx hb hz zi_X11 hown hK hP 0 rfl rfl 8 (by decide) (hz _ zw_1173) (fun _ h9 => h9) rfl dX11_feed_48 ?_
    obtain rfl := Option.some.inj hf
    exact hret _ _ _ _ rfl dX11_feed_51 hP hD hS
  · refine lv_iconst (v := Int32.ofInt (-1)) hx hb dX11_feed_18 rfl ?_
    obtain rfl := Option.some.inj hf
    exact hret _ _ _ _ rfl dX11_feed_19 hP hD hS
theorem dX11_end_0 : decode cX11_end 0 = .ok (.aload_n 0, 1) := by decide +kernel
theorem dX11_end_1 : decode cX11_end 1 = .ok (.iconst 0, 1) := by decide +kernel
theorem dX11_end_2 : decode cX11_end 2 = .ok (.putfield 126, 3) := by decide +kernel
theorem dX11_end_5 : decode cX11_end 5 = .ok (.iload_n 1, 1) := by decide +kernel
theorem dX11_end_6 : decode cX11_end 6 = .ok (.ifCond .lt 11, 3) := by decide +kernel
theorem dX11_end_9 : decode cX11_end 9 = .ok (.iload_n 1, 1) := by decide +kernel
theorem dX11_end_10 : decode cX11_end 10 = .ok (.aload_n 0, 1) := by decide +kernel
theorem dX11_end_11 : decode cX11_end 11 = .ok (.getfield 172, 3) := by decide +kernel
theorem dX11_end_14 : decode cX11_end 14 = .ok (.if_icmp .le 5, 3) := by decide +kernel
theorem dX11_end_17 : decode cX11_end 17 = .ok (.iconst (-1), 1) := by decide +kernel
theorem dX11_end_18 : decode cX11_end 18 = .ok (.ireturn, 1) := by decide +kernel
theorem dX11_end_19 : decode cX11_end 19 = .ok (.aload_n 0, 1) := by decide +kernel
theorem dX11_end_20 : decode cX11_end 20 = .ok (.iload_n 1, 1) := by decide +kernel
theorem dX11_end_21 : decode cX11_end 21 = .ok (.putfield 172, 3) := by decide +kernel
theorem dX11_end_24 : decode cX11_end 24 = .ok (.iload_n 1, 1) := by decide +kernel
theorem dX11_end_25 : decode cX11_end 25 = .ok (.ireturn, 1) := by decide +kernel
theorem zw_1426 : (Jvm.Cond.code ({ cls := "HillSchoolModel", name := "end", desc := "(I)I" } : Jvm.MethodName) prog_13_method_29_code (2 : Nat) (Option.some Jvm.ClassFile.FieldType.int)) ∈ zall := zmemG (zmj_6 123 rfl) rfl
abbrev w_HM_end : List Cond := .code yX11_end cX11_end 2 (some .int) :: zall
abbrev rm_HM_end : Room := { frames := 0, cells := 0, slots := 0, locals := 0 }
theorem hd_HM_end : yX11_end.cls = "HillSchoolModel" ∧ yX11_end.cls ≠ "java/lang/invoke/MethodHandle" ∧ yX11_end.cls ≠ "java/lang/invoke/VarHandle" ∧ (parseMethodDescriptor yX11_end.desc).map (fun d => d.parameters.length) = some 1 := by decide +kernel
def wd_HM_end (cA : Nat → ClassId) (q0 q1 q2 q3 q4 q5 q6 q7 q8 q9 q10 q11 q12 q13 q14 q15 q16 q17 q18 q19 q20 q21 q22 q23 q24 q25 q26 q27 q28 q29 q30 q31 : Nat) (u0 u1 u2 u3 u4 u5 u6 u7 u8 u9 u10 u11 u12 u13 u14 u15 u16 u17 u18 u19 : Int)  (i_thrown : Int) (i_taped : Int) : va_W := [(q0, .inr (11, [.int (Int32.ofInt i_thrown), .int (Int32.ofInt u0), .ref q1, .ref q2, .ref q3, .ref q4, .int (Int32.ofInt u1), .ref q5, .int (Int32.ofInt i_taped), .int (Int32.ofInt u2), .int (Int32.ofInt u3), .int (Int32.ofInt u4), .long (Int64.ofInt u5), .int (Int32.ofInt u6), .int (Int32.ofInt u7), .int (Int32.ofInt u8), .ref q6, .int (Int32.ofInt u9), .ref q7, .ref q8, .int (Int32.ofInt u10), .ref q9, .ref q10, .int (Int32.ofInt u11), .int (Int32.ofInt u12), .ref q11, .int (Int32.ofInt u13), .ref q12, .ref q13, .int (Int32.ofInt u14), .long (Int64.ofInt u15), .long (Int64.ofInt u16), .ref q14, .ref q15, .ref q16, .ref q17, .ref q18, .int (Int32.ofInt u17), .ref q19, .ref q20, .ref q21, .ref q22, .ref q23, .ref q24, .ref q25, .ref q26, .ref q27, .ref q28, .ref q29, .ref q30, .long (Int64.ofInt u18), .ref q31, .int (Int32.ofInt u19)]))]
def wf_HM_end (cA : Nat → ClassId) (q0 q1 q2 q3 q4 q5 q6 q7 q8 q9 q10 q11 q12 q13 q14 q15 q16 q17 q18 q19 q20 q21 q22 q23 q24 q25 q26 q27 q28 q29 q30 q31 : Nat) (u0 u1 u2 u3 u4 u5 u6 u7 u8 u9 u10 u11 u12 u13 u14 u15 u16 u17 u18 u19 : Int)  (o : Int × Int × Int) : va_W := wd_HM_end cA q0 q1 q2 q3 q4 q5 q6 q7 q8 q9 q10 q11 q12 q13 q14 q15 q16 q17 q18 q19 q20 q21 q22 q23 q24 q25 q26 q27 q28 q29 q30 q31 u0 u1 u2 u3 u4 u5 u6 u7 u8 u9 u10 u11 u12 u13 u14 u15 u16 u17 u18 u19 o.2.1 o.2.2
def f_HM_end (x1 : Int) (i_thrown : Int) (i_taped : Int) : Option (Int × Int × Int) :=
  if zi_w x1 < 0 then
    some ((-1), 0, i_taped)
  else
    if zi_w x1 ≤ zi_w i_taped then
      some (x1, 0, x1)
    else
      some ((-1), 0, i_taped)
set_option maxHeartbeats 4000000 in
set_option maxRecDepth 100000 in
theorem c_HM_end (l : Launch) (ev : zEv) (dC : Nat → ClassId) (dI : Nat → Nat → Nat) (cA : Nat → ClassId) (q0 q1 q2 q3 q4 q5 q6 q7 q8 q9 q10 q11 q12 q13 q14 q15 q16 q17 q18 q19 q20 q21 q22 q23 q24 q25 q26 q27 q28 q29 q30 q31 : Nat) (u0 u1 u2 u3 u4 u5 u6 u7 u8 u9 u10 u11 u12 u13 u14 u15 u16 u17 u18 u19 : Int) {x1 : Int} {i_thrown : Int} {i_taped : Int} {out : Int × Int × Int} (hf : f_HM_end x1 i_thrown i_taped = some out) : xc_I l ev (dC, dI) vwCl (tyl cA) yX11_end w_HM_end rm_HM_end [.ref q0, .int (Int32.ofInt x1)] (wd_HM_end cA q0 q1 q2 q3 q4 q5 q6 q7 q8 q9 q10 q11 q12 q13 q14 q15 q16 q17 q18 q19 q20 q21 q22 q23 q24 q25 q26 q27 q28 q29 q30 q31 u0 u1 u2 u3 u4 u5 u6 u7 u8 u9 u10 u11 u12 u13 u14 u15 u16 u17 u18 u19 i_thrown i_taped) (wf_HM_end cA q0 q1 q2 q3 q4 q5 q6 q7 q8 q9 q10 q11 q12 q13 q14 q15 q16 q17 q18 q19 q20 q21 q22 q23 q24 q25 q26 q27 q28 q29 q30 q31 u0 u1 u2 u3 u4 u5 u6 u7 u8 u9 u10 u11 u12 u13 u14 u15 u16 u17 u18 u19 out) out.1 := by
  refine xv_startI (cc := cX11_end) (maxL := 2) (rt := .int) (by decide +kernel) rfl (Nat.le_of_ble_eq_true rfl) ?_
  intro p e s m args below meth c A Q H ls hx hb hml hts hown hK hA hP hD hS hl hE hret
  have hown : s.vm.findClass "HillSchoolModel" = some m.cls := hown
  have hz : ∀ w ∈ zall, w.before args s = true := fun w h => hts w (List.mem_cons_of_mem _ h)
  have hl : lv_has ls 2 [(0, .ref q0), (1, .int (Int32.ofInt x1))] := hl
  unfold f_HM_end at hf
  refine lv_aload_n hx hb dX11_end_0 rfl (lv_at hl 0 rfl) ?_
  refine lv_iconst (v := Int32.ofInt 0) hx hb dX11_end_1 rfl ?_
  refine va_put (D := (dC, dI)) (ci := 11) (v := .int (Int32.ofInt 0)) (ty := .int) (C := RX11) (T := TX11) (N := 53) hx hb hz zi_X11 tyX11 tyX11_ok nmX11 hown hK hP hD hS 0 rfl rfl 0 (by decide) (hz _ zw_1165) (fun _ h9 => h9) rfl (by decide +kernel) rfl rfl (Nat.le_of_ble_eq_true rfl) dX11_end_2 (fun H locs hP hD hS => ?_)
  have hP : va_P (dC, dI) vwCl (wd_HM_end cA q0 q1 q2 q3 q4 q5 q6 q7 q8 q9 q10 q11 q12 q13 q14 q15 q16 q17 q18 q19 q20 q21 q22 q23 q24 q25 q26 q27 q28 q29 q30 q31 u0 u1 u2 u3 u4 u5 u6 u7 u8 u9 u10 u11 u12 u13 u14 u15 u16 u17 u18 u19 0 i_taped) H := hP
  have hD : va_D A (wd_HM_end cA q0 q1 q2 q3 q4 q5 q6 q7 q8 q9 q10 q11 q12 q13 q14 q15 q16 q17 q18 q19 q20 q21 q22 q23 q24 q25 q26 q27 q28 q29 q30 q31 u0 u1 u2 u3 u4 u5 u6 u7 u8 u9 u10 u11 u12 u13 u14 u15 u16 u17 u18 u19 0 i_taped) := hD
  refine lv_iload_n hx hb dX11_end_5 rfl (lv_at hl 1 rfl) ?_
  refine xi_if_lt (tgt := 17) hx hb dX11_end_6 (by decide) hf (fun hf => ?_) (fun hf => ?_)
  · refine lv_iconst (v := Int32.ofInt (-1)) hx hb dX11_end_17 rfl ?_
    obtain rfl := Option.some.inj hf
    exact hret _ _ _ _ rfl dX11_end_18 hP hD hS
  · refine lv_iload_n hx hb dX11_end_9 rfl (lv_at hl 1 rfl) ?_
    refine lv_aload_n hx hb dX11_end_10 rfl (lv_at hl 0 rfl) ?_
    refine va_get (D := (dC, dI)) (ci := 11) (v := .int (Int32.ofInt i_taped)) (C := RX11) (T := TX11) (N := 53) hx hb hz zi_X11 hown hK hP 0 rfl rfl 8 (by decide) (hz _ zw_1173) (fun _ h9 => h9) rfl dX11_end_11 ?_
    refine xi_icmp_le (tgt := 19) hx hb dX11_end_14 (by decide) hf (fun hf => ?_) (fun hf => ?_)
    · refine lv_aload_n hx hb dX11_end_19 rfl (lv_at hl 0 rfl) ?_
      refine lv_iload_n hx hb dX11_end_20 rfl (lv_at hl 1 rfl) ?_
      refine va_put (D := (dC, dI)) (ci := 11) (v := .int (Int32.ofInt x1)) (ty := .int) (C := RX11) (T := TX11) (N := 53) hx hb hz zi_X11 tyX11 tyX11_ok nmX11 hown hK hP hD hS 0 rfl rfl 8 (by decide) (hz _ zw_1173) (fun _ h9 => h9) rfl (by decide +kernel) rfl rfl (Nat.le_of_ble_eq_true rfl) dX11_end_21 (fun H locs hP hD hS => ?_)
      have hP : va_P (dC, dI) vwCl (wd_HM_end cA q0 q1 q2 q3 q4 q5 q6 q7 q8 q9 q10 q11 q12 q13 q14 q15 q16 q17 q18 q19 q20 q21 q22 q23 q24 q25 q26 q27 q28 q29 q30 q31 u0 u1 u2 u3 u4 u5 u6 u7 u8 u9 u10 u11 u12 u13 u14 u15 u16 u17 u18 u19 0 x1) H := hP
      have hD : va_D A (wd_HM_end cA q0 q1 q2 q3 q4 q5 q6 q7 q8 q9 q10 q11 q12 q13 q14 q15 q16 q17 q18 q19 q20 q21 q22 q23 q24 q25 q26 q27 q28 q29 q30 q31 u0 u1 u2 u3 u4 u5 u6 u7 u8 u9 u10 u11 u12 u13 u14 u15 u16 u17 u18 u19 0 x1) := hD
      refine lv_iload_n hx hb dX11_end_24 rfl (lv_at hl 1 rfl) ?_
      obtain rfl := Option.some.inj hf
      exact hret _ _ _ _ rfl dX11_end_25 hP hD hS
    · refine lv_iconst (v := Int32.ofInt (-1)) hx hb dX11_end_17 rfl ?_
      obtain rfl := Option.some.inj hf
      exact hret _ _ _ _ rfl dX11_end_18 hP hD hS
theorem dX11_fault_0 : decode cX11_fault 0 = .ok (.aload_n 0, 1) := by decide +kernel
theorem dX11_fault_1 : decode cX11_fault 1 = .ok (.iconst 0, 1) := by decide +kernel
theorem dX11_fault_2 : decode cX11_fault 2 = .ok (.putfield 126, 3) := by decide +kernel
theorem dX11_fault_5 : decode cX11_fault 5 = .ok (.aload_n 0, 1) := by decide +kernel
theorem dX11_fault_6 : decode cX11_fault 6 = .ok (.getfield 26, 3) := by decide +kernel
theorem dX11_fault_9 : decode cX11_fault 9 = .ok (.ireturn, 1) := by decide +kernel
theorem zw_1178 : (Jvm.Cond.fieldLink "HillSchoolModel" (26 : Nat) "HillSchoolModel" "fault" "I") ∈ zall := zmemG (zmj_5 115 rfl) rfl
theorem zw_1430 : (Jvm.Cond.code ({ cls := "HillSchoolModel", name := "fault", desc := "()I" } : Jvm.MethodName) prog_13_method_38_code (1 : Nat) (Option.some Jvm.ClassFile.FieldType.int)) ∈ zall := zmemG (zmj_6 127 rfl) rfl
abbrev w_HM_fault : List Cond := .code yX11_fault cX11_fault 1 (some .int) :: zall
abbrev rm_HM_fault : Room := { frames := 0, cells := 0, slots := 0, locals := 0 }
theorem hd_HM_fault : yX11_fault.cls = "HillSchoolModel" ∧ yX11_fault.cls ≠ "java/lang/invoke/MethodHandle" ∧ yX11_fault.cls ≠ "java/lang/invoke/VarHandle" ∧ (parseMethodDescriptor yX11_fault.desc).map (fun d => d.parameters.length) = some 0 := by decide +kernel
def wd_HM_fault (cA : Nat → ClassId) (q0 q1 q2 q3 q4 q5 q6 q7 q8 q9 q10 q11 q12 q13 q14 q15 q16 q17 q18 q19 q20 q21 q22 q23 q24 q25 q26 q27 q28 q29 q30 q31 : Nat) (u0 u1 u2 u3 u4 u5 u6 u7 u8 u9 u10 u11 u12 u13 u14 u15 u16 u17 u18 u19 : Int) (i_fault : Int) (i_thrown : Int) : va_W := [(q0, .inr (11, [.int (Int32.ofInt i_thrown), .int (Int32.ofInt u0), .ref q1, .ref q2, .ref q3, .ref q4, .int (Int32.ofInt u1), .ref q5, .int (Int32.ofInt u2), .int (Int32.ofInt u3), .int (Int32.ofInt u4), .int (Int32.ofInt u5), .long (Int64.ofInt u6), .int (Int32.ofInt i_fault), .int (Int32.ofInt u7), .int (Int32.ofInt u8), .ref q6, .int (Int32.ofInt u9), .ref q7, .ref q8, .int (Int32.ofInt u10), .ref q9, .ref q10, .int (Int32.ofInt u11), .int (Int32.ofInt u12), .ref q11, .int (Int32.ofInt u13), .ref q12, .ref q13, .int (Int32.ofInt u14), .long (Int64.ofInt u15), .long (Int64.ofInt u16), .ref q14, .ref q15, .ref q16, .ref q17, .ref q18, .int (Int32.ofInt u17), .ref q19, .ref q20, .ref q21, .ref q22, .ref q23, .ref q24, .ref q25, .ref q26, .ref q27, .ref q28, .ref q29, .ref q30, .long (Int64.ofInt u18), .ref q31, .int (Int32.ofInt u19)]))]
def wf_HM_fault (cA : Nat → ClassId) (q0 q1 q2 q3 q4 q5 q6 q7 q8 q9 q10 q11 q12 q13 q14 q15 q16 q17 q18 q19 q20 q21 q22 q23 q24 q25 q26 q27 q28 q29 q30 q31 : Nat) (u0 u1 u2 u3 u4 u5 u6 u7 u8 u9 u10 u11 u12 u13 u14 u15 u16 u17 u18 u19 : Int) (i_fault : Int) (o : Int × Int) : va_W := wd_HM_fault cA q0 q1 q2 q3 q4 q5 q6 q7 q8 q9 q10 q11 q12 q13 q14 q15 q16 q17 q18 q19 q20 q21 q22 q23 q24 q25 q26 q27 q28 q29 q30 q31 u0 u1 u2 u3 u4 u5 u6 u7 u8 u9 u10 u11 u12 u13 u14 u15 u16 u17 u18 u19 i_fault o.2
def f_HM_fault (i_fault : Int) (i_thrown : Int) : Option (Int × Int) :=
  some (i_fault, 0)
set_option maxHeartbeats 4000000 in
set_option maxRecDepth 100000 in
theorem c_HM_fault (l : Launch) (ev : zEv) (dC : Nat → ClassId) (dI : Nat → Nat → Nat) (cA : Nat → ClassId) (q0 q1 q2 q3 q4 q5 q6 q7 q8 q9 q10 q11 q12 q13 q14 q15 q16 q17 q18 q19 q20 q21 q22 q23 q24 q25 q26 q27 q28 q29 q30 q31 : Nat) (u0 u1 u2 u3 u4 u5 u6 u7 u8 u9 u10 u11 u12 u13 u14 u15 u16 u17 u18 u19 : Int) {i_fault : Int} {i_thrown : Int} {out : Int × Int} (hf : f_HM_fault i_fault i_thrown = some out) : xc_I l ev (dC, dI) vwCl (tyl cA) yX11_fault w_HM_fault rm_HM_fault [.ref q0] (wd_HM_fault cA q0 q1 q2 q3 q4 q5 q6 q7 q8 q9 q10 q11 q12 q13 q14 q15 q16 q17 q18 q19 q20 q21 q22 q23 q24 q25 q26 q27 q28 q29 q30 q31 u0 u1 u2 u3 u4 u5 u6 u7 u8 u9 u10 u11 u12 u13 u14 u15 u16 u17 u18 u19 i_fault i_thrown) (wf_HM_fault cA q0 q1 q2 q3 q4 q5 q6 q7 q8 q9 q10 q11 q12 q13 q14 q15 q16 q17 q18 q19 q20 q21 q22 q23 q24 q25 q26 q27 q28 q29 q30 q31 u0 u1 u2 u3 u4 u5 u6 u7 u8 u9 u10 u11 u12 u13 u14 u15 u16 u17 u18 u19 i_fault out) out.1 := by
  refine xv_startI (cc := cX11_fault) (maxL := 1) (rt := .int) (by decide +kernel) rfl (Nat.le_of_ble_eq_true rfl) ?_
  intro p e s m args below meth c A Q H ls hx hb hml hts hown hK hA hP hD hS hl hE hret
  have hown : s.vm.findClass "HillSchoolModel" = some m.cls := hown
  have hz : ∀ w ∈ zall, w.before args s = true := fun w h => hts w (List.mem_cons_of_mem _ h)
  have hl : lv_has ls 1 [(0, .ref q0)] := hl
  unfold f_HM_fault at hf
  refine lv_aload_n hx hb dX11_fault_0 rfl (lv_at hl 0 rfl) ?_
  refine lv_iconst (v := Int32.ofInt 0) hx hb dX11_fault_1 rfl ?_
  refine va_put (D := (dC, dI)) (ci := 11) (v := .int (Int32.ofInt 0)) (ty := .int) (C := RX11) (T := TX11) (N := 53) hx hb hz zi_X11 tyX11 tyX11_ok nmX11 hown hK hP hD hS 0 rfl rfl 0 (by decide) (hz _ zw_1165) (fun _ h9 => h9) rfl (by decide +kernel) rfl rfl (Nat.le_of_ble_eq_true rfl) dX11_fault_2 (fun H locs hP hD hS => ?_)
  have hP : va_P (dC, dI) vwCl (wd_HM_fault cA q0 q1 q2 q3 q4 q5 q6 q7 q8 q9 q10 q11 q12 q13 q14 q15 q16 q17 q18 q19 q20 q21 q22 q23 q24 q25 q26 q27 q28 q29 q30 q31 u0 u1 u2 u3 u4 u5 u6 u7 u8 u9 u10 u11 u12 u13 u14 u15 u16 u17 u18 u19 i_fault 0) H := hP
  have hD : va_D A (wd_HM_fault cA q0 q1 q2 q3 q4 q5 q6 q7 q8 q9 q10 q11 q12 q13 q14 q15 q16 q17 q18 q19 q20 q21 q22 q23 q24 q25 q26 q27 q28 q29 q30 q31 u0 u1 u2 u3 u4 u5 u6 u7 u8 u9 u10 u11 u12 u13 u14 u15 u16 u17 u18 u19 i_fault 0) := hD
  refine lv_aload_n hx hb dX11_fault_5 rfl (lv_at hl 0 rfl) ?_
  refine va_get (D := (dC, dI)) (ci := 11) (v := .int (Int32.ofInt i_fault)) (C := RX11) (T := TX11) (N := 53) hx hb hz zi_X11 hown hK hP 0 rfl rfl 13 (by decide) (hz _ zw_1178) (fun _ h9 => h9) rfl dX11_fault_6 ?_
  obtain rfl := Option.some.inj hf
  exact hret _ _ _ _ rfl dX11_fault_9 hP hD hS
theorem dX11_isSmall_0 : decode cX11_isSmall 0 = .ok (.iload_n 0, 1) := by decide +kernel
theorem dX11_isSmall_1 : decode cX11_isSmall 1 = .ok (.bipush 97, 2) := by decide +kernel
theorem dX11_isSmall_3 : decode cX11_isSmall 3 = .ok (.if_icmp .lt 13, 3) := by decide +kernel
theorem dX11_isSmall_6 : decode cX11_isSmall 6 = .ok (.iload_n 0, 1) := by decide +kernel
theorem dX11_isSmall_7 : decode cX11_isSmall 7 = .ok (.bipush 122, 2) := by decide +kernel
theorem dX11_isSmall_9 : decode cX11_isSmall 9 = .ok (.if_icmp .gt 7, 3) := by decide +kernel
theorem dX11_isSmall_12 : decode cX11_isSmall 12 = .ok (.iconst 1, 1) := by decide +kernel
theorem dX11_isSmall_13 : decode cX11_isSmall 13 = .ok (.goto 4, 3) := by decide +kernel
theorem dX11_isSmall_16 : decode cX11_isSmall 16 = .ok (.iconst 0, 1) := by decide +kernel
theorem dX11_isSmall_17 : decode cX11_isSmall 17 = .ok (.ireturn, 1) := by decide +kernel
theorem zw_1445 : (Jvm.Cond.code ({ cls := "HillSchoolModel", name := "isSmall", desc := "(I)Z" } : Jvm.MethodName) prog_13_method_30_code (1 : Nat) (Option.some Jvm.ClassFile.FieldType.boolean)) ∈ zall := zmemG (zmj_6 142 rfl) rfl
abbrev w_HM_isSmall : List Cond := .code yX11_isSmall cX11_isSmall 1 (some .boolean) :: zall
abbrev rm_HM_isSmall : Room := { frames := 0, cells := 0, slots := 0, locals := 0 }
theorem hd_HM_isSmall : yX11_isSmall.cls = yX11_isSmall.cls ∧ yX11_isSmall.cls ≠ "java/lang/invoke/MethodHandle" ∧ yX11_isSmall.cls ≠ "java/lang/invoke/VarHandle" ∧ (parseMethodDescriptor yX11_isSmall.desc).map (fun d => d.parameters.length) = some 1 := by decide +kernel
def wd_HM_isSmall (cA : Nat → ClassId)   : va_W := []
def wf_HM_isSmall (cA : Nat → ClassId)  (o : Int) : va_W := wd_HM_isSmall cA
def f_HM_isSmall (x0 : Int) : Option (Int) :=
  if zi_w x0 < zi_w 97 then
    some 0
  else
    if zi_w 122 < zi_w x0 then
      some 0
    else
      some 1
set_option maxHeartbeats 4000000 in
set_option maxRecDepth 100000 in
theorem c_HM_isSmall (l : Launch) (ev : zEv) (dC : Nat → ClassId) (dI : Nat → Nat → Nat) (cA : Nat → ClassId) {x0 : Int} {out : Int} (hf : f_HM_isSmall x0 = some out) : xc_I l ev (dC, dI) vwCl (tyl cA) yX11_isSmall w_HM_isSmall rm_HM_isSmall [.int (Int32.ofInt x0)] (wd_HM_isSmall cA) (wf_HM_isSmall cA out) out := by
  refine xv_startI (cc := cX11_isSmall) (maxL := 1) (rt := .boolean) (by decide +kernel) rfl (Nat.le_of_ble_eq_true rfl) ?_
  intro p e s m args below meth c A Q H ls hx hb hml hts hown hK hA hP hD hS hl hE hret
  have hown : s.vm.findClass "HillSchoolModel" = some m.cls := hown
  have hz : ∀ w ∈ zall, w.before args s = true := fun w h => hts w (List.mem_cons_of_mem _ h)
  have hl : lv_has ls 1 [(0, .int (Int32.ofInt x0))] := hl
  unfold f_HM_isSmall at hf
  refine lv_iload_n hx hb dX11_isSmall_0 rfl (lv_at hl 0 rfl) ?_
  refine lv_bipush (v := Int32.ofInt 97) hx hb dX11_isSmall_1 (by decide) ?_
  refine xi_icmp_lt (tgt := 16) hx hb dX11_isSmall_3 (by decide) hf (fun hf => ?_) (fun hf => ?_)
  · refine lv_iconst (v := Int32.ofInt 0) hx hb dX11_isSmall_16 rfl ?_
    obtain rfl := Option.some.inj hf
    exact hret _ _ _ _ zz_b0 dX11_isSmall_17 hP hD hS
  · refine lv_iload_n hx hb dX11_isSmall_6 rfl (lv_at hl 0 rfl) ?_
    refine lv_bipush (v := Int32.ofInt 122) hx hb dX11_isSmall_7 (by decide) ?_
    refine xi_icmp_gt (tgt := 16) hx hb dX11_isSmall_9 (by decide) hf (fun hf => ?_) (fun hf => ?_)
    · refine lv_iconst (v := Int32.ofInt 0) hx hb dX11_isSmall_16 rfl ?_
      obtain rfl := Option.some.inj hf
      exact hret _ _ _ _ zz_b0 dX11_isSmall_17 hP hD hS
    · refine lv_iconst (v := Int32.ofInt 1) hx hb dX11_isSmall_12 rfl ?_
      refine lv_goto (tgt := 17) hx hb dX11_isSmall_13 (by decide) ?_
      obtain rfl := Option.some.inj hf
      exact hret _ _ _ _ zz_b1 dX11_isSmall_17 hP hD hS
theorem dX11_isDigit_0 : decode cX11_isDigit 0 = .ok (.iload_n 0, 1) := by decide +kernel
theorem dX11_isDigit_1 : decode cX11_isDigit 1 = .ok (.bipush 48, 2) := by decide +kernel
theorem dX11_isDigit_3 : decode cX11_isDigit 3 = .ok (.if_icmp .lt 13, 3) := by decide +kernel
theorem dX11_isDigit_6 : decode cX11_isDigit 6 = .ok (.iload_n 0, 1) := by decide +kernel
theorem dX11_isDigit_7 : decode cX11_isDigit 7 = .ok (.bipush 57, 2) := by decide +kernel
theorem dX11_isDigit_9 : decode cX11_isDigit 9 = .ok (.if_icmp .gt 7, 3) := by decide +kernel
theorem dX11_isDigit_12 : decode cX11_isDigit 12 = .ok (.iconst 1, 1) := by decide +kernel
theorem dX11_isDigit_13 : decode cX11_isDigit 13 = .ok (.goto 4, 3) := by decide +kernel
theorem dX11_isDigit_16 : decode cX11_isDigit 16 = .ok (.iconst 0, 1) := by decide +kernel
theorem dX11_isDigit_17 : decode cX11_isDigit 17 = .ok (.ireturn, 1) := by decide +kernel
theorem zw_1448 : (Jvm.Cond.code ({ cls := "HillSchoolModel", name := "isDigit", desc := "(I)Z" } : Jvm.MethodName) prog_13_method_31_code (1 : Nat) (Option.some Jvm.ClassFile.FieldType.boolean)) ∈ zall := zmemG (zmj_6 145 rfl) rfl
abbrev w_HM_isDigit : List Cond := .code yX11_isDigit cX11_isDigit 1 (some .boolean) :: zall
abbrev rm_HM_isDigit : Room := { frames := 0, cells := 0, slots := 0, locals := 0 }
theorem hd_HM_isDigit : yX11_isDigit.cls = yX11_isDigit.cls ∧ yX11_isDigit.cls ≠ "java/lang/invoke/MethodHandle" ∧ yX11_isDigit.cls ≠ "java/lang/invoke/VarHandle" ∧ (parseMethodDescriptor yX11_isDigit.desc).map (fun d => d.parameters.length) = some 1 := by decide +kernel
def wd_HM_isDigit (cA : Nat → ClassId)   : va_W := []
def wf_HM_isDigit (cA : Nat → ClassId)  (o : Int) : va_W := wd_HM_isDigit cA
def f_HM_isDigit (x0 : Int) : Option (Int) :=
  if zi_w x0 < zi_w 48 then
    some 0
  else
    if zi_w 57 < zi_w x0 then
      some 0
    else
      some 1
set_option maxHeartbeats 4000000 in
set_option maxRecDepth 100000 in
theorem c_HM_isDigit (l : Launch) (ev : zEv) (dC : Nat → ClassId) (dI : Nat → Nat → Nat) (cA : Nat → ClassId) {x0 : Int} {out : Int} (hf : f_HM_isDigit x0 = some out) : xc_I l ev (dC, dI) vwCl (tyl cA) yX11_isDigit w_HM_isDigit rm_HM_isDigit [.int (Int32.ofInt x0)] (wd_HM_isDigit cA) (wf_HM_isDigit cA out) out := by
  refine xv_startI (cc := cX11_isDigit) (maxL := 1) (rt := .boolean) (by decide +kernel) rfl (Nat.le_of_ble_eq_true rfl) ?_
  intro p e s m args below meth c A Q H ls hx hb hml hts hown hK hA hP hD hS hl hE hret
  have hown : s.vm.findClass "HillSchoolModel" = some m.cls := hown
  have hz : ∀ w ∈ zall, w.before args s = true := fun w h => hts w (List.mem_cons_of_mem _ h)
  have hl : lv_has ls 1 [(0, .int (Int32.ofInt x0))] := hl
  unfold f_HM_isDigit at hf
  refine lv_iload_n hx hb dX11_isDigit_0 rfl (lv_at hl 0 rfl) ?_
  refine lv_bipush (v := Int32.ofInt 48) hx hb dX11_isDigit_1 (by decide) ?_
  refine xi_icmp_lt (tgt := 16) hx hb dX11_isDigit_3 (by decide) hf (fun hf => ?_) (fun hf => ?_)
  · refine lv_iconst (v := Int32.ofInt 0) hx hb dX11_isDigit_16 rfl ?_
    obtain rfl := Option.some.inj hf
    exact hret _ _ _ _ zz_b0 dX11_isDigit_17 hP hD hS
  · refine lv_iload_n hx hb dX11_isDigit_6 rfl (lv_at hl 0 rfl) ?_
    refine lv_bipush (v := Int32.ofInt 57) hx hb dX11_isDigit_7 (by decide) ?_
    refine xi_icmp_gt (tgt := 16) hx hb dX11_isDigit_9 (by decide) hf (fun hf => ?_) (fun hf => ?_)
    · refine lv_iconst (v := Int32.ofInt 0) hx hb dX11_isDigit_16 rfl ?_
      obtain rfl := Option.some.inj hf
      exact hret _ _ _ _ zz_b0 dX11_isDigit_17 hP hD hS
    · refine lv_iconst (v := Int32.ofInt 1) hx hb dX11_isDigit_12 rfl ?_
      refine lv_goto (tgt := 17) hx hb dX11_isDigit_13 (by decide) ?_
      obtain rfl := Option.some.inj hf
      exact hret _ _ _ _ zz_b1 dX11_isDigit_17 hP hD hS
theorem dX11_next_0 : decode cX11_next 0 = .ok (.aload_n 0, 1) := by decide +kernel
theorem dX11_next_1 : decode cX11_next 1 = .ok (.aload_n 0, 1) := by decide +kernel
theorem dX11_next_2 : decode cX11_next 2 = .ok (.getfield 182, 3) := by decide +kernel
theorem dX11_next_5 : decode cX11_next 5 = .ok (.putfield 192, 3) := by decide +kernel
theorem dX11_next_8 : decode cX11_next 8 = .ok (.aload_n 0, 1) := by decide +kernel
theorem dX11_next_9 : decode cX11_next 9 = .ok (.getfield 192, 3) := by decide +kernel
theorem dX11_next_12 : decode cX11_next 12 = .ok (.aload_n 0, 1) := by decide +kernel
theorem dX11_next_13 : decode cX11_next 13 = .ok (.getfield 172, 3) := by decide +kernel
theorem dX11_next_16 : decode cX11_next 16 = .ok (.if_icmp .ge 30, 3) := by decide +kernel
theorem dX11_next_19 : decode cX11_next 19 = .ok (.aload_n 0, 1) := by decide +kernel
theorem dX11_next_20 : decode cX11_next 20 = .ok (.getfield 23, 3) := by decide +kernel
theorem dX11_next_23 : decode cX11_next 23 = .ok (.aload_n 0, 1) := by decide +kernel
theorem dX11_next_24 : decode cX11_next 24 = .ok (.getfield 192, 3) := by decide +kernel
theorem dX11_next_27 : decode cX11_next 27 = .ok (.iaload, 1) := by decide +kernel
theorem dX11_next_28 : decode cX11_next 28 = .ok (.bipush 32, 2) := by decide +kernel
theorem dX11_next_30 : decode cX11_next 30 = .ok (.if_icmp .ne 16, 3) := by decide +kernel
theorem dX11_next_33 : decode cX11_next 33 = .ok (.aload_n 0, 1) := by decide +kernel
theorem dX11_next_34 : decode cX11_next 34 = .ok (.dup, 1) := by decide +kernel
theorem dX11_next_35 : decode cX11_next 35 = .ok (.getfield 192, 3) := by decide +kernel
theorem dX11_next_38 : decode cX11_next 38 = .ok (.iconst 1, 1) := by decide +kernel
theorem dX11_next_39 : decode cX11_next 39 = .ok (.iadd, 1) := by decide +kernel
theorem dX11_next_40 : decode cX11_next 40 = .ok (.putfield 192, 3) := by decide +kernel
theorem dX11_next_43 : decode cX11_next 43 = .ok (.goto (-35), 3) := by decide +kernel
theorem dX11_next_46 : decode cX11_next 46 = .ok (.aload_n 0, 1) := by decide +kernel
theorem dX11_next_47 : decode cX11_next 47 = .ok (.aload_n 0, 1) := by decide +kernel
theorem dX11_next_48 : decode cX11_next 48 = .ok (.getfield 192, 3) := by decide +kernel
theorem dX11_next_51 : decode cX11_next 51 = .ok (.putfield 182, 3) := by decide +kernel
theorem dX11_next_54 : decode cX11_next 54 = .ok (.aload_n 0, 1) := by decide +kernel
theorem dX11_next_55 : decode cX11_next 55 = .ok (.lconst 0, 1) := by decide +kernel
theorem dX11_next_56 : decode cX11_next 56 = .ok (.putfield 195, 3) := by decide +kernel
theorem dX11_next_59 : decode cX11_next 59 = .ok (.aload_n 0, 1) := by decide +kernel
theorem dX11_next_60 : decode cX11_next 60 = .ok (.aload_n 0, 1) := by decide +kernel
theorem dX11_next_61 : decode cX11_next 61 = .ok (.getfield 192, 3) := by decide +kernel
theorem dX11_next_64 : decode cX11_next 64 = .ok (.aload_n 0, 1) := by decide +kernel
theorem dX11_next_65 : decode cX11_next 65 = .ok (.getfield 172, 3) := by decide +kernel
theorem dX11_next_68 : decode cX11_next 68 = .ok (.if_icmp .ne 7, 3) := by decide +kernel
theorem dX11_next_71 : decode cX11_next 71 = .ok (.iconst 0, 1) := by decide +kernel
theorem dX11_next_72 : decode cX11_next 72 = .ok (.goto 42, 3) := by decide +kernel
theorem dX11_next_75 : decode cX11_next 75 = .ok (.aload_n 0, 1) := by decide +kernel
theorem dX11_next_76 : decode cX11_next 76 = .ok (.getfield 23, 3) := by decide +kernel
theorem dX11_next_79 : decode cX11_next 79 = .ok (.aload_n 0, 1) := by decide +kernel
theorem dX11_next_80 : decode cX11_next 80 = .ok (.getfield 192, 3) := by decide +kernel
theorem dX11_next_83 : decode cX11_next 83 = .ok (.iaload, 1) := by decide +kernel
theorem dX11_next_84 : decode cX11_next 84 = .ok (.invokestatic 199, 3) := by decide +kernel
theorem dX11_next_87 : decode cX11_next 87 = .ok (.ifCond .eq 7, 3) := by decide +kernel
theorem dX11_next_90 : decode cX11_next 90 = .ok (.iconst 1, 1) := by decide +kernel
theorem dX11_next_91 : decode cX11_next 91 = .ok (.goto 23, 3) := by decide +kernel
theorem dX11_next_94 : decode cX11_next 94 = .ok (.aload_n 0, 1) := by decide +kernel
theorem dX11_next_95 : decode cX11_next 95 = .ok (.getfield 23, 3) := by decide +kernel
theorem dX11_next_98 : decode cX11_next 98 = .ok (.aload_n 0, 1) := by decide +kernel
theorem dX11_next_99 : decode cX11_next 99 = .ok (.getfield 192, 3) := by decide +kernel
theorem dX11_next_102 : decode cX11_next 102 = .ok (.iaload, 1) := by decide +kernel
theorem dX11_next_103 : decode cX11_next 103 = .ok (.invokestatic 202, 3) := by decide +kernel
theorem dX11_next_106 : decode cX11_next 106 = .ok (.ifCond .eq 7, 3) := by decide +kernel
theorem dX11_next_109 : decode cX11_next 109 = .ok (.iconst 2, 1) := by decide +kernel
theorem dX11_next_110 : decode cX11_next 110 = .ok (.goto 4, 3) := by decide +kernel
theorem dX11_next_113 : decode cX11_next 113 = .ok (.iconst 3, 1) := by decide +kernel
theorem dX11_next_114 : decode cX11_next 114 = .ok (.putfield 205, 3) := by decide +kernel
theorem dX11_next_117 : decode cX11_next 117 = .ok (.aload_n 0, 1) := by decide +kernel
theorem dX11_next_118 : decode cX11_next 118 = .ok (.getfield 205, 3) := by decide +kernel
theorem dX11_next_121 : decode cX11_next 121 = .ok (.iconst 3, 1) := by decide +kernel
theorem dX11_next_122 : decode cX11_next 122 = .ok (.if_icmp .ne 27, 3) := by decide +kernel
theorem dX11_next_125 : decode cX11_next 125 = .ok (.aload_n 0, 1) := by decide +kernel
theorem dX11_next_126 : decode cX11_next 126 = .ok (.aload_n 0, 1) := by decide +kernel
theorem dX11_next_127 : decode cX11_next 127 = .ok (.getfield 23, 3) := by decide +kernel
theorem dX11_next_130 : decode cX11_next 130 = .ok (.aload_n 0, 1) := by decide +kernel
theorem dX11_next_131 : decode cX11_next 131 = .ok (.getfield 192, 3) := by decide +kernel
theorem dX11_next_134 : decode cX11_next 134 = .ok (.iaload, 1) := by decide +kernel
theorem dX11_next_135 : decode cX11_next 135 = .ok (.i2l, 1) := by decide +kernel
theorem dX11_next_136 : decode cX11_next 136 = .ok (.putfield 195, 3) := by decide +kernel
theorem dX11_next_139 : decode cX11_next 139 = .ok (.aload_n 0, 1) := by decide +kernel
theorem dX11_next_140 : decode cX11_next 140 = .ok (.dup, 1) := by decide +kernel
theorem dX11_next_141 : decode cX11_next 141 = .ok (.getfield 182, 3) := by decide +kernel
theorem dX11_next_144 : decode cX11_next 144 = .ok (.iconst 1, 1) := by decide +kernel
theorem dX11_next_145 : decode cX11_next 145 = .ok (.iadd, 1) := by decide +kernel
theorem dX11_next_146 : decode cX11_next 146 = .ok (.putfield 182, 3) := by decide +kernel
theorem dX11_next_149 : decode cX11_next 149 = .ok (.aload_n 0, 1) := by decide +kernel
theorem dX11_next_150 : decode cX11_next 150 = .ok (.getfield 205, 3) := by decide +kernel
theorem dX11_next_153 : decode cX11_next 153 = .ok (.iconst 1, 1) := by decide +kernel
theorem dX11_next_154 : decode cX11_next 154 = .ok (.if_icmp .ne 89, 3) := by decide +kernel
theorem dX11_next_157 : decode cX11_next 157 = .ok (.aload_n 0, 1) := by decide +kernel
theorem dX11_next_158 : decode cX11_next 158 = .ok (.getfield 182, 3) := by decide +kernel
theorem dX11_next_161 : decode cX11_next 161 = .ok (.aload_n 0, 1) := by decide +kernel
theorem dX11_next_162 : decode cX11_next 162 = .ok (.getfield 172, 3) := by decide +kernel
theorem dX11_next_165 : decode cX11_next 165 = .ok (.if_icmp .ge 78, 3) := by decide +kernel
theorem dX11_next_168 : decode cX11_next 168 = .ok (.aload_n 0, 1) := by decide +kernel
theorem dX11_next_169 : decode cX11_next 169 = .ok (.getfield 23, 3) := by decide +kernel
theorem dX11_next_172 : decode cX11_next 172 = .ok (.aload_n 0, 1) := by decide +kernel
theorem dX11_next_173 : decode cX11_next 173 = .ok (.getfield 182, 3) := by decide +kernel
theorem dX11_next_176 : decode cX11_next 176 = .ok (.iaload, 1) := by decide +kernel
theorem dX11_next_177 : decode cX11_next 177 = .ok (.invokestatic 199, 3) := by decide +kernel
theorem dX11_next_180 : decode cX11_next 180 = .ok (.ifCond .eq 63, 3) := by decide +kernel
theorem dX11_next_183 : decode cX11_next 183 = .ok (.aload_n 0, 1) := by decide +kernel
theorem dX11_next_184 : decode cX11_next 184 = .ok (.aload_n 0, 1) := by decide +kernel
theorem dX11_next_185 : decode cX11_next 185 = .ok (.getfield 182, 3) := by decide +kernel
theorem dX11_next_188 : decode cX11_next 188 = .ok (.aload_n 0, 1) := by decide +kernel
theorem dX11_next_189 : decode cX11_next 189 = .ok (.getfield 192, 3) := by decide +kernel
theorem dX11_next_192 : decode cX11_next 192 = .ok (.isub, 1) := by decide +kernel
theorem dX11_next_193 : decode cX11_next 193 = .ok (.bipush 10, 2) := by decide +kernel
theorem dX11_next_195 : decode cX11_next 195 = .ok (.if_icmp .ge 29, 3) := by decide +kernel
theorem dX11_next_198 : decode cX11_next 198 = .ok (.aload_n 0, 1) := by decide +kernel
theorem dX11_next_199 : decode cX11_next 199 = .ok (.getfield 195, 3) := by decide +kernel
theorem dX11_next_202 : decode cX11_next 202 = .ok (.ldc2_w 208, 3) := by decide +kernel
theorem dX11_next_205 : decode cX11_next 205 = .ok (.lmul, 1) := by decide +kernel
theorem dX11_next_206 : decode cX11_next 206 = .ok (.aload_n 0, 1) := by decide +kernel
theorem dX11_next_207 : decode cX11_next 207 = .ok (.getfield 23, 3) := by decide +kernel
theorem dX11_next_210 : decode cX11_next 210 = .ok (.aload_n 0, 1) := by decide +kernel
theorem dX11_next_211 : decode cX11_next 211 = .ok (.getfield 182, 3) := by decide +kernel
theorem dX11_next_214 : decode cX11_next 214 = .ok (.iaload, 1) := by decide +kernel
theorem dX11_next_215 : decode cX11_next 215 = .ok (.i2l, 1) := by decide +kernel
theorem dX11_next_216 : decode cX11_next 216 = .ok (.ladd, 1) := by decide +kernel
theorem dX11_next_217 : decode cX11_next 217 = .ok (.ldc2_w 210, 3) := by decide +kernel
theorem dX11_next_220 : decode cX11_next 220 = .ok (.lsub, 1) := by decide +kernel
theorem dX11_next_221 : decode cX11_next 221 = .ok (.goto 6, 3) := by decide +kernel
theorem dX11_next_224 : decode cX11_next 224 = .ok (.ldc2_w 212, 3) := by decide +kernel
theorem dX11_next_227 : decode cX11_next 227 = .ok (.putfield 195, 3) := by decide +kernel
theorem dX11_next_230 : decode cX11_next 230 = .ok (.aload_n 0, 1) := by decide +kernel
theorem dX11_next_231 : decode cX11_next 231 = .ok (.dup, 1) := by decide +kernel
theorem dX11_next_232 : decode cX11_next 232 = .ok (.getfield 182, 3) := by decide +kernel
theorem dX11_next_235 : decode cX11_next 235 = .ok (.iconst 1, 1) := by decide +kernel
theorem dX11_next_236 : decode cX11_next 236 = .ok (.iadd, 1) := by decide +kernel
theorem dX11_next_237 : decode cX11_next 237 = .ok (.putfield 182, 3) := by decide +kernel
theorem dX11_next_240 : decode cX11_next 240 = .ok (.goto (-91), 3) := by decide +kernel
theorem dX11_next_243 : decode cX11_next 243 = .ok (.aload_n 0, 1) := by decide +kernel
theorem dX11_next_244 : decode cX11_next 244 = .ok (.getfield 205, 3) := by decide +kernel
theorem dX11_next_247 : decode cX11_next 247 = .ok (.iconst 2, 1) := by decide +kernel
theorem dX11_next_248 : decode cX11_next 248 = .ok (.if_icmp .ne 87, 3) := by decide +kernel
theorem dX11_next_251 : decode cX11_next 251 = .ok (.aload_n 0, 1) := by decide +kernel
theorem dX11_next_252 : decode cX11_next 252 = .ok (.getfield 182, 3) := by decide +kernel
theorem dX11_next_255 : decode cX11_next 255 = .ok (.aload_n 0, 1) := by decide +kernel
theorem dX11_next_256 : decode cX11_next 256 = .ok (.getfield 172, 3) := by decide +kernel
theorem dX11_next_259 : decode cX11_next 259 = .ok (.if_icmp .ge 76, 3) := by decide +kernel
theorem dX11_next_262 : decode cX11_next 262 = .ok (.aload_n 0, 1) := by decide +kernel
theorem dX11_next_263 : decode cX11_next 263 = .ok (.getfield 23, 3) := by decide +kernel
theorem dX11_next_266 : decode cX11_next 266 = .ok (.aload_n 0, 1) := by decide +kernel
theorem dX11_next_267 : decode cX11_next 267 = .ok (.getfield 182, 3) := by decide +kernel
theorem dX11_next_270 : decode cX11_next 270 = .ok (.iaload, 1) := by decide +kernel
theorem dX11_next_271 : decode cX11_next 271 = .ok (.invokestatic 202, 3) := by decide +kernel
theorem dX11_next_274 : decode cX11_next 274 = .ok (.ifCond .eq 61, 3) := by decide +kernel
theorem dX11_next_277 : decode cX11_next 277 = .ok (.aload_n 0, 1) := by decide +kernel
theorem dX11_next_278 : decode cX11_next 278 = .ok (.aload_n 0, 1) := by decide +kernel
theorem dX11_next_279 : decode cX11_next 279 = .ok (.getfield 195, 3) := by decide +kernel
theorem dX11_next_282 : decode cX11_next 282 = .ok (.ldc2_w 214, 3) := by decide +kernel
theorem dX11_next_285 : decode cX11_next 285 = .ok (.lcmp, 1) := by decide +kernel
theorem dX11_next_286 : decode cX11_next 286 = .ok (.ifCond .le 10, 3) := by decide +kernel
theorem dX11_next_289 : decode cX11_next 289 = .ok (.aload_n 0, 1) := by decide +kernel
theorem dX11_next_290 : decode cX11_next 290 = .ok (.getfield 195, 3) := by decide +kernel
theorem dX11_next_293 : decode cX11_next 293 = .ok (.goto 26, 3) := by decide +kernel
theorem dX11_next_296 : decode cX11_next 296 = .ok (.aload_n 0, 1) := by decide +kernel
theorem dX11_next_297 : decode cX11_next 297 = .ok (.getfield 195, 3) := by decide +kernel
theorem dX11_next_300 : decode cX11_next 300 = .ok (.ldc2_w 216, 3) := by decide +kernel
theorem dX11_next_303 : decode cX11_next 303 = .ok (.lmul, 1) := by decide +kernel
theorem dX11_next_304 : decode cX11_next 304 = .ok (.aload_n 0, 1) := by decide +kernel
theorem dX11_next_305 : decode cX11_next 305 = .ok (.getfield 23, 3) := by decide +kernel
theorem dX11_next_308 : decode cX11_next 308 = .ok (.aload_n 0, 1) := by decide +kernel
theorem dX11_next_309 : decode cX11_next 309 = .ok (.getfield 182, 3) := by decide +kernel
theorem dX11_next_312 : decode cX11_next 312 = .ok (.iaload, 1) := by decide +kernel
theorem dX11_next_313 : decode cX11_next 313 = .ok (.i2l, 1) := by decide +kernel
theorem dX11_next_314 : decode cX11_next 314 = .ok (.ladd, 1) := by decide +kernel
theorem dX11_next_315 : decode cX11_next 315 = .ok (.ldc2_w 218, 3) := by decide +kernel
theorem dX11_next_318 : decode cX11_next 318 = .ok (.lsub, 1) := by decide +kernel
theorem dX11_next_319 : decode cX11_next 319 = .ok (.putfield 195, 3) := by decide +kernel
theorem dX11_next_322 : decode cX11_next 322 = .ok (.aload_n 0, 1) := by decide +kernel
theorem dX11_next_323 : decode cX11_next 323 = .ok (.dup, 1) := by decide +kernel
theorem dX11_next_324 : decode cX11_next 324 = .ok (.getfield 182, 3) := by decide +kernel
theorem dX11_next_327 : decode cX11_next 327 = .ok (.iconst 1, 1) := by decide +kernel
theorem dX11_next_328 : decode cX11_next 328 = .ok (.iadd, 1) := by decide +kernel
theorem dX11_next_329 : decode cX11_next 329 = .ok (.putfield 182, 3) := by decide +kernel
theorem dX11_next_332 : decode cX11_next 332 = .ok (.goto (-89), 3) := by decide +kernel
theorem dX11_next_335 : decode cX11_next 335 = .ok (.return_, 1) := by decide +kernel
theorem zw_1174 : (Jvm.Cond.fieldLink "HillSchoolModel" (192 : Nat) "HillSchoolModel" "from" "I") ∈ zall := zmemG (zmj_5 111 rfl) rfl
theorem zw_1175 : (Jvm.Cond.fieldLink "HillSchoolModel" (182 : Nat) "HillSchoolModel" "to" "I") ∈ zall := zmemG (zmj_5 112 rfl) rfl
theorem zw_1176 : (Jvm.Cond.fieldLink "HillSchoolModel" (205 : Nat) "HillSchoolModel" "sort" "I") ∈ zall := zmemG (zmj_5 113 rfl) rfl
theorem zw_1177 : (Jvm.Cond.fieldLink "HillSchoolModel" (195 : Nat) "HillSchoolModel" "worth" "J") ∈ zall := zmemG (zmj_5 114 rfl) rfl
theorem zw_1442 : (Jvm.Cond.code ({ cls := "HillSchoolModel", name := "next", desc := "()V" } : Jvm.MethodName) prog_13_method_33_code (1 : Nat) (Option.none : Option Jvm.ClassFile.FieldType)) ∈ zall := zmemG (zmj_6 139 rfl) rfl
theorem zw_1443 : (Jvm.Cond.methodLink "HillSchoolModel" (199 : Nat) ({ cls := "HillSchoolModel", name := "isSmall", desc := "(I)Z" } : Jvm.MethodName)) ∈ zall := zmemG (zmj_6 140 rfl) rfl
theorem zw_1444 : (Jvm.Cond.static ({ cls := "HillSchoolModel", name := "isSmall", desc := "(I)Z" } : Jvm.MethodName)) ∈ zall := zmemG (zmj_6 141 rfl) rfl
theorem zw_1446 : (Jvm.Cond.methodLink "HillSchoolModel" (202 : Nat) ({ cls := "HillSchoolModel", name := "isDigit", desc := "(I)Z" } : Jvm.MethodName)) ∈ zall := zmemG (zmj_6 143 rfl) rfl
theorem zw_1447 : (Jvm.Cond.static ({ cls := "HillSchoolModel", name := "isDigit", desc := "(I)Z" } : Jvm.MethodName)) ∈ zall := zmemG (zmj_6 144 rfl) rfl
theorem zw_1449 : (Jvm.Cond.constantLong "HillSchoolModel" (208 : Nat) (32 : Int64)) ∈ zall := zmemG (zmj_6 146 rfl) rfl
theorem zw_1450 : (Jvm.Cond.constantLong "HillSchoolModel" (210 : Nat) (96 : Int64)) ∈ zall := zmemG (zmj_6 147 rfl) rfl
theorem zw_1451 : (Jvm.Cond.constantLong "HillSchoolModel" (212 : Nat) (-1 : Int64)) ∈ zall := zmemG (zmj_6 148 rfl) rfl
theorem zw_1452 : (Jvm.Cond.constantLong "HillSchoolModel" (214 : Nat) (1000000 : Int64)) ∈ zall := zmemG (zmj_6 149 rfl) rfl
theorem zw_1453 : (Jvm.Cond.constantLong "HillSchoolModel" (216 : Nat) (10 : Int64)) ∈ zall := zmemG (zmj_6 150 rfl) rfl
theorem zw_1454 : (Jvm.Cond.constantLong "HillSchoolModel" (218 : Nat) (48 : Int64)) ∈ zall := zmemG (zmj_6 151 rfl) rfl
abbrev w_HM_next : List Cond := .code yX11_next cX11_next 1 none :: zall
abbrev rm_HM_next : Room := { frames := 1, cells := 0, slots := 0, locals := 20 }
theorem hd_HM_next : yX11_next.cls = "HillSchoolModel" ∧ yX11_next.cls ≠ "java/lang/invoke/MethodHandle" ∧ yX11_next.cls ≠ "java/lang/invoke/VarHandle" ∧ (parseMethodDescriptor yX11_next.desc).map (fun d => d.parameters.length) = some 0 := by decide +kernel
def wd_HM_next (cA : Nat → ClassId) (q0 q1 q2 q3 q4 q5 q6 q7 q8 q9 q10 q11 q12 q13 q14 q15 q16 q17 q18 q19 q20 q21 q22 q23 q24 q25 q26 q27 q28 q29 q30 q31 : Nat) (u0 u1 u2 u3 u4 u5 u6 u7 u8 u9 u10 u11 u12 u13 u14 u15 u16 : Int) (i_taped : Int) (i_tape : Nat → Int) (i_from : Int) (i_to : Int) (i_sort : Int) (i_worth : Int) : va_W := [(q0, .inr (11, [.int (Int32.ofInt u0), .int (Int32.ofInt u1), .ref q1, .ref q2, .ref q3, .ref q4, .int (Int32.ofInt u2), .ref q5, .int (Int32.ofInt i_taped), .int (Int32.ofInt i_from), .int (Int32.ofInt i_to), .int (Int32.ofInt i_sort), .long (Int64.ofInt i_worth), .int (Int32.ofInt u3), .int (Int32.ofInt u4), .int (Int32.ofInt u5), .ref q6, .int (Int32.ofInt u6), .ref q7, .ref q8, .int (Int32.ofInt u7), .ref q9, .ref q10, .int (Int32.ofInt u8), .int (Int32.ofInt u9), .ref q11, .int (Int32.ofInt u10), .ref q12, .ref q13, .int (Int32.ofInt u11), .long (Int64.ofInt u12), .long (Int64.ofInt u13), .ref q14, .ref q15, .ref q16, .ref q17, .ref q18, .int (Int32.ofInt u14), .ref q19, .ref q20, .ref q21, .ref q22, .ref q23, .ref q24, .ref q25, .ref q26, .ref q27, .ref q28, .ref q29, .ref q30, .long (Int64.ofInt u15), .ref q31, .int (Int32.ofInt u16)])), (q5, .inl (cA 0, 400, .inl (za i_tape)))]
def wf_HM_next (cA : Nat → ClassId) (q0 q1 q2 q3 q4 q5 q6 q7 q8 q9 q10 q11 q12 q13 q14 q15 q16 q17 q18 q19 q20 q21 q22 q23 q24 q25 q26 q27 q28 q29 q30 q31 : Nat) (u0 u1 u2 u3 u4 u5 u6 u7 u8 u9 u10 u11 u12 u13 u14 u15 u16 : Int) (i_taped : Int) (i_tape : Nat → Int) (o : Int × Int × Int × Int) : va_W := wd_HM_next cA q0 q1 q2 q3 q4 q5 q6 q7 q8 q9 q10 q11 q12 q13 q14 q15 q16 q17 q18 q19 q20 q21 q22 q23 q24 q25 q26 q27 q28 q29 q30 q31 u0 u1 u2 u3 u4 u5 u6 u7 u8 u9 u10 u11 u12 u13 u14 u15 u16 i_taped i_tape o.1 o.2.1 o.2.2.1 o.2.2.2
def f_HM_next_319 (i_taped : Int) (i_tape : Nat → Int) (k243 : Int → Int → Int → Int → Option (Int × Int × Int × Int)) (s1 : Int) (i_from : Int) (i_to : Int) (i_sort : Int) (i_worth : Int) : Option (Int × Int × Int × Int) :=
  zn (i_to + 1) fun v1 =>
  k243 i_from v1 i_sort s1
def f_HM_next_243_b (i_taped : Int) (i_tape : Nat → Int) (k243 : Int → Int → Int → Int → Option (Int × Int × Int × Int)) (i_from : Int) (i_to : Int) (i_sort : Int) (i_worth : Int) : Option (Int × Int × Int × Int) :=
  if zi_w i_sort ≠ zi_w 2 then
    some (i_from, i_to, i_sort, i_worth)
  else
    if zi_w i_taped ≤ zi_w i_to then
      some (i_from, i_to, i_sort, i_worth)
    else
      zg 400 i_tape i_to fun v1 =>
      zd1 (f_HM_isDigit v1) fun v2 =>
      if zi_w v2 = 0 then
        some (i_from, i_to, i_sort, i_worth)
      else
        if zl_w i_worth ≤ zl_w 1000000 then
          zn (i_worth * 10) fun v3 =>
          zg 400 i_tape i_to fun v4 =>
          zn (zi_w v4) fun v5 =>
          zn (v3 + v5) fun v6 =>
          zn (v6 - 48) fun v7 =>
          f_HM_next_319 i_taped i_tape k243 v7 i_from i_to i_sort i_worth
        else
          f_HM_next_319 i_taped i_tape k243 i_worth i_from i_to i_sort i_worth
def f_HM_next_243 (i_taped : Int) (i_tape : Nat → Int) : Nat → Int → Int → Int → Int → Option (Int × Int × Int × Int)
  | 0 => fun _ _ _ _ => none
  | n + 1 => fun y0 y1 y2 y3 => f_HM_next_243_b i_taped i_tape (f_HM_next_243 i_taped i_tape n) y0 y1 y2 y3
def f_HM_next_227 (i_taped : Int) (i_tape : Nat → Int) (k149 : Int → Int → Int → Int → Option (Int × Int × Int × Int)) (s1 : Int) (i_from : Int) (i_to : Int) (i_sort : Int) (i_worth : Int) : Option (Int × Int × Int × Int) :=
  zn (i_to + 1) fun v1 =>
  k149 i_from v1 i_sort s1
def f_HM_next_149_b (i_taped : Int) (i_tape : Nat → Int) (k149 : Int → Int → Int → Int → Option (Int × Int × Int × Int)) (i_from : Int) (i_to : Int) (i_sort : Int) (i_worth : Int) : Option (Int × Int × Int × Int) :=
  if zi_w i_sort ≠ zi_w 1 then
    f_HM_next_243 i_taped i_tape zfu i_from i_to i_sort i_worth
  else
    if zi_w i_taped ≤ zi_w i_to then
      f_HM_next_243 i_taped i_tape zfu i_from i_to i_sort i_worth
    else
      zg 400 i_tape i_to fun v1 =>
      zd1 (f_HM_isSmall v1) fun v2 =>
      if zi_w v2 = 0 then
        f_HM_next_243 i_taped i_tape zfu i_from i_to i_sort i_worth
      else
        zn (i_to - i_from) fun v3 =>
        if zi_w 10 ≤ zi_w v3 then
          f_HM_next_227 i_taped i_tape k149 (-1) i_from i_to i_sort i_worth
        else
          zn (i_worth * 32) fun v4 =>
          zg 400 i_tape i_to fun v5 =>
          zn (zi_w v5) fun v6 =>
          zn (v4 + v6) fun v7 =>
          zn (v7 - 96) fun v8 =>
          f_HM_next_227 i_taped i_tape k149 v8 i_from i_to i_sort i_worth
def f_HM_next_149 (i_taped : Int) (i_tape : Nat → Int) : Nat → Int → Int → Int → Int → Option (Int × Int × Int × Int)
  | 0 => fun _ _ _ _ => none
  | n + 1 => fun y0 y1 y2 y3 => f_HM_next_149_b i_taped i_tape (f_HM_next_149 i_taped i_tape n) y0 y1 y2 y3
def f_HM_next_114 (i_taped : Int) (i_tape : Nat → Int) (s1 : Int) (i_from : Int) (i_to : Int) (i_sort : Int) (i_worth : Int) : Option (Int × Int × Int × Int) :=
  if zi_w s1 ≠ zi_w 3 then
    f_HM_next_149 i_taped i_tape zfu i_from i_to s1 i_worth
  else
    zg 400 i_tape i_from fun v1 =>
    zn (zi_w v1) fun v2 =>
    zn (i_to + 1) fun v3 =>
    f_HM_next_149 i_taped i_tape zfu i_from v3 s1 v2
def f_HM_next_46 (i_taped : Int) (i_tape : Nat → Int) (i_from : Int) (i_to : Int) (i_sort : Int) (i_worth : Int) : Option (Int × Int × Int × Int) :=
  if zi_w i_from ≠ zi_w i_taped then
    zg 400 i_tape i_from fun v1 =>
    zd1 (f_HM_isSmall v1) fun v2 =>
    if zi_w v2 = 0 then
      zg 400 i_tape i_from fun v3 =>
      zd1 (f_HM_isDigit v3) fun v4 =>
      if zi_w v4 = 0 then
        f_HM_next_114 i_taped i_tape 3 i_from i_from i_sort 0
      else
        f_HM_next_114 i_taped i_tape 2 i_from i_from i_sort 0
    else
      f_HM_next_114 i_taped i_tape 1 i_from i_from i_sort 0
  else
    f_HM_next_114 i_taped i_tape 0 i_from i_from i_sort 0
def f_HM_next_8_b (i_taped : Int) (i_tape : Nat → Int) (k8 : Int → Int → Int → Int → Option (Int × Int × Int × Int)) (i_from : Int) (i_to : Int) (i_sort : Int) (i_worth : Int) : Option (Int × Int × Int × Int) :=
  if zi_w i_taped ≤ zi_w i_from then
    f_HM_next_46 i_taped i_tape i_from i_to i_sort i_worth
  else
    zg 400 i_tape i_from fun v1 =>
    if zi_w v1 ≠ zi_w 32 then
      f_HM_next_46 i_taped i_tape i_from i_to i_sort i_worth
    else
      zn (i_from + 1) fun v2 =>
      k8 v2 i_to i_sort i_worth
def f_HM_next_8 (i_taped : Int) (i_tape : Nat → Int) : Nat → Int → Int → Int → Int → Option (Int × Int × Int × Int)
  | 0 => fun _ _ _ _ => none
  | n + 1 => fun y0 y1 y2 y3 => f_HM_next_8_b i_taped i_tape (f_HM_next_8 i_taped i_tape n) y0 y1 y2 y3
def f_HM_next (i_taped : Int) (i_tape : Nat → Int) (i_from : Int) (i_to : Int) (i_sort : Int) (i_worth : Int) : Option (Int × Int × Int × Int) :=
  f_HM_next_8 i_taped i_tape zfu i_to i_to i_sort i_worth
set_option maxHeartbeats 4000000 in
set_option maxRecDepth 100000 in
theorem c_HM_next (l : Launch) (ev : zEv) (dC : Nat → ClassId) (dI : Nat → Nat → Nat) (cA : Nat → ClassId) (q0 q1 q2 q3 q4 q5 q6 q7 q8 q9 q10 q11 q12 q13 q14 q15 q16 q17 q18 q19 q20 q21 q22 q23 q24 q25 q26 q27 q28 q29 q30 q31 : Nat) (u0 u1 u2 u3 u4 u5 u6 u7 u8 u9 u10 u11 u12 u13 u14 u15 u16 : Int) {i_taped : Int} {i_tape : Nat → Int} {i_from : Int} {i_to : Int} {i_sort : Int} {i_worth : Int} {out : Int × Int × Int × Int} (hf : f_HM_next i_taped i_tape i_from i_to i_sort i_worth = some out) : xc_V l ev (dC, dI) vwCl (tyl cA) yX11_next w_HM_next rm_HM_next [.ref q0] (wd_HM_next cA q0 q1 q2 q3 q4 q5 q6 q7 q8 q9 q10 q11 q12 q13 q14 q15 q16 q17 q18 q19 q20 q21 q22 q23 q24 q25 q26 q27 q28 q29 q30 q31 u0 u1 u2 u3 u4 u5 u6 u7 u8 u9 u10 u11 u12 u13 u14 u15 u16 i_taped i_tape i_from i_to i_sort i_worth) (wf_HM_next cA q0 q1 q2 q3 q4 q5 q6 q7 q8 q9 q10 q11 q12 q13 q14 q15 q16 q17 q18 q19 q20 q21 q22 q23 q24 q25 q26 q27 q28 q29 q30 q31 u0 u1 u2 u3 u4 u5 u6 u7 u8 u9 u10 u11 u12 u13 u14 u15 u16 i_taped i_tape out) := by
  refine xv_startV (cc := cX11_next) (maxL := 1) (by decide +kernel) rfl (Nat.le_of_ble_eq_true rfl) ?_
  intro p e s m args below meth c A Q H ls hx hb hml hts hown hK hA hP hD hS hl hE hret
  have hown : s.vm.findClass "HillSchoolModel" = some m.cls := hown
  have hz : ∀ w ∈ zall, w.before args s = true := fun w h => hts w (List.mem_cons_of_mem _ h)
  have hl : lv_has ls 1 [(0, .ref q0)] := hl
  have b_319 : ∀ (k243 : Int → Int → Int → Int → Option (Int × Int × Int × Int)) (_ : ∀ (i_from : Int) (i_to : Int) (i_sort : Int) (i_worth : Int) (H : Heap) (locs : List Loc) (ls : Array Slot), k243 i_from i_to i_sort i_worth = some out → va_P (dC, dI) vwCl (wd_HM_next cA q0 q1 q2 q3 q4 q5 q6 q7 q8 q9 q10 q11 q12 q13 q14 q15 q16 q17 q18 q19 q20 q21 q22 q23 q24 q25 q26 q27 q28 q29 q30 q31 u0 u1 u2 u3 u4 u5 u6 u7 u8 u9 u10 u11 u12 u13 u14 u15 u16 i_taped i_tape i_from i_to i_sort i_worth) H → va_D A (wd_HM_next cA q0 q1 q2 q3 q4 q5 q6 q7 q8 q9 q10 q11 q12 q13 q14 q15 q16 q17 q18 q19 q20 q21 q22 q23 q24 q25 q26 q27 q28 q29 q30 q31 u0 u1 u2 u3 u4 u5 u6 u7 u8 u9 u10 u11 u12 u13 u14 u15 u16 i_taped i_tape i_from i_to i_sort i_worth) → va_S A s.heap H locs → lv_has ls 1 [(0, .ref q0)] → W p l e rm_HM_next s m args below meth c H locs 0 0 Q (F0 m 243 ls [])), ∀ (s1 : Int) (i_from : Int) (i_to : Int) (i_sort : Int) (i_worth : Int) (H : Heap) (locs : List Loc) (ls : Array Slot), f_HM_next_319 i_taped i_tape k243 s1 i_from i_to i_sort i_worth = some out → va_P (dC, dI) vwCl (wd_HM_next cA q0 q1 q2 q3 q4 q5 q6 q7 q8 q9 q10 q11 q12 q13 q14 q15 q16 q17 q18 q19 q20 q21 q22 q23 q24 q25 q26 q27 q28 q29 q30 q31 u0 u1 u2 u3 u4 u5 u6 u7 u8 u9 u10 u11 u12 u13 u14 u15 u16 i_taped i_tape i_from i_to i_sort i_worth) H → va_D A (wd_HM_next cA q0 q1 q2 q3 q4 q5 q6 q7 q8 q9 q10 q11 q12 q13 q14 q15 q16 q17 q18 q19 q20 q21 q22 q23 q24 q25 q26 q27 q28 q29 q30 q31 u0 u1 u2 u3 u4 u5 u6 u7 u8 u9 u10 u11 u12 u13 u14 u15 u16 i_taped i_tape i_from i_to i_sort i_worth) → va_S A s.heap H locs → lv_has ls 1 [(0, .ref q0)] → W p l e rm_HM_next s m args below meth c H locs 0 0 Q (F0 m 319 ls [.long (Int64.ofInt s1), .ref q0]) := by
    intro k243 ih243 s1 i_from i_to i_sort i_worth H locs ls hf hP hD hS hl
    unfold f_HM_next_319 at hf
    refine va_put (D := (dC, dI)) (ci := 11) (v := .long (Int64.ofInt s1)) (ty := .long) (C := RX11) (T := TX11) (N := 53) hx hb hz zi_X11 tyX11 tyX11_ok nmX11 hown hK hP hD hS 0 rfl rfl 12 (by decide) (hz _ zw_1177) (fun _ h9 => h9) rfl (by decide +kernel) rfl rfl (Nat.le_of_ble_eq_true rfl) dX11_next_319 (fun H locs hP hD hS => ?_)
    have hP : va_P (dC, dI) vwCl (wd_HM_next cA q0 q1 q2 q3 q4 q5 q6 q7 q8 q9 q10 q11 q12 q13 q14 q15 q16 q17 q18 q19 q20 q21 q22 q23 q24 q25 q26 q27 q28 q29 q30 q31 u0 u1 u2 u3 u4 u5 u6 u7 u8 u9 u10 u11 u12 u13 u14 u15 u16 i_taped i_tape i_from i_to i_sort s1) H := hP
    have hD : va_D A (wd_HM_next cA q0 q1 q2 q3 q4 q5 q6 q7 q8 q9 q10 q11 q12 q13 q14 q15 q16 q17 q18 q19 q20 q21 q22 q23 q24 q25 q26 q27 q28 q29 q30 q31 u0 u1 u2 u3 u4 u5 u6 u7 u8 u9 u10 u11 u12 u13 u14 u15 u16 i_taped i_tape i_from i_to i_sort s1) := hD
    refine lv_aload_n hx hb dX11_next_322 rfl (lv_at hl 0 rfl) ?_
    refine lv_dup hx hb dX11_next_323 rfl ?_
    refine va_get (D := (dC, dI)) (ci := 11) (v := .int (Int32.ofInt i_to)) (C := RX11) (T := TX11) (N := 53) hx hb hz zi_X11 hown hK hP 0 rfl rfl 10 (by decide) (hz _ zw_1175) (fun _ h9 => h9) rfl dX11_next_324 ?_
    refine lv_iconst (v := Int32.ofInt 1) hx hb dX11_next_327 rfl ?_
    refine xi_iadd hx hb dX11_next_328 hf (fun v1 hf => ?_)
    refine va_put (D := (dC, dI)) (ci := 11) (v := .int (Int32.ofInt v1)) (ty := .int) (C := RX11) (T := TX11) (N := 53) hx hb hz zi_X11 tyX11 tyX11_ok nmX11 hown hK hP hD hS 0 rfl rfl 10 (by decide) (hz _ zw_1175) (fun _ h9 => h9) rfl (by decide +kernel) rfl rfl (Nat.le_of_ble_eq_true rfl) dX11_next_329 (fun H locs hP hD hS => ?_)
    have hP : va_P (dC, dI) vwCl (wd_HM_next cA q0 q1 q2 q3 q4 q5 q6 q7 q8 q9 q10 q11 q12 q13 q14 q15 q16 q17 q18 q19 q20 q21 q22 q23 q24 q25 q26 q27 q28 q29 q30 q31 u0 u1 u2 u3 u4 u5 u6 u7 u8 u9 u10 u11 u12 u13 u14 u15 u16 i_taped i_tape i_from v1 i_sort s1) H := hP
    have hD : va_D A (wd_HM_next cA q0 q1 q2 q3 q4 q5 q6 q7 q8 q9 q10 q11 q12 q13 q14 q15 q16 q17 q18 q19 q20 q21 q22 q23 q24 q25 q26 q27 q28 q29 q30 q31 u0 u1 u2 u3 u4 u5 u6 u7 u8 u9 u10 u11 u12 u13 u14 u15 u16 i_taped i_tape i_from v1 i_sort s1) := hD
    refine lv_goto (tgt := 243) hx hb dX11_next_332 (by decide) ?_
    exact ih243 _ _ _ _ _ _ _ hf hP hD hS (lv_sub hl [0] rfl)
  have b_243 : ∀ (k243 : Int → Int → Int → Int → Option (Int × Int × Int × Int)) (_ : ∀ (i_from : Int) (i_to : Int) (i_sort : Int) (i_worth : Int) (H : Heap) (locs : List Loc) (ls : Array Slot), k243 i_from i_to i_sort i_worth = some out → va_P (dC, dI) vwCl (wd_HM_next cA q0 q1 q2 q3 q4 q5 q6 q7 q8 q9 q10 q11 q12 q13 q14 q15 q16 q17 q18 q19 q20 q21 q22 q23 q24 q25 q26 q27 q28 q29 q30 q31 u0 u1 u2 u3 u4 u5 u6 u7 u8 u9 u10 u11 u12 u13 u14 u15 u16 i_taped i_tape i_from i_to i_sort i_worth) H → va_D A (wd_HM_next cA q0 q1 q2 q3 q4 q5 q6 q7 q8 q9 q10 q11 q12 q13 q14 q15 q16 q17 q18 q19 q20 q21 q22 q23 q24 q25 q26 q27 q28 q29 q30 q31 u0 u1 u2 u3 u4 u5 u6 u7 u8 u9 u10 u11 u12 u13 u14 u15 u16 i_taped i_tape i_from i_to i_sort i_worth) → va_S A s.heap H locs → lv_has ls 1 [(0, .ref q0)] → W p l e rm_HM_next s m args below meth c H locs 0 0 Q (F0 m 243 ls [])), ∀ (i_from : Int) (i_to : Int) (i_sort : Int) (i_worth : Int) (H : Heap) (locs : List Loc) (ls : Array Slot), f_HM_next_243_b i_taped i_tape k243 i_from i_to i_sort i_worth = some out → va_P (dC, dI) vwCl (wd_HM_next cA q0 q1 q2 q3 q4 q5 q6 q7 q8 q9 q10 q11 q12 q13 q14 q15 q16 q17 q18 q19 q20 q21 q22 q23 q24 q25 q26 q27 q28 q29 q30 q31 u0 u1 u2 u3 u4 u5 u6 u7 u8 u9 u10 u11 u12 u13 u14 u15 u16 i_taped i_tape i_from i_to i_sort i_worth) H → va_D A (wd_HM_next cA q0 q1 q2 q3 q4 q5 q6 q7 q8 q9 q10 q11 q12 q13 q14 q15 q16 q17 q18 q19 q20 q21 q22 q23 q24 q25 q26 q27 q28 q29 q30 q31 u0 u1 u2 u3 u4 u5 u6 u7 u8 u9 u10 u11 u12 u13 u14 u15 u16 i_taped i_tape i_from i_to i_sort i_worth) → va_S A s.heap H locs → lv_has ls 1 [(0, .ref q0)] → W p l e rm_HM_next s m args below meth c H locs 0 0 Q (F0 m 243 ls []) := by
    intro k243 ih243 i_from i_to i_sort i_worth H locs ls hf hP hD hS hl
    unfold f_HM_next_243_b at hf
    refine lv_aload_n hx hb dX11_next_243 rfl (lv_at hl 0 rfl) ?_
    refine va_get (D := (dC, dI)) (ci := 11) (v := .int (Int32.ofInt i_sort)) (C := RX11) (T := TX11) (N := 53) hx hb hz zi_X11 hown hK hP 0 rfl rfl 11 (by decide) (hz _ zw_1176) (fun _ h9 => h9) rfl dX11_next_244 ?_
    refine lv_iconst (v := Int32.ofInt 2) hx hb dX11_next_247 rfl ?_
    refine xi_icmp_ne (tgt := 335) hx hb dX11_next_248 (by decide) hf (fun hf => ?_) (fun hf => ?_)
    · obtain rfl := Option.some.inj hf
      exact hret _ _ _ _ dX11_next_335 hP hD hS
    · refine lv_aload_n hx hb dX11_next_251 rfl (lv_at hl 0 rfl) ?_
      refine va_get (D := (dC, dI)) (ci := 11) (v := .int (Int32.ofInt i_to)) (C := RX11) (T := TX11) (N := 53) hx hb hz zi_X11 hown hK hP 0 rfl rfl 10 (by decide) (hz _ zw_1175) (fun _ h9 => h9) rfl dX11_next_252 ?_
      refine lv_aload_n hx hb dX11_next_255 rfl (lv_at hl 0 rfl) ?_
      refine va_get (D := (dC, dI)) (ci := 11) (v := .int (Int32.ofInt i_taped)) (C := RX11) (T := TX11) (N := 53) hx hb hz zi_X11 hown hK hP 0 rfl rfl 8 (by decide) (hz _ zw_1173) (fun _ h9 => h9) rfl dX11_next_256 ?_
      refine xi_icmp_ge (tgt := 335) hx hb dX11_next_259 (by decide) hf (fun hf => ?_) (fun hf => ?_)
      · obtain rfl := Option.some.inj hf
        exact hret _ _ _ _ dX11_next_335 hP hD hS
      · refine lv_aload_n hx hb dX11_next_262 rfl (lv_at hl 0 rfl) ?_
        refine va_get (D := (dC, dI)) (ci := 11) (v := .ref q5) (C := RX11) (T := TX11) (N := 53) hx hb hz zi_X11 hown hK hP 0 rfl rfl 7 (by decide) (hz _ zw_1172) (fun _ h9 => h9) rfl dX11_next_263 ?_
        refine lv_aload_n hx hb dX11_next_266 rfl (lv_at hl 0 rfl) ?_
        refine va_get (D := (dC, dI)) (ci := 11) (v := .int (Int32.ofInt i_to)) (C := RX11) (T := TX11) (N := 53) hx hb hz zi_X11 hown hK hP 0 rfl rfl 10 (by decide) (hz _ zw_1175) (fun _ h9 => h9) rfl dX11_next_267 ?_
        refine xi_iald hx hb hK hP 1 0 rfl rfl dX11_next_270 hf (fun v1 hf => ?_)
        refine xe_d1 hf (fun v2 hg hf => ?_)
        have hC : ([] : List Nat).map (fun i => (wd_HM_next cA q0 q1 q2 q3 q4 q5 q6 q7 q8 q9 q10 q11 q12 q13 q14 q15 q16 q17 q18 q19 q20 q21 q22 q23 q24 q25 q26 q27 q28 q29 q30 q31 u0 u1 u2 u3 u4 u5 u6 u7 u8 u9 u10 u11 u12 u13 u14 u15 u16 i_taped i_tape i_from i_to i_sort i_worth)[i]?) = (wd_HM_isDigit cA).map some := rfl
        refine xv_afterI (ws' := (wd_HM_next cA q0 q1 q2 q3 q4 q5 q6 q7 q8 q9 q10 q11 q12 q13 q14 q15 q16 q17 q18 q19 q20 q21 q22 q23 q24 q25 q26 q27 q28 q29 q30 q31 u0 u1 u2 u3 u4 u5 u6 u7 u8 u9 u10 u11 u12 u13 u14 u15 u16 i_taped i_tape i_from i_to i_sort i_worth)) (isC := []) (ps := [none, none]) (va_runS (As := [.int (Int32.ofInt v1)]) (rest := []) ⟨hx, hb, hml, hown, hts⟩ (c_HM_isDigit l ev dC dI cA hg H.size) (va_cwS 1 hts (zgS zw_1446 zw_1447 zw_115 zw_1448) rfl rfl rfl hd_HM_isDigit.2 ⟨Nat.le_of_ble_eq_true rfl, Nat.le_of_ble_eq_true rfl⟩) (xv_preS hE hA hS hK hP hD (isC := []) (by decide +kernel) hC) rfl rfl hl.1 rfl (lv_room (Nat.le_of_ble_eq_true rfl)) dX11_next_271 ⟨Nat.le_refl _, Nat.le_refl _⟩) hP hD hS hA (by decide +kernel) rfl hC rfl rfl (fun H locs hP hD hS => ?_)
        refine xi_if_eq (tgt := 335) hx hb dX11_next_274 (by decide) hf (fun hf => ?_) (fun hf => ?_)
        · obtain rfl := Option.some.inj hf
          exact hret _ _ _ _ dX11_next_335 hP hD hS
        · refine lv_aload_n hx hb dX11_next_277 rfl (lv_at hl 0 rfl) ?_
          refine lv_aload_n hx hb dX11_next_278 rfl (lv_at hl 0 rfl) ?_
          refine va_get (D := (dC, dI)) (ci := 11) (v := .long (Int64.ofInt i_worth)) (C := RX11) (T := TX11) (N := 53) hx hb hz zi_X11 hown hK hP 0 rfl rfl 12 (by decide) (hz _ zw_1177) (fun _ h9 => h9) rfl dX11_next_279 ?_
          refine lv_ldc2 (v := Int64.ofInt 1000000) hx hb hown (hz _ zw_1452) dX11_next_282 ?_
          refine xl_cmp_le (tgt := 296) hx hb dX11_next_285 dX11_next_286 (by decide) hf (fun hf => ?_) (fun hf => ?_)
          · refine lv_aload_n hx hb dX11_next_296 rfl (lv_at hl 0 rfl) ?_
            refine va_get (D := (dC, dI)) (ci := 11) (v := .long (Int64.ofInt i_worth)) (C := RX11) (T := TX11) (N := 53) hx hb hz zi_X11 hown hK hP 0 rfl rfl 12 (by decide) (hz _ zw_1177) (fun _ h9 => h9) rfl dX11_next_297 ?_
            refine lv_ldc2 (v := Int64.ofInt 10) hx hb hown (hz _ zw_1453) dX11_next_300 ?_
            refine xl_lmul hx hb dX11_next_303 hf (fun v3 hf => ?_)
            refine lv_aload_n hx hb dX11_next_304 rfl (lv_at hl 0 rfl) ?_
            refine va_get (D := (dC, dI)) (ci := 11) (v := .ref q5) (C := RX11) (T := TX11) (N := 53) hx hb hz zi_X11 hown hK hP 0 rfl rfl 7 (by decide) (hz _ zw_1172) (fun _ h9 => h9) rfl dX11_next_305 ?_
            refine lv_aload_n hx hb dX11_next_308 rfl (lv_at hl 0 rfl) ?_
            refine va_get (D := (dC, dI)) (ci := 11) (v := .int (Int32.ofInt i_to)) (C := RX11) (T := TX11) (N := 53) hx hb hz zi_X11 hown hK hP 0 rfl rfl 10 (by decide) (hz _ zw_1175) (fun _ h9 => h9) rfl dX11_next_309 ?_
            refine xi_iald hx hb hK hP 1 0 rfl rfl dX11_next_312 hf (fun v4 hf => ?_)
            refine xi_i2l hx hb dX11_next_313 hf (fun v5 hf => ?_)
            refine xl_ladd hx hb dX11_next_314 hf (fun v6 hf => ?_)
            refine lv_ldc2 (v := Int64.ofInt 48) hx hb hown (hz _ zw_1454) dX11_next_315 ?_
            refine xl_lsub hx hb dX11_next_318 hf (fun v7 hf => ?_)
            exact b_319 _ ih243 _ _ _ _ _ _ _ _ hf hP hD hS (lv_sub hl [0] rfl)
          · refine lv_aload_n hx hb dX11_next_289 rfl (lv_at hl 0 rfl) ?_
            refine va_get (D := (dC, dI)) (ci := 11) (v := .long (Int64.ofInt i_worth)) (C := RX11) (T := TX11) (N := 53) hx hb hz zi_X11 hown hK hP 0 rfl rfl 12 (by decide) (hz _ zw_1177) (fun _ h9 => h9) rfl dX11_next_290 ?_
            refine lv_goto (tgt := 319) hx hb dX11_next_293 (by decide) ?_
            exact b_319 _ ih243 _ _ _ _ _ _ _ _ hf hP hD hS (lv_sub hl [0] rfl)
  have l_243 : ∀ (n : Nat), ∀ (i_from : Int) (i_to : Int) (i_sort : Int) (i_worth : Int) (H : Heap) (locs : List Loc) (ls : Array Slot), f_HM_next_243 i_taped i_tape n i_from i_to i_sort i_worth = some out → va_P (dC, dI) vwCl (wd_HM_next cA q0 q1 q2 q3 q4 q5 q6 q7 q8 q9 q10 q11 q12 q13 q14 q15 q16 q17 q18 q19 q20 q21 q22 q23 q24 q25 q26 q27 q28 q29 q30 q31 u0 u1 u2 u3 u4 u5 u6 u7 u8 u9 u10 u11 u12 u13 u14 u15 u16 i_taped i_tape i_from i_to i_sort i_worth) H → va_D A (wd_HM_next cA q0 q1 q2 q3 q4 q5 q6 q7 q8 q9 q10 q11 q12 q13 q14 q15 q16 q17 q18 q19 q20 q21 q22 q23 q24 q25 q26 q27 q28 q29 q30 q31 u0 u1 u2 u3 u4 u5 u6 u7 u8 u9 u10 u11 u12 u13 u14 u15 u16 i_taped i_tape i_from i_to i_sort i_worth) → va_S A s.heap H locs → lv_has ls 1 [(0, .ref q0)] → W p l e rm_HM_next s m args below meth c H locs 0 0 Q (F0 m 243 ls []) := by
    intro n
    induction n with
    | zero => intro i_from i_to i_sort i_worth H locs ls hf hP hD hS hl; exact nomatch hf
    | succ n ih => intro i_from i_to i_sort i_worth H locs ls hf hP hD hS hl; exact b_243 (f_HM_next_243 i_taped i_tape n) ih i_from i_to i_sort i_worth H locs ls hf hP hD hS hl
  have b_227 : ∀ (k149 : Int → Int → Int → Int → Option (Int × Int × Int × Int)) (_ : ∀ (i_from : Int) (i_to : Int) (i_sort : Int) (i_worth : Int) (H : Heap) (locs : List Loc) (ls : Array Slot), k149 i_from i_to i_sort i_worth = some out → va_P (dC, dI) vwCl (wd_HM_next cA q0 q1 q2 q3 q4 q5 q6 q7 q8 q9 q10 q11 q12 q13 q14 q15 q16 q17 q18 q19 q20 q21 q22 q23 q24 q25 q26 q27 q28 q29 q30 q31 u0 u1 u2 u3 u4 u5 u6 u7 u8 u9 u10 u11 u12 u13 u14 u15 u16 i_taped i_tape i_from i_to i_sort i_worth) H → va_D A (wd_HM_next cA q0 q1 q2 q3 q4 q5 q6 q7 q8 q9 q10 q11 q12 q13 q14 q15 q16 q17 q18 q19 q20 q21 q22 q23 q24 q25 q26 q27 q28 q29 q30 q31 u0 u1 u2 u3 u4 u5 u6 u7 u8 u9 u10 u11 u12 u13 u14 u15 u16 i_taped i_tape i_from i_to i_sort i_worth) → va_S A s.heap H locs → lv_has ls 1 [(0, .ref q0)] → W p l e rm_HM_next s m args below meth c H locs 0 0 Q (F0 m 149 ls [])), ∀ (s1 : Int) (i_from : Int) (i_to : Int) (i_sort : Int) (i_worth : Int) (H : Heap) (locs : List Loc) (ls : Array Slot), f_HM_next_227 i_taped i_tape k149 s1 i_from i_to i_sort i_worth = some out → va_P (dC, dI) vwCl (wd_HM_next cA q0 q1 q2 q3 q4 q5 q6 q7 q8 q9 q10 q11 q12 q13 q14 q15 q16 q17 q18 q19 q20 q21 q22 q23 q24 q25 q26 q27 q28 q29 q30 q31 u0 u1 u2 u3 u4 u5 u6 u7 u8 u9 u10 u11 u12 u13 u14 u15 u16 i_taped i_tape i_from i_to i_sort i_worth) H → va_D A (wd_HM_next cA q0 q1 q2 q3 q4 q5 q6 q7 q8 q9 q10 q11 q12 q13 q14 q15 q16 q17 q18 q19 q20 q21 q22 q23 q24 q25 q26 q27 q28 q29 q30 q31 u0 u1 u2 u3 u4 u5 u6 u7 u8 u9 u10 u11 u12 u13 u14 u15 u16 i_taped i_tape i_from i_to i_sort i_worth) → va_S A s.heap H locs → lv_has ls 1 [(0, .ref q0)] → W p l e rm_HM_next s m args below meth c H locs 0 0 Q (F0 m 227 ls [.long (Int64.ofInt s1), .ref q0]) := by
    intro k149 ih149 s1 i_from i_to i_sort i_worth H locs ls hf hP hD hS hl
    unfold f_HM_next_227 at hf
    refine va_put (D := (dC, dI)) (ci := 11) (v := .long (Int64.ofInt s1)) (ty := .long) (C := RX11) (T := TX11) (N := 53) hx hb hz zi_X11 tyX11 tyX11_ok nmX11 hown hK hP hD hS 0 rfl rfl 12 (by decide) (hz _ zw_1177) (fun _ h9 => h9) rfl (by decide +kernel) rfl rfl (Nat.le_of_ble_eq_true rfl) dX11_next_227 (fun H locs hP hD hS => ?_)
    have hP : va_P (dC, dI) vwCl (wd_HM_next cA q0 q1 q2 q3 q4 q5 q6 q7 q8 q9 q10 q11 q12 q13 q14 q15 q16 q17 q18 q19 q20 q21 q22 q23 q24 q25 q26 q27 q28 q29 q30 q31 u0 u1 u2 u3 u4 u5 u6 u7 u8 u9 u10 u11 u12 u13 u14 u15 u16 i_taped i_tape i_from i_to i_sort s1) H := hP
    have hD : va_D A (wd_HM_next cA q0 q1 q2 q3 q4 q5 q6 q7 q8 q9 q10 q11 q12 q13 q14 q15 q16 q17 q18 q19 q20 q21 q22 q23 q24 q25 q26 q27 q28 q29 q30 q31 u0 u1 u2 u3 u4 u5 u6 u7 u8 u9 u10 u11 u12 u13 u14 u15 u16 i_taped i_tape i_from i_to i_sort s1) := hD
    refine lv_aload_n hx hb dX11_next_230 rfl (lv_at hl 0 rfl) ?_
    refine lv_dup hx hb dX11_next_231 rfl ?_
    refine va_get (D := (dC, dI)) (ci := 11) (v := .int (Int32.ofInt i_to)) (C := RX11) (T := TX11) (N := 53) hx hb hz zi_X11 hown hK hP 0 rfl rfl 10 (by decide) (hz _ zw_1175) (fun _ h9 => h9) rfl dX11_next_232 ?_
    refine lv_iconst (v := Int32.ofInt 1) hx hb dX11_next_235 rfl ?_
    refine xi_iadd hx hb dX11_next_236 hf (fun v1 hf => ?_)
    refine va_put (D := (dC, dI)) (ci := 11) (v := .int (Int32.ofInt v1)) (ty := .int) (C := RX11) (T := TX11) (N := 53) hx hb hz zi_X11 tyX11 tyX11_ok nmX11 hown hK hP hD hS 0 rfl rfl 10 (by decide) (hz _ zw_1175) (fun _ h9 => h9) rfl (by decide +kernel) rfl rfl (Nat.le_of_ble_eq_true rfl) dX11_next_237 (fun H locs hP hD hS => ?_)
    have hP : va_P (dC, dI) vwCl (wd_HM_next cA q0 q1 q2 q3 q4 q5 q6 q7 q8 q9 q10 q11 q12 q13 q14 q15 q16 q17 q18 q19 q20 q21 q22 q23 q24 q25 q26 q27 q28 q29 q30 q31 u0 u1 u2 u3 u4 u5 u6 u7 u8 u9 u10 u11 u12 u13 u14 u15 u16 i_taped i_tape i_from v1 i_sort s1) H := hP
    have hD : va_D A (wd_HM_next cA q0 q1 q2 q3 q4 q5 q6 q7 q8 q9 q10 q11 q12 q13 q14 q15 q16 q17 q18 q19 q20 q21 q22 q23 q24 q25 q26 q27 q28 q29 q30 q31 u0 u1 u2 u3 u4 u5 u6 u7 u8 u9 u10 u11 u12 u13 u14 u15 u16 i_taped i_tape i_from v1 i_sort s1) := hD
    refine lv_goto (tgt := 149) hx hb dX11_next_240 (by decide) ?_
    exact ih149 _ _ _ _ _ _ _ hf hP hD hS (lv_sub hl [0] rfl)
  have b_149 : ∀ (k149 : Int → Int → Int → Int → Option (Int × Int × Int × Int)) (_ : ∀ (i_from : Int) (i_to : Int) (i_sort : Int) (i_worth : Int) (H : Heap) (locs : List Loc) (ls : Array Slot), k149 i_from i_to i_sort i_worth = some out → va_P (dC, dI) vwCl (wd_HM_next cA q0 q1 q2 q3 q4 q5 q6 q7 q8 q9 q10 q11 q12 q13 q14 q15 q16 q17 q18 q19 q20 q21 q22 q23 q24 q25 q26 q27 q28 q29 q30 q31 u0 u1 u2 u3 u4 u5 u6 u7 u8 u9 u10 u11 u12 u13 u14 u15 u16 i_taped i_tape i_from i_to i_sort i_worth) H → va_D A (wd_HM_next cA q0 q1 q2 q3 q4 q5 q6 q7 q8 q9 q10 q11 q12 q13 q14 q15 q16 q17 q18 q19 q20 q21 q22 q23 q24 q25 q26 q27 q28 q29 q30 q31 u0 u1 u2 u3 u4 u5 u6 u7 u8 u9 u10 u11 u12 u13 u14 u15 u16 i_taped i_tape i_from i_to i_sort i_worth) → va_S A s.heap H locs → lv_has ls 1 [(0, .ref q0)] → W p l e rm_HM_next s m args below meth c H locs 0 0 Q (F0 m 149 ls [])), ∀ (i_from : Int) (i_to : Int) (i_sort : Int) (i_worth : Int) (H : Heap) (locs : List Loc) (ls : Array Slot), f_HM_next_149_b i_taped i_tape k149 i_from i_to i_sort i_worth = some out → va_P (dC, dI) vwCl (wd_HM_next cA q0 q1 q2 q3 q4 q5 q6 q7 q8 q9 q10 q11 q12 q13 q14 q15 q16 q17 q18 q19 q20 q21 q22 q23 q24 q25 q26 q27 q28 q29 q30 q31 u0 u1 u2 u3 u4 u5 u6 u7 u8 u9 u10 u11 u12 u13 u14 u15 u16 i_taped i_tape i_from i_to i_sort i_worth) H → va_D A (wd_HM_next cA q0 q1 q2 q3 q4 q5 q6 q7 q8 q9 q10 q11 q12 q13 q14 q15 q16 q17 q18 q19 q20 q21 q22 q23 q24 q25 q26 q27 q28 q29 q30 q31 u0 u1 u2 u3 u4 u5 u6 u7 u8 u9 u10 u11 u12 u13 u14 u15 u16 i_taped i_tape i_from i_to i_sort i_worth) → va_S A s.heap H locs → lv_has ls 1 [(0, .ref q0)] → W p l e rm_HM_next s m args below meth c H locs 0 0 Q (F0 m 149 ls []) := by
    intro k149 ih149 i_from i_to i_sort i_worth H locs ls hf hP hD hS hl
    unfold f_HM_next_149_b at hf
    refine lv_aload_n hx hb dX11_next_149 rfl (lv_at hl 0 rfl) ?_
    refine va_get (D := (dC, dI)) (ci := 11) (v := .int (Int32.ofInt i_sort)) (C := RX11) (T := TX11) (N := 53) hx hb hz zi_X11 hown hK hP 0 rfl rfl 11 (by decide) (hz _ zw_1176) (fun _ h9 => h9) rfl dX11_next_150 ?_
    refine lv_iconst (v := Int32.ofInt 1) hx hb dX11_next_153 rfl ?_
    refine xi_icmp_ne (tgt := 243) hx hb dX11_next_154 (by decide) hf (fun hf => ?_) (fun hf => ?_)
    · exact l_243  _ _ _ _ _ _ _ _ hf hP hD hS (lv_sub hl [0] rfl)
    · refine lv_aload_n hx hb dX11_next_157 rfl (lv_at hl 0 rfl) ?_
      refine va_get (D := (dC, dI)) (ci := 11) (v := .int (Int32.ofInt i_to)) (C := RX11) (T := TX11) (N := 53) hx hb hz zi_X11 hown hK hP 0 rfl rfl 10 (by decide) (hz _ zw_1175) (fun _ h9 => h9) rfl dX11_next_158 ?_
      refine lv_aload_n hx hb dX11_next_161 rfl (lv_at hl 0 rfl) ?_
      refine va_get (D := (dC, dI)) (ci := 11) (v := .int (Int32.ofInt i_taped)) (C := RX11) (T := TX11) (N := 53) hx hb hz zi_X11 hown hK hP 0 rfl rfl 8 (by decide) (hz _ zw_1173) (fun _ h9 => h9) rfl dX11_next_162 ?_
      refine xi_icmp_ge (tgt := 243) hx hb dX11_next_165 (by decide) hf (fun hf => ?_) (fun hf => ?_)
      · exact l_243  _ _ _ _ _ _ _ _ hf hP hD hS (lv_sub hl [0] rfl)
      · refine lv_aload_n hx hb dX11_next_168 rfl (lv_at hl 0 rfl) ?_
        refine va_get (D := (dC, dI)) (ci := 11) (v := .ref q5) (C := RX11) (T := TX11) (N := 53) hx hb hz zi_X11 hown hK hP 0 rfl rfl 7 (by decide) (hz _ zw_1172) (fun _ h9 => h9) rfl dX11_next_169 ?_
        refine lv_aload_n hx hb dX11_next_172 rfl (lv_at hl 0 rfl) ?_
        refine va_get (D := (dC, dI)) (ci := 11) (v := .int (Int32.ofInt i_to)) (C := RX11) (T := TX11) (N := 53) hx hb hz zi_X11 hown hK hP 0 rfl rfl 10 (by decide) (hz _ zw_1175) (fun _ h9 => h9) rfl dX11_next_173 ?_
        refine xi_iald hx hb hK hP 1 0 rfl rfl dX11_next_176 hf (fun v1 hf => ?_)
        refine xe_d1 hf (fun v2 hg hf => ?_)
        have hC : ([] : List Nat).map (fun i => (wd_HM_next cA q0 q1 q2 q3 q4 q5 q6 q7 q8 q9 q10 q11 q12 q13 q14 q15 q16 q17 q18 q19 q20 q21 q22 q23 q24 q25 q26 q27 q28 q29 q30 q31 u0 u1 u2 u3 u4 u5 u6 u7 u8 u9 u10 u11 u12 u13 u14 u15 u16 i_taped i_tape i_from i_to i_sort i_worth)[i]?) = (wd_HM_isSmall cA).map some := rfl
        refine xv_afterI (ws' := (wd_HM_next cA q0 q1 q2 q3 q4 q5 q6 q7 q8 q9 q10 q11 q12 q13 q14 q15 q16 q17 q18 q19 q20 q21 q22 q23 q24 q25 q26 q27 q28 q29 q30 q31 u0 u1 u2 u3 u4 u5 u6 u7 u8 u9 u10 u11 u12 u13 u14 u15 u16 i_taped i_tape i_from i_to i_sort i_worth)) (isC := []) (ps := [none, none]) (va_runS (As := [.int (Int32.ofInt v1)]) (rest := []) ⟨hx, hb, hml, hown, hts⟩ (c_HM_isSmall l ev dC dI cA hg H.size) (va_cwS 1 hts (zgS zw_1443 zw_1444 zw_115 zw_1445) rfl rfl rfl hd_HM_isSmall.2 ⟨Nat.le_of_ble_eq_true rfl, Nat.le_of_ble_eq_true rfl⟩) (xv_preS hE hA hS hK hP hD (isC := []) (by decide +kernel) hC) rfl rfl hl.1 rfl (lv_room (Nat.le_of_ble_eq_true rfl)) dX11_next_177 ⟨Nat.le_refl _, Nat.le_refl _⟩) hP hD hS hA (by decide +kernel) rfl hC rfl rfl (fun H locs hP hD hS => ?_)
        refine xi_if_eq (tgt := 243) hx hb dX11_next_180 (by decide) hf (fun hf => ?_) (fun hf => ?_)
        · exact l_243  _ _ _ _ _ _ _ _ hf hP hD hS (lv_sub hl [0] rfl)
        · refine lv_aload_n hx hb dX11_next_183 rfl (lv_at hl 0 rfl) ?_
          refine lv_aload_n hx hb dX11_next_184 rfl (lv_at hl 0 rfl) ?_
          refine va_get (D := (dC, dI)) (ci := 11) (v := .int (Int32.ofInt i_to)) (C := RX11) (T := TX11) (N := 53) hx hb hz zi_X11 hown hK hP 0 rfl rfl 10 (by decide) (hz _ zw_1175) (fun _ h9 => h9) rfl dX11_next_185 ?_
          refine lv_aload_n hx hb dX11_next_188 rfl (lv_at hl 0 rfl) ?_
          refine va_get (D := (dC, dI)) (ci := 11) (v := .int (Int32.ofInt i_from)) (C := RX11) (T := TX11) (N := 53) hx hb hz zi_X11 hown hK hP 0 rfl rfl 9 (by decide) (hz _ zw_1174) (fun _ h9 => h9) rfl dX11_next_189 ?_
          refine xi_isub hx hb dX11_next_192 hf (fun v3 hf => ?_)
          refine lv_bipush (v := Int32.ofInt 10) hx hb dX11_next_193 (by decide) ?_
          refine xi_icmp_ge (tgt := 224) hx hb dX11_next_195 (by decide) hf (fun hf => ?_) (fun hf => ?_)
          · refine lv_ldc2 (v := Int64.ofInt (-1)) hx hb hown (hz _ zw_1451) dX11_next_224 ?_
            exact b_227 _ ih149 _ _ _ _ _ _ _ _ hf hP hD hS (lv_sub hl [0] rfl)
          · refine lv_aload_n hx hb dX11_next_198 rfl (lv_at hl 0 rfl) ?_
            refine va_get (D := (dC, dI)) (ci := 11) (v := .long (Int64.ofInt i_worth)) (C := RX11) (T := TX11) (N := 53) hx hb hz zi_X11 hown hK hP 0 rfl rfl 12 (by decide) (hz _ zw_1177) (fun _ h9 => h9) rfl dX11_next_199 ?_
            refine lv_ldc2 (v := Int64.ofInt 32) hx hb hown (hz _ zw_1449) dX11_next_202 ?_
            refine xl_lmul hx hb dX11_next_205 hf (fun v4 hf => ?_)
            refine lv_aload_n hx hb dX11_next_206 rfl (lv_at hl 0 rfl) ?_
            refine va_get (D := (dC, dI)) (ci := 11) (v := .ref q5) (C := RX11) (T := TX11) (N := 53) hx hb hz zi_X11 hown hK hP 0 rfl rfl 7 (by decide) (hz _ zw_1172) (fun _ h9 => h9) rfl dX11_next_207 ?_
            refine lv_aload_n hx hb dX11_next_210 rfl (lv_at hl 0 rfl) ?_
            refine va_get (D := (dC, dI)) (ci := 11) (v := .int (Int32.ofInt i_to)) (C := RX11) (T := TX11) (N := 53) hx hb hz zi_X11 hown hK hP 0 rfl rfl 10 (by decide) (hz _ zw_1175) (fun _ h9 => h9) rfl dX11_next_211 ?_
            refine xi_iald hx hb hK hP 1 0 rfl rfl dX11_next_214 hf (fun v5 hf => ?_)
            refine xi_i2l hx hb dX11_next_215 hf (fun v6 hf => ?_)
            refine xl_ladd hx hb dX11_next_216 hf (fun v7 hf => ?_)
            refine lv_ldc2 (v := Int64.ofInt 96) hx hb hown (hz _ zw_1450) dX11_next_217 ?_
            refine xl_lsub hx hb dX11_next_220 hf (fun v8 hf => ?_)
            refine lv_goto (tgt := 227) hx hb dX11_next_221 (by decide) ?_
            exact b_227 _ ih149 _ _ _ _ _ _ _ _ hf hP hD hS (lv_sub hl [0] rfl)
  have l_149 : ∀ (n : Nat), ∀ (i_from : Int) (i_to : Int) (i_sort : Int) (i_worth : Int) (H : Heap) (locs : List Loc) (ls : Array Slot), f_HM_next_149 i_taped i_tape n i_from i_to i_sort i_worth = some out → va_P (dC, dI) vwCl (wd_HM_next cA q0 q1 q2 q3 q4 q5 q6 q7 q8 q9 q10 q11 q12 q13 q14 q15 q16 q17 q18 q19 q20 q21 q22 q23 q24 q25 q26 q27 q28 q29 q30 q31 u0 u1 u2 u3 u4 u5 u6 u7 u8 u9 u10 u11 u12 u13 u14 u15 u16 i_taped i_tape i_from i_to i_sort i_worth) H → va_D A (wd_HM_next cA q0 q1 q2 q3 q4 q5 q6 q7 q8 q9 q10 q11 q12 q13 q14 q15 q16 q17 q18 q19 q20 q21 q22 q23 q24 q25 q26 q27 q28 q29 q30 q31 u0 u1 u2 u3 u4 u5 u6 u7 u8 u9 u10 u11 u12 u13 u14 u15 u16 i_taped i_tape i_from i_to i_sort i_worth) → va_S A s.heap H locs → lv_has ls 1 [(0, .ref q0)] → W p l e rm_HM_next s m args below meth c H locs 0 0 Q (F0 m 149 ls []) := by
    intro n
    induction n with
    | zero => intro i_from i_to i_sort i_worth H locs ls hf hP hD hS hl; exact nomatch hf
    | succ n ih => intro i_from i_to i_sort i_worth H locs ls hf hP hD hS hl; exact b_149 (f_HM_next_149 i_taped i_tape n) ih i_from i_to i_sort i_worth H locs ls hf hP hD hS hl
  have b_114 : ∀ (s1 : Int) (i_from : Int) (i_to : Int) (i_sort : Int) (i_worth : Int) (H : Heap) (locs : List Loc) (ls : Array Slot), f_HM_next_114 i_taped i_tape s1 i_from i_to i_sort i_worth = some out → va_P (dC, dI) vwCl (wd_HM_next cA q0 q1 q2 q3 q4 q5 q6 q7 q8 q9 q10 q11 q12 q13 q14 q15 q16 q17 q18 q19 q20 q21 q22 q23 q24 q25 q26 q27 q28 q29 q30 q31 u0 u1 u2 u3 u4 u5 u6 u7 u8 u9 u10 u11 u12 u13 u14 u15 u16 i_taped i_tape i_from i_to i_sort i_worth) H → va_D A (wd_HM_next cA q0 q1 q2 q3 q4 q5 q6 q7 q8 q9 q10 q11 q12 q13 q14 q15 q16 q17 q18 q19 q20 q21 q22 q23 q24 q25 q26 q27 q28 q29 q30 q31 u0 u1 u2 u3 u4 u5 u6 u7 u8 u9 u10 u11 u12 u13 u14 u15 u16 i_taped i_tape i_from i_to i_sort i_worth) → va_S A s.heap H locs → lv_has ls 1 [(0, .ref q0)] → W p l e rm_HM_next s m args below meth c H locs 0 0 Q (F0 m 114 ls [.int (Int32.ofInt s1), .ref q0]) := by
    intro s1 i_from i_to i_sort i_worth H locs ls hf hP hD hS hl
    unfold f_HM_next_114 at hf
    refine va_put (D := (dC, dI)) (ci := 11) (v := .int (Int32.ofInt s1)) (ty := .int) (C := RX11) (T := TX11) (N := 53) hx hb hz zi_X11 tyX11 tyX11_ok nmX11 hown hK hP hD hS 0 rfl rfl 11 (by decide) (hz _ zw_1176) (fun _ h9 => h9) rfl (by decide +kernel) rfl rfl (Nat.le_of_ble_eq_true rfl) dX11_next_114 (fun H locs hP hD hS => ?_)
    have hP : va_P (dC, dI) vwCl (wd_HM_next cA q0 q1 q2 q3 q4 q5 q6 q7 q8 q9 q10 q11 q12 q13 q14 q15 q16 q17 q18 q19 q20 q21 q22 q23 q24 q25 q26 q27 q28 q29 q30 q31 u0 u1 u2 u3 u4 u5 u6 u7 u8 u9 u10 u11 u12 u13 u14 u15 u16 i_taped i_tape i_from i_to s1 i_worth) H := hP
    have hD : va_D A (wd_HM_next cA q0 q1 q2 q3 q4 q5 q6 q7 q8 q9 q10 q11 q12 q13 q14 q15 q16 q17 q18 q19 q20 q21 q22 q23 q24 q25 q26 q27 q28 q29 q30 q31 u0 u1 u2 u3 u4 u5 u6 u7 u8 u9 u10 u11 u12 u13 u14 u15 u16 i_taped i_tape i_from i_to s1 i_worth) := hD
    refine lv_aload_n hx hb dX11_next_117 rfl (lv_at hl 0 rfl) ?_
    refine va_get (D := (dC, dI)) (ci := 11) (v := .int (Int32.ofInt s1)) (C := RX11) (T := TX11) (N := 53) hx hb hz zi_X11 hown hK hP 0 rfl rfl 11 (by decide) (hz _ zw_1176) (fun _ h9 => h9) rfl dX11_next_118 ?_
    refine lv_iconst (v := Int32.ofInt 3) hx hb dX11_next_121 rfl ?_
    refine xi_icmp_ne (tgt := 149) hx hb dX11_next_122 (by decide) hf (fun hf => ?_) (fun hf => ?_)
    · exact l_149  _ _ _ _ _ _ _ _ hf hP hD hS (lv_sub hl [0] rfl)
    · refine lv_aload_n hx hb dX11_next_125 rfl (lv_at hl 0 rfl) ?_
      refine lv_aload_n hx hb dX11_next_126 rfl (lv_at hl 0 rfl) ?_
      refine va_get (D := (dC, dI)) (ci := 11) (v := .ref q5) (C := RX11) (T := TX11) (N := 53) hx hb hz zi_X11 hown hK hP 0 rfl rfl 7 (by decide) (hz _ zw_1172) (fun _ h9 => h9) rfl dX11_next_127 ?_
      refine lv_aload_n hx hb dX11_next_130 rfl (lv_at hl 0 rfl) ?_
      refine va_get (D := (dC, dI)) (ci := 11) (v := .int (Int32.ofInt i_from)) (C := RX11) (T := TX11) (N := 53) hx hb hz zi_X11 hown hK hP 0 rfl rfl 9 (by decide) (hz _ zw_1174) (fun _ h9 => h9) rfl dX11_next_131 ?_
      refine xi_iald hx hb hK hP 1 0 rfl rfl dX11_next_134 hf (fun v1 hf => ?_)
      refine xi_i2l hx hb dX11_next_135 hf (fun v2 hf => ?_)
      refine va_put (D := (dC, dI)) (ci := 11) (v := .long (Int64.ofInt v2)) (ty := .long) (C := RX11) (T := TX11) (N := 53) hx hb hz zi_X11 tyX11 tyX11_ok nmX11 hown hK hP hD hS 0 rfl rfl 12 (by decide) (hz _ zw_1177) (fun _ h9 => h9) rfl (by decide +kernel) rfl rfl (Nat.le_of_ble_eq_true rfl) dX11_next_136 (fun H locs hP hD hS => ?_)
      have hP : va_P (dC, dI) vwCl (wd_HM_next cA q0 q1 q2 q3 q4 q5 q6 q7 q8 q9 q10 q11 q12 q13 q14 q15 q16 q17 q18 q19 q20 q21 q22 q23 q24 q25 q26 q27 q28 q29 q30 q31 u0 u1 u2 u3 u4 u5 u6 u7 u8 u9 u10 u11 u12 u13 u14 u15 u16 i_taped i_tape i_from i_to s1 v2) H := hP
      have hD : va_D A (wd_HM_next cA q0 q1 q2 q3 q4 q5 q6 q7 q8 q9 q10 q11 q12 q13 q14 q15 q16 q17 q18 q19 q20 q21 q22 q23 q24 q25 q26 q27 q28 q29 q30 q31 u0 u1 u2 u3 u4 u5 u6 u7 u8 u9 u10 u11 u12 u13 u14 u15 u16 i_taped i_tape i_from i_to s1 v2) := hD
      refine lv_aload_n hx hb dX11_next_139 rfl (lv_at hl 0 rfl) ?_
      refine lv_dup hx hb dX11_next_140 rfl ?_
      refine va_get (D := (dC, dI)) (ci := 11) (v := .int (Int32.ofInt i_to)) (C := RX11) (T := TX11) (N := 53) hx hb hz zi_X11 hown hK hP 0 rfl rfl 10 (by decide) (hz _ zw_1175) (fun _ h9 => h9) rfl dX11_next_141 ?_
      refine lv_iconst (v := Int32.ofInt 1) hx hb dX11_next_144 rfl ?_
      refine xi_iadd hx hb dX11_next_145 hf (fun v3 hf => ?_)
      refine va_put (D := (dC, dI)) (ci := 11) (v := .int (Int32.ofInt v3)) (ty := .int) (C := RX11) (T := TX11) (N := 53) hx hb hz zi_X11 tyX11 tyX11_ok nmX11 hown hK hP hD hS 0 rfl rfl 10 (by decide) (hz _ zw_1175) (fun _ h9 => h9) rfl (by decide +kernel) rfl rfl (Nat.le_of_ble_eq_true rfl) dX11_next_146 (fun H locs hP hD hS => ?_)
      have hP : va_P (dC, dI) vwCl (wd_HM_next cA q0 q1 q2 q3 q4 q5 q6 q7 q8 q9 q10 q11 q12 q13 q14 q15 q16 q17 q18 q19 q20 q21 q22 q23 q24 q25 q26 q27 q28 q29 q30 q31 u0 u1 u2 u3 u4 u5 u6 u7 u8 u9 u10 u11 u12 u13 u14 u15 u16 i_taped i_tape i_from v3 s1 v2) H := hP
      have hD : va_D A (wd_HM_next cA q0 q1 q2 q3 q4 q5 q6 q7 q8 q9 q10 q11 q12 q13 q14 q15 q16 q17 q18 q19 q20 q21 q22 q23 q24 q25 q26 q27 q28 q29 q30 q31 u0 u1 u2 u3 u4 u5 u6 u7 u8 u9 u10 u11 u12 u13 u14 u15 u16 i_taped i_tape i_from v3 s1 v2) := hD
      exact l_149  _ _ _ _ _ _ _ _ hf hP hD hS (lv_sub hl [0] rfl)
  have b_46 : ∀ (i_from : Int) (i_to : Int) (i_sort : Int) (i_worth : Int) (H : Heap) (locs : List Loc) (ls : Array Slot), f_HM_next_46 i_taped i_tape i_from i_to i_sort i_worth = some out → va_P (dC, dI) vwCl (wd_HM_next cA q0 q1 q2 q3 q4 q5 q6 q7 q8 q9 q10 q11 q12 q13 q14 q15 q16 q17 q18 q19 q20 q21 q22 q23 q24 q25 q26 q27 q28 q29 q30 q31 u0 u1 u2 u3 u4 u5 u6 u7 u8 u9 u10 u11 u12 u13 u14 u15 u16 i_taped i_tape i_from i_to i_sort i_worth) H → va_D A (wd_HM_next cA q0 q1 q2 q3 q4 q5 q6 q7 q8 q9 q10 q11 q12 q13 q14 q15 q16 q17 q18 q19 q20 q21 q22 q23 q24 q25 q26 q27 q28 q29 q30 q31 u0 u1 u2 u3 u4 u5 u6 u7 u8 u9 u10 u11 u12 u13 u14 u15 u16 i_taped i_tape i_from i_to i_sort i_worth) → va_S A s.heap H locs → lv_has ls 1 [(0, .ref q0)] → W p l e rm_HM_next s m args below meth c H locs 0 0 Q (F0 m 46 ls []) := by
    intro i_from i_to i_sort i_worth H locs ls hf hP hD hS hl
    unfold f_HM_next_46 at hf
    refine lv_aload_n hx hb dX11_next_46 rfl (lv_at hl 0 rfl) ?_
    refine lv_aload_n hx hb dX11_next_47 rfl (lv_at hl 0 rfl) ?_
    refine va_get (D := (dC, dI)) (ci := 11) (v := .int (Int32.ofInt i_from)) (C := RX11) (T := TX11) (N := 53) hx hb hz zi_X11 hown hK hP 0 rfl rfl 9 (by decide) (hz _ zw_1174) (fun _ h9 => h9) rfl dX11_next_48 ?_
    refine va_put (D := (dC, dI)) (ci := 11) (v := .int (Int32.ofInt i_from)) (ty := .int) (C := RX11) (T := TX11) (N := 53) hx hb hz zi_X11 tyX11 tyX11_ok nmX11 hown hK hP hD hS 0 rfl rfl 10 (by decide) (hz _ zw_1175) (fun _ h9 => h9) rfl (by decide +kernel) rfl rfl (Nat.le_of_ble_eq_true rfl) dX11_next_51 (fun H locs hP hD hS => ?_)
    have hP : va_P (dC, dI) vwCl (wd_HM_next cA q0 q1 q2 q3 q4 q5 q6 q7 q8 q9 q10 q11 q12 q13 q14 q15 q16 q17 q18 q19 q20 q21 q22 q23 q24 q25 q26 q27 q28 q29 q30 q31 u0 u1 u2 u3 u4 u5 u6 u7 u8 u9 u10 u11 u12 u13 u14 u15 u16 i_taped i_tape i_from i_from i_sort i_worth) H := hP
    have hD : va_D A (wd_HM_next cA q0 q1 q2 q3 q4 q5 q6 q7 q8 q9 q10 q11 q12 q13 q14 q15 q16 q17 q18 q19 q20 q21 q22 q23 q24 q25 q26 q27 q28 q29 q30 q31 u0 u1 u2 u3 u4 u5 u6 u7 u8 u9 u10 u11 u12 u13 u14 u15 u16 i_taped i_tape i_from i_from i_sort i_worth) := hD
    refine lv_aload_n hx hb dX11_next_54 rfl (lv_at hl 0 rfl) ?_
    refine lv_lconst (v := Int64.ofInt 0) hx hb dX11_next_55 (by decide) ?_
    refine va_put (D := (dC, dI)) (ci := 11) (v := .long (Int64.ofInt 0)) (ty := .long) (C := RX11) (T := TX11) (N := 53) hx hb hz zi_X11 tyX11 tyX11_ok nmX11 hown hK hP hD hS 0 rfl rfl 12 (by decide) (hz _ zw_1177) (fun _ h9 => h9) rfl (by decide +kernel) rfl rfl (Nat.le_of_ble_eq_true rfl) dX11_next_56 (fun H locs hP hD hS => ?_)
    have hP : va_P (dC, dI) vwCl (wd_HM_next cA q0 q1 q2 q3 q4 q5 q6 q7 q8 q9 q10 q11 q12 q13 q14 q15 q16 q17 q18 q19 q20 q21 q22 q23 q24 q25 q26 q27 q28 q29 q30 q31 u0 u1 u2 u3 u4 u5 u6 u7 u8 u9 u10 u11 u12 u13 u14 u15 u16 i_taped i_tape i_from i_from i_sort 0) H := hP
    have hD : va_D A (wd_HM_next cA q0 q1 q2 q3 q4 q5 q6 q7 q8 q9 q10 q11 q12 q13 q14 q15 q16 q17 q18 q19 q20 q21 q22 q23 q24 q25 q26 q27 q28 q29 q30 q31 u0 u1 u2 u3 u4 u5 u6 u7 u8 u9 u10 u11 u12 u13 u14 u15 u16 i_taped i_tape i_from i_from i_sort 0) := hD
    refine lv_aload_n hx hb dX11_next_59 rfl (lv_at hl 0 rfl) ?_
    refine lv_aload_n hx hb dX11_next_60 rfl (lv_at hl 0 rfl) ?_
    refine va_get (D := (dC, dI)) (ci := 11) (v := .int (Int32.ofInt i_from)) (C := RX11) (T := TX11) (N := 53) hx hb hz zi_X11 hown hK hP 0 rfl rfl 9 (by decide) (hz _ zw_1174) (fun _ h9 => h9) rfl dX11_next_61 ?_
    refine lv_aload_n hx hb dX11_next_64 rfl (lv_at hl 0 rfl) ?_
    refine va_get (D := (dC, dI)) (ci := 11) (v := .int (Int32.ofInt i_taped)) (C := RX11) (T := TX11) (N := 53) hx hb hz zi_X11 hown hK hP 0 rfl rfl 8 (by decide) (hz _ zw_1173) (fun _ h9 => h9) rfl dX11_next_65 ?_
    refine xi_icmp_ne (tgt := 75) hx hb dX11_next_68 (by decide) hf (fun hf => ?_) (fun hf => ?_)
    · refine lv_aload_n hx hb dX11_next_75 rfl (lv_at hl 0 rfl) ?_
      refine va_get (D := (dC, dI)) (ci := 11) (v := .ref q5) (C := RX11) (T := TX11) (N := 53) hx hb hz zi_X11 hown hK hP 0 rfl rfl 7 (by decide) (hz _ zw_1172) (fun _ h9 => h9) rfl dX11_next_76 ?_
      refine lv_aload_n hx hb dX11_next_79 rfl (lv_at hl 0 rfl) ?_
      refine va_get (D := (dC, dI)) (ci := 11) (v := .int (Int32.ofInt i_from)) (C := RX11) (T := TX11) (N := 53) hx hb hz zi_X11 hown hK hP 0 rfl rfl 9 (by decide) (hz _ zw_1174) (fun _ h9 => h9) rfl dX11_next_80 ?_
      refine xi_iald hx hb hK hP 1 0 rfl rfl dX11_next_83 hf (fun v1 hf => ?_)
      refine xe_d1 hf (fun v2 hg hf => ?_)
      have hC : ([] : List Nat).map (fun i => (wd_HM_next cA q0 q1 q2 q3 q4 q5 q6 q7 q8 q9 q10 q11 q12 q13 q14 q15 q16 q17 q18 q19 q20 q21 q22 q23 q24 q25 q26 q27 q28 q29 q30 q31 u0 u1 u2 u3 u4 u5 u6 u7 u8 u9 u10 u11 u12 u13 u14 u15 u16 i_taped i_tape i_from i_from i_sort 0)[i]?) = (wd_HM_isSmall cA).map some := rfl
      refine xv_afterI (ws' := (wd_HM_next cA q0 q1 q2 q3 q4 q5 q6 q7 q8 q9 q10 q11 q12 q13 q14 q15 q16 q17 q18 q19 q20 q21 q22 q23 q24 q25 q26 q27 q28 q29 q30 q31 u0 u1 u2 u3 u4 u5 u6 u7 u8 u9 u10 u11 u12 u13 u14 u15 u16 i_taped i_tape i_from i_from i_sort 0)) (isC := []) (ps := [none, none]) (va_runS (As := [.int (Int32.ofInt v1)]) (rest := [.ref q0]) ⟨hx, hb, hml, hown, hts⟩ (c_HM_isSmall l ev dC dI cA hg H.size) (va_cwS 1 hts (zgS zw_1443 zw_1444 zw_115 zw_1445) rfl rfl rfl hd_HM_isSmall.2 ⟨Nat.le_of_ble_eq_true rfl, Nat.le_of_ble_eq_true rfl⟩) (xv_preS hE hA hS hK hP hD (isC := []) (by decide +kernel) hC) rfl rfl hl.1 rfl (lv_room (Nat.le_of_ble_eq_true rfl)) dX11_next_84 ⟨Nat.le_refl _, Nat.le_refl _⟩) hP hD hS hA (by decide +kernel) rfl hC rfl rfl (fun H locs hP hD hS => ?_)
      refine xi_if_eq (tgt := 94) hx hb dX11_next_87 (by decide) hf (fun hf => ?_) (fun hf => ?_)
      · refine lv_aload_n hx hb dX11_next_94 rfl (lv_at hl 0 rfl) ?_
        refine va_get (D := (dC, dI)) (ci := 11) (v := .ref q5) (C := RX11) (T := TX11) (N := 53) hx hb hz zi_X11 hown hK hP 0 rfl rfl 7 (by decide) (hz _ zw_1172) (fun _ h9 => h9) rfl dX11_next_95 ?_
        refine lv_aload_n hx hb dX11_next_98 rfl (lv_at hl 0 rfl) ?_
        refine va_get (D := (dC, dI)) (ci := 11) (v := .int (Int32.ofInt i_from)) (C := RX11) (T := TX11) (N := 53) hx hb hz zi_X11 hown hK hP 0 rfl rfl 9 (by decide) (hz _ zw_1174) (fun _ h9 => h9) rfl dX11_next_99 ?_
        refine xi_iald hx hb hK hP 1 0 rfl rfl dX11_next_102 hf (fun v3 hf => ?_)
        refine xe_d1 hf (fun v4 hg hf => ?_)
        have hC : ([] : List Nat).map (fun i => (wd_HM_next cA q0 q1 q2 q3 q4 q5 q6 q7 q8 q9 q10 q11 q12 q13 q14 q15 q16 q17 q18 q19 q20 q21 q22 q23 q24 q25 q26 q27 q28 q29 q30 q31 u0 u1 u2 u3 u4 u5 u6 u7 u8 u9 u10 u11 u12 u13 u14 u15 u16 i_taped i_tape i_from i_from i_sort 0)[i]?) = (wd_HM_isDigit cA).map some := rfl
        refine xv_afterI (ws' := (wd_HM_next cA q0 q1 q2 q3 q4 q5 q6 q7 q8 q9 q10 q11 q12 q13 q14 q15 q16 q17 q18 q19 q20 q21 q22 q23 q24 q25 q26 q27 q28 q29 q30 q31 u0 u1 u2 u3 u4 u5 u6 u7 u8 u9 u10 u11 u12 u13 u14 u15 u16 i_taped i_tape i_from i_from i_sort 0)) (isC := []) (ps := [none, none]) (va_runS (As := [.int (Int32.ofInt v3)]) (rest := [.ref q0]) ⟨hx, hb, hml, hown, hts⟩ (c_HM_isDigit l ev dC dI cA hg H.size) (va_cwS 1 hts (zgS zw_1446 zw_1447 zw_115 zw_1448) rfl rfl rfl hd_HM_isDigit.2 ⟨Nat.le_of_ble_eq_true rfl, Nat.le_of_ble_eq_true rfl⟩) (xv_preS hE hA hS hK hP hD (isC := []) (by decide +kernel) hC) rfl rfl hl.1 rfl (lv_room (Nat.le_of_ble_eq_true rfl)) dX11_next_103 ⟨Nat.le_refl _, Nat.le_refl _⟩) hP hD hS hA (by decide +kernel) rfl hC rfl rfl (fun H locs hP hD hS => ?_)
        refine xi_if_eq (tgt := 113) hx hb dX11_next_106 (by decide) hf (fun hf => ?_) (fun hf => ?_)
        · refine lv_iconst (v := Int32.ofInt 3) hx hb dX11_next_113 rfl ?_
          exact b_114  _ _ _ _ _ _ _ _ hf hP hD hS (lv_sub hl [0] rfl)
        · refine lv_iconst (v := Int32.ofInt 2) hx hb dX11_next_109 rfl ?_
          refine lv_goto (tgt := 114) hx hb dX11_next_110 (by decide) ?_
          exact b_114  _ _ _ _ _ _ _ _ hf hP hD hS (lv_sub hl [0] rfl)
      · refine lv_iconst (v := Int32.ofInt 1) hx hb dX11_next_90 rfl ?_
        refine lv_goto (tgt := 114) hx hb dX11_next_91 (by decide) ?_
        exact b_114  _ _ _ _ _ _ _ _ hf hP hD hS (lv_sub hl [0] rfl)
    · refine lv_iconst (v := Int32.ofInt 0) hx hb dX11_next_71 rfl ?_
      refine lv_goto (tgt := 114) hx hb dX11_next_72 (by decide) ?_
      exact b_114  _ _ _ _ _ _ _ _ hf hP hD hS (lv_sub hl [0] rfl)
  have b_8 : ∀ (k8 : Int → Int → Int → Int → Option (Int × Int × Int × Int)) (_ : ∀ (i_from : Int) (i_to : Int) (i_sort : Int) (i_worth : Int) (H : Heap) (locs : List Loc) (ls : Array Slot), k8 i_from i_to i_sort i_worth = some out → va_P (dC, dI) vwCl (wd_HM_next cA q0 q1 q2 q3 q4 q5 q6 q7 q8 q9 q10 q11 q12 q13 q14 q15 q16 q17 q18 q19 q20 q21 q22 q23 q24 q25 q26 q27 q28 q29 q30 q31 u0 u1 u2 u3 u4 u5 u6 u7 u8 u9 u10 u11 u12 u13 u14 u15 u16 i_taped i_tape i_from i_to i_sort i_worth) H → va_D A (wd_HM_next cA q0 q1 q2 q3 q4 q5 q6 q7 q8 q9 q10 q11 q12 q13 q14 q15 q16 q17 q18 q19 q20 q21 q22 q23 q24 q25 q26 q27 q28 q29 q30 q31 u0 u1 u2 u3 u4 u5 u6 u7 u8 u9 u10 u11 u12 u13 u14 u15 u16 i_taped i_tape i_from i_to i_sort i_worth) → va_S A s.heap H locs → lv_has ls 1 [(0, .ref q0)] → W p l e rm_HM_next s m args below meth c H locs 0 0 Q (F0 m 8 ls [])), ∀ (i_from : Int) (i_to : Int) (i_sort : Int) (i_worth : Int) (H : Heap) (locs : List Loc) (ls : Array Slot), f_HM_next_8_b i_taped i_tape k8 i_from i_to i_sort i_worth = some out → va_P (dC, dI) vwCl (wd_HM_next cA q0 q1 q2 q3 q4 q5 q6 q7 q8 q9 q10 q11 q12 q13 q14 q15 q16 q17 q18 q19 q20 q21 q22 q23 q24 q25 q26 q27 q28 q29 q30 q31 u0 u1 u2 u3 u4 u5 u6 u7 u8 u9 u10 u11 u12 u13 u14 u15 u16 i_taped i_tape i_from i_to i_sort i_worth) H → va_D A (wd_HM_next cA q0 q1 q2 q3 q4 q5 q6 q7 q8 q9 q10 q11 q12 q13 q14 q15 q16 q17 q18 q19 q20 q21 q22 q23 q24 q25 q26 q27 q28 q29 q30 q31 u0 u1 u2 u3 u4 u5 u6 u7 u8 u9 u10 u11 u12 u13 u14 u15 u16 i_taped i_tape i_from i_to i_sort i_worth) → va_S A s.heap H locs → lv_has ls 1 [(0, .ref q0)] → W p l e rm_HM_next s m args below meth c H locs 0 0 Q (F0 m 8 ls []) := by
    intro k8 ih8 i_from i_to i_sort i_worth H locs ls hf hP hD hS hl
    unfold f_HM_next_8_b at hf
    refine lv_aload_n hx hb dX11_next_8 rfl (lv_at hl 0 rfl) ?_
    refine va_get (D := (dC, dI)) (ci := 11) (v := .int (Int32.ofInt i_from)) (C := RX11) (T := TX11) (N := 53) hx hb hz zi_X11 hown hK hP 0 rfl rfl 9 (by decide) (hz _ zw_1174) (fun _ h9 => h9) rfl dX11_next_9 ?_
    refine lv_aload_n hx hb dX11_next_12 rfl (lv_at hl 0 rfl) ?_
    refine va_get (D := (dC, dI)) (ci := 11) (v := .int (Int32.ofInt i_taped)) (C := RX11) (T := TX11) (N := 53) hx hb hz zi_X11 hown hK hP 0 rfl rfl 8 (by decide) (hz _ zw_1173) (fun _ h9 => h9) rfl dX11_next_13 ?_
    refine xi_icmp_ge (tgt := 46) hx hb dX11_next_16 (by decide) hf (fun hf => ?_) (fun hf => ?_)
    · exact b_46  _ _ _ _ _ _ _ hf hP hD hS (lv_sub hl [0] rfl)
    · refine lv_aload_n hx hb dX11_next_19 rfl (lv_at hl 0 rfl) ?_
      refine va_get (D := (dC, dI)) (ci := 11) (v := .ref q5) (C := RX11) (T := TX11) (N := 53) hx hb hz zi_X11 hown hK hP 0 rfl rfl 7 (by decide) (hz _ zw_1172) (fun _ h9 => h9) rfl dX11_next_20 ?_
      refine lv_aload_n hx hb dX11_next_23 rfl (lv_at hl 0 rfl) ?_
      refine va_get (D := (dC, dI)) (ci := 11) (v := .int (Int32.ofInt i_from)) (C := RX11) (T := TX11) (N := 53) hx hb hz zi_X11 hown hK hP 0 rfl rfl 9 (by decide) (hz _ zw_1174) (fun _ h9 => h9) rfl dX11_next_24 ?_
      refine xi_iald hx hb hK hP 1 0 rfl rfl dX11_next_27 hf (fun v1 hf => ?_)
      refine lv_bipush (v := Int32.ofInt 32) hx hb dX11_next_28 (by decide) ?_
      refine xi_icmp_ne (tgt := 46) hx hb dX11_next_30 (by decide) hf (fun hf => ?_) (fun hf => ?_)
      · exact b_46  _ _ _ _ _ _ _ hf hP hD hS (lv_sub hl [0] rfl)
      · refine lv_aload_n hx hb dX11_next_33 rfl (lv_at hl 0 rfl) ?_
        refine lv_dup hx hb dX11_next_34 rfl ?_
        refine va_get (D := (dC, dI)) (ci := 11) (v := .int (Int32.ofInt i_from)) (C := RX11) (T := TX11) (N := 53) hx hb hz zi_X11 hown hK hP 0 rfl rfl 9 (by decide) (hz _ zw_1174) (fun _ h9 => h9) rfl dX11_next_35 ?_
        refine lv_iconst (v := Int32.ofInt 1) hx hb dX11_next_38 rfl ?_
        refine xi_iadd hx hb dX11_next_39 hf (fun v2 hf => ?_)
        refine va_put (D := (dC, dI)) (ci := 11) (v := .int (Int32.ofInt v2)) (ty := .int) (C := RX11) (T := TX11) (N := 53) hx hb hz zi_X11 tyX11 tyX11_ok nmX11 hown hK hP hD hS 0 rfl rfl 9 (by decide) (hz _ zw_1174) (fun _ h9 => h9) rfl (by decide +kernel) rfl rfl (Nat.le_of_ble_eq_true rfl) dX11_next_40 (fun H locs hP hD hS => ?_)
        have hP : va_P (dC, dI) vwCl (wd_HM_next cA q0 q1 q2 q3 q4 q5 q6 q7 q8 q9 q10 q11 q12 q13 q14 q15 q16 q17 q18 q19 q20 q21 q22 q23 q24 q25 q26 q27 q28 q29 q30 q31 u0 u1 u2 u3 u4 u5 u6 u7 u8 u9 u10 u11 u12 u13 u14 u15 u16 i_taped i_tape v2 i_to i_sort i_worth) H := hP
        have hD : va_D A (wd_HM_next cA q0 q1 q2 q3 q4 q5 q6 q7 q8 q9 q10 q11 q12 q13 q14 q15 q16 q17 q18 q19 q20 q21 q22 q23 q24 q25 q26 q27 q28 q29 q30 q31 u0 u1 u2 u3 u4 u5 u6 u7 u8 u9 u10 u11 u12 u13 u14 u15 u16 i_taped i_tape v2 i_to i_sort i_worth) := hD
        refine lv_goto (tgt := 8) hx hb dX11_next_43 (by decide) ?_
        exact ih8 _ _ _ _ _ _ _ hf hP hD hS (lv_sub hl [0] rfl)
  have l_8 : ∀ (n : Nat), ∀ (i_from : Int) (i_to : Int) (i_sort : Int) (i_worth : Int) (H : Heap) (locs : List Loc) (ls : Array Slot), f_HM_next_8 i_taped i_tape n i_from i_to i_sort i_worth = some out → va_P (dC, dI) vwCl (wd_HM_next cA q0 q1 q2 q3 q4 q5 q6 q7 q8 q9 q10 q11 q12 q13 q14 q15 q16 q17 q18 q19 q20 q21 q22 q23 q24 q25 q26 q27 q28 q29 q30 q31 u0 u1 u2 u3 u4 u5 u6 u7 u8 u9 u10 u11 u12 u13 u14 u15 u16 i_taped i_tape i_from i_to i_sort i_worth) H → va_D A (wd_HM_next cA q0 q1 q2 q3 q4 q5 q6 q7 q8 q9 q10 q11 q12 q13 q14 q15 q16 q17 q18 q19 q20 q21 q22 q23 q24 q25 q26 q27 q28 q29 q30 q31 u0 u1 u2 u3 u4 u5 u6 u7 u8 u9 u10 u11 u12 u13 u14 u15 u16 i_taped i_tape i_from i_to i_sort i_worth) → va_S A s.heap H locs → lv_has ls 1 [(0, .ref q0)] → W p l e rm_HM_next s m args below meth c H locs 0 0 Q (F0 m 8 ls []) := by
    intro n
    induction n with
    | zero => intro i_from i_to i_sort i_worth H locs ls hf hP hD hS hl; exact nomatch hf
    | succ n ih => intro i_from i_to i_sort i_worth H locs ls hf hP hD hS hl; exact b_8 (f_HM_next_8 i_taped i_tape n) ih i_from i_to i_sort i_worth H locs ls hf hP hD hS hl
  unfold f_HM_next at hf
  refine lv_aload_n hx hb dX11_next_0 rfl (lv_at hl 0 rfl) ?_
  refine lv_aload_n hx hb dX11_next_1 rfl (lv_at hl 0 rfl) ?_
  refine va_get (D := (dC, dI)) (ci := 11) (v := .int (Int32.ofInt i_to)) (C := RX11) (T := TX11) (N := 53) hx hb hz zi_X11 hown hK hP 0 rfl rfl 10 (by decide) (hz _ zw_1175) (fun _ h9 => h9) rfl dX11_next_2 ?_
  refine va_put (D := (dC, dI)) (ci := 11) (v := .int (Int32.ofInt i_to)) (ty := .int) (C := RX11) (T := TX11) (N := 53) hx hb hz zi_X11 tyX11 tyX11_ok nmX11 hown hK hP hD hS 0 rfl rfl 9 (by decide) (hz _ zw_1174) (fun _ h9 => h9) rfl (by decide +kernel) rfl rfl (Nat.le_of_ble_eq_true rfl) dX11_next_5 (fun H locs hP hD hS => ?_)
  have hP : va_P (dC, dI) vwCl (wd_HM_next cA q0 q1 q2 q3 q4 q5 q6 q7 q8 q9 q10 q11 q12 q13 q14 q15 q16 q17 q18 q19 q20 q21 q22 q23 q24 q25 q26 q27 q28 q29 q30 q31 u0 u1 u2 u3 u4 u5 u6 u7 u8 u9 u10 u11 u12 u13 u14 u15 u16 i_taped i_tape i_to i_to i_sort i_worth) H := hP
  have hD : va_D A (wd_HM_next cA q0 q1 q2 q3 q4 q5 q6 q7 q8 q9 q10 q11 q12 q13 q14 q15 q16 q17 q18 q19 q20 q21 q22 q23 q24 q25 q26 q27 q28 q29 q30 q31 u0 u1 u2 u3 u4 u5 u6 u7 u8 u9 u10 u11 u12 u13 u14 u15 u16 i_taped i_tape i_to i_to i_sort i_worth) := hD
  exact l_8  _ _ _ _ _ _ _ _ hf hP hD hS (lv_sub hl [0] rfl)
