theorem dX11_force_0 : decode cX11_force 0 = .ok (.aload_n 0, 1) := by decide +kernel
theorem dX11_force_1 : decode cX11_force 1 = .ok (.iconst 0, 1) := by decide +kernel
theorem dX11_force_2 : decode cX11_force 2 = .ok (.putfield 126, 3) := by decide +kernel
theorem dX11_force_5 : decode cX11_force 5 = .ok (.iload_n 1, 1) := by decide +kernel
theorem dX11_force_6 : decode cX11_force 6 = .ok (.iconst (-1), 1) := by decide +kernel
theorem dX11_force_7 : decode cX11_force 7 = .ok (.if_icmp .eq 21, 3) := by decide +kernel
theorem dX11_force_10 : decode cX11_force 10 = .ok (.iload_n 1, 1) := by decide +kernel
theorem dX11_force_11 : decode cX11_force 11 = .ok (.i2l, 1) := by decide +kernel
theorem dX11_force_12 : decode cX11_force 12 = .ok (.lconst 0, 1) := by decide +kernel
theorem dX11_force_13 : decode cX11_force 13 = .ok (.aload_n 0, 1) := by decide +kernel
theorem dX11_force_14 : decode cX11_force 14 = .ok (.getfield 13, 3) := by decide +kernel
theorem dX11_force_17 : decode cX11_force 17 = .ok (.iconst 3, 1) := by decide +kernel
theorem dX11_force_18 : decode cX11_force 18 = .ok (.iaload, 1) := by decide +kernel
theorem dX11_force_19 : decode cX11_force 19 = .ok (.i2l, 1) := by decide +kernel
theorem dX11_force_20 : decode cX11_force 20 = .ok (.lconst 1, 1) := by decide +kernel
theorem dX11_force_21 : decode cX11_force 21 = .ok (.lsub, 1) := by decide +kernel
theorem dX11_force_22 : decode cX11_force 22 = .ok (.invokestatic 132, 3) := by decide +kernel
theorem dX11_force_25 : decode cX11_force 25 = .ok (.ifCond .eq 12, 3) := by decide +kernel
theorem dX11_force_28 : decode cX11_force 28 = .ok (.aload_n 0, 1) := by decide +kernel
theorem dX11_force_29 : decode cX11_force 29 = .ok (.iconst 4, 1) := by decide +kernel
theorem dX11_force_30 : decode cX11_force 30 = .ok (.iload_n 1, 1) := by decide +kernel
theorem dX11_force_31 : decode cX11_force 31 = .ok (.invokevirtual 158, 3) := by decide +kernel
theorem dX11_force_34 : decode cX11_force 34 = .ok (.goto 9, 3) := by decide +kernel
theorem dX11_force_37 : decode cX11_force 37 = .ok (.aload_n 0, 1) := by decide +kernel
theorem dX11_force_38 : decode cX11_force 38 = .ok (.bipush (-2), 2) := by decide +kernel
theorem dX11_force_40 : decode cX11_force 40 = .ok (.invokevirtual 136, 3) := by decide +kernel
theorem dX11_force_43 : decode cX11_force 43 = .ok (.ireturn, 1) := by decide +kernel
theorem zw_1540 : (Jvm.Cond.code ({ cls := "HillSchoolModel", name := "force", desc := "(I)I" } : Jvm.MethodName) prog_13_method_55_code (2 : Nat) (Option.some Jvm.ClassFile.FieldType.int)) ∈ zall := zmemG (zmj_6 237 rfl) rfl
abbrev w_HM_force : List Cond := .code yX11_force cX11_force 2 (some .int) :: zall
abbrev rm_HM_force : Room := { frames := 1, cells := 0, slots := 0, locals := 25 }
theorem hd_HM_force : yX11_force.cls = "HillSchoolModel" ∧ yX11_force.cls ≠ "java/lang/invoke/MethodHandle" ∧ yX11_force.cls ≠ "java/lang/invoke/VarHandle" ∧ (parseMethodDescriptor yX11_force.desc).map (fun d => d.parameters.length) = some 1 := by decide +kernel
def wd_HM_force (cA : Nat → ClassId) (q0 q1 q2 q3 q4 q5 q6 q7 q8 q9 q10 q11 q12 q13 q14 q15 q16 q17 q18 q19 q20 q21 q22 q23 q24 q25 q26 q27 q28 q29 q30 q31 : Nat) (u0 u1 u2 u3 u4 u5 u6 u7 u8 u9 u10 u11 u12 u13 u14 u15 u16 u17 u18 u19 : Int)  (i_thrown : Int) (i_status : Int) (i_refusals : Nat → Int) (i_row : Nat → Int) : va_W := [(q0, .inr (11, [.int (Int32.ofInt i_thrown), .int (Int32.ofInt i_status), .ref q1, .ref q2, .ref q3, .ref q4, .int (Int32.ofInt u0), .ref q5, .int (Int32.ofInt u1), .int (Int32.ofInt u2), .int (Int32.ofInt u3), .int (Int32.ofInt u4), .long (Int64.ofInt u5), .int (Int32.ofInt u6), .int (Int32.ofInt u7), .int (Int32.ofInt u8), .ref q6, .int (Int32.ofInt u9), .ref q7, .ref q8, .int (Int32.ofInt u10), .ref q9, .ref q10, .int (Int32.ofInt u11), .int (Int32.ofInt u12), .ref q11, .int (Int32.ofInt u13), .ref q12, .ref q13, .int (Int32.ofInt u14), .long (Int64.ofInt u15), .long (Int64.ofInt u16), .ref q14, .ref q15, .ref q16, .ref q17, .ref q18, .int (Int32.ofInt u17), .ref q19, .ref q20, .ref q21, .ref q22, .ref q23, .ref q24, .ref q25, .ref q26, .ref q27, .ref q28, .ref q29, .ref q30, .long (Int64.ofInt u18), .ref q31, .int (Int32.ofInt u19)])), (q1, .inl (cA 0, 7, .inl (za i_refusals))), (q2, .inl (cA 0, 5580, .inl (za i_row)))]
def wf_HM_force (cA : Nat → ClassId) (q0 q1 q2 q3 q4 q5 q6 q7 q8 q9 q10 q11 q12 q13 q14 q15 q16 q17 q18 q19 q20 q21 q22 q23 q24 q25 q26 q27 q28 q29 q30 q31 : Nat) (u0 u1 u2 u3 u4 u5 u6 u7 u8 u9 u10 u11 u12 u13 u14 u15 u16 u17 u18 u19 : Int)  (o : Int × Int × Int × (Nat → Int) × (Nat → Int)) : va_W := wd_HM_force cA q0 q1 q2 q3 q4 q5 q6 q7 q8 q9 q10 q11 q12 q13 q14 q15 q16 q17 q18 q19 q20 q21 q22 q23 q24 q25 q26 q27 q28 q29 q30 q31 u0 u1 u2 u3 u4 u5 u6 u7 u8 u9 u10 u11 u12 u13 u14 u15 u16 u17 u18 u19 o.2.1 o.2.2.1 o.2.2.2.1 o.2.2.2.2
def f_HM_force_28  (x1 : Int) (i_thrown : Int) (i_status : Int) (i_refusals : Nat → Int) (i_row : Nat → Int) : Option (Int × Int × Int × (Nat → Int) × (Nat → Int)) :=
  zd3 (f_HM_change 4 x1 i_status i_row) fun v1 v2 a3 =>
  some (v1, i_thrown, v2, i_refusals, a3)
def f_HM_force (x1 : Int) (i_thrown : Int) (i_status : Int) (i_refusals : Nat → Int) (i_row : Nat → Int) : Option (Int × Int × Int × (Nat → Int) × (Nat → Int)) :=
  if zi_w x1 = zi_w (-1) then
    f_HM_force_28 x1 0 i_status i_refusals i_row
  else
    zn (zi_w x1) fun v1 =>
    zg 5580 i_row 3 fun v2 =>
    zn (zi_w v2) fun v3 =>
    zn (v3 - 1) fun v4 =>
    zd1 (f_HM_in v1 0 v4) fun v5 =>
    if zi_w v5 = 0 then
      zd3 (f_HM_tell (-2) i_status i_refusals) fun v6 v7 a8 =>
      some (v6, 0, v7, a8, i_row)
    else
      f_HM_force_28 x1 0 i_status i_refusals i_row
set_option maxHeartbeats 4000000 in
set_option maxRecDepth 100000 in
theorem c_HM_force (l : Launch) (ev : zEv) (dC : Nat → ClassId) (dI : Nat → Nat → Nat) (cA : Nat → ClassId) (q0 q1 q2 q3 q4 q5 q6 q7 q8 q9 q10 q11 q12 q13 q14 q15 q16 q17 q18 q19 q20 q21 q22 q23 q24 q25 q26 q27 q28 q29 q30 q31 : Nat) (u0 u1 u2 u3 u4 u5 u6 u7 u8 u9 u10 u11 u12 u13 u14 u15 u16 u17 u18 u19 : Int) {x1 : Int} {i_thrown : Int} {i_status : Int} {i_refusals : Nat → Int} {i_row : Nat → Int} {out : Int × Int × Int × (Nat → Int) × (Nat → Int)} (hf : f_HM_force x1 i_thrown i_status i_refusals i_row = some out) : xc_I l ev (dC, dI) vwCl (tyl cA) yX11_force w_HM_force rm_HM_force [.ref q0, .int (Int32.ofInt x1)] (wd_HM_force cA q0 q1 q2 q3 q4 q5 q6 q7 q8 q9 q10 q11 q12 q13 q14 q15 q16 q17 q18 q19 q20 q21 q22 q23 q24 q25 q26 q27 q28 q29 q30 q31 u0 u1 u2 u3 u4 u5 u6 u7 u8 u9 u10 u11 u12 u13 u14 u15 u16 u17 u18 u19 i_thrown i_status i_refusals i_row) (wf_HM_force cA q0 q1 q2 q3 q4 q5 q6 q7 q8 q9 q10 q11 q12 q13 q14 q15 q16 q17 q18 q19 q20 q21 q22 q23 q24 q25 q26 q27 q28 q29 q30 q31 u0 u1 u2 u3 u4 u5 u6 u7 u8 u9 u10 u11 u12 u13 u14 u15 u16 u17 u18 u19 out) out.1 := by
  refine xv_startI (cc := cX11_force) (maxL := 2) (rt := .int) (by decide +kernel) rfl (Nat.le_of_ble_eq_true rfl) ?_
  intro p e s m args below meth c A Q H ls hx hb hml hts hown hK hA hP hD hS hl hE hret
  have hown : s.vm.findClass "HillSchoolModel" = some m.cls := hown
  have hz : ∀ w ∈ zall, w.before args s = true := fun w h => hts w (List.mem_cons_of_mem _ h)
  have hl : lv_has ls 2 [(0, .ref q0), (1, .int (Int32.ofInt x1))] := hl
  have b_28 : ∀ (x1 : Int) (i_thrown : Int) (i_status : Int) (i_refusals : Nat → Int) (i_row : Nat → Int) (H : Heap) (locs : List Loc) (ls : Array Slot), f_HM_force_28 x1 i_thrown i_status i_refusals i_row = some out → va_P (dC, dI) vwCl (wd_HM_force cA q0 q1 q2 q3 q4 q5 q6 q7 q8 q9 q10 q11 q12 q13 q14 q15 q16 q17 q18 q19 q20 q21 q22 q23 q24 q25 q26 q27 q28 q29 q30 q31 u0 u1 u2 u3 u4 u5 u6 u7 u8 u9 u10 u11 u12 u13 u14 u15 u16 u17 u18 u19 i_thrown i_status i_refusals i_row) H → va_D A (wd_HM_force cA q0 q1 q2 q3 q4 q5 q6 q7 q8 q9 q10 q11 q12 q13 q14 q15 q16 q17 q18 q19 q20 q21 q22 q23 q24 q25 q26 q27 q28 q29 q30 q31 u0 u1 u2 u3 u4 u5 u6 u7 u8 u9 u10 u11 u12 u13 u14 u15 u16 u17 u18 u19 i_thrown i_status i_refusals i_row) → va_S A s.heap H locs → lv_has ls 2 [(0, .ref q0), (1, .int (Int32.ofInt x1))] → W p l e rm_HM_force s m args below meth c H locs 0 0 Q (F0 m 28 ls []) := by
    intro x1 i_thrown i_status i_refusals i_row H locs ls hf hP hD hS hl
    unfold f_HM_force_28 at hf
    refine lv_aload_n hx hb dX11_force_28 rfl (lv_at hl 0 rfl) ?_
    refine lv_iconst (v := Int32.ofInt 4) hx hb dX11_force_29 rfl ?_
    refine lv_iload_n hx hb dX11_force_30 rfl (lv_at hl 1 rfl) ?_
    refine xe_d3 hf (fun v1 v2 a3 hg hf => ?_)
    have hC : ([0, 2] : List Nat).map (fun i => (wd_HM_force cA q0 q1 q2 q3 q4 q5 q6 q7 q8 q9 q10 q11 q12 q13 q14 q15 q16 q17 q18 q19 q20 q21 q22 q23 q24 q25 q26 q27 q28 q29 q30 q31 u0 u1 u2 u3 u4 u5 u6 u7 u8 u9 u10 u11 u12 u13 u14 u15 u16 u17 u18 u19 i_thrown i_status i_refusals i_row)[i]?) = (wd_HM_change cA q0 q1 q2 q3 q4 q5 q6 q7 q8 q9 q10 q11 q12 q13 q14 q15 q16 q17 q18 q19 q20 q21 q22 q23 q24 q25 q26 q27 q28 q29 q30 q31 i_thrown u0 u1 u2 u3 u4 u5 u6 u7 u8 u9 u10 u11 u12 u13 u14 u15 u16 u17 u18 u19 i_status i_row).map some := rfl
    refine xv_afterI (ws' := (wd_HM_force cA q0 q1 q2 q3 q4 q5 q6 q7 q8 q9 q10 q11 q12 q13 q14 q15 q16 q17 q18 q19 q20 q21 q22 q23 q24 q25 q26 q27 q28 q29 q30 q31 u0 u1 u2 u3 u4 u5 u6 u7 u8 u9 u10 u11 u12 u13 u14 u15 u16 u17 u18 u19 i_thrown v2 i_refusals a3)) (isC := [0, 2]) (ps := [some 0, none, some 1]) (va_runV (As := [.int (Int32.ofInt 4), .int (Int32.ofInt x1)]) (rest := []) ⟨hx, hb, hml, hown, hts⟩ (c_HM_change l ev dC dI cA q0 q1 q2 q3 q4 q5 q6 q7 q8 q9 q10 q11 q12 q13 q14 q15 q16 q17 q18 q19 q20 q21 q22 q23 q24 q25 q26 q27 q28 q29 q30 q31 i_thrown u0 u1 u2 u3 u4 u5 u6 u7 u8 u9 u10 u11 u12 u13 u14 u15 u16 u17 u18 u19 hg H.size) (cwV 2 hts (zgV zw_1385 zw_1387 zw_44 zw_115 zw_1388) rfl rfl rfl hd_HM_change ⟨Nat.le_of_ble_eq_true rfl, Nat.le_of_ble_eq_true rfl⟩) (xv_preV (T := TX11) (N := 53) hE hA hS hK hP hD (isC := [0, 2]) (by decide +kernel) hC (q0 := 0) (ci := 11) rfl rfl) rfl rfl hl.1 rfl (lv_room (Nat.le_of_ble_eq_true rfl)) dX11_force_31 ⟨Nat.le_refl _, Nat.le_refl _⟩) hP hD hS hA (by decide +kernel) rfl hC rfl rfl (fun H locs hP hD hS => ?_)
    refine lv_goto (tgt := 43) hx hb dX11_force_34 (by decide) ?_
    obtain rfl := Option.some.inj hf
    exact hret _ _ _ _ rfl dX11_force_43 hP hD hS
  unfold f_HM_force at hf
  refine lv_aload_n hx hb dX11_force_0 rfl (lv_at hl 0 rfl) ?_
  refine lv_iconst (v := Int32.ofInt 0) hx hb dX11_force_1 rfl ?_
  refine va_put (D := (dC, dI)) (ci := 11) (v := .int (Int32.ofInt 0)) (ty := .int) (C := RX11) (T := TX11) (N := 53) hx hb hz zi_X11 tyX11 tyX11_ok nmX11 hown hK hP hD hS 0 rfl rfl 0 (by decide) (hz _ zw_1165) (fun _ h9 => h9) rfl (by decide +kernel) rfl rfl (Nat.le_of_ble_eq_true rfl) dX11_force_2 (fun H locs hP hD hS => ?_)
  have hP : va_P (dC, dI) vwCl (wd_HM_force cA q0 q1 q2 q3 q4 q5 q6 q7 q8 q9 q10 q11 q12 q13 q14 q15 q16 q17 q18 q19 q20 q21 q22 q23 q24 q25 q26 q27 q28 q29 q30 q31 u0 u1 u2 u3 u4 u5 u6 u7 u8 u9 u10 u11 u12 u13 u14 u15 u16 u17 u18 u19 0 i_status i_refusals i_row) H := hP
  have hD : va_D A (wd_HM_force cA q0 q1 q2 q3 q4 q5 q6 q7 q8 q9 q10 q11 q12 q13 q14 q15 q16 q17 q18 q19 q20 q21 q22 q23 q24 q25 q26 q27 q28 q29 q30 q31 u0 u1 u2 u3 u4 u5 u6 u7 u8 u9 u10 u11 u12 u13 u14 u15 u16 u17 u18 u19 0 i_status i_refusals i_row) := hD
  refine lv_iload_n hx hb dX11_force_5 rfl (lv_at hl 1 rfl) ?_
  refine lv_iconst (v := Int32.ofInt (-1)) hx hb dX11_force_6 rfl ?_
  refine xi_icmp_eq (tgt := 28) hx hb dX11_force_7 (by decide) hf (fun hf => ?_) (fun hf => ?_)
  · exact b_28  _ _ _ _ _ _ _ _ hf hP hD hS (lv_sub hl [0, 1] rfl)
  · refine lv_iload_n hx hb dX11_force_10 rfl (lv_at hl 1 rfl) ?_
    refine xi_i2l hx hb dX11_force_11 hf (fun v1 hf => ?_)
    refine lv_lconst (v := Int64.ofInt 0) hx hb dX11_force_12 (by decide) ?_
    refine lv_aload_n hx hb dX11_force_13 rfl (lv_at hl 0 rfl) ?_
    refine va_get (D := (dC, dI)) (ci := 11) (v := .ref q2) (C := RX11) (T := TX11) (N := 53) hx hb hz zi_X11 hown hK hP 0 rfl rfl 3 (by decide) (hz _ zw_1168) (fun _ h9 => h9) rfl dX11_force_14 ?_
    refine lv_iconst (v := Int32.ofInt 3) hx hb dX11_force_17 rfl ?_
    refine xi_iald hx hb hK hP 2 0 rfl rfl dX11_force_18 hf (fun v2 hf => ?_)
    refine xi_i2l hx hb dX11_force_19 hf (fun v3 hf => ?_)
    refine lv_lconst (v := Int64.ofInt 1) hx hb dX11_force_20 (by decide) ?_
    refine xl_lsub hx hb dX11_force_21 hf (fun v4 hf => ?_)
    refine xe_d1 hf (fun v5 hg hf => ?_)
    have hC : ([] : List Nat).map (fun i => (wd_HM_force cA q0 q1 q2 q3 q4 q5 q6 q7 q8 q9 q10 q11 q12 q13 q14 q15 q16 q17 q18 q19 q20 q21 q22 q23 q24 q25 q26 q27 q28 q29 q30 q31 u0 u1 u2 u3 u4 u5 u6 u7 u8 u9 u10 u11 u12 u13 u14 u15 u16 u17 u18 u19 0 i_status i_refusals i_row)[i]?) = (wd_HM_in cA).map some := rfl
    refine xv_afterI (ws' := (wd_HM_force cA q0 q1 q2 q3 q4 q5 q6 q7 q8 q9 q10 q11 q12 q13 q14 q15 q16 q17 q18 q19 q20 q21 q22 q23 q24 q25 q26 q27 q28 q29 q30 q31 u0 u1 u2 u3 u4 u5 u6 u7 u8 u9 u10 u11 u12 u13 u14 u15 u16 u17 u18 u19 0 i_status i_refusals i_row)) (isC := []) (ps := [none, none, none]) (va_runS (As := [.long (Int64.ofInt v1), .long (Int64.ofInt 0), .long (Int64.ofInt v4)]) (rest := []) ⟨hx, hb, hml, hown, hts⟩ (c_HM_in l ev dC dI cA hg H.size) (va_cwS 3 hts (zgS zw_1329 zw_1330 zw_115 zw_1331) rfl rfl rfl hd_HM_in.2 ⟨Nat.le_of_ble_eq_true rfl, Nat.le_of_ble_eq_true rfl⟩) (xv_preS hE hA hS hK hP hD (isC := []) (by decide +kernel) hC) rfl rfl hl.1 rfl (lv_room (Nat.le_of_ble_eq_true rfl)) dX11_force_22 ⟨Nat.le_refl _, Nat.le_refl _⟩) hP hD hS hA (by decide +kernel) rfl hC rfl rfl (fun H locs hP hD hS => ?_)
    refine xi_if_eq (tgt := 37) hx hb dX11_force_25 (by decide) hf (fun hf => ?_) (fun hf => ?_)
    · refine lv_aload_n hx hb dX11_force_37 rfl (lv_at hl 0 rfl) ?_
      refine lv_bipush (v := Int32.ofInt (-2)) hx hb dX11_force_38 (by decide) ?_
      refine xe_d3 hf (fun v6 v7 a8 hg hf => ?_)
      have hC : ([0, 1] : List Nat).map (fun i => (wd_HM_force cA q0 q1 q2 q3 q4 q5 q6 q7 q8 q9 q10 q11 q12 q13 q14 q15 q16 q17 q18 q19 q20 q21 q22 q23 q24 q25 q26 q27 q28 q29 q30 q31 u0 u1 u2 u3 u4 u5 u6 u7 u8 u9 u10 u11 u12 u13 u14 u15 u16 u17 u18 u19 0 i_status i_refusals i_row)[i]?) = (wd_HM_tell cA q0 q1 q2 q3 q4 q5 q6 q7 q8 q9 q10 q11 q12 q13 q14 q15 q16 q17 q18 q19 q20 q21 q22 q23 q24 q25 q26 q27 q28 q29 q30 q31 0 u0 u1 u2 u3 u4 u5 u6 u7 u8 u9 u10 u11 u12 u13 u14 u15 u16 u17 u18 u19 i_status i_refusals).map some := rfl
      refine xv_afterI (ws' := (wd_HM_force cA q0 q1 q2 q3 q4 q5 q6 q7 q8 q9 q10 q11 q12 q13 q14 q15 q16 q17 q18 q19 q20 q21 q22 q23 q24 q25 q26 q27 q28 q29 q30 q31 u0 u1 u2 u3 u4 u5 u6 u7 u8 u9 u10 u11 u12 u13 u14 u15 u16 u17 u18 u19 0 v7 a8 i_row)) (isC := [0, 1]) (ps := [some 0, some 1, none]) (va_runV (As := [.int (Int32.ofInt (-2))]) (rest := []) ⟨hx, hb, hml, hown, hts⟩ (c_HM_tell l ev dC dI cA q0 q1 q2 q3 q4 q5 q6 q7 q8 q9 q10 q11 q12 q13 q14 q15 q16 q17 q18 q19 q20 q21 q22 q23 q24 q25 q26 q27 q28 q29 q30 q31 0 u0 u1 u2 u3 u4 u5 u6 u7 u8 u9 u10 u11 u12 u13 u14 u15 u16 u17 u18 u19 hg H.size) (cwV 1 hts (zgV zw_1332 zw_1334 zw_40 zw_115 zw_1335) rfl rfl rfl hd_HM_tell ⟨Nat.le_of_ble_eq_true rfl, Nat.le_of_ble_eq_true rfl⟩) (xv_preV (T := TX11) (N := 53) hE hA hS hK hP hD (isC := [0, 1]) (by decide +kernel) hC (q0 := 0) (ci := 11) rfl rfl) rfl rfl hl.1 rfl (lv_room (Nat.le_of_ble_eq_true rfl)) dX11_force_40 ⟨Nat.le_refl _, Nat.le_refl _⟩) hP hD hS hA (by decide +kernel) rfl hC rfl rfl (fun H locs hP hD hS => ?_)
      obtain rfl := Option.some.inj hf
      exact hret _ _ _ _ rfl dX11_force_43 hP hD hS
    · exact b_28  _ _ _ _ _ _ _ _ hf hP hD hS (lv_sub hl [0, 1] rfl)
theorem dX11_are_0 : decode cX11_are 0 = .ok (.aload_n 0, 1) := by decide +kernel
theorem dX11_are_1 : decode cX11_are 1 = .ok (.iload_n 1, 1) := by decide +kernel
theorem dX11_are_2 : decode cX11_are 2 = .ok (.invokevirtual 155, 3) := by decide +kernel
theorem dX11_are_5 : decode cX11_are 5 = .ok (.ifCond .eq 23, 3) := by decide +kernel
theorem dX11_are_8 : decode cX11_are 8 = .ok (.aload_n 0, 1) := by decide +kernel
theorem dX11_are_9 : decode cX11_are 9 = .ok (.iload_n 2, 1) := by decide +kernel
theorem dX11_are_10 : decode cX11_are 10 = .ok (.invokevirtual 150, 3) := by decide +kernel
theorem dX11_are_13 : decode cX11_are 13 = .ok (.ifCond .eq 15, 3) := by decide +kernel
theorem dX11_are_16 : decode cX11_are 16 = .ok (.aload_n 0, 1) := by decide +kernel
theorem dX11_are_17 : decode cX11_are 17 = .ok (.iload_n 3, 1) := by decide +kernel
theorem dX11_are_18 : decode cX11_are 18 = .ok (.invokevirtual 150, 3) := by decide +kernel
theorem dX11_are_21 : decode cX11_are 21 = .ok (.ifCond .eq 7, 3) := by decide +kernel
theorem dX11_are_24 : decode cX11_are 24 = .ok (.iconst 1, 1) := by decide +kernel
theorem dX11_are_25 : decode cX11_are 25 = .ok (.goto 4, 3) := by decide +kernel
theorem dX11_are_28 : decode cX11_are 28 = .ok (.iconst 0, 1) := by decide +kernel
theorem dX11_are_29 : decode cX11_are 29 = .ok (.ireturn, 1) := by decide +kernel
theorem zw_1548 : (Jvm.Cond.code ({ cls := "HillSchoolModel", name := "are", desc := "(III)Z" } : Jvm.MethodName) prog_13_method_65_code (4 : Nat) (Option.some Jvm.ClassFile.FieldType.boolean)) ∈ zall := zmemG (zmj_7 5 rfl) rfl
abbrev w_HM_are : List Cond := .code yX11_are cX11_are 4 (some .boolean) :: zall
abbrev rm_HM_are : Room := { frames := 2, cells := 0, slots := 0, locals := 46 }
theorem hd_HM_are : yX11_are.cls = "HillSchoolModel" ∧ yX11_are.cls ≠ "java/lang/invoke/MethodHandle" ∧ yX11_are.cls ≠ "java/lang/invoke/VarHandle" ∧ (parseMethodDescriptor yX11_are.desc).map (fun d => d.parameters.length) = some 3 := by decide +kernel
def wd_HM_are (cA : Nat → ClassId) (q0 q1 q2 q3 q4 q5 q6 q7 q8 q9 q10 q11 q12 q13 q14 q15 q16 q17 q18 q19 q20 q21 q22 q23 q24 q25 q26 q27 q28 q29 q30 q31 : Nat) (u0 u1 u2 u3 u4 u5 u6 u7 u8 u9 u10 u11 u12 u13 u14 u15 u16 u17 u18 u19 u20 u21 : Int) (i_row : Nat → Int)  : va_W := [(q0, .inr (11, [.int (Int32.ofInt u0), .int (Int32.ofInt u1), .ref q1, .ref q2, .ref q3, .ref q4, .int (Int32.ofInt u2), .ref q5, .int (Int32.ofInt u3), .int (Int32.ofInt u4), .int (Int32.ofInt u5), .int (Int32.ofInt u6), .long (Int64.ofInt u7), .int (Int32.ofInt u8), .int (Int32.ofInt u9), .int (Int32.ofInt u10), .ref q6, .int (Int32.ofInt u11), .ref q7, .ref q8, .int (Int32.ofInt u12), .ref q9, .ref q10, .int (Int32.ofInt u13), .int (Int32.ofInt u14), .ref q11, .int (Int32.ofInt u15), .ref q12, .ref q13, .int (Int32.ofInt u16), .long (Int64.ofInt u17), .long (Int64.ofInt u18), .ref q14, .ref q15, .ref q16, .ref q17, .ref q18, .int (Int32.ofInt u19), .ref q19, .ref q20, .ref q21, .ref q22, .ref q23, .ref q24, .ref q25, .ref q26, .ref q27, .ref q28, .ref q29, .ref q30, .long (Int64.ofInt u20), .ref q31, .int (Int32.ofInt u21)])), (q2, .inl (cA 0, 5580, .inl (za i_row)))]
def wf_HM_are (cA : Nat → ClassId) (q0 q1 q2 q3 q4 q5 q6 q7 q8 q9 q10 q11 q12 q13 q14 q15 q16 q17 q18 q19 q20 q21 q22 q23 q24 q25 q26 q27 q28 q29 q30 q31 : Nat) (u0 u1 u2 u3 u4 u5 u6 u7 u8 u9 u10 u11 u12 u13 u14 u15 u16 u17 u18 u19 u20 u21 : Int) (i_row : Nat → Int) (o : Int) : va_W := wd_HM_are cA q0 q1 q2 q3 q4 q5 q6 q7 q8 q9 q10 q11 q12 q13 q14 q15 q16 q17 q18 q19 q20 q21 q22 q23 q24 q25 q26 q27 q28 q29 q30 q31 u0 u1 u2 u3 u4 u5 u6 u7 u8 u9 u10 u11 u12 u13 u14 u15 u16 u17 u18 u19 u20 u21 i_row
def f_HM_are (x1 : Int) (x2 : Int) (x3 : Int) (i_row : Nat → Int) : Option (Int) :=
  zd1 (f_HM_isChild x1 i_row) fun v1 =>
  if zi_w v1 = 0 then
    some 0
  else
    zd1 (f_HM_isColumn x2 i_row) fun v2 =>
    if zi_w v2 = 0 then
      some 0
    else
      zd1 (f_HM_isColumn x3 i_row) fun v3 =>
      if zi_w v3 = 0 then
        some 0
      else
        some 1
set_option maxHeartbeats 4000000 in
set_option maxRecDepth 100000 in
theorem c_HM_are (l : Launch) (ev : zEv) (dC : Nat → ClassId) (dI : Nat → Nat → Nat) (cA : Nat → ClassId) (q0 q1 q2 q3 q4 q5 q6 q7 q8 q9 q10 q11 q12 q13 q14 q15 q16 q17 q18 q19 q20 q21 q22 q23 q24 q25 q26 q27 q28 q29 q30 q31 : Nat) (u0 u1 u2 u3 u4 u5 u6 u7 u8 u9 u10 u11 u12 u13 u14 u15 u16 u17 u18 u19 u20 u21 : Int) {x1 x2 x3 : Int} {i_row : Nat → Int} {out : Int} (hf : f_HM_are x1 x2 x3 i_row = some out) : xc_I l ev (dC, dI) vwCl (tyl cA) yX11_are w_HM_are rm_HM_are [.ref q0, .int (Int32.ofInt x1), .int (Int32.ofInt x2), .int (Int32.ofInt x3)] (wd_HM_are cA q0 q1 q2 q3 q4 q5 q6 q7 q8 q9 q10 q11 q12 q13 q14 q15 q16 q17 q18 q19 q20 q21 q22 q23 q24 q25 q26 q27 q28 q29 q30 q31 u0 u1 u2 u3 u4 u5 u6 u7 u8 u9 u10 u11 u12 u13 u14 u15 u16 u17 u18 u19 u20 u21 i_row) (wf_HM_are cA q0 q1 q2 q3 q4 q5 q6 q7 q8 q9 q10 q11 q12 q13 q14 q15 q16 q17 q18 q19 q20 q21 q22 q23 q24 q25 q26 q27 q28 q29 q30 q31 u0 u1 u2 u3 u4 u5 u6 u7 u8 u9 u10 u11 u12 u13 u14 u15 u16 u17 u18 u19 u20 u21 i_row out) out := by
  refine xv_startI (cc := cX11_are) (maxL := 4) (rt := .boolean) (by decide +kernel) rfl (Nat.le_of_ble_eq_true rfl) ?_
  intro p e s m args below meth c A Q H ls hx hb hml hts hown hK hA hP hD hS hl hE hret
  have hown : s.vm.findClass "HillSchoolModel" = some m.cls := hown
  have hz : ∀ w ∈ zall, w.before args s = true := fun w h => hts w (List.mem_cons_of_mem _ h)
  have hl : lv_has ls 4 [(0, .ref q0), (1, .int (Int32.ofInt x1)), (2, .int (Int32.ofInt x2)), (3, .int (Int32.ofInt x3))] := hl
  unfold f_HM_are at hf
  refine lv_aload_n hx hb dX11_are_0 rfl (lv_at hl 0 rfl) ?_
  refine lv_iload_n hx hb dX11_are_1 rfl (lv_at hl 1 rfl) ?_
  refine xe_d1 hf (fun v1 hg hf => ?_)
  have hC : ([0, 1] : List Nat).map (fun i => (wd_HM_are cA q0 q1 q2 q3 q4 q5 q6 q7 q8 q9 q10 q11 q12 q13 q14 q15 q16 q17 q18 q19 q20 q21 q22 q23 q24 q25 q26 q27 q28 q29 q30 q31 u0 u1 u2 u3 u4 u5 u6 u7 u8 u9 u10 u11 u12 u13 u14 u15 u16 u17 u18 u19 u20 u21 i_row)[i]?) = (wd_HM_isChild cA q0 q1 q2 q3 q4 q5 q6 q7 q8 q9 q10 q11 q12 q13 q14 q15 q16 q17 q18 q19 q20 q21 q22 q23 q24 q25 q26 q27 q28 q29 q30 q31 u0 u1 u2 u3 u4 u5 u6 u7 u8 u9 u10 u11 u12 u13 u14 u15 u16 u17 u18 u19 u20 u21 i_row).map some := rfl
  refine xv_afterI (ws' := (wd_HM_are cA q0 q1 q2 q3 q4 q5 q6 q7 q8 q9 q10 q11 q12 q13 q14 q15 q16 q17 q18 q19 q20 q21 q22 q23 q24 q25 q26 q27 q28 q29 q30 q31 u0 u1 u2 u3 u4 u5 u6 u7 u8 u9 u10 u11 u12 u13 u14 u15 u16 u17 u18 u19 u20 u21 i_row)) (isC := [0, 1]) (ps := [some 0, some 1]) (va_runV (As := [.int (Int32.ofInt x1)]) (rest := []) ⟨hx, hb, hml, hown, hts⟩ (c_HM_isChild l ev dC dI cA q0 q1 q2 q3 q4 q5 q6 q7 q8 q9 q10 q11 q12 q13 q14 q15 q16 q17 q18 q19 q20 q21 q22 q23 q24 q25 q26 q27 q28 q29 q30 q31 u0 u1 u2 u3 u4 u5 u6 u7 u8 u9 u10 u11 u12 u13 u14 u15 u16 u17 u18 u19 u20 u21 hg H.size) (cwV 1 hts (zgV zw_1381 zw_1383 zw_43 zw_115 zw_1384) rfl rfl rfl hd_HM_isChild ⟨Nat.le_of_ble_eq_true rfl, Nat.le_of_ble_eq_true rfl⟩) (xv_preV (T := TX11) (N := 53) hE hA hS hK hP hD (isC := [0, 1]) (by decide +kernel) hC (q0 := 0) (ci := 11) rfl rfl) rfl rfl hl.1 rfl (lv_room (Nat.le_of_ble_eq_true rfl)) dX11_are_2 ⟨Nat.le_refl _, Nat.le_refl _⟩) hP hD hS hA (by decide +kernel) rfl hC rfl rfl (fun H locs hP hD hS => ?_)
  refine xi_if_eq (tgt := 28) hx hb dX11_are_5 (by decide) hf (fun hf => ?_) (fun hf => ?_)
  · refine lv_iconst (v := Int32.ofInt 0) hx hb dX11_are_28 rfl ?_
    obtain rfl := Option.some.inj hf
    exact hret _ _ _ _ zz_b0 dX11_are_29 hP hD hS
  · refine lv_aload_n hx hb dX11_are_8 rfl (lv_at hl 0 rfl) ?_
    refine lv_iload_n hx hb dX11_are_9 rfl (lv_at hl 2 rfl) ?_
    refine xe_d1 hf (fun v2 hg hf => ?_)
    have hC : ([0, 1] : List Nat).map (fun i => (wd_HM_are cA q0 q1 q2 q3 q4 q5 q6 q7 q8 q9 q10 q11 q12 q13 q14 q15 q16 q17 q18 q19 q20 q21 q22 q23 q24 q25 q26 q27 q28 q29 q30 q31 u0 u1 u2 u3 u4 u5 u6 u7 u8 u9 u10 u11 u12 u13 u14 u15 u16 u17 u18 u19 u20 u21 i_row)[i]?) = (wd_HM_isColumn cA q0 q1 q2 q3 q4 q5 q6 q7 q8 q9 q10 q11 q12 q13 q14 q15 q16 q17 q18 q19 q20 q21 q22 q23 q24 q25 q26 q27 q28 q29 q30 q31 u0 u1 u2 u3 u4 u5 u6 u7 u8 u9 u10 u11 u12 u13 u14 u15 u16 u17 u18 u19 u20 u21 i_row).map some := rfl
    refine xv_afterI (ws' := (wd_HM_are cA q0 q1 q2 q3 q4 q5 q6 q7 q8 q9 q10 q11 q12 q13 q14 q15 q16 q17 q18 q19 q20 q21 q22 q23 q24 q25 q26 q27 q28 q29 q30 q31 u0 u1 u2 u3 u4 u5 u6 u7 u8 u9 u10 u11 u12 u13 u14 u15 u16 u17 u18 u19 u20 u21 i_row)) (isC := [0, 1]) (ps := [some 0, some 1]) (va_runV (As := [.int (Int32.ofInt x2)]) (rest := []) ⟨hx, hb, hml, hown, hts⟩ (c_HM_isColumn l ev dC dI cA q0 q1 q2 q3 q4 q5 q6 q7 q8 q9 q10 q11 q12 q13 q14 q15 q16 q17 q18 q19 q20 q21 q22 q23 q24 q25 q26 q27 q28 q29 q30 q31 u0 u1 u2 u3 u4 u5 u6 u7 u8 u9 u10 u11 u12 u13 u14 u15 u16 u17 u18 u19 u20 u21 hg H.size) (cwV 1 hts (zgV zw_1356 zw_1358 zw_42 zw_115 zw_1359) rfl rfl rfl hd_HM_isColumn ⟨Nat.le_of_ble_eq_true rfl, Nat.le_of_ble_eq_true rfl⟩) (xv_preV (T := TX11) (N := 53) hE hA hS hK hP hD (isC := [0, 1]) (by decide +kernel) hC (q0 := 0) (ci := 11) rfl rfl) rfl rfl hl.1 rfl (lv_room (Nat.le_of_ble_eq_true rfl)) dX11_are_10 ⟨Nat.le_refl _, Nat.le_refl _⟩) hP hD hS hA (by decide +kernel) rfl hC rfl rfl (fun H locs hP hD hS => ?_)
    refine xi_if_eq (tgt := 28) hx hb dX11_are_13 (by decide) hf (fun hf => ?_) (fun hf => ?_)
    · refine lv_iconst (v := Int32.ofInt 0) hx hb dX11_are_28 rfl ?_
      obtain rfl := Option.some.inj hf
      exact hret _ _ _ _ zz_b0 dX11_are_29 hP hD hS
    · refine lv_aload_n hx hb dX11_are_16 rfl (lv_at hl 0 rfl) ?_
      refine lv_iload_n hx hb dX11_are_17 rfl (lv_at hl 3 rfl) ?_
      refine xe_d1 hf (fun v3 hg hf => ?_)
      have hC : ([0, 1] : List Nat).map (fun i => (wd_HM_are cA q0 q1 q2 q3 q4 q5 q6 q7 q8 q9 q10 q11 q12 q13 q14 q15 q16 q17 q18 q19 q20 q21 q22 q23 q24 q25 q26 q27 q28 q29 q30 q31 u0 u1 u2 u3 u4 u5 u6 u7 u8 u9 u10 u11 u12 u13 u14 u15 u16 u17 u18 u19 u20 u21 i_row)[i]?) = (wd_HM_isColumn cA q0 q1 q2 q3 q4 q5 q6 q7 q8 q9 q10 q11 q12 q13 q14 q15 q16 q17 q18 q19 q20 q21 q22 q23 q24 q25 q26 q27 q28 q29 q30 q31 u0 u1 u2 u3 u4 u5 u6 u7 u8 u9 u10 u11 u12 u13 u14 u15 u16 u17 u18 u19 u20 u21 i_row).map some := rfl
      refine xv_afterI (ws' := (wd_HM_are cA q0 q1 q2 q3 q4 q5 q6 q7 q8 q9 q10 q11 q12 q13 q14 q15 q16 q17 q18 q19 q20 q21 q22 q23 q24 q25 q26 q27 q28 q29 q30 q31 u0 u1 u2 u3 u4 u5 u6 u7 u8 u9 u10 u11 u12 u13 u14 u15 u16 u17 u18 u19 u20 u21 i_row)) (isC := [0, 1]) (ps := [some 0, some 1]) (va_runV (As := [.int (Int32.ofInt x3)]) (rest := []) ⟨hx, hb, hml, hown, hts⟩ (c_HM_isColumn l ev dC dI cA q0 q1 q2 q3 q4 q5 q6 q7 q8 q9 q10 q11 q12 q13 q14 q15 q16 q17 q18 q19 q20 q21 q22 q23 q24 q25 q26 q27 q28 q29 q30 q31 u0 u1 u2 u3 u4 u5 u6 u7 u8 u9 u10 u11 u12 u13 u14 u15 u16 u17 u18 u19 u20 u21 hg H.size) (cwV 1 hts (zgV zw_1356 zw_1358 zw_42 zw_115 zw_1359) rfl rfl rfl hd_HM_isColumn ⟨Nat.le_of_ble_eq_true rfl, Nat.le_of_ble_eq_true rfl⟩) (xv_preV (T := TX11) (N := 53) hE hA hS hK hP hD (isC := [0, 1]) (by decide +kernel) hC (q0 := 0) (ci := 11) rfl rfl) rfl rfl hl.1 rfl (lv_room (Nat.le_of_ble_eq_true rfl)) dX11_are_18 ⟨Nat.le_refl _, Nat.le_refl _⟩) hP hD hS hA (by decide +kernel) rfl hC rfl rfl (fun H locs hP hD hS => ?_)
      refine xi_if_eq (tgt := 28) hx hb dX11_are_21 (by decide) hf (fun hf => ?_) (fun hf => ?_)
      · refine lv_iconst (v := Int32.ofInt 0) hx hb dX11_are_28 rfl ?_
        obtain rfl := Option.some.inj hf
        exact hret _ _ _ _ zz_b0 dX11_are_29 hP hD hS
      · refine lv_iconst (v := Int32.ofInt 1) hx hb dX11_are_24 rfl ?_
        refine lv_goto (tgt := 29) hx hb dX11_are_25 (by decide) ?_
        obtain rfl := Option.some.inj hf
        exact hret _ _ _ _ zz_b1 dX11_are_29 hP hD hS
theorem dX11_top_0 : decode cX11_top 0 = .ok (.aload_n 0, 1) := by decide +kernel
theorem dX11_top_1 : decode cX11_top 1 = .ok (.getfield 71, 3) := by decide +kernel
theorem dX11_top_4 : decode cX11_top 4 = .ok (.iload_n 1, 1) := by decide +kernel
theorem dX11_top_5 : decode cX11_top 5 = .ok (.iaload, 1) := by decide +kernel
theorem dX11_top_6 : decode cX11_top 6 = .ok (.ifCond .ne 7, 3) := by decide +kernel
theorem dX11_top_9 : decode cX11_top 9 = .ok (.iconst 0, 1) := by decide +kernel
theorem dX11_top_10 : decode cX11_top 10 = .ok (.goto 21, 3) := by decide +kernel
theorem dX11_top_13 : decode cX11_top 13 = .ok (.aload_n 0, 1) := by decide +kernel
theorem dX11_top_14 : decode cX11_top 14 = .ok (.getfield 74, 3) := by decide +kernel
theorem dX11_top_17 : decode cX11_top 17 = .ok (.bipush 10, 2) := by decide +kernel
theorem dX11_top_19 : decode cX11_top 19 = .ok (.iload_n 1, 1) := by decide +kernel
theorem dX11_top_20 : decode cX11_top 20 = .ok (.imul, 1) := by decide +kernel
theorem dX11_top_21 : decode cX11_top 21 = .ok (.aload_n 0, 1) := by decide +kernel
theorem dX11_top_22 : decode cX11_top 22 = .ok (.getfield 71, 3) := by decide +kernel
theorem dX11_top_25 : decode cX11_top 25 = .ok (.iload_n 1, 1) := by decide +kernel
theorem dX11_top_26 : decode cX11_top 26 = .ok (.iaload, 1) := by decide +kernel
theorem dX11_top_27 : decode cX11_top 27 = .ok (.iadd, 1) := by decide +kernel
theorem dX11_top_28 : decode cX11_top 28 = .ok (.iconst 1, 1) := by decide +kernel
theorem dX11_top_29 : decode cX11_top 29 = .ok (.isub, 1) := by decide +kernel
theorem dX11_top_30 : decode cX11_top 30 = .ok (.iaload, 1) := by decide +kernel
theorem dX11_top_31 : decode cX11_top 31 = .ok (.ireturn, 1) := by decide +kernel
theorem zw_1197 : (Jvm.Cond.fieldLink "HillSchoolModel" (71 : Nat) "HillSchoolModel" "high" "[I") ∈ zall := zmemG (zmj_5 134 rfl) rfl
theorem zw_1198 : (Jvm.Cond.fieldLink "HillSchoolModel" (74 : Nat) "HillSchoolModel" "heaps" "[I") ∈ zall := zmemG (zmj_5 135 rfl) rfl
theorem zw_1560 : (Jvm.Cond.code ({ cls := "HillSchoolModel", name := "top", desc := "(I)I" } : Jvm.MethodName) prog_13_method_62_code (2 : Nat) (Option.some Jvm.ClassFile.FieldType.int)) ∈ zall := zmemG (zmj_7 17 rfl) rfl
abbrev w_HM_top : List Cond := .code yX11_top cX11_top 2 (some .int) :: zall
abbrev rm_HM_top : Room := { frames := 0, cells := 0, slots := 0, locals := 0 }
theorem hd_HM_top : yX11_top.cls = "HillSchoolModel" ∧ yX11_top.cls ≠ "java/lang/invoke/MethodHandle" ∧ yX11_top.cls ≠ "java/lang/invoke/VarHandle" ∧ (parseMethodDescriptor yX11_top.desc).map (fun d => d.parameters.length) = some 1 := by decide +kernel
def wd_HM_top (cA : Nat → ClassId) (q0 q1 q2 q3 q4 q5 q6 q7 q8 q9 q10 q11 q12 q13 q14 q15 q16 q17 q18 q19 q20 q21 q22 q23 q24 q25 q26 q27 q28 q29 q30 q31 : Nat) (u0 u1 u2 u3 u4 u5 u6 u7 u8 u9 u10 u11 u12 u13 u14 u15 u16 u17 u18 u19 u20 u21 : Int) (i_high : Nat → Int) (i_heaps : Nat → Int)  : va_W := [(q0, .inr (11, [.int (Int32.ofInt u0), .int (Int32.ofInt u1), .ref q1, .ref q2, .ref q3, .ref q4, .int (Int32.ofInt u2), .ref q5, .int (Int32.ofInt u3), .int (Int32.ofInt u4), .int (Int32.ofInt u5), .int (Int32.ofInt u6), .long (Int64.ofInt u7), .int (Int32.ofInt u8), .int (Int32.ofInt u9), .int (Int32.ofInt u10), .ref q6, .int (Int32.ofInt u11), .ref q7, .ref q8, .int (Int32.ofInt u12), .ref q9, .ref q10, .int (Int32.ofInt u13), .int (Int32.ofInt u14), .ref q11, .int (Int32.ofInt u15), .ref q12, .ref q13, .int (Int32.ofInt u16), .long (Int64.ofInt u17), .long (Int64.ofInt u18), .ref q14, .ref q15, .ref q16, .ref q17, .ref q18, .int (Int32.ofInt u19), .ref q19, .ref q20, .ref q21, .ref q22, .ref q23, .ref q24, .ref q25, .ref q26, .ref q27, .ref q28, .ref q29, .ref q30, .long (Int64.ofInt u20), .ref q31, .int (Int32.ofInt u21)])), (q14, .inl (cA 0, 12, .inl (za i_high))), (q15, .inl (cA 0, 120, .inl (za i_heaps)))]
def wf_HM_top (cA : Nat → ClassId) (q0 q1 q2 q3 q4 q5 q6 q7 q8 q9 q10 q11 q12 q13 q14 q15 q16 q17 q18 q19 q20 q21 q22 q23 q24 q25 q26 q27 q28 q29 q30 q31 : Nat) (u0 u1 u2 u3 u4 u5 u6 u7 u8 u9 u10 u11 u12 u13 u14 u15 u16 u17 u18 u19 u20 u21 : Int) (i_high : Nat → Int) (i_heaps : Nat → Int) (o : Int) : va_W := wd_HM_top cA q0 q1 q2 q3 q4 q5 q6 q7 q8 q9 q10 q11 q12 q13 q14 q15 q16 q17 q18 q19 q20 q21 q22 q23 q24 q25 q26 q27 q28 q29 q30 q31 u0 u1 u2 u3 u4 u5 u6 u7 u8 u9 u10 u11 u12 u13 u14 u15 u16 u17 u18 u19 u20 u21 i_high i_heaps
def f_HM_top (x1 : Int) (i_high : Nat → Int) (i_heaps : Nat → Int) : Option (Int) :=
  zg 12 i_high x1 fun v1 =>
  if zi_w v1 ≠ 0 then
    zn (10 * x1) fun v2 =>
    zg 12 i_high x1 fun v3 =>
    zn (v2 + v3) fun v4 =>
    zn (v4 - 1) fun v5 =>
    zg 120 i_heaps v5 fun v6 =>
    some v6
  else
    some 0
set_option maxHeartbeats 4000000 in
set_option maxRecDepth 100000 in
theorem c_HM_top (l : Launch) (ev : zEv) (dC : Nat → ClassId) (dI : Nat → Nat → Nat) (cA : Nat → ClassId) (q0 q1 q2 q3 q4 q5 q6 q7 q8 q9 q10 q11 q12 q13 q14 q15 q16 q17 q18 q19 q20 q21 q22 q23 q24 q25 q26 q27 q28 q29 q30 q31 : Nat) (u0 u1 u2 u3 u4 u5 u6 u7 u8 u9 u10 u11 u12 u13 u14 u15 u16 u17 u18 u19 u20 u21 : Int) {x1 : Int} {i_high : Nat → Int} {i_heaps : Nat → Int} {out : Int} (hf : f_HM_top x1 i_high i_heaps = some out) : xc_I l ev (dC, dI) vwCl (tyl cA) yX11_top w_HM_top rm_HM_top [.ref q0, .int (Int32.ofInt x1)] (wd_HM_top cA q0 q1 q2 q3 q4 q5 q6 q7 q8 q9 q10 q11 q12 q13 q14 q15 q16 q17 q18 q19 q20 q21 q22 q23 q24 q25 q26 q27 q28 q29 q30 q31 u0 u1 u2 u3 u4 u5 u6 u7 u8 u9 u10 u11 u12 u13 u14 u15 u16 u17 u18 u19 u20 u21 i_high i_heaps) (wf_HM_top cA q0 q1 q2 q3 q4 q5 q6 q7 q8 q9 q10 q11 q12 q13 q14 q15 q16 q17 q18 q19 q20 q21 q22 q23 q24 q25 q26 q27 q28 q29 q30 q31 u0 u1 u2 u3 u4 u5 u6 u7 u8 u9 u10 u11 u12 u13 u14 u15 u16 u17 u18 u19 u20 u21 i_high i_heaps out) out := by
  refine xv_startI (cc := cX11_top) (maxL := 2) (rt := .int) (by decide +kernel) rfl (Nat.le_of_ble_eq_true rfl) ?_
  intro p e s m args below meth c A Q H ls hx hb hml hts hown hK hA hP hD hS hl hE hret
  have hown : s.vm.findClass "HillSchoolModel" = some m.cls := hown
  have hz : ∀ w ∈ zall, w.before args s = true := fun w h => hts w (List.mem_cons_of_mem _ h)
  have hl : lv_has ls 2 [(0, .ref q0), (1, .int (Int32.ofInt x1))] := hl
  unfold f_HM_top at hf
  refine lv_aload_n hx hb dX11_top_0 rfl (lv_at hl 0 rfl) ?_
  refine va_get (D := (dC, dI)) (ci := 11) (v := .ref q14) (C := RX11) (T := TX11) (N := 53) hx hb hz zi_X11 hown hK hP 0 rfl rfl 32 (by decide) (hz _ zw_1197) (fun _ h9 => h9) rfl dX11_top_1 ?_
  refine lv_iload_n hx hb dX11_top_4 rfl (lv_at hl 1 rfl) ?_
  refine xi_iald hx hb hK hP 1 0 rfl rfl dX11_top_5 hf (fun v1 hf => ?_)
  refine xi_if_ne (tgt := 13) hx hb dX11_top_6 (by decide) hf (fun hf => ?_) (fun hf => ?_)
  · refine lv_aload_n hx hb dX11_top_13 rfl (lv_at hl 0 rfl) ?_
    refine va_get (D := (dC, dI)) (ci := 11) (v := .ref q15) (C := RX11) (T := TX11) (N := 53) hx hb hz zi_X11 hown hK hP 0 rfl rfl 33 (by decide) (hz _ zw_1198) (fun _ h9 => h9) rfl dX11_top_14 ?_
    refine lv_bipush (v := Int32.ofInt 10) hx hb dX11_top_17 (by decide) ?_
    refine lv_iload_n hx hb dX11_top_19 rfl (lv_at hl 1 rfl) ?_
    refine xi_imul hx hb dX11_top_20 hf (fun v2 hf => ?_)
    refine lv_aload_n hx hb dX11_top_21 rfl (lv_at hl 0 rfl) ?_
    refine va_get (D := (dC, dI)) (ci := 11) (v := .ref q14) (C := RX11) (T := TX11) (N := 53) hx hb hz zi_X11 hown hK hP 0 rfl rfl 32 (by decide) (hz _ zw_1197) (fun _ h9 => h9) rfl dX11_top_22 ?_
    refine lv_iload_n hx hb dX11_top_25 rfl (lv_at hl 1 rfl) ?_
    refine xi_iald hx hb hK hP 1 0 rfl rfl dX11_top_26 hf (fun v3 hf => ?_)
    refine xi_iadd hx hb dX11_top_27 hf (fun v4 hf => ?_)
    refine lv_iconst (v := Int32.ofInt 1) hx hb dX11_top_28 rfl ?_
    refine xi_isub hx hb dX11_top_29 hf (fun v5 hf => ?_)
    refine xi_iald hx hb hK hP 2 0 rfl rfl dX11_top_30 hf (fun v6 hf => ?_)
    obtain rfl := Option.some.inj hf
    exact hret _ _ _ _ rfl dX11_top_31 hP hD hS
  · refine lv_iconst (v := Int32.ofInt 0) hx hb dX11_top_9 rfl ?_
    refine lv_goto (tgt := 31) hx hb dX11_top_10 (by decide) ?_
    obtain rfl := Option.some.inj hf
    exact hret _ _ _ _ rfl dX11_top_31 hP hD hS
theorem dX11_reckon_0 : decode cX11_reckon 0 = .ok (.iload_n 1, 1) := by decide +kernel
theorem dX11_reckon_1 : decode cX11_reckon 1 = .ok (.tableswitch 112 20 25 #[39, 44, 49, 54, 86, 99], 39) := by decide +kernel
theorem dX11_reckon_40 : decode cX11_reckon 40 = .ok (.lload_n 2, 1) := by decide +kernel
theorem dX11_reckon_41 : decode cX11_reckon 41 = .ok (.lload 4, 2) := by decide +kernel
theorem dX11_reckon_43 : decode cX11_reckon 43 = .ok (.ladd, 1) := by decide +kernel
theorem dX11_reckon_44 : decode cX11_reckon 44 = .ok (.lreturn, 1) := by decide +kernel
theorem dX11_reckon_45 : decode cX11_reckon 45 = .ok (.lload_n 2, 1) := by decide +kernel
theorem dX11_reckon_46 : decode cX11_reckon 46 = .ok (.lload 4, 2) := by decide +kernel
theorem dX11_reckon_48 : decode cX11_reckon 48 = .ok (.lsub, 1) := by decide +kernel
theorem dX11_reckon_49 : decode cX11_reckon 49 = .ok (.lreturn, 1) := by decide +kernel
theorem dX11_reckon_50 : decode cX11_reckon 50 = .ok (.lload_n 2, 1) := by decide +kernel
theorem dX11_reckon_51 : decode cX11_reckon 51 = .ok (.lload 4, 2) := by decide +kernel
theorem dX11_reckon_53 : decode cX11_reckon 53 = .ok (.lmul, 1) := by decide +kernel
theorem dX11_reckon_54 : decode cX11_reckon 54 = .ok (.lreturn, 1) := by decide +kernel
theorem dX11_reckon_55 : decode cX11_reckon 55 = .ok (.aload_n 0, 1) := by decide +kernel
theorem dX11_reckon_56 : decode cX11_reckon 56 = .ok (.lload 4, 2) := by decide +kernel
theorem dX11_reckon_58 : decode cX11_reckon 58 = .ok (.lconst 0, 1) := by decide +kernel
theorem dX11_reckon_59 : decode cX11_reckon 59 = .ok (.lcmp, 1) := by decide +kernel
theorem dX11_reckon_60 : decode cX11_reckon 60 = .ok (.ifCond .ne 7, 3) := by decide +kernel
theorem dX11_reckon_63 : decode cX11_reckon 63 = .ok (.iconst 1, 1) := by decide +kernel
theorem dX11_reckon_64 : decode cX11_reckon 64 = .ok (.goto 4, 3) := by decide +kernel
theorem dX11_reckon_67 : decode cX11_reckon 67 = .ok (.iconst 0, 1) := by decide +kernel
theorem dX11_reckon_68 : decode cX11_reckon 68 = .ok (.putfield 320, 3) := by decide +kernel
theorem dX11_reckon_71 : decode cX11_reckon 71 = .ok (.aload_n 0, 1) := by decide +kernel
theorem dX11_reckon_72 : decode cX11_reckon 72 = .ok (.getfield 320, 3) := by decide +kernel
theorem dX11_reckon_75 : decode cX11_reckon 75 = .ok (.ifCond .eq 7, 3) := by decide +kernel
theorem dX11_reckon_78 : decode cX11_reckon 78 = .ok (.lconst 0, 1) := by decide +kernel
theorem dX11_reckon_79 : decode cX11_reckon 79 = .ok (.goto 7, 3) := by decide +kernel
theorem dX11_reckon_82 : decode cX11_reckon 82 = .ok (.lload_n 2, 1) := by decide +kernel
theorem dX11_reckon_83 : decode cX11_reckon 83 = .ok (.lload 4, 2) := by decide +kernel
theorem dX11_reckon_85 : decode cX11_reckon 85 = .ok (.ldiv, 1) := by decide +kernel
theorem dX11_reckon_86 : decode cX11_reckon 86 = .ok (.lreturn, 1) := by decide +kernel
theorem dX11_reckon_87 : decode cX11_reckon 87 = .ok (.lload_n 2, 1) := by decide +kernel
theorem dX11_reckon_88 : decode cX11_reckon 88 = .ok (.lload 4, 2) := by decide +kernel
theorem dX11_reckon_90 : decode cX11_reckon 90 = .ok (.lcmp, 1) := by decide +kernel
theorem dX11_reckon_91 : decode cX11_reckon 91 = .ok (.ifCond .ge 7, 3) := by decide +kernel
theorem dX11_reckon_94 : decode cX11_reckon 94 = .ok (.lconst 1, 1) := by decide +kernel
theorem dX11_reckon_95 : decode cX11_reckon 95 = .ok (.goto 4, 3) := by decide +kernel
theorem dX11_reckon_98 : decode cX11_reckon 98 = .ok (.lconst 0, 1) := by decide +kernel
theorem dX11_reckon_99 : decode cX11_reckon 99 = .ok (.lreturn, 1) := by decide +kernel
theorem dX11_reckon_100 : decode cX11_reckon 100 = .ok (.lload_n 2, 1) := by decide +kernel
theorem dX11_reckon_101 : decode cX11_reckon 101 = .ok (.lload 4, 2) := by decide +kernel
theorem dX11_reckon_103 : decode cX11_reckon 103 = .ok (.lcmp, 1) := by decide +kernel
theorem dX11_reckon_104 : decode cX11_reckon 104 = .ok (.ifCond .le 7, 3) := by decide +kernel
theorem dX11_reckon_107 : decode cX11_reckon 107 = .ok (.lconst 1, 1) := by decide +kernel
theorem dX11_reckon_108 : decode cX11_reckon 108 = .ok (.goto 4, 3) := by decide +kernel
theorem dX11_reckon_111 : decode cX11_reckon 111 = .ok (.lconst 0, 1) := by decide +kernel
theorem dX11_reckon_112 : decode cX11_reckon 112 = .ok (.lreturn, 1) := by decide +kernel
theorem dX11_reckon_113 : decode cX11_reckon 113 = .ok (.lload_n 2, 1) := by decide +kernel
theorem dX11_reckon_114 : decode cX11_reckon 114 = .ok (.lload 4, 2) := by decide +kernel
theorem dX11_reckon_116 : decode cX11_reckon 116 = .ok (.lcmp, 1) := by decide +kernel
theorem dX11_reckon_117 : decode cX11_reckon 117 = .ok (.ifCond .ne 7, 3) := by decide +kernel
theorem dX11_reckon_120 : decode cX11_reckon 120 = .ok (.lconst 1, 1) := by decide +kernel
theorem dX11_reckon_121 : decode cX11_reckon 121 = .ok (.goto 4, 3) := by decide +kernel
theorem dX11_reckon_124 : decode cX11_reckon 124 = .ok (.lconst 0, 1) := by decide +kernel
theorem dX11_reckon_125 : decode cX11_reckon 125 = .ok (.lreturn, 1) := by decide +kernel
theorem zw_1194 : (Jvm.Cond.fieldLink "HillSchoolModel" (320 : Nat) "HillSchoolModel" "broken" "Z") ∈ zall := zmemG (zmj_5 131 rfl) rfl
theorem zw_1579 : (Jvm.Cond.code ({ cls := "HillSchoolModel", name := "reckon", desc := "(IJJ)J" } : Jvm.MethodName) prog_13_method_56_code (6 : Nat) (Option.some Jvm.ClassFile.FieldType.long)) ∈ zall := zmemG (zmj_7 36 rfl) rfl
abbrev w_HM_reckon : List Cond := .code yX11_reckon cX11_reckon 6 (some .long) :: zall
abbrev rm_HM_reckon : Room := { frames := 0, cells := 0, slots := 0, locals := 0 }
theorem hd_HM_reckon : yX11_reckon.cls = "HillSchoolModel" ∧ yX11_reckon.cls ≠ "java/lang/invoke/MethodHandle" ∧ yX11_reckon.cls ≠ "java/lang/invoke/VarHandle" ∧ (parseMethodDescriptor yX11_reckon.desc).map (fun d => d.parameters.length) = some 3 := by decide +kernel
def wd_HM_reckon (cA : Nat → ClassId) (q0 q1 q2 q3 q4 q5 q6 q7 q8 q9 q10 q11 q12 q13 q14 q15 q16 q17 q18 q19 q20 q21 q22 q23 q24 q25 q26 q27 q28 q29 q30 q31 : Nat) (u0 u1 u2 u3 u4 u5 u6 u7 u8 u9 u10 u11 u12 u13 u14 u15 u16 u17 u18 u19 u20 : Int)  (i_broken : Int) : va_W := [(q0, .inr (11, [.int (Int32.ofInt u0), .int (Int32.ofInt u1), .ref q1, .ref q2, .ref q3, .ref q4, .int (Int32.ofInt u2), .ref q5, .int (Int32.ofInt u3), .int (Int32.ofInt u4), .int (Int32.ofInt u5), .int (Int32.ofInt u6), .long (Int64.ofInt u7), .int (Int32.ofInt u8), .int (Int32.ofInt u9), .int (Int32.ofInt u10), .ref q6, .int (Int32.ofInt u11), .ref q7, .ref q8, .int (Int32.ofInt u12), .ref q9, .ref q10, .int (Int32.ofInt u13), .int (Int32.ofInt u14), .ref q11, .int (Int32.ofInt u15), .ref q12, .ref q13, .int (Int32.ofInt i_broken), .long (Int64.ofInt u16), .long (Int64.ofInt u17), .ref q14, .ref q15, .ref q16, .ref q17, .ref q18, .int (Int32.ofInt u18), .ref q19, .ref q20, .ref q21, .ref q22, .ref q23, .ref q24, .ref q25, .ref q26, .ref q27, .ref q28, .ref q29, .ref q30, .long (Int64.ofInt u19), .ref q31, .int (Int32.ofInt u20)]))]
def wf_HM_reckon (cA : Nat → ClassId) (q0 q1 q2 q3 q4 q5 q6 q7 q8 q9 q10 q11 q12 q13 q14 q15 q16 q17 q18 q19 q20 q21 q22 q23 q24 q25 q26 q27 q28 q29 q30 q31 : Nat) (u0 u1 u2 u3 u4 u5 u6 u7 u8 u9 u10 u11 u12 u13 u14 u15 u16 u17 u18 u19 u20 : Int)  (o : Int × Int) : va_W := wd_HM_reckon cA q0 q1 q2 q3 q4 q5 q6 q7 q8 q9 q10 q11 q12 q13 q14 q15 q16 q17 q18 q19 q20 q21 q22 q23 q24 q25 q26 q27 q28 q29 q30 q31 u0 u1 u2 u3 u4 u5 u6 u7 u8 u9 u10 u11 u12 u13 u14 u15 u16 u17 u18 u19 u20 o.2
def f_HM_reckon_68  (x2 : Int) (x4 : Int) (s1 : Int) (i_broken : Int) : Option (Int × Int) :=
  if ¬ (zi_w s1 = 0 ∨ zi_w s1 = 1) then none else
  if zi_w s1 = 0 then
    if zl_w x4 = 0 then none else zn (zl_div x2 x4) fun v1 =>
    some (v1, s1)
  else
    some (0, s1)
def f_HM_reckon (x1 : Int) (x2 : Int) (x4 : Int) (i_broken : Int) : Option (Int × Int) :=
  if zi_w x1 = 20 then
    zn (x2 + x4) fun v1 =>
    some (v1, i_broken)
  else if zi_w x1 = 21 then
    zn (x2 - x4) fun v2 =>
    some (v2, i_broken)
  else if zi_w x1 = 22 then
    zn (x2 * x4) fun v3 =>
    some (v3, i_broken)
  else if zi_w x1 = 23 then
    if zl_w x4 ≠ zl_w 0 then
      f_HM_reckon_68 x2 x4 0 i_broken
    else
      f_HM_reckon_68 x2 x4 1 i_broken
  else if zi_w x1 = 24 then
    if zl_w x4 ≤ zl_w x2 then
      some (0, i_broken)
    else
      some (1, i_broken)
  else if zi_w x1 = 25 then
    if zl_w x2 ≤ zl_w x4 then
      some (0, i_broken)
    else
      some (1, i_broken)
  else
    if zl_w x2 ≠ zl_w x4 then
      some (0, i_broken)
    else
      some (1, i_broken)
set_option maxHeartbeats 4000000 in
set_option maxRecDepth 100000 in
theorem c_HM_reckon (l : Launch) (ev : zEv) (dC : Nat → ClassId) (dI : Nat → Nat → Nat) (cA : Nat → ClassId) (q0 q1 q2 q3 q4 q5 q6 q7 q8 q9 q10 q11 q12 q13 q14 q15 q16 q17 q18 q19 q20 q21 q22 q23 q24 q25 q26 q27 q28 q29 q30 q31 : Nat) (u0 u1 u2 u3 u4 u5 u6 u7 u8 u9 u10 u11 u12 u13 u14 u15 u16 u17 u18 u19 u20 : Int) {x1 x2 x4 : Int} {i_broken : Int} {out : Int × Int} (hf : f_HM_reckon x1 x2 x4 i_broken = some out) : xc_J l ev (dC, dI) vwCl (tyl cA) yX11_reckon w_HM_reckon rm_HM_reckon [.ref q0, .int (Int32.ofInt x1), .long (Int64.ofInt x2), .long (Int64.ofInt x4)] (wd_HM_reckon cA q0 q1 q2 q3 q4 q5 q6 q7 q8 q9 q10 q11 q12 q13 q14 q15 q16 q17 q18 q19 q20 q21 q22 q23 q24 q25 q26 q27 q28 q29 q30 q31 u0 u1 u2 u3 u4 u5 u6 u7 u8 u9 u10 u11 u12 u13 u14 u15 u16 u17 u18 u19 u20 i_broken) (wf_HM_reckon cA q0 q1 q2 q3 q4 q5 q6 q7 q8 q9 q10 q11 q12 q13 q14 q15 q16 q17 q18 q19 q20 q21 q22 q23 q24 q25 q26 q27 q28 q29 q30 q31 u0 u1 u2 u3 u4 u5 u6 u7 u8 u9 u10 u11 u12 u13 u14 u15 u16 u17 u18 u19 u20 out) out.1 := by
  refine xv_startJ (cc := cX11_reckon) (maxL := 6) (by decide +kernel) rfl (Nat.le_of_ble_eq_true rfl) ?_
  intro p e s m args below meth c A Q H ls hx hb hml hts hown hK hA hP hD hS hl hE hret
  have hown : s.vm.findClass "HillSchoolModel" = some m.cls := hown
  have hz : ∀ w ∈ zall, w.before args s = true := fun w h => hts w (List.mem_cons_of_mem _ h)
  have hl : lv_has ls 6 [(0, .ref q0), (1, .int (Int32.ofInt x1)), (2, .long (Int64.ofInt x2)), (4, .long (Int64.ofInt x4))] := hl
  have b_68 : ∀ (x2 : Int) (x4 : Int) (s1 : Int) (i_broken : Int) (H : Heap) (locs : List Loc) (ls : Array Slot), f_HM_reckon_68 x2 x4 s1 i_broken = some out → va_P (dC, dI) vwCl (wd_HM_reckon cA q0 q1 q2 q3 q4 q5 q6 q7 q8 q9 q10 q11 q12 q13 q14 q15 q16 q17 q18 q19 q20 q21 q22 q23 q24 q25 q26 q27 q28 q29 q30 q31 u0 u1 u2 u3 u4 u5 u6 u7 u8 u9 u10 u11 u12 u13 u14 u15 u16 u17 u18 u19 u20 i_broken) H → va_D A (wd_HM_reckon cA q0 q1 q2 q3 q4 q5 q6 q7 q8 q9 q10 q11 q12 q13 q14 q15 q16 q17 q18 q19 q20 q21 q22 q23 q24 q25 q26 q27 q28 q29 q30 q31 u0 u1 u2 u3 u4 u5 u6 u7 u8 u9 u10 u11 u12 u13 u14 u15 u16 u17 u18 u19 u20 i_broken) → va_S A s.heap H locs → lv_has ls 6 [(0, .ref q0), (2, .long (Int64.ofInt x2)), (4, .long (Int64.ofInt x4))] → W p l e rm_HM_reckon s m args below meth c H locs 0 0 Q (F0 m 68 ls [.int (Int32.ofInt s1), .ref q0]) := by
    intro x2 x4 s1 i_broken H locs ls hf hP hD hS hl
    unfold f_HM_reckon_68 at hf
    obtain ⟨hzb, hf⟩ := xz_q hf
    refine va_put (D := (dC, dI)) (ci := 11) (v := .int (Int32.ofInt s1)) (ty := .boolean) (C := RX11) (T := TX11) (N := 53) hx hb hz zi_X11 tyX11 tyX11_ok nmX11 hown hK hP hD hS 0 rfl rfl 29 (by decide) (hz _ zw_1194) (fun _ h9 => h9) rfl (by decide +kernel) (zz_bool hzb) (zz_fitb hzb) (Nat.le_of_ble_eq_true rfl) dX11_reckon_68 (fun H locs hP hD hS => ?_)
    have hP : va_P (dC, dI) vwCl (wd_HM_reckon cA q0 q1 q2 q3 q4 q5 q6 q7 q8 q9 q10 q11 q12 q13 q14 q15 q16 q17 q18 q19 q20 q21 q22 q23 q24 q25 q26 q27 q28 q29 q30 q31 u0 u1 u2 u3 u4 u5 u6 u7 u8 u9 u10 u11 u12 u13 u14 u15 u16 u17 u18 u19 u20 s1) H := hP
    have hD : va_D A (wd_HM_reckon cA q0 q1 q2 q3 q4 q5 q6 q7 q8 q9 q10 q11 q12 q13 q14 q15 q16 q17 q18 q19 q20 q21 q22 q23 q24 q25 q26 q27 q28 q29 q30 q31 u0 u1 u2 u3 u4 u5 u6 u7 u8 u9 u10 u11 u12 u13 u14 u15 u16 u17 u18 u19 u20 s1) := hD
    refine lv_aload_n hx hb dX11_reckon_71 rfl (lv_at hl 0 rfl) ?_
    refine va_get (D := (dC, dI)) (ci := 11) (v := .int (Int32.ofInt s1)) (C := RX11) (T := TX11) (N := 53) hx hb hz zi_X11 hown hK hP 0 rfl rfl 29 (by decide) (hz _ zw_1194) (fun _ h9 => h9) rfl dX11_reckon_72 ?_
    refine xi_if_eq (tgt := 82) hx hb dX11_reckon_75 (by decide) hf (fun hf => ?_) (fun hf => ?_)
    · refine lv_lload_n hx hb dX11_reckon_82 rfl (lv_at hl 1 rfl) ?_
      refine lv_lload hx hb dX11_reckon_83 (lv_at hl 2 rfl) ?_
      refine xl_ldiv hx hb dX11_reckon_85 hf (fun v1 hf => ?_)
      obtain rfl := Option.some.inj hf
      exact hret _ _ _ _ dX11_reckon_86 hP hD hS
    · refine lv_lconst (v := Int64.ofInt 0) hx hb dX11_reckon_78 (by decide) ?_
      refine lv_goto (tgt := 86) hx hb dX11_reckon_79 (by decide) ?_
      obtain rfl := Option.some.inj hf
      exact hret _ _ _ _ dX11_reckon_86 hP hD hS
  unfold f_HM_reckon at hf
  refine lv_iload_n hx hb dX11_reckon_0 rfl (lv_at hl 1 rfl) ?_
  refine xz_if hf (fun hc hf => ?_) (fun hn0 hf => ?_)
  · refine xi_tin (tgt := 40) hx hb dX11_reckon_1 hc (by decide) (by decide) rfl (by decide) ?_
    refine lv_lload_n hx hb dX11_reckon_40 rfl (lv_at hl 2 rfl) ?_
    refine lv_lload hx hb dX11_reckon_41 (lv_at hl 3 rfl) ?_
    refine xl_ladd hx hb dX11_reckon_43 hf (fun v1 hf => ?_)
    obtain rfl := Option.some.inj hf
    exact hret _ _ _ _ dX11_reckon_44 hP hD hS
  refine xz_if hf (fun hc hf => ?_) (fun hn1 hf => ?_)
  · refine xi_tin (tgt := 45) hx hb dX11_reckon_1 hc (by decide) (by decide) rfl (by decide) ?_
    refine lv_lload_n hx hb dX11_reckon_45 rfl (lv_at hl 2 rfl) ?_
    refine lv_lload hx hb dX11_reckon_46 (lv_at hl 3 rfl) ?_
    refine xl_lsub hx hb dX11_reckon_48 hf (fun v2 hf => ?_)
    obtain rfl := Option.some.inj hf
    exact hret _ _ _ _ dX11_reckon_49 hP hD hS
  refine xz_if hf (fun hc hf => ?_) (fun hn2 hf => ?_)
  · refine xi_tin (tgt := 50) hx hb dX11_reckon_1 hc (by decide) (by decide) rfl (by decide) ?_
    refine lv_lload_n hx hb dX11_reckon_50 rfl (lv_at hl 2 rfl) ?_
    refine lv_lload hx hb dX11_reckon_51 (lv_at hl 3 rfl) ?_
    refine xl_lmul hx hb dX11_reckon_53 hf (fun v3 hf => ?_)
    obtain rfl := Option.some.inj hf
    exact hret _ _ _ _ dX11_reckon_54 hP hD hS
  refine xz_if hf (fun hc hf => ?_) (fun hn3 hf => ?_)
  · refine xi_tin (tgt := 55) hx hb dX11_reckon_1 hc (by decide) (by decide) rfl (by decide) ?_
    refine lv_aload_n hx hb dX11_reckon_55 rfl (lv_at hl 0 rfl) ?_
    refine lv_lload hx hb dX11_reckon_56 (lv_at hl 3 rfl) ?_
    refine lv_lconst (v := Int64.ofInt 0) hx hb dX11_reckon_58 (by decide) ?_
    refine xl_cmp_ne (tgt := 67) hx hb dX11_reckon_59 dX11_reckon_60 (by decide) hf (fun hf => ?_) (fun hf => ?_)
    · refine lv_iconst (v := Int32.ofInt 0) hx hb dX11_reckon_67 rfl ?_
      exact b_68  _ _ _ _ _ _ _ hf hP hD hS (lv_sub hl [0, 2, 3] rfl)
    · refine lv_iconst (v := Int32.ofInt 1) hx hb dX11_reckon_63 rfl ?_
      refine lv_goto (tgt := 68) hx hb dX11_reckon_64 (by decide) ?_
      exact b_68  _ _ _ _ _ _ _ hf hP hD hS (lv_sub hl [0, 2, 3] rfl)
  refine xz_if hf (fun hc hf => ?_) (fun hn4 hf => ?_)
  · refine xi_tin (tgt := 87) hx hb dX11_reckon_1 hc (by decide) (by decide) rfl (by decide) ?_
    refine lv_lload_n hx hb dX11_reckon_87 rfl (lv_at hl 2 rfl) ?_
    refine lv_lload hx hb dX11_reckon_88 (lv_at hl 3 rfl) ?_
    refine xl_cmp_ge (tgt := 98) hx hb dX11_reckon_90 dX11_reckon_91 (by decide) hf (fun hf => ?_) (fun hf => ?_)
    · refine lv_lconst (v := Int64.ofInt 0) hx hb dX11_reckon_98 (by decide) ?_
      obtain rfl := Option.some.inj hf
      exact hret _ _ _ _ dX11_reckon_99 hP hD hS
    · refine lv_lconst (v := Int64.ofInt 1) hx hb dX11_reckon_94 (by decide) ?_
      refine lv_goto (tgt := 99) hx hb dX11_reckon_95 (by decide) ?_
      obtain rfl := Option.some.inj hf
      exact hret _ _ _ _ dX11_reckon_99 hP hD hS
  refine xz_if hf (fun hc hf => ?_) (fun hn5 hf => ?_)
  · refine xi_tin (tgt := 100) hx hb dX11_reckon_1 hc (by decide) (by decide) rfl (by decide) ?_
    refine lv_lload_n hx hb dX11_reckon_100 rfl (lv_at hl 2 rfl) ?_
    refine lv_lload hx hb dX11_reckon_101 (lv_at hl 3 rfl) ?_
    refine xl_cmp_le (tgt := 111) hx hb dX11_reckon_103 dX11_reckon_104 (by decide) hf (fun hf => ?_) (fun hf => ?_)
    · refine lv_lconst (v := Int64.ofInt 0) hx hb dX11_reckon_111 (by decide) ?_
      obtain rfl := Option.some.inj hf
      exact hret _ _ _ _ dX11_reckon_112 hP hD hS
    · refine lv_lconst (v := Int64.ofInt 1) hx hb dX11_reckon_107 (by decide) ?_
      refine lv_goto (tgt := 112) hx hb dX11_reckon_108 (by decide) ?_
      obtain rfl := Option.some.inj hf
      exact hret _ _ _ _ dX11_reckon_112 hP hD hS
  refine xi_tout (tgt := 113) hx hb dX11_reckon_1 (by omega) (by decide) ?_
  refine lv_lload_n hx hb dX11_reckon_113 rfl (lv_at hl 2 rfl) ?_
  refine lv_lload hx hb dX11_reckon_114 (lv_at hl 3 rfl) ?_
  refine xl_cmp_ne (tgt := 124) hx hb dX11_reckon_116 dX11_reckon_117 (by decide) hf (fun hf => ?_) (fun hf => ?_)
  · refine lv_lconst (v := Int64.ofInt 0) hx hb dX11_reckon_124 (by decide) ?_
    obtain rfl := Option.some.inj hf
    exact hret _ _ _ _ dX11_reckon_125 hP hD hS
  · refine lv_lconst (v := Int64.ofInt 1) hx hb dX11_reckon_120 (by decide) ?_
    refine lv_goto (tgt := 125) hx hb dX11_reckon_121 (by decide) ?_
    obtain rfl := Option.some.inj hf
    exact hret _ _ _ _ dX11_reckon_125 hP hD hS
theorem dX11_reckonAll_0 : decode cX11_reckonAll 0 = .ok (.aload_n 0, 1) := by decide +kernel
theorem dX11_reckonAll_1 : decode cX11_reckonAll 1 = .ok (.iconst 0, 1) := by decide +kernel
theorem dX11_reckonAll_2 : decode cX11_reckonAll 2 = .ok (.putfield 320, 3) := by decide +kernel
theorem dX11_reckonAll_5 : decode cX11_reckonAll 5 = .ok (.iconst 0, 1) := by decide +kernel
theorem dX11_reckonAll_6 : decode cX11_reckonAll 6 = .ok (.istore_n 3, 1) := by decide +kernel
theorem dX11_reckonAll_7 : decode cX11_reckonAll 7 = .ok (.iload_n 1, 1) := by decide +kernel
theorem dX11_reckonAll_8 : decode cX11_reckonAll 8 = .ok (.istore 4, 2) := by decide +kernel
theorem dX11_reckonAll_10 : decode cX11_reckonAll 10 = .ok (.iload 4, 2) := by decide +kernel
theorem dX11_reckonAll_12 : decode cX11_reckonAll 12 = .ok (.iload_n 2, 1) := by decide +kernel
theorem dX11_reckonAll_13 : decode cX11_reckonAll 13 = .ok (.if_icmp .ge 232, 3) := by decide +kernel
theorem dX11_reckonAll_16 : decode cX11_reckonAll 16 = .ok (.aload_n 0, 1) := by decide +kernel
theorem dX11_reckonAll_17 : decode cX11_reckonAll 17 = .ok (.getfield 320, 3) := by decide +kernel
theorem dX11_reckonAll_20 : decode cX11_reckonAll 20 = .ok (.ifCond .ne 225, 3) := by decide +kernel
theorem dX11_reckonAll_23 : decode cX11_reckonAll 23 = .ok (.aload_n 0, 1) := by decide +kernel
theorem dX11_reckonAll_24 : decode cX11_reckonAll 24 = .ok (.getfield 13, 3) := by decide +kernel
theorem dX11_reckonAll_27 : decode cX11_reckonAll 27 = .ok (.aload_n 0, 1) := by decide +kernel
theorem dX11_reckonAll_28 : decode cX11_reckonAll 28 = .ok (.getfield 323, 3) := by decide +kernel
theorem dX11_reckonAll_31 : decode cX11_reckonAll 31 = .ok (.bipush 98, 2) := by decide +kernel
theorem dX11_reckonAll_33 : decode cX11_reckonAll 33 = .ok (.iadd, 1) := by decide +kernel
theorem dX11_reckonAll_34 : decode cX11_reckonAll 34 = .ok (.iconst 2, 1) := by decide +kernel
theorem dX11_reckonAll_35 : decode cX11_reckonAll 35 = .ok (.iload 4, 2) := by decide +kernel
theorem dX11_reckonAll_37 : decode cX11_reckonAll 37 = .ok (.imul, 1) := by decide +kernel
theorem dX11_reckonAll_38 : decode cX11_reckonAll 38 = .ok (.iadd, 1) := by decide +kernel
theorem dX11_reckonAll_39 : decode cX11_reckonAll 39 = .ok (.iaload, 1) := by decide +kernel
theorem dX11_reckonAll_40 : decode cX11_reckonAll 40 = .ok (.istore 5, 2) := by decide +kernel
theorem dX11_reckonAll_42 : decode cX11_reckonAll 42 = .ok (.aload_n 0, 1) := by decide +kernel
theorem dX11_reckonAll_43 : decode cX11_reckonAll 43 = .ok (.getfield 13, 3) := by decide +kernel
theorem dX11_reckonAll_46 : decode cX11_reckonAll 46 = .ok (.aload_n 0, 1) := by decide +kernel
theorem dX11_reckonAll_47 : decode cX11_reckonAll 47 = .ok (.getfield 323, 3) := by decide +kernel
theorem dX11_reckonAll_50 : decode cX11_reckonAll 50 = .ok (.bipush 98, 2) := by decide +kernel
theorem dX11_reckonAll_52 : decode cX11_reckonAll 52 = .ok (.iadd, 1) := by decide +kernel
theorem dX11_reckonAll_53 : decode cX11_reckonAll 53 = .ok (.iconst 2, 1) := by decide +kernel
theorem dX11_reckonAll_54 : decode cX11_reckonAll 54 = .ok (.iload 4, 2) := by decide +kernel
theorem dX11_reckonAll_56 : decode cX11_reckonAll 56 = .ok (.imul, 1) := by decide +kernel
theorem dX11_reckonAll_57 : decode cX11_reckonAll 57 = .ok (.iadd, 1) := by decide +kernel
theorem dX11_reckonAll_58 : decode cX11_reckonAll 58 = .ok (.iconst 1, 1) := by decide +kernel
theorem dX11_reckonAll_59 : decode cX11_reckonAll 59 = .ok (.iadd, 1) := by decide +kernel
theorem dX11_reckonAll_60 : decode cX11_reckonAll 60 = .ok (.iaload, 1) := by decide +kernel
theorem dX11_reckonAll_61 : decode cX11_reckonAll 61 = .ok (.istore 6, 2) := by decide +kernel
theorem dX11_reckonAll_63 : decode cX11_reckonAll 63 = .ok (.iinc 4 1, 3) := by decide +kernel
theorem dX11_reckonAll_66 : decode cX11_reckonAll 66 = .ok (.iload 5, 2) := by decide +kernel
theorem dX11_reckonAll_68 : decode cX11_reckonAll 68 = .ok (.bipush 20, 2) := by decide +kernel
theorem dX11_reckonAll_70 : decode cX11_reckonAll 70 = .ok (.if_icmp .ge 33, 3) := by decide +kernel
theorem dX11_reckonAll_73 : decode cX11_reckonAll 73 = .ok (.aload_n 0, 1) := by decide +kernel
theorem dX11_reckonAll_74 : decode cX11_reckonAll 74 = .ok (.getfield 68, 3) := by decide +kernel
theorem dX11_reckonAll_77 : decode cX11_reckonAll 77 = .ok (.iload_n 3, 1) := by decide +kernel
theorem dX11_reckonAll_78 : decode cX11_reckonAll 78 = .ok (.iload 5, 2) := by decide +kernel
theorem dX11_reckonAll_80 : decode cX11_reckonAll 80 = .ok (.ifCond .ne 9, 3) := by decide +kernel
theorem dX11_reckonAll_83 : decode cX11_reckonAll 83 = .ok (.iload 6, 2) := by decide +kernel
theorem dX11_reckonAll_85 : decode cX11_reckonAll 85 = .ok (.i2l, 1) := by decide +kernel
theorem dX11_reckonAll_86 : decode cX11_reckonAll 86 = .ok (.goto 10, 3) := by decide +kernel
theorem dX11_reckonAll_89 : decode cX11_reckonAll 89 = .ok (.aload_n 0, 1) := by decide +kernel
theorem dX11_reckonAll_90 : decode cX11_reckonAll 90 = .ok (.getfield 65, 3) := by decide +kernel
theorem dX11_reckonAll_93 : decode cX11_reckonAll 93 = .ok (.iload 5, 2) := by decide +kernel
theorem dX11_reckonAll_95 : decode cX11_reckonAll 95 = .ok (.laload, 1) := by decide +kernel
theorem dX11_reckonAll_96 : decode cX11_reckonAll 96 = .ok (.lastore, 1) := by decide +kernel
theorem dX11_reckonAll_97 : decode cX11_reckonAll 97 = .ok (.iinc 3 1, 3) := by decide +kernel
theorem dX11_reckonAll_100 : decode cX11_reckonAll 100 = .ok (.goto 142, 3) := by decide +kernel
theorem dX11_reckonAll_103 : decode cX11_reckonAll 103 = .ok (.iload 5, 2) := by decide +kernel
theorem dX11_reckonAll_105 : decode cX11_reckonAll 105 = .ok (.bipush 27, 2) := by decide +kernel
theorem dX11_reckonAll_107 : decode cX11_reckonAll 107 = .ok (.if_icmp .ge 73, 3) := by decide +kernel
theorem dX11_reckonAll_110 : decode cX11_reckonAll 110 = .ok (.iinc 3 (-1), 3) := by decide +kernel
theorem dX11_reckonAll_113 : decode cX11_reckonAll 113 = .ok (.aload_n 0, 1) := by decide +kernel
theorem dX11_reckonAll_114 : decode cX11_reckonAll 114 = .ok (.getfield 68, 3) := by decide +kernel
theorem dX11_reckonAll_117 : decode cX11_reckonAll 117 = .ok (.iload_n 3, 1) := by decide +kernel
theorem dX11_reckonAll_118 : decode cX11_reckonAll 118 = .ok (.iconst 1, 1) := by decide +kernel
theorem dX11_reckonAll_119 : decode cX11_reckonAll 119 = .ok (.isub, 1) := by decide +kernel
theorem dX11_reckonAll_120 : decode cX11_reckonAll 120 = .ok (.aload_n 0, 1) := by decide +kernel
theorem dX11_reckonAll_121 : decode cX11_reckonAll 121 = .ok (.iload 5, 2) := by decide +kernel
theorem dX11_reckonAll_123 : decode cX11_reckonAll 123 = .ok (.aload_n 0, 1) := by decide +kernel
theorem dX11_reckonAll_124 : decode cX11_reckonAll 124 = .ok (.getfield 68, 3) := by decide +kernel
theorem dX11_reckonAll_127 : decode cX11_reckonAll 127 = .ok (.iload_n 3, 1) := by decide +kernel
theorem dX11_reckonAll_128 : decode cX11_reckonAll 128 = .ok (.iconst 1, 1) := by decide +kernel
theorem dX11_reckonAll_129 : decode cX11_reckonAll 129 = .ok (.isub, 1) := by decide +kernel
theorem dX11_reckonAll_130 : decode cX11_reckonAll 130 = .ok (.laload, 1) := by decide +kernel
theorem dX11_reckonAll_131 : decode cX11_reckonAll 131 = .ok (.aload_n 0, 1) := by decide +kernel
theorem dX11_reckonAll_132 : decode cX11_reckonAll 132 = .ok (.getfield 68, 3) := by decide +kernel
theorem dX11_reckonAll_135 : decode cX11_reckonAll 135 = .ok (.iload_n 3, 1) := by decide +kernel
theorem dX11_reckonAll_136 : decode cX11_reckonAll 136 = .ok (.laload, 1) := by decide +kernel
theorem dX11_reckonAll_137 : decode cX11_reckonAll 137 = .ok (.invokevirtual 326, 3) := by decide +kernel
theorem dX11_reckonAll_140 : decode cX11_reckonAll 140 = .ok (.lastore, 1) := by decide +kernel
theorem dX11_reckonAll_141 : decode cX11_reckonAll 141 = .ok (.aload_n 0, 1) := by decide +kernel
theorem dX11_reckonAll_142 : decode cX11_reckonAll 142 = .ok (.aload_n 0, 1) := by decide +kernel
theorem dX11_reckonAll_143 : decode cX11_reckonAll 143 = .ok (.getfield 320, 3) := by decide +kernel
theorem dX11_reckonAll_146 : decode cX11_reckonAll 146 = .ok (.ifCond .ne 23, 3) := by decide +kernel
theorem dX11_reckonAll_149 : decode cX11_reckonAll 149 = .ok (.aload_n 0, 1) := by decide +kernel
theorem dX11_reckonAll_150 : decode cX11_reckonAll 150 = .ok (.getfield 68, 3) := by decide +kernel
theorem dX11_reckonAll_153 : decode cX11_reckonAll 153 = .ok (.iload_n 3, 1) := by decide +kernel
theorem dX11_reckonAll_154 : decode cX11_reckonAll 154 = .ok (.iconst 1, 1) := by decide +kernel
theorem dX11_reckonAll_155 : decode cX11_reckonAll 155 = .ok (.isub, 1) := by decide +kernel
theorem dX11_reckonAll_156 : decode cX11_reckonAll 156 = .ok (.laload, 1) := by decide +kernel
theorem dX11_reckonAll_157 : decode cX11_reckonAll 157 = .ok (.ldc2_w 330, 3) := by decide +kernel
theorem dX11_reckonAll_160 : decode cX11_reckonAll 160 = .ok (.ldc2_w 332, 3) := by decide +kernel
theorem dX11_reckonAll_163 : decode cX11_reckonAll 163 = .ok (.invokestatic 132, 3) := by decide +kernel
theorem dX11_reckonAll_166 : decode cX11_reckonAll 166 = .ok (.ifCond .ne 7, 3) := by decide +kernel
theorem dX11_reckonAll_169 : decode cX11_reckonAll 169 = .ok (.iconst 1, 1) := by decide +kernel
theorem dX11_reckonAll_170 : decode cX11_reckonAll 170 = .ok (.goto 4, 3) := by decide +kernel
theorem dX11_reckonAll_173 : decode cX11_reckonAll 173 = .ok (.iconst 0, 1) := by decide +kernel
theorem dX11_reckonAll_174 : decode cX11_reckonAll 174 = .ok (.putfield 320, 3) := by decide +kernel
theorem dX11_reckonAll_177 : decode cX11_reckonAll 177 = .ok (.goto 65, 3) := by decide +kernel
theorem dX11_reckonAll_180 : decode cX11_reckonAll 180 = .ok (.iload 5, 2) := by decide +kernel
theorem dX11_reckonAll_182 : decode cX11_reckonAll 182 = .ok (.bipush 27, 2) := by decide +kernel
theorem dX11_reckonAll_184 : decode cX11_reckonAll 184 = .ok (.if_icmp .ne 24, 3) := by decide +kernel
theorem dX11_reckonAll_187 : decode cX11_reckonAll 187 = .ok (.aload_n 0, 1) := by decide +kernel
theorem dX11_reckonAll_188 : decode cX11_reckonAll 188 = .ok (.getfield 68, 3) := by decide +kernel
theorem dX11_reckonAll_191 : decode cX11_reckonAll 191 = .ok (.iload_n 3, 1) := by decide +kernel
theorem dX11_reckonAll_192 : decode cX11_reckonAll 192 = .ok (.iconst 1, 1) := by decide +kernel
theorem dX11_reckonAll_193 : decode cX11_reckonAll 193 = .ok (.isub, 1) := by decide +kernel
theorem dX11_reckonAll_194 : decode cX11_reckonAll 194 = .ok (.lconst 1, 1) := by decide +kernel
theorem dX11_reckonAll_195 : decode cX11_reckonAll 195 = .ok (.aload_n 0, 1) := by decide +kernel
theorem dX11_reckonAll_196 : decode cX11_reckonAll 196 = .ok (.getfield 68, 3) := by decide +kernel
theorem dX11_reckonAll_199 : decode cX11_reckonAll 199 = .ok (.iload_n 3, 1) := by decide +kernel
theorem dX11_reckonAll_200 : decode cX11_reckonAll 200 = .ok (.iconst 1, 1) := by decide +kernel
theorem dX11_reckonAll_201 : decode cX11_reckonAll 201 = .ok (.isub, 1) := by decide +kernel
theorem dX11_reckonAll_202 : decode cX11_reckonAll 202 = .ok (.laload, 1) := by decide +kernel
theorem dX11_reckonAll_203 : decode cX11_reckonAll 203 = .ok (.lsub, 1) := by decide +kernel
theorem dX11_reckonAll_204 : decode cX11_reckonAll 204 = .ok (.lastore, 1) := by decide +kernel
theorem dX11_reckonAll_205 : decode cX11_reckonAll 205 = .ok (.goto 37, 3) := by decide +kernel
theorem dX11_reckonAll_208 : decode cX11_reckonAll 208 = .ok (.aload_n 0, 1) := by decide +kernel
theorem dX11_reckonAll_209 : decode cX11_reckonAll 209 = .ok (.getfield 68, 3) := by decide +kernel
theorem dX11_reckonAll_212 : decode cX11_reckonAll 212 = .ok (.iload_n 3, 1) := by decide +kernel
theorem dX11_reckonAll_213 : decode cX11_reckonAll 213 = .ok (.iconst 1, 1) := by decide +kernel
theorem dX11_reckonAll_214 : decode cX11_reckonAll 214 = .ok (.isub, 1) := by decide +kernel
theorem dX11_reckonAll_215 : decode cX11_reckonAll 215 = .ok (.laload, 1) := by decide +kernel
theorem dX11_reckonAll_216 : decode cX11_reckonAll 216 = .ok (.iload 5, 2) := by decide +kernel
theorem dX11_reckonAll_218 : decode cX11_reckonAll 218 = .ok (.bipush 28, 2) := by decide +kernel
theorem dX11_reckonAll_220 : decode cX11_reckonAll 220 = .ok (.if_icmp .ne 7, 3) := by decide +kernel
theorem dX11_reckonAll_223 : decode cX11_reckonAll 223 = .ok (.lconst 0, 1) := by decide +kernel
theorem dX11_reckonAll_224 : decode cX11_reckonAll 224 = .ok (.goto 4, 3) := by decide +kernel
theorem dX11_reckonAll_227 : decode cX11_reckonAll 227 = .ok (.lconst 1, 1) := by decide +kernel
theorem dX11_reckonAll_228 : decode cX11_reckonAll 228 = .ok (.lcmp, 1) := by decide +kernel
theorem dX11_reckonAll_229 : decode cX11_reckonAll 229 = .ok (.ifCond .ne 10, 3) := by decide +kernel
theorem dX11_reckonAll_232 : decode cX11_reckonAll 232 = .ok (.iload 6, 2) := by decide +kernel
theorem dX11_reckonAll_234 : decode cX11_reckonAll 234 = .ok (.istore 4, 2) := by decide +kernel
theorem dX11_reckonAll_236 : decode cX11_reckonAll 236 = .ok (.goto 6, 3) := by decide +kernel
theorem dX11_reckonAll_239 : decode cX11_reckonAll 239 = .ok (.iinc 3 (-1), 3) := by decide +kernel
theorem dX11_reckonAll_242 : decode cX11_reckonAll 242 = .ok (.goto (-232), 3) := by decide +kernel
theorem dX11_reckonAll_245 : decode cX11_reckonAll 245 = .ok (.aload_n 0, 1) := by decide +kernel
theorem dX11_reckonAll_246 : decode cX11_reckonAll 246 = .ok (.iload_n 3, 1) := by decide +kernel
theorem dX11_reckonAll_247 : decode cX11_reckonAll 247 = .ok (.ifCond .le 12, 3) := by decide +kernel
theorem dX11_reckonAll_250 : decode cX11_reckonAll 250 = .ok (.aload_n 0, 1) := by decide +kernel
theorem dX11_reckonAll_251 : decode cX11_reckonAll 251 = .ok (.getfield 68, 3) := by decide +kernel
theorem dX11_reckonAll_254 : decode cX11_reckonAll 254 = .ok (.iconst 0, 1) := by decide +kernel
theorem dX11_reckonAll_255 : decode cX11_reckonAll 255 = .ok (.laload, 1) := by decide +kernel
theorem dX11_reckonAll_256 : decode cX11_reckonAll 256 = .ok (.goto 4, 3) := by decide +kernel
theorem dX11_reckonAll_259 : decode cX11_reckonAll 259 = .ok (.lconst 0, 1) := by decide +kernel
theorem dX11_reckonAll_260 : decode cX11_reckonAll 260 = .ok (.putfield 334, 3) := by decide +kernel
theorem dX11_reckonAll_263 : decode cX11_reckonAll 263 = .ok (.return_, 1) := by decide +kernel
theorem zw_72 : (Jvm.Cond.selects "HillSchoolModel" ({ cls := "HillSchoolModel", name := "reckon", desc := "(IJJ)J" } : Jvm.MethodName) ({ cls := "HillSchoolModel", name := "reckon", desc := "(IJJ)J" } : Jvm.MethodName)) ∈ zall := zmemG (zmj_0 72 rfl) rfl
theorem zw_1191 : (Jvm.Cond.fieldLink "HillSchoolModel" (323 : Nat) "HillSchoolModel" "law" "I") ∈ zall := zmemG (zmj_5 128 rfl) rfl
theorem zw_1192 : (Jvm.Cond.fieldLink "HillSchoolModel" (65 : Nat) "HillSchoolModel" "set" "[J") ∈ zall := zmemG (zmj_5 129 rfl) rfl
theorem zw_1193 : (Jvm.Cond.fieldLink "HillSchoolModel" (68 : Nat) "HillSchoolModel" "rest" "[J") ∈ zall := zmemG (zmj_5 130 rfl) rfl
theorem zw_1195 : (Jvm.Cond.fieldLink "HillSchoolModel" (334 : Nat) "HillSchoolModel" "value" "J") ∈ zall := zmemG (zmj_5 132 rfl) rfl
theorem zw_1575 : (Jvm.Cond.code ({ cls := "HillSchoolModel", name := "reckonAll", desc := "(II)V" } : Jvm.MethodName) prog_13_method_57_code (7 : Nat) (Option.none : Option Jvm.ClassFile.FieldType)) ∈ zall := zmemG (zmj_7 32 rfl) rfl
theorem zw_1576 : (Jvm.Cond.methodLink "HillSchoolModel" (326 : Nat) ({ cls := "HillSchoolModel", name := "reckon", desc := "(IJJ)J" } : Jvm.MethodName)) ∈ zall := zmemG (zmj_7 33 rfl) rfl
theorem zw_1578 : (Jvm.Cond.instanceMethod ({ cls := "HillSchoolModel", name := "reckon", desc := "(IJJ)J" } : Jvm.MethodName)) ∈ zall := zmemG (zmj_7 35 rfl) rfl
theorem zw_1580 : (Jvm.Cond.constantLong "HillSchoolModel" (330 : Nat) (-1000000000 : Int64)) ∈ zall := zmemG (zmj_7 37 rfl) rfl
theorem zw_1581 : (Jvm.Cond.constantLong "HillSchoolModel" (332 : Nat) (1000000000 : Int64)) ∈ zall := zmemG (zmj_7 38 rfl) rfl
abbrev w_HM_reckonAll : List Cond := .code yX11_reckonAll cX11_reckonAll 7 none :: zall
abbrev rm_HM_reckonAll : Room := { frames := 1, cells := 0, slots := 0, locals := 25 }
theorem hd_HM_reckonAll : yX11_reckonAll.cls = "HillSchoolModel" ∧ yX11_reckonAll.cls ≠ "java/lang/invoke/MethodHandle" ∧ yX11_reckonAll.cls ≠ "java/lang/invoke/VarHandle" ∧ (parseMethodDescriptor yX11_reckonAll.desc).map (fun d => d.parameters.length) = some 2 := by decide +kernel
def wd_HM_reckonAll (cA : Nat → ClassId) (q0 q1 q2 q3 q4 q5 q6 q7 q8 q9 q10 q11 q12 q13 q14 q15 q16 q17 q18 q19 q20 q21 q22 q23 q24 q25 q26 q27 q28 q29 q30 q31 : Nat) (u0 u1 u2 u3 u4 u5 u6 u7 u8 u9 u10 u11 u12 u13 u14 u15 u16 u17 u18 : Int) (i_law : Int) (i_row : Nat → Int) (i_set : Nat → Int) (i_broken : Int) (i_value : Int) (i_rest : Nat → Int) : va_W := [(q0, .inr (11, [.int (Int32.ofInt u0), .int (Int32.ofInt u1), .ref q1, .ref q2, .ref q3, .ref q4, .int (Int32.ofInt u2), .ref q5, .int (Int32.ofInt u3), .int (Int32.ofInt u4), .int (Int32.ofInt u5), .int (Int32.ofInt u6), .long (Int64.ofInt u7), .int (Int32.ofInt u8), .int (Int32.ofInt u9), .int (Int32.ofInt u10), .ref q6, .int (Int32.ofInt u11), .ref q7, .ref q8, .int (Int32.ofInt u12), .ref q9, .ref q10, .int (Int32.ofInt u13), .int (Int32.ofInt u14), .ref q11, .int (Int32.ofInt i_law), .ref q12, .ref q13, .int (Int32.ofInt i_broken), .long (Int64.ofInt i_value), .long (Int64.ofInt u15), .ref q14, .ref q15, .ref q16, .ref q17, .ref q18, .int (Int32.ofInt u16), .ref q19, .ref q20, .ref q21, .ref q22, .ref q23, .ref q24, .ref q25, .ref q26, .ref q27, .ref q28, .ref q29, .ref q30, .long (Int64.ofInt u17), .ref q31, .int (Int32.ofInt u18)])), (q2, .inl (cA 0, 5580, .inl (za i_row))), (q12, .inl (cA 2, 13, .inr (.inl (zl i_set)))), (q13, .inl (cA 2, 400, .inr (.inl (zl i_rest))))]
def wf_HM_reckonAll (cA : Nat → ClassId) (q0 q1 q2 q3 q4 q5 q6 q7 q8 q9 q10 q11 q12 q13 q14 q15 q16 q17 q18 q19 q20 q21 q22 q23 q24 q25 q26 q27 q28 q29 q30 q31 : Nat) (u0 u1 u2 u3 u4 u5 u6 u7 u8 u9 u10 u11 u12 u13 u14 u15 u16 u17 u18 : Int) (i_law : Int) (i_row : Nat → Int) (i_set : Nat → Int) (o : Int × Int × (Nat → Int)) : va_W := wd_HM_reckonAll cA q0 q1 q2 q3 q4 q5 q6 q7 q8 q9 q10 q11 q12 q13 q14 q15 q16 q17 q18 q19 q20 q21 q22 q23 q24 q25 q26 q27 q28 q29 q30 q31 u0 u1 u2 u3 u4 u5 u6 u7 u8 u9 u10 u11 u12 u13 u14 u15 u16 u17 u18 i_law i_row i_set o.1 o.2.1 o.2.2
def f_HM_reckonAll_245 (i_law : Int) (i_row : Nat → Int) (i_set : Nat → Int) (x3 : Int) (i_broken : Int) (i_value : Int) (i_rest : Nat → Int) : Option (Int × Int × (Nat → Int)) :=
  if zi_w x3 ≤ 0 then
    some (i_broken, 0, i_rest)
  else
    zg 400 i_rest 0 fun v1 =>
    some (i_broken, v1, i_rest)
def f_HM_reckonAll_242 (i_law : Int) (i_row : Nat → Int) (i_set : Nat → Int) (k10 : Int → Int → Int → Int → Int → (Nat → Int) → Option (Int × Int × (Nat → Int))) (x2 : Int) (x3 : Int) (x4 : Int) (i_broken : Int) (i_value : Int) (i_rest : Nat → Int) : Option (Int × Int × (Nat → Int)) :=
  k10 x2 x3 x4 i_broken i_value i_rest
def f_HM_reckonAll_228 (i_law : Int) (i_row : Nat → Int) (i_set : Nat → Int) (k10 : Int → Int → Int → Int → Int → (Nat → Int) → Option (Int × Int × (Nat → Int))) (x2 : Int) (x3 : Int) (x4 : Int) (x6 : Int) (s0 : Int) (s1 : Int) (i_broken : Int) (i_value : Int) (i_rest : Nat → Int) : Option (Int × Int × (Nat → Int)) :=
  if zl_w s0 ≠ zl_w s1 then
    zn (x3 + (-1)) fun v1 =>
    f_HM_reckonAll_242 i_law i_row i_set k10 x2 v1 x4 i_broken i_value i_rest
  else
    f_HM_reckonAll_242 i_law i_row i_set k10 x2 x3 x6 i_broken i_value i_rest
def f_HM_reckonAll_174 (i_law : Int) (i_row : Nat → Int) (i_set : Nat → Int) (k10 : Int → Int → Int → Int → Int → (Nat → Int) → Option (Int × Int × (Nat → Int))) (x2 : Int) (x3 : Int) (x4 : Int) (s1 : Int) (i_broken : Int) (i_value : Int) (i_rest : Nat → Int) : Option (Int × Int × (Nat → Int)) :=
  if ¬ (zi_w s1 = 0 ∨ zi_w s1 = 1) then none else
  f_HM_reckonAll_242 i_law i_row i_set k10 x2 x3 x4 s1 i_value i_rest
def f_HM_reckonAll_169 (i_law : Int) (i_row : Nat → Int) (i_set : Nat → Int) (k10 : Int → Int → Int → Int → Int → (Nat → Int) → Option (Int × Int × (Nat → Int))) (x2 : Int) (x3 : Int) (x4 : Int) (i_broken : Int) (i_value : Int) (i_rest : Nat → Int) : Option (Int × Int × (Nat → Int)) :=
  f_HM_reckonAll_174 i_law i_row i_set k10 x2 x3 x4 1 i_broken i_value i_rest
def f_HM_reckonAll_96 (i_law : Int) (i_row : Nat → Int) (i_set : Nat → Int) (k10 : Int → Int → Int → Int → Int → (Nat → Int) → Option (Int × Int × (Nat → Int))) (x2 : Int) (x3 : Int) (x4 : Int) (s1 : Int) (s2 : Int) (i_broken : Int) (i_value : Int) (i_rest : Nat → Int) : Option (Int × Int × (Nat → Int)) :=
  zs 400 i_rest s1 s2 fun a1 =>
  zn (x3 + 1) fun v2 =>
  f_HM_reckonAll_242 i_law i_row i_set k10 x2 v2 x4 i_broken i_value a1
def f_HM_reckonAll_10_b (i_law : Int) (i_row : Nat → Int) (i_set : Nat → Int) (k10 : Int → Int → Int → Int → Int → (Nat → Int) → Option (Int × Int × (Nat → Int))) (x2 : Int) (x3 : Int) (x4 : Int) (i_broken : Int) (i_value : Int) (i_rest : Nat → Int) : Option (Int × Int × (Nat → Int)) :=
  if zi_w x2 ≤ zi_w x4 then
    f_HM_reckonAll_245 i_law i_row i_set x3 i_broken i_value i_rest
  else
    if zi_w i_broken ≠ 0 then
      f_HM_reckonAll_245 i_law i_row i_set x3 i_broken i_value i_rest
    else
      zn (i_law + 98) fun v1 =>
      zn (2 * x4) fun v2 =>
      zn (v1 + v2) fun v3 =>
      zg 5580 i_row v3 fun v4 =>
      zn (i_law + 98) fun v5 =>
      zn (2 * x4) fun v6 =>
      zn (v5 + v6) fun v7 =>
      zn (v7 + 1) fun v8 =>
      zg 5580 i_row v8 fun v9 =>
      zn (x4 + 1) fun v10 =>
      if zi_w 20 ≤ zi_w v4 then
        if zi_w 27 ≤ zi_w v4 then
          if zi_w v4 ≠ zi_w 27 then
            zn (x3 - 1) fun v11 =>
            zg 400 i_rest v11 fun v12 =>
            if zi_w v4 ≠ zi_w 28 then
              f_HM_reckonAll_228 i_law i_row i_set k10 x2 x3 v10 v9 v12 1 i_broken i_value i_rest
            else
              f_HM_reckonAll_228 i_law i_row i_set k10 x2 x3 v10 v9 v12 0 i_broken i_value i_rest
          else
            zn (x3 - 1) fun v13 =>
            zn (x3 - 1) fun v14 =>
            zg 400 i_rest v14 fun v15 =>
            zn (1 - v15) fun v16 =>
            zs 400 i_rest v13 v16 fun a17 =>
            f_HM_reckonAll_242 i_law i_row i_set k10 x2 x3 v10 i_broken i_value a17
        else
          zn (x3 + (-1)) fun v18 =>
          zn (v18 - 1) fun v19 =>
          zn (v18 - 1) fun v20 =>
          zg 400 i_rest v20 fun v21 =>
          zg 400 i_rest v18 fun v22 =>
          zd2 (f_HM_reckon v4 v21 v22 i_broken) fun v23 v24 =>
          zs 400 i_rest v19 v23 fun a25 =>
          if zi_w v24 ≠ 0 then
            f_HM_reckonAll_169 i_law i_row i_set k10 x2 v18 v10 v24 i_value a25
          else
            zn (v18 - 1) fun v26 =>
            zg 400 a25 v26 fun v27 =>
            zd1 (f_HM_in v27 (-1000000000) 1000000000) fun v28 =>
            if zi_w v28 ≠ 0 then
              f_HM_reckonAll_174 i_law i_row i_set k10 x2 v18 v10 0 v24 i_value a25
            else
              f_HM_reckonAll_169 i_law i_row i_set k10 x2 v18 v10 v24 i_value a25
      else
        if zi_w v4 ≠ 0 then
          zg 13 i_set v4 fun v29 =>
          f_HM_reckonAll_96 i_law i_row i_set k10 x2 x3 v10 x3 v29 i_broken i_value i_rest
        else
          zn (zi_w v9) fun v30 =>
          f_HM_reckonAll_96 i_law i_row i_set k10 x2 x3 v10 x3 v30 i_broken i_value i_rest
def f_HM_reckonAll_10 (i_law : Int) (i_row : Nat → Int) (i_set : Nat → Int) : Nat → Int → Int → Int → Int → Int → (Nat → Int) → Option (Int × Int × (Nat → Int))
  | 0 => fun _ _ _ _ _ _ => none
  | n + 1 => fun y0 y1 y2 y3 y4 y5 => f_HM_reckonAll_10_b i_law i_row i_set (f_HM_reckonAll_10 i_law i_row i_set n) y0 y1 y2 y3 y4 y5
def f_HM_reckonAll (x1 : Int) (x2 : Int) (i_law : Int) (i_row : Nat → Int) (i_set : Nat → Int) (i_broken : Int) (i_value : Int) (i_rest : Nat → Int) : Option (Int × Int × (Nat → Int)) :=
  f_HM_reckonAll_10 i_law i_row i_set zfu x2 0 x1 0 i_value i_rest
set_option maxHeartbeats 4000000 in
set_option maxRecDepth 100000 in
theorem c_HM_reckonAll (l : Launch) (ev : zEv) (dC : Nat → ClassId) (dI : Nat → Nat → Nat) (cA : Nat → ClassId) (q0 q1 q2 q3 q4 q5 q6 q7 q8 q9 q10 q11 q12 q13 q14 q15 q16 q17 q18 q19 q20 q21 q22 q23 q24 q25 q26 q27 q28 q29 q30 q31 : Nat) (u0 u1 u2 u3 u4 u5 u6 u7 u8 u9 u10 u11 u12 u13 u14 u15 u16 u17 u18 : Int) {x1 x2 : Int} {i_law : Int} {i_row : Nat → Int} {i_set : Nat → Int} {i_broken : Int} {i_value : Int} {i_rest : Nat → Int} {out : Int × Int × (Nat → Int)} (hf : f_HM_reckonAll x1 x2 i_law i_row i_set i_broken i_value i_rest = some out) : xc_V l ev (dC, dI) vwCl (tyl cA) yX11_reckonAll w_HM_reckonAll rm_HM_reckonAll [.ref q0, .int (Int32.ofInt x1), .int (Int32.ofInt x2)] (wd_HM_reckonAll cA q0 q1 q2 q3 q4 q5 q6 q7 q8 q9 q10 q11 q12 q13 q14 q15 q16 q17 q18 q19 q20 q21 q22 q23 q24 q25 q26 q27 q28 q29 q30 q31 u0 u1 u2 u3 u4 u5 u6 u7 u8 u9 u10 u11 u12 u13 u14 u15 u16 u17 u18 i_law i_row i_set i_broken i_value i_rest) (wf_HM_reckonAll cA q0 q1 q2 q3 q4 q5 q6 q7 q8 q9 q10 q11 q12 q13 q14 q15 q16 q17 q18 q19 q20 q21 q22 q23 q24 q25 q26 q27 q28 q29 q30 q31 u0 u1 u2 u3 u4 u5 u6 u7 u8 u9 u10 u11 u12 u13 u14 u15 u16 u17 u18 i_law i_row i_set out) := by
  refine xv_startV (cc := cX11_reckonAll) (maxL := 7) (by decide +kernel) rfl (Nat.le_of_ble_eq_true rfl) ?_
  intro p e s m args below meth c A Q H ls hx hb hml hts hown hK hA hP hD hS hl hE hret
  have hown : s.vm.findClass "HillSchoolModel" = some m.cls := hown
  have hz : ∀ w ∈ zall, w.before args s = true := fun w h => hts w (List.mem_cons_of_mem _ h)
  have hl : lv_has ls 7 [(0, .ref q0), (1, .int (Int32.ofInt x1)), (2, .int (Int32.ofInt x2))] := hl
  have b_245 : ∀ (x3 : Int) (i_broken : Int) (i_value : Int) (i_rest : Nat → Int) (H : Heap) (locs : List Loc) (ls : Array Slot), f_HM_reckonAll_245 i_law i_row i_set x3 i_broken i_value i_rest = some out → va_P (dC, dI) vwCl (wd_HM_reckonAll cA q0 q1 q2 q3 q4 q5 q6 q7 q8 q9 q10 q11 q12 q13 q14 q15 q16 q17 q18 q19 q20 q21 q22 q23 q24 q25 q26 q27 q28 q29 q30 q31 u0 u1 u2 u3 u4 u5 u6 u7 u8 u9 u10 u11 u12 u13 u14 u15 u16 u17 u18 i_law i_row i_set i_broken i_value i_rest) H → va_D A (wd_HM_reckonAll cA q0 q1 q2 q3 q4 q5 q6 q7 q8 q9 q10 q11 q12 q13 q14 q15 q16 q17 q18 q19 q20 q21 q22 q23 q24 q25 q26 q27 q28 q29 q30 q31 u0 u1 u2 u3 u4 u5 u6 u7 u8 u9 u10 u11 u12 u13 u14 u15 u16 u17 u18 i_law i_row i_set i_broken i_value i_rest) → va_S A s.heap H locs → lv_has ls 7 [(0, .ref q0), (3, .int (Int32.ofInt x3))] → W p l e rm_HM_reckonAll s m args below meth c H locs 0 0 Q (F0 m 245 ls []) := by
    intro x3 i_broken i_value i_rest H locs ls hf hP hD hS hl
    unfold f_HM_reckonAll_245 at hf
    refine lv_aload_n hx hb dX11_reckonAll_245 rfl (lv_at hl 0 rfl) ?_
    refine lv_iload_n hx hb dX11_reckonAll_246 rfl (lv_at hl 1 rfl) ?_
    refine xi_if_le (tgt := 259) hx hb dX11_reckonAll_247 (by decide) hf (fun hf => ?_) (fun hf => ?_)
    · refine lv_lconst (v := Int64.ofInt 0) hx hb dX11_reckonAll_259 (by decide) ?_
      refine va_put (D := (dC, dI)) (ci := 11) (v := .long (Int64.ofInt 0)) (ty := .long) (C := RX11) (T := TX11) (N := 53) hx hb hz zi_X11 tyX11 tyX11_ok nmX11 hown hK hP hD hS 0 rfl rfl 30 (by decide) (hz _ zw_1195) (fun _ h9 => h9) rfl (by decide +kernel) rfl rfl (Nat.le_of_ble_eq_true rfl) dX11_reckonAll_260 (fun H locs hP hD hS => ?_)
      have hP : va_P (dC, dI) vwCl (wd_HM_reckonAll cA q0 q1 q2 q3 q4 q5 q6 q7 q8 q9 q10 q11 q12 q13 q14 q15 q16 q17 q18 q19 q20 q21 q22 q23 q24 q25 q26 q27 q28 q29 q30 q31 u0 u1 u2 u3 u4 u5 u6 u7 u8 u9 u10 u11 u12 u13 u14 u15 u16 u17 u18 i_law i_row i_set i_broken 0 i_rest) H := hP
      have hD : va_D A (wd_HM_reckonAll cA q0 q1 q2 q3 q4 q5 q6 q7 q8 q9 q10 q11 q12 q13 q14 q15 q16 q17 q18 q19 q20 q21 q22 q23 q24 q25 q26 q27 q28 q29 q30 q31 u0 u1 u2 u3 u4 u5 u6 u7 u8 u9 u10 u11 u12 u13 u14 u15 u16 u17 u18 i_law i_row i_set i_broken 0 i_rest) := hD
      obtain rfl := Option.some.inj hf
      exact hret _ _ _ _ dX11_reckonAll_263 hP hD hS
    · refine lv_aload_n hx hb dX11_reckonAll_250 rfl (lv_at hl 0 rfl) ?_
      refine va_get (D := (dC, dI)) (ci := 11) (v := .ref q13) (C := RX11) (T := TX11) (N := 53) hx hb hz zi_X11 hown hK hP 0 rfl rfl 28 (by decide) (hz _ zw_1193) (fun _ h9 => h9) rfl dX11_reckonAll_251 ?_
      refine lv_iconst (v := Int32.ofInt 0) hx hb dX11_reckonAll_254 rfl ?_
      refine xl_lald hx hb hK hP 3 2 rfl rfl dX11_reckonAll_255 hf (fun v1 hf => ?_)
      refine lv_goto (tgt := 260) hx hb dX11_reckonAll_256 (by decide) ?_
      refine va_put (D := (dC, dI)) (ci := 11) (v := .long (Int64.ofInt v1)) (ty := .long) (C := RX11) (T := TX11) (N := 53) hx hb hz zi_X11 tyX11 tyX11_ok nmX11 hown hK hP hD hS 0 rfl rfl 30 (by decide) (hz _ zw_1195) (fun _ h9 => h9) rfl (by decide +kernel) rfl rfl (Nat.le_of_ble_eq_true rfl) dX11_reckonAll_260 (fun H locs hP hD hS => ?_)
      have hP : va_P (dC, dI) vwCl (wd_HM_reckonAll cA q0 q1 q2 q3 q4 q5 q6 q7 q8 q9 q10 q11 q12 q13 q14 q15 q16 q17 q18 q19 q20 q21 q22 q23 q24 q25 q26 q27 q28 q29 q30 q31 u0 u1 u2 u3 u4 u5 u6 u7 u8 u9 u10 u11 u12 u13 u14 u15 u16 u17 u18 i_law i_row i_set i_broken v1 i_rest) H := hP
      have hD : va_D A (wd_HM_reckonAll cA q0 q1 q2 q3 q4 q5 q6 q7 q8 q9 q10 q11 q12 q13 q14 q15 q16 q17 q18 q19 q20 q21 q22 q23 q24 q25 q26 q27 q28 q29 q30 q31 u0 u1 u2 u3 u4 u5 u6 u7 u8 u9 u10 u11 u12 u13 u14 u15 u16 u17 u18 i_law i_row i_set i_broken v1 i_rest) := hD
      obtain rfl := Option.some.inj hf
      exact hret _ _ _ _ dX11_reckonAll_263 hP hD hS
  have b_242 : ∀ (k10 : Int → Int → Int → Int → Int → (Nat → Int) → Option (Int × Int × (Nat → Int))) (_ : ∀ (x2 : Int) (x3 : Int) (x4 : Int) (i_broken : Int) (i_value : Int) (i_rest : Nat → Int) (H : Heap) (locs : List Loc) (ls : Array Slot), k10 x2 x3 x4 i_broken i_value i_rest = some out → va_P (dC, dI) vwCl (wd_HM_reckonAll cA q0 q1 q2 q3 q4 q5 q6 q7 q8 q9 q10 q11 q12 q13 q14 q15 q16 q17 q18 q19 q20 q21 q22 q23 q24 q25 q26 q27 q28 q29 q30 q31 u0 u1 u2 u3 u4 u5 u6 u7 u8 u9 u10 u11 u12 u13 u14 u15 u16 u17 u18 i_law i_row i_set i_broken i_value i_rest) H → va_D A (wd_HM_reckonAll cA q0 q1 q2 q3 q4 q5 q6 q7 q8 q9 q10 q11 q12 q13 q14 q15 q16 q17 q18 q19 q20 q21 q22 q23 q24 q25 q26 q27 q28 q29 q30 q31 u0 u1 u2 u3 u4 u5 u6 u7 u8 u9 u10 u11 u12 u13 u14 u15 u16 u17 u18 i_law i_row i_set i_broken i_value i_rest) → va_S A s.heap H locs → lv_has ls 7 [(0, .ref q0), (2, .int (Int32.ofInt x2)), (3, .int (Int32.ofInt x3)), (4, .int (Int32.ofInt x4))] → W p l e rm_HM_reckonAll s m args below meth c H locs 0 0 Q (F0 m 10 ls [])), ∀ (x2 : Int) (x3 : Int) (x4 : Int) (i_broken : Int) (i_value : Int) (i_rest : Nat → Int) (H : Heap) (locs : List Loc) (ls : Array Slot), f_HM_reckonAll_242 i_law i_row i_set k10 x2 x3 x4 i_broken i_value i_rest = some out → va_P (dC, dI) vwCl (wd_HM_reckonAll cA q0 q1 q2 q3 q4 q5 q6 q7 q8 q9 q10 q11 q12 q13 q14 q15 q16 q17 q18 q19 q20 q21 q22 q23 q24 q25 q26 q27 q28 q29 q30 q31 u0 u1 u2 u3 u4 u5 u6 u7 u8 u9 u10 u11 u12 u13 u14 u15 u16 u17 u18 i_law i_row i_set i_broken i_value i_rest) H → va_D A (wd_HM_reckonAll cA q0 q1 q2 q3 q4 q5 q6 q7 q8 q9 q10 q11 q12 q13 q14 q15 q16 q17 q18 q19 q20 q21 q22 q23 q24 q25 q26 q27 q28 q29 q30 q31 u0 u1 u2 u3 u4 u5 u6 u7 u8 u9 u10 u11 u12 u13 u14 u15 u16 u17 u18 i_law i_row i_set i_broken i_value i_rest) → va_S A s.heap H locs → lv_has ls 7 [(0, .ref q0), (2, .int (Int32.ofInt x2)), (3, .int (Int32.ofInt x3)), (4, .int (Int32.ofInt x4))] → W p l e rm_HM_reckonAll s m args below meth c H locs 0 0 Q (F0 m 242 ls []) := by
    intro k10 ih10 x2 x3 x4 i_broken i_value i_rest H locs ls hf hP hD hS hl
    unfold f_HM_reckonAll_242 at hf
    refine lv_goto (tgt := 10) hx hb dX11_reckonAll_242 (by decide) ?_
    exact ih10 _ _ _ _ _ _ _ _ _ hf hP hD hS (lv_sub hl [0, 1, 2, 3] rfl)
  have b_228 : ∀ (k10 : Int → Int → Int → Int → Int → (Nat → Int) → Option (Int × Int × (Nat → Int))) (_ : ∀ (x2 : Int) (x3 : Int) (x4 : Int) (i_broken : Int) (i_value : Int) (i_rest : Nat → Int) (H : Heap) (locs : List Loc) (ls : Array Slot), k10 x2 x3 x4 i_broken i_value i_rest = some out → va_P (dC, dI) vwCl (wd_HM_reckonAll cA q0 q1 q2 q3 q4 q5 q6 q7 q8 q9 q10 q11 q12 q13 q14 q15 q16 q17 q18 q19 q20 q21 q22 q23 q24 q25 q26 q27 q28 q29 q30 q31 u0 u1 u2 u3 u4 u5 u6 u7 u8 u9 u10 u11 u12 u13 u14 u15 u16 u17 u18 i_law i_row i_set i_broken i_value i_rest) H → va_D A (wd_HM_reckonAll cA q0 q1 q2 q3 q4 q5 q6 q7 q8 q9 q10 q11 q12 q13 q14 q15 q16 q17 q18 q19 q20 q21 q22 q23 q24 q25 q26 q27 q28 q29 q30 q31 u0 u1 u2 u3 u4 u5 u6 u7 u8 u9 u10 u11 u12 u13 u14 u15 u16 u17 u18 i_law i_row i_set i_broken i_value i_rest) → va_S A s.heap H locs → lv_has ls 7 [(0, .ref q0), (2, .int (Int32.ofInt x2)), (3, .int (Int32.ofInt x3)), (4, .int (Int32.ofInt x4))] → W p l e rm_HM_reckonAll s m args below meth c H locs 0 0 Q (F0 m 10 ls [])), ∀ (x2 : Int) (x3 : Int) (x4 : Int) (x6 : Int) (s0 : Int) (s1 : Int) (i_broken : Int) (i_value : Int) (i_rest : Nat → Int) (H : Heap) (locs : List Loc) (ls : Array Slot), f_HM_reckonAll_228 i_law i_row i_set k10 x2 x3 x4 x6 s0 s1 i_broken i_value i_rest = some out → va_P (dC, dI) vwCl (wd_HM_reckonAll cA q0 q1 q2 q3 q4 q5 q6 q7 q8 q9 q10 q11 q12 q13 q14 q15 q16 q17 q18 q19 q20 q21 q22 q23 q24 q25 q26 q27 q28 q29 q30 q31 u0 u1 u2 u3 u4 u5 u6 u7 u8 u9 u10 u11 u12 u13 u14 u15 u16 u17 u18 i_law i_row i_set i_broken i_value i_rest) H → va_D A (wd_HM_reckonAll cA q0 q1 q2 q3 q4 q5 q6 q7 q8 q9 q10 q11 q12 q13 q14 q15 q16 q17 q18 q19 q20 q21 q22 q23 q24 q25 q26 q27 q28 q29 q30 q31 u0 u1 u2 u3 u4 u5 u6 u7 u8 u9 u10 u11 u12 u13 u14 u15 u16 u17 u18 i_law i_row i_set i_broken i_value i_rest) → va_S A s.heap H locs → lv_has ls 7 [(0, .ref q0), (2, .int (Int32.ofInt x2)), (3, .int (Int32.ofInt x3)), (4, .int (Int32.ofInt x4)), (6, .int (Int32.ofInt x6))] → W p l e rm_HM_reckonAll s m args below meth c H locs 0 0 Q (F0 m 228 ls [.long (Int64.ofInt s1), .long (Int64.ofInt s0)]) := by
    intro k10 ih10 x2 x3 x4 x6 s0 s1 i_broken i_value i_rest H locs ls hf hP hD hS hl
    unfold f_HM_reckonAll_228 at hf
    refine xl_cmp_ne (tgt := 239) hx hb dX11_reckonAll_228 dX11_reckonAll_229 (by decide) hf (fun hf => ?_) (fun hf => ?_)
    · refine xi_iinc hx hb dX11_reckonAll_239 hl (k := 2) rfl (by decide) hf (fun v1 ls hl hf => ?_)
      have hl : lv_has ls 7 [(3, .int (Int32.ofInt v1)), (0, .ref q0), (2, .int (Int32.ofInt x2)), (4, .int (Int32.ofInt x4)), (6, .int (Int32.ofInt x6))] := hl
      exact b_242 _ ih10 _ _ _ _ _ _ _ _ _ hf hP hD hS (lv_sub hl [1, 2, 0, 3] rfl)
    · refine lv_iload hx hb dX11_reckonAll_232 (lv_at hl 4 rfl) ?_
      refine lv_istore (lv' := [(4, .int (Int32.ofInt x6)), (0, .ref q0), (2, .int (Int32.ofInt x2)), (3, .int (Int32.ofInt x3)), (6, .int (Int32.ofInt x6))]) hx hb dX11_reckonAll_234 hl (by decide) rfl (fun ls hl => ?_)
      refine lv_goto (tgt := 242) hx hb dX11_reckonAll_236 (by decide) ?_
      exact b_242 _ ih10 _ _ _ _ _ _ _ _ _ hf hP hD hS (lv_sub hl [1, 2, 3, 0] rfl)
  have b_174 : ∀ (k10 : Int → Int → Int → Int → Int → (Nat → Int) → Option (Int × Int × (Nat → Int))) (_ : ∀ (x2 : Int) (x3 : Int) (x4 : Int) (i_broken : Int) (i_value : Int) (i_rest : Nat → Int) (H : Heap) (locs : List Loc) (ls : Array Slot), k10 x2 x3 x4 i_broken i_value i_rest = some out → va_P (dC, dI) vwCl (wd_HM_reckonAll cA q0 q1 q2 q3 q4 q5 q6 q7 q8 q9 q10 q11 q12 q13 q14 q15 q16 q17 q18 q19 q20 q21 q22 q23 q24 q25 q26 q27 q28 q29 q30 q31 u0 u1 u2 u3 u4 u5 u6 u7 u8 u9 u10 u11 u12 u13 u14 u15 u16 u17 u18 i_law i_row i_set i_broken i_value i_rest) H → va_D A (wd_HM_reckonAll cA q0 q1 q2 q3 q4 q5 q6 q7 q8 q9 q10 q11 q12 q13 q14 q15 q16 q17 q18 q19 q20 q21 q22 q23 q24 q25 q26 q27 q28 q29 q30 q31 u0 u1 u2 u3 u4 u5 u6 u7 u8 u9 u10 u11 u12 u13 u14 u15 u16 u17 u18 i_law i_row i_set i_broken i_value i_rest) → va_S A s.heap H locs → lv_has ls 7 [(0, .ref q0), (2, .int (Int32.ofInt x2)), (3, .int (Int32.ofInt x3)), (4, .int (Int32.ofInt x4))] → W p l e rm_HM_reckonAll s m args below meth c H locs 0 0 Q (F0 m 10 ls [])), ∀ (x2 : Int) (x3 : Int) (x4 : Int) (s1 : Int) (i_broken : Int) (i_value : Int) (i_rest : Nat → Int) (H : Heap) (locs : List Loc) (ls : Array Slot), f_HM_reckonAll_174 i_law i_row i_set k10 x2 x3 x4 s1 i_broken i_value i_rest = some out → va_P (dC, dI) vwCl (wd_HM_reckonAll cA q0 q1 q2 q3 q4 q5 q6 q7 q8 q9 q10 q11 q12 q13 q14 q15 q16 q17 q18 q19 q20 q21 q22 q23 q24 q25 q26 q27 q28 q29 q30 q31 u0 u1 u2 u3 u4 u5 u6 u7 u8 u9 u10 u11 u12 u13 u14 u15 u16 u17 u18 i_law i_row i_set i_broken i_value i_rest) H → va_D A (wd_HM_reckonAll cA q0 q1 q2 q3 q4 q5 q6 q7 q8 q9 q10 q11 q12 q13 q14 q15 q16 q17 q18 q19 q20 q21 q22 q23 q24 q25 q26 q27 q28 q29 q30 q31 u0 u1 u2 u3 u4 u5 u6 u7 u8 u9 u10 u11 u12 u13 u14 u15 u16 u17 u18 i_law i_row i_set i_broken i_value i_rest) → va_S A s.heap H locs → lv_has ls 7 [(0, .ref q0), (2, .int (Int32.ofInt x2)), (3, .int (Int32.ofInt x3)), (4, .int (Int32.ofInt x4))] → W p l e rm_HM_reckonAll s m args below meth c H locs 0 0 Q (F0 m 174 ls [.int (Int32.ofInt s1), .ref q0]) := by
    intro k10 ih10 x2 x3 x4 s1 i_broken i_value i_rest H locs ls hf hP hD hS hl
    unfold f_HM_reckonAll_174 at hf
    obtain ⟨hzb, hf⟩ := xz_q hf
    refine va_put (D := (dC, dI)) (ci := 11) (v := .int (Int32.ofInt s1)) (ty := .boolean) (C := RX11) (T := TX11) (N := 53) hx hb hz zi_X11 tyX11 tyX11_ok nmX11 hown hK hP hD hS 0 rfl rfl 29 (by decide) (hz _ zw_1194) (fun _ h9 => h9) rfl (by decide +kernel) (zz_bool hzb) (zz_fitb hzb) (Nat.le_of_ble_eq_true rfl) dX11_reckonAll_174 (fun H locs hP hD hS => ?_)
    have hP : va_P (dC, dI) vwCl (wd_HM_reckonAll cA q0 q1 q2 q3 q4 q5 q6 q7 q8 q9 q10 q11 q12 q13 q14 q15 q16 q17 q18 q19 q20 q21 q22 q23 q24 q25 q26 q27 q28 q29 q30 q31 u0 u1 u2 u3 u4 u5 u6 u7 u8 u9 u10 u11 u12 u13 u14 u15 u16 u17 u18 i_law i_row i_set s1 i_value i_rest) H := hP
    have hD : va_D A (wd_HM_reckonAll cA q0 q1 q2 q3 q4 q5 q6 q7 q8 q9 q10 q11 q12 q13 q14 q15 q16 q17 q18 q19 q20 q21 q22 q23 q24 q25 q26 q27 q28 q29 q30 q31 u0 u1 u2 u3 u4 u5 u6 u7 u8 u9 u10 u11 u12 u13 u14 u15 u16 u17 u18 i_law i_row i_set s1 i_value i_rest) := hD
    refine lv_goto (tgt := 242) hx hb dX11_reckonAll_177 (by decide) ?_
    exact b_242 _ ih10 _ _ _ _ _ _ _ _ _ hf hP hD hS (lv_sub hl [0, 1, 2, 3] rfl)
  have b_169 : ∀ (k10 : Int → Int → Int → Int → Int → (Nat → Int) → Option (Int × Int × (Nat → Int))) (_ : ∀ (x2 : Int) (x3 : Int) (x4 : Int) (i_broken : Int) (i_value : Int) (i_rest : Nat → Int) (H : Heap) (locs : List Loc) (ls : Array Slot), k10 x2 x3 x4 i_broken i_value i_rest = some out → va_P (dC, dI) vwCl (wd_HM_reckonAll cA q0 q1 q2 q3 q4 q5 q6 q7 q8 q9 q10 q11 q12 q13 q14 q15 q16 q17 q18 q19 q20 q21 q22 q23 q24 q25 q26 q27 q28 q29 q30 q31 u0 u1 u2 u3 u4 u5 u6 u7 u8 u9 u10 u11 u12 u13 u14 u15 u16 u17 u18 i_law i_row i_set i_broken i_value i_rest) H → va_D A (wd_HM_reckonAll cA q0 q1 q2 q3 q4 q5 q6 q7 q8 q9 q10 q11 q12 q13 q14 q15 q16 q17 q18 q19 q20 q21 q22 q23 q24 q25 q26 q27 q28 q29 q30 q31 u0 u1 u2 u3 u4 u5 u6 u7 u8 u9 u10 u11 u12 u13 u14 u15 u16 u17 u18 i_law i_row i_set i_broken i_value i_rest) → va_S A s.heap H locs → lv_has ls 7 [(0, .ref q0), (2, .int (Int32.ofInt x2)), (3, .int (Int32.ofInt x3)), (4, .int (Int32.ofInt x4))] → W p l e rm_HM_reckonAll s m args below meth c H locs 0 0 Q (F0 m 10 ls [])), ∀ (x2 : Int) (x3 : Int) (x4 : Int) (i_broken : Int) (i_value : Int) (i_rest : Nat → Int) (H : Heap) (locs : List Loc) (ls : Array Slot), f_HM_reckonAll_169 i_law i_row i_set k10 x2 x3 x4 i_broken i_value i_rest = some out → va_P (dC, dI) vwCl (wd_HM_reckonAll cA q0 q1 q2 q3 q4 q5 q6 q7 q8 q9 q10 q11 q12 q13 q14 q15 q16 q17 q18 q19 q20 q21 q22 q23 q24 q25 q26 q27 q28 q29 q30 q31 u0 u1 u2 u3 u4 u5 u6 u7 u8 u9 u10 u11 u12 u13 u14 u15 u16 u17 u18 i_law i_row i_set i_broken i_value i_rest) H → va_D A (wd_HM_reckonAll cA q0 q1 q2 q3 q4 q5 q6 q7 q8 q9 q10 q11 q12 q13 q14 q15 q16 q17 q18 q19 q20 q21 q22 q23 q24 q25 q26 q27 q28 q29 q30 q31 u0 u1 u2 u3 u4 u5 u6 u7 u8 u9 u10 u11 u12 u13 u14 u15 u16 u17 u18 i_law i_row i_set i_broken i_value i_rest) → va_S A s.heap H locs → lv_has ls 7 [(0, .ref q0), (2, .int (Int32.ofInt x2)), (3, .int (Int32.ofInt x3)), (4, .int (Int32.ofInt x4))] → W p l e rm_HM_reckonAll s m args below meth c H locs 0 0 Q (F0 m 169 ls [.ref q0]) := by
    intro k10 ih10 x2 x3 x4 i_broken i_value i_rest H locs ls hf hP hD hS hl
    unfold f_HM_reckonAll_169 at hf
    refine lv_iconst (v := Int32.ofInt 1) hx hb dX11_reckonAll_169 rfl ?_
    refine lv_goto (tgt := 174) hx hb dX11_reckonAll_170 (by decide) ?_
    exact b_174 _ ih10 _ _ _ _ _ _ _ _ _ _ hf hP hD hS (lv_sub hl [0, 1, 2, 3] rfl)
  have b_96 : ∀ (k10 : Int → Int → Int → Int → Int → (Nat → Int) → Option (Int × Int × (Nat → Int))) (_ : ∀ (x2 : Int) (x3 : Int) (x4 : Int) (i_broken : Int) (i_value : Int) (i_rest : Nat → Int) (H : Heap) (locs : List Loc) (ls : Array Slot), k10 x2 x3 x4 i_broken i_value i_rest = some out → va_P (dC, dI) vwCl (wd_HM_reckonAll cA q0 q1 q2 q3 q4 q5 q6 q7 q8 q9 q10 q11 q12 q13 q14 q15 q16 q17 q18 q19 q20 q21 q22 q23 q24 q25 q26 q27 q28 q29 q30 q31 u0 u1 u2 u3 u4 u5 u6 u7 u8 u9 u10 u11 u12 u13 u14 u15 u16 u17 u18 i_law i_row i_set i_broken i_value i_rest) H → va_D A (wd_HM_reckonAll cA q0 q1 q2 q3 q4 q5 q6 q7 q8 q9 q10 q11 q12 q13 q14 q15 q16 q17 q18 q19 q20 q21 q22 q23 q24 q25 q26 q27 q28 q29 q30 q31 u0 u1 u2 u3 u4 u5 u6 u7 u8 u9 u10 u11 u12 u13 u14 u15 u16 u17 u18 i_law i_row i_set i_broken i_value i_rest) → va_S A s.heap H locs → lv_has ls 7 [(0, .ref q0), (2, .int (Int32.ofInt x2)), (3, .int (Int32.ofInt x3)), (4, .int (Int32.ofInt x4))] → W p l e rm_HM_reckonAll s m args below meth c H locs 0 0 Q (F0 m 10 ls [])), ∀ (x2 : Int) (x3 : Int) (x4 : Int) (s1 : Int) (s2 : Int) (i_broken : Int) (i_value : Int) (i_rest : Nat → Int) (H : Heap) (locs : List Loc) (ls : Array Slot), f_HM_reckonAll_96 i_law i_row i_set k10 x2 x3 x4 s1 s2 i_broken i_value i_rest = some out → va_P (dC, dI) vwCl (wd_HM_reckonAll cA q0 q1 q2 q3 q4 q5 q6 q7 q8 q9 q10 q11 q12 q13 q14 q15 q16 q17 q18 q19 q20 q21 q22 q23 q24 q25 q26 q27 q28 q29 q30 q31 u0 u1 u2 u3 u4 u5 u6 u7 u8 u9 u10 u11 u12 u13 u14 u15 u16 u17 u18 i_law i_row i_set i_broken i_value i_rest) H → va_D A (wd_HM_reckonAll cA q0 q1 q2 q3 q4 q5 q6 q7 q8 q9 q10 q11 q12 q13 q14 q15 q16 q17 q18 q19 q20 q21 q22 q23 q24 q25 q26 q27 q28 q29 q30 q31 u0 u1 u2 u3 u4 u5 u6 u7 u8 u9 u10 u11 u12 u13 u14 u15 u16 u17 u18 i_law i_row i_set i_broken i_value i_rest) → va_S A s.heap H locs → lv_has ls 7 [(0, .ref q0), (2, .int (Int32.ofInt x2)), (3, .int (Int32.ofInt x3)), (4, .int (Int32.ofInt x4))] → W p l e rm_HM_reckonAll s m args below meth c H locs 0 0 Q (F0 m 96 ls [.long (Int64.ofInt s2), .int (Int32.ofInt s1), .ref q13]) := by
    intro k10 ih10 x2 x3 x4 s1 s2 i_broken i_value i_rest H locs ls hf hP hD hS hl
    unfold f_HM_reckonAll_96 at hf
    refine xl_last hx hb hK hP hD hS 3 2 rfl rfl dX11_reckonAll_96 hf (fun a1 H locs hP hD hS hf => ?_)
    have hP : va_P (dC, dI) vwCl (wd_HM_reckonAll cA q0 q1 q2 q3 q4 q5 q6 q7 q8 q9 q10 q11 q12 q13 q14 q15 q16 q17 q18 q19 q20 q21 q22 q23 q24 q25 q26 q27 q28 q29 q30 q31 u0 u1 u2 u3 u4 u5 u6 u7 u8 u9 u10 u11 u12 u13 u14 u15 u16 u17 u18 i_law i_row i_set i_broken i_value a1) H := hP
    have hD : va_D A (wd_HM_reckonAll cA q0 q1 q2 q3 q4 q5 q6 q7 q8 q9 q10 q11 q12 q13 q14 q15 q16 q17 q18 q19 q20 q21 q22 q23 q24 q25 q26 q27 q28 q29 q30 q31 u0 u1 u2 u3 u4 u5 u6 u7 u8 u9 u10 u11 u12 u13 u14 u15 u16 u17 u18 i_law i_row i_set i_broken i_value a1) := hD
    refine xi_iinc hx hb dX11_reckonAll_97 hl (k := 2) rfl (by decide) hf (fun v2 ls hl hf => ?_)
    have hl : lv_has ls 7 [(3, .int (Int32.ofInt v2)), (0, .ref q0), (2, .int (Int32.ofInt x2)), (4, .int (Int32.ofInt x4))] := hl
    refine lv_goto (tgt := 242) hx hb dX11_reckonAll_100 (by decide) ?_
    exact b_242 _ ih10 _ _ _ _ _ _ _ _ _ hf hP hD hS (lv_sub hl [1, 2, 0, 3] rfl)
  have b_10 : ∀ (k10 : Int → Int → Int → Int → Int → (Nat → Int) → Option (Int × Int × (Nat → Int))) (_ : ∀ (x2 : Int) (x3 : Int) (x4 : Int) (i_broken : Int) (i_value : Int) (i_rest : Nat → Int) (H : Heap) (locs : List Loc) (ls : Array Slot), k10 x2 x3 x4 i_broken i_value i_rest = some out → va_P (dC, dI) vwCl (wd_HM_reckonAll cA q0 q1 q2 q3 q4 q5 q6 q7 q8 q9 q10 q11 q12 q13 q14 q15 q16 q17 q18 q19 q20 q21 q22 q23 q24 q25 q26 q27 q28 q29 q30 q31 u0 u1 u2 u3 u4 u5 u6 u7 u8 u9 u10 u11 u12 u13 u14 u15 u16 u17 u18 i_law i_row i_set i_broken i_value i_rest) H → va_D A (wd_HM_reckonAll cA q0 q1 q2 q3 q4 q5 q6 q7 q8 q9 q10 q11 q12 q13 q14 q15 q16 q17 q18 q19 q20 q21 q22 q23 q24 q25 q26 q27 q28 q29 q30 q31 u0 u1 u2 u3 u4 u5 u6 u7 u8 u9 u10 u11 u12 u13 u14 u15 u16 u17 u18 i_law i_row i_set i_broken i_value i_rest) → va_S A s.heap H locs → lv_has ls 7 [(0, .ref q0), (2, .int (Int32.ofInt x2)), (3, .int (Int32.ofInt x3)), (4, .int (Int32.ofInt x4))] → W p l e rm_HM_reckonAll s m args below meth c H locs 0 0 Q (F0 m 10 ls [])), ∀ (x2 : Int) (x3 : Int) (x4 : Int) (i_broken : Int) (i_value : Int) (i_rest : Nat → Int) (H : Heap) (locs : List Loc) (ls : Array Slot), f_HM_reckonAll_10_b i_law i_row i_set k10 x2 x3 x4 i_broken i_value i_rest = some out → va_P (dC, dI) vwCl (wd_HM_reckonAll cA q0 q1 q2 q3 q4 q5 q6 q7 q8 q9 q10 q11 q12 q13 q14 q15 q16 q17 q18 q19 q20 q21 q22 q23 q24 q25 q26 q27 q28 q29 q30 q31 u0 u1 u2 u3 u4 u5 u6 u7 u8 u9 u10 u11 u12 u13 u14 u15 u16 u17 u18 i_law i_row i_set i_broken i_value i_rest) H → va_D A (wd_HM_reckonAll cA q0 q1 q2 q3 q4 q5 q6 q7 q8 q9 q10 q11 q12 q13 q14 q15 q16 q17 q18 q19 q20 q21 q22 q23 q24 q25 q26 q27 q28 q29 q30 q31 u0 u1 u2 u3 u4 u5 u6 u7 u8 u9 u10 u11 u12 u13 u14 u15 u16 u17 u18 i_law i_row i_set i_broken i_value i_rest) → va_S A s.heap H locs → lv_has ls 7 [(0, .ref q0), (2, .int (Int32.ofInt x2)), (3, .int (Int32.ofInt x3)), (4, .int (Int32.ofInt x4))] → W p l e rm_HM_reckonAll s m args below meth c H locs 0 0 Q (F0 m 10 ls []) := by
    intro k10 ih10 x2 x3 x4 i_broken i_value i_rest H locs ls hf hP hD hS hl
    unfold f_HM_reckonAll_10_b at hf
    refine lv_iload hx hb dX11_reckonAll_10 (lv_at hl 3 rfl) ?_
    refine lv_iload_n hx hb dX11_reckonAll_12 rfl (lv_at hl 1 rfl) ?_
    refine xi_icmp_ge (tgt := 245) hx hb dX11_reckonAll_13 (by decide) hf (fun hf => ?_) (fun hf => ?_)
    · exact b_245  _ _ _ _ _ _ _ hf hP hD hS (lv_sub hl [0, 2] rfl)
    · refine lv_aload_n hx hb dX11_reckonAll_16 rfl (lv_at hl 0 rfl) ?_
      refine va_get (D := (dC, dI)) (ci := 11) (v := .int (Int32.ofInt i_broken)) (C := RX11) (T := TX11) (N := 53) hx hb hz zi_X11 hown hK hP 0 rfl rfl 29 (by decide) (hz _ zw_1194) (fun _ h9 => h9) rfl dX11_reckonAll_17 ?_
      refine xi_if_ne (tgt := 245) hx hb dX11_reckonAll_20 (by decide) hf (fun hf => ?_) (fun hf => ?_)
      · exact b_245  _ _ _ _ _ _ _ hf hP hD hS (lv_sub hl [0, 2] rfl)
      · refine lv_aload_n hx hb dX11_reckonAll_23 rfl (lv_at hl 0 rfl) ?_
        refine va_get (D := (dC, dI)) (ci := 11) (v := .ref q2) (C := RX11) (T := TX11) (N := 53) hx hb hz zi_X11 hown hK hP 0 rfl rfl 3 (by decide) (hz _ zw_1168) (fun _ h9 => h9) rfl dX11_reckonAll_24 ?_
        refine lv_aload_n hx hb dX11_reckonAll_27 rfl (lv_at hl 0 rfl) ?_
        refine va_get (D := (dC, dI)) (ci := 11) (v := .int (Int32.ofInt i_law)) (C := RX11) (T := TX11) (N := 53) hx hb hz zi_X11 hown hK hP 0 rfl rfl 26 (by decide) (hz _ zw_1191) (fun _ h9 => h9) rfl dX11_reckonAll_28 ?_
        refine lv_bipush (v := Int32.ofInt 98) hx hb dX11_reckonAll_31 (by decide) ?_
        refine xi_iadd hx hb dX11_reckonAll_33 hf (fun v1 hf => ?_)
        refine lv_iconst (v := Int32.ofInt 2) hx hb dX11_reckonAll_34 rfl ?_
        refine lv_iload hx hb dX11_reckonAll_35 (lv_at hl 3 rfl) ?_
        refine xi_imul hx hb dX11_reckonAll_37 hf (fun v2 hf => ?_)
        refine xi_iadd hx hb dX11_reckonAll_38 hf (fun v3 hf => ?_)
        refine xi_iald hx hb hK hP 1 0 rfl rfl dX11_reckonAll_39 hf (fun v4 hf => ?_)
        refine lv_istore (lv' := [(5, .int (Int32.ofInt v4)), (0, .ref q0), (2, .int (Int32.ofInt x2)), (3, .int (Int32.ofInt x3)), (4, .int (Int32.ofInt x4))]) hx hb dX11_reckonAll_40 hl (by decide) rfl (fun ls hl => ?_)
        refine lv_aload_n hx hb dX11_reckonAll_42 rfl (lv_at hl 1 rfl) ?_
        refine va_get (D := (dC, dI)) (ci := 11) (v := .ref q2) (C := RX11) (T := TX11) (N := 53) hx hb hz zi_X11 hown hK hP 0 rfl rfl 3 (by decide) (hz _ zw_1168) (fun _ h9 => h9) rfl dX11_reckonAll_43 ?_
        refine lv_aload_n hx hb dX11_reckonAll_46 rfl (lv_at hl 1 rfl) ?_
        refine va_get (D := (dC, dI)) (ci := 11) (v := .int (Int32.ofInt i_law)) (C := RX11) (T := TX11) (N := 53) hx hb hz zi_X11 hown hK hP 0 rfl rfl 26 (by decide) (hz _ zw_1191) (fun _ h9 => h9) rfl dX11_reckonAll_47 ?_
        refine lv_bipush (v := Int32.ofInt 98) hx hb dX11_reckonAll_50 (by decide) ?_
        refine xi_iadd hx hb dX11_reckonAll_52 hf (fun v5 hf => ?_)
        refine lv_iconst (v := Int32.ofInt 2) hx hb dX11_reckonAll_53 rfl ?_
        refine lv_iload hx hb dX11_reckonAll_54 (lv_at hl 4 rfl) ?_
        refine xi_imul hx hb dX11_reckonAll_56 hf (fun v6 hf => ?_)
        refine xi_iadd hx hb dX11_reckonAll_57 hf (fun v7 hf => ?_)
        refine lv_iconst (v := Int32.ofInt 1) hx hb dX11_reckonAll_58 rfl ?_
        refine xi_iadd hx hb dX11_reckonAll_59 hf (fun v8 hf => ?_)
        refine xi_iald hx hb hK hP 1 0 rfl rfl dX11_reckonAll_60 hf (fun v9 hf => ?_)
        refine lv_istore (lv' := [(6, .int (Int32.ofInt v9)), (5, .int (Int32.ofInt v4)), (0, .ref q0), (2, .int (Int32.ofInt x2)), (3, .int (Int32.ofInt x3)), (4, .int (Int32.ofInt x4))]) hx hb dX11_reckonAll_61 hl (by decide) rfl (fun ls hl => ?_)
        refine xi_iinc hx hb dX11_reckonAll_63 hl (k := 5) rfl (by decide) hf (fun v10 ls hl hf => ?_)
        have hl : lv_has ls 7 [(4, .int (Int32.ofInt v10)), (6, .int (Int32.ofInt v9)), (5, .int (Int32.ofInt v4)), (0, .ref q0), (2, .int (Int32.ofInt x2)), (3, .int (Int32.ofInt x3))] := hl
        refine lv_iload hx hb dX11_reckonAll_66 (lv_at hl 2 rfl) ?_
        refine lv_bipush (v := Int32.ofInt 20) hx hb dX11_reckonAll_68 (by decide) ?_
        refine xi_icmp_ge (tgt := 103) hx hb dX11_reckonAll_70 (by decide) hf (fun hf => ?_) (fun hf => ?_)
        · refine lv_iload hx hb dX11_reckonAll_103 (lv_at hl 2 rfl) ?_
          refine lv_bipush (v := Int32.ofInt 27) hx hb dX11_reckonAll_105 (by decide) ?_
          refine xi_icmp_ge (tgt := 180) hx hb dX11_reckonAll_107 (by decide) hf (fun hf => ?_) (fun hf => ?_)
          · refine lv_iload hx hb dX11_reckonAll_180 (lv_at hl 2 rfl) ?_
            refine lv_bipush (v := Int32.ofInt 27) hx hb dX11_reckonAll_182 (by decide) ?_
            refine xi_icmp_ne (tgt := 208) hx hb dX11_reckonAll_184 (by decide) hf (fun hf => ?_) (fun hf => ?_)
            · refine lv_aload_n hx hb dX11_reckonAll_208 rfl (lv_at hl 3 rfl) ?_
              refine va_get (D := (dC, dI)) (ci := 11) (v := .ref q13) (C := RX11) (T := TX11) (N := 53) hx hb hz zi_X11 hown hK hP 0 rfl rfl 28 (by decide) (hz _ zw_1193) (fun _ h9 => h9) rfl dX11_reckonAll_209 ?_
              refine lv_iload_n hx hb dX11_reckonAll_212 rfl (lv_at hl 5 rfl) ?_
              refine lv_iconst (v := Int32.ofInt 1) hx hb dX11_reckonAll_213 rfl ?_
              refine xi_isub hx hb dX11_reckonAll_214 hf (fun v11 hf => ?_)
              refine xl_lald hx hb hK hP 3 2 rfl rfl dX11_reckonAll_215 hf (fun v12 hf => ?_)
              refine lv_iload hx hb dX11_reckonAll_216 (lv_at hl 2 rfl) ?_
              refine lv_bipush (v := Int32.ofInt 28) hx hb dX11_reckonAll_218 (by decide) ?_
              refine xi_icmp_ne (tgt := 227) hx hb dX11_reckonAll_220 (by decide) hf (fun hf => ?_) (fun hf => ?_)
              · refine lv_lconst (v := Int64.ofInt 1) hx hb dX11_reckonAll_227 (by decide) ?_
                exact b_228 _ ih10 _ _ _ _ _ _ _ _ _ _ _ _ hf hP hD hS (lv_sub hl [3, 4, 5, 0, 1] rfl)
              · refine lv_lconst (v := Int64.ofInt 0) hx hb dX11_reckonAll_223 (by decide) ?_
                refine lv_goto (tgt := 228) hx hb dX11_reckonAll_224 (by decide) ?_
                exact b_228 _ ih10 _ _ _ _ _ _ _ _ _ _ _ _ hf hP hD hS (lv_sub hl [3, 4, 5, 0, 1] rfl)
            · refine lv_aload_n hx hb dX11_reckonAll_187 rfl (lv_at hl 3 rfl) ?_
              refine va_get (D := (dC, dI)) (ci := 11) (v := .ref q13) (C := RX11) (T := TX11) (N := 53) hx hb hz zi_X11 hown hK hP 0 rfl rfl 28 (by decide) (hz _ zw_1193) (fun _ h9 => h9) rfl dX11_reckonAll_188 ?_
              refine lv_iload_n hx hb dX11_reckonAll_191 rfl (lv_at hl 5 rfl) ?_
              refine lv_iconst (v := Int32.ofInt 1) hx hb dX11_reckonAll_192 rfl ?_
              refine xi_isub hx hb dX11_reckonAll_193 hf (fun v13 hf => ?_)
              refine lv_lconst (v := Int64.ofInt 1) hx hb dX11_reckonAll_194 (by decide) ?_
              refine lv_aload_n hx hb dX11_reckonAll_195 rfl (lv_at hl 3 rfl) ?_
              refine va_get (D := (dC, dI)) (ci := 11) (v := .ref q13) (C := RX11) (T := TX11) (N := 53) hx hb hz zi_X11 hown hK hP 0 rfl rfl 28 (by decide) (hz _ zw_1193) (fun _ h9 => h9) rfl dX11_reckonAll_196 ?_
              refine lv_iload_n hx hb dX11_reckonAll_199 rfl (lv_at hl 5 rfl) ?_
              refine lv_iconst (v := Int32.ofInt 1) hx hb dX11_reckonAll_200 rfl ?_
              refine xi_isub hx hb dX11_reckonAll_201 hf (fun v14 hf => ?_)
              refine xl_lald hx hb hK hP 3 2 rfl rfl dX11_reckonAll_202 hf (fun v15 hf => ?_)
              refine xl_lsub hx hb dX11_reckonAll_203 hf (fun v16 hf => ?_)
              refine xl_last hx hb hK hP hD hS 3 2 rfl rfl dX11_reckonAll_204 hf (fun a17 H locs hP hD hS hf => ?_)
              have hP : va_P (dC, dI) vwCl (wd_HM_reckonAll cA q0 q1 q2 q3 q4 q5 q6 q7 q8 q9 q10 q11 q12 q13 q14 q15 q16 q17 q18 q19 q20 q21 q22 q23 q24 q25 q26 q27 q28 q29 q30 q31 u0 u1 u2 u3 u4 u5 u6 u7 u8 u9 u10 u11 u12 u13 u14 u15 u16 u17 u18 i_law i_row i_set i_broken i_value a17) H := hP
              have hD : va_D A (wd_HM_reckonAll cA q0 q1 q2 q3 q4 q5 q6 q7 q8 q9 q10 q11 q12 q13 q14 q15 q16 q17 q18 q19 q20 q21 q22 q23 q24 q25 q26 q27 q28 q29 q30 q31 u0 u1 u2 u3 u4 u5 u6 u7 u8 u9 u10 u11 u12 u13 u14 u15 u16 u17 u18 i_law i_row i_set i_broken i_value a17) := hD
              refine lv_goto (tgt := 242) hx hb dX11_reckonAll_205 (by decide) ?_
              exact b_242 _ ih10 _ _ _ _ _ _ _ _ _ hf hP hD hS (lv_sub hl [3, 4, 5, 0] rfl)
          · refine xi_iinc hx hb dX11_reckonAll_110 hl (k := 5) rfl (by decide) hf (fun v18 ls hl hf => ?_)
            have hl : lv_has ls 7 [(3, .int (Int32.ofInt v18)), (4, .int (Int32.ofInt v10)), (6, .int (Int32.ofInt v9)), (5, .int (Int32.ofInt v4)), (0, .ref q0), (2, .int (Int32.ofInt x2))] := hl
            refine lv_aload_n hx hb dX11_reckonAll_113 rfl (lv_at hl 4 rfl) ?_
            refine va_get (D := (dC, dI)) (ci := 11) (v := .ref q13) (C := RX11) (T := TX11) (N := 53) hx hb hz zi_X11 hown hK hP 0 rfl rfl 28 (by decide) (hz _ zw_1193) (fun _ h9 => h9) rfl dX11_reckonAll_114 ?_
            refine lv_iload_n hx hb dX11_reckonAll_117 rfl (lv_at hl 0 rfl) ?_
            refine lv_iconst (v := Int32.ofInt 1) hx hb dX11_reckonAll_118 rfl ?_
            refine xi_isub hx hb dX11_reckonAll_119 hf (fun v19 hf => ?_)
            refine lv_aload_n hx hb dX11_reckonAll_120 rfl (lv_at hl 4 rfl) ?_
            refine lv_iload hx hb dX11_reckonAll_121 (lv_at hl 3 rfl) ?_
            refine lv_aload_n hx hb dX11_reckonAll_123 rfl (lv_at hl 4 rfl) ?_
            refine va_get (D := (dC, dI)) (ci := 11) (v := .ref q13) (C := RX11) (T := TX11) (N := 53) hx hb hz zi_X11 hown hK hP 0 rfl rfl 28 (by decide) (hz _ zw_1193) (fun _ h9 => h9) rfl dX11_reckonAll_124 ?_
            refine lv_iload_n hx hb dX11_reckonAll_127 rfl (lv_at hl 0 rfl) ?_
            refine lv_iconst (v := Int32.ofInt 1) hx hb dX11_reckonAll_128 rfl ?_
            refine xi_isub hx hb dX11_reckonAll_129 hf (fun v20 hf => ?_)
            refine xl_lald hx hb hK hP 3 2 rfl rfl dX11_reckonAll_130 hf (fun v21 hf => ?_)
            refine lv_aload_n hx hb dX11_reckonAll_131 rfl (lv_at hl 4 rfl) ?_
            refine va_get (D := (dC, dI)) (ci := 11) (v := .ref q13) (C := RX11) (T := TX11) (N := 53) hx hb hz zi_X11 hown hK hP 0 rfl rfl 28 (by decide) (hz _ zw_1193) (fun _ h9 => h9) rfl dX11_reckonAll_132 ?_
            refine lv_iload_n hx hb dX11_reckonAll_135 rfl (lv_at hl 0 rfl) ?_
            refine xl_lald hx hb hK hP 3 2 rfl rfl dX11_reckonAll_136 hf (fun v22 hf => ?_)
            refine xe_d2 hf (fun v23 v24 hg hf => ?_)
            have hC : ([0] : List Nat).map (fun i => (wd_HM_reckonAll cA q0 q1 q2 q3 q4 q5 q6 q7 q8 q9 q10 q11 q12 q13 q14 q15 q16 q17 q18 q19 q20 q21 q22 q23 q24 q25 q26 q27 q28 q29 q30 q31 u0 u1 u2 u3 u4 u5 u6 u7 u8 u9 u10 u11 u12 u13 u14 u15 u16 u17 u18 i_law i_row i_set i_broken i_value i_rest)[i]?) = (wd_HM_reckon cA q0 q1 q2 q3 q4 q5 q6 q7 q8 q9 q10 q11 q12 q13 q14 q15 q16 q17 q18 q19 q20 q21 q22 q23 q24 q25 q26 q27 q28 q29 q30 q31 u0 u1 u2 u3 u4 u5 u6 u7 u8 u9 u10 u11 u12 u13 u14 i_law i_value u15 u16 u17 u18 i_broken).map some := rfl
            refine xv_afterJ (ws' := (wd_HM_reckonAll cA q0 q1 q2 q3 q4 q5 q6 q7 q8 q9 q10 q11 q12 q13 q14 q15 q16 q17 q18 q19 q20 q21 q22 q23 q24 q25 q26 q27 q28 q29 q30 q31 u0 u1 u2 u3 u4 u5 u6 u7 u8 u9 u10 u11 u12 u13 u14 u15 u16 u17 u18 i_law i_row i_set v24 i_value i_rest)) (isC := [0]) (ps := [some 0, none, none, none]) (va_runV (As := [.int (Int32.ofInt v4), .long (Int64.ofInt v21), .long (Int64.ofInt v22)]) (rest := [.int (Int32.ofInt v19), .ref q13]) ⟨hx, hb, hml, hown, hts⟩ (c_HM_reckon l ev dC dI cA q0 q1 q2 q3 q4 q5 q6 q7 q8 q9 q10 q11 q12 q13 q14 q15 q16 q17 q18 q19 q20 q21 q22 q23 q24 q25 q26 q27 q28 q29 q30 q31 u0 u1 u2 u3 u4 u5 u6 u7 u8 u9 u10 u11 u12 u13 u14 i_law i_value u15 u16 u17 u18 hg H.size) (cwV 3 hts (zgV zw_1576 zw_1578 zw_72 zw_115 zw_1579) rfl rfl rfl hd_HM_reckon ⟨Nat.le_of_ble_eq_true rfl, Nat.le_of_ble_eq_true rfl⟩) (xv_preV (T := TX11) (N := 53) hE hA hS hK hP hD (isC := [0]) (by decide +kernel) hC (q0 := 0) (ci := 11) rfl rfl) rfl rfl hl.1 rfl (lv_room (Nat.le_of_ble_eq_true rfl)) dX11_reckonAll_137 ⟨Nat.le_refl _, Nat.le_refl _⟩) hP hD hS hA (by decide +kernel) rfl hC rfl rfl (fun H locs hP hD hS => ?_)
            refine xl_last hx hb hK hP hD hS 3 2 rfl rfl dX11_reckonAll_140 hf (fun a25 H locs hP hD hS hf => ?_)
            have hP : va_P (dC, dI) vwCl (wd_HM_reckonAll cA q0 q1 q2 q3 q4 q5 q6 q7 q8 q9 q10 q11 q12 q13 q14 q15 q16 q17 q18 q19 q20 q21 q22 q23 q24 q25 q26 q27 q28 q29 q30 q31 u0 u1 u2 u3 u4 u5 u6 u7 u8 u9 u10 u11 u12 u13 u14 u15 u16 u17 u18 i_law i_row i_set v24 i_value a25) H := hP
            have hD : va_D A (wd_HM_reckonAll cA q0 q1 q2 q3 q4 q5 q6 q7 q8 q9 q10 q11 q12 q13 q14 q15 q16 q17 q18 q19 q20 q21 q22 q23 q24 q25 q26 q27 q28 q29 q30 q31 u0 u1 u2 u3 u4 u5 u6 u7 u8 u9 u10 u11 u12 u13 u14 u15 u16 u17 u18 i_law i_row i_set v24 i_value a25) := hD
            refine lv_aload_n hx hb dX11_reckonAll_141 rfl (lv_at hl 4 rfl) ?_
            refine lv_aload_n hx hb dX11_reckonAll_142 rfl (lv_at hl 4 rfl) ?_
            refine va_get (D := (dC, dI)) (ci := 11) (v := .int (Int32.ofInt v24)) (C := RX11) (T := TX11) (N := 53) hx hb hz zi_X11 hown hK hP 0 rfl rfl 29 (by decide) (hz _ zw_1194) (fun _ h9 => h9) rfl dX11_reckonAll_143 ?_
            refine xi_if_ne (tgt := 169) hx hb dX11_reckonAll_146 (by decide) hf (fun hf => ?_) (fun hf => ?_)
            · exact b_169 _ ih10 _ _ _ _ _ _ _ _ _ hf hP hD hS (lv_sub hl [4, 5, 0, 1] rfl)
            · refine lv_aload_n hx hb dX11_reckonAll_149 rfl (lv_at hl 4 rfl) ?_
              refine va_get (D := (dC, dI)) (ci := 11) (v := .ref q13) (C := RX11) (T := TX11) (N := 53) hx hb hz zi_X11 hown hK hP 0 rfl rfl 28 (by decide) (hz _ zw_1193) (fun _ h9 => h9) rfl dX11_reckonAll_150 ?_
              refine lv_iload_n hx hb dX11_reckonAll_153 rfl (lv_at hl 0 rfl) ?_
              refine lv_iconst (v := Int32.ofInt 1) hx hb dX11_reckonAll_154 rfl ?_
              refine xi_isub hx hb dX11_reckonAll_155 hf (fun v26 hf => ?_)
              refine xl_lald hx hb hK hP 3 2 rfl rfl dX11_reckonAll_156 hf (fun v27 hf => ?_)
              refine lv_ldc2 (v := Int64.ofInt (-1000000000)) hx hb hown (hz _ zw_1580) dX11_reckonAll_157 ?_
              refine lv_ldc2 (v := Int64.ofInt 1000000000) hx hb hown (hz _ zw_1581) dX11_reckonAll_160 ?_
              refine xe_d1 hf (fun v28 hg hf => ?_)
              have hC : ([] : List Nat).map (fun i => (wd_HM_reckonAll cA q0 q1 q2 q3 q4 q5 q6 q7 q8 q9 q10 q11 q12 q13 q14 q15 q16 q17 q18 q19 q20 q21 q22 q23 q24 q25 q26 q27 q28 q29 q30 q31 u0 u1 u2 u3 u4 u5 u6 u7 u8 u9 u10 u11 u12 u13 u14 u15 u16 u17 u18 i_law i_row i_set v24 i_value a25)[i]?) = (wd_HM_in cA).map some := rfl
              refine xv_afterI (ws' := (wd_HM_reckonAll cA q0 q1 q2 q3 q4 q5 q6 q7 q8 q9 q10 q11 q12 q13 q14 q15 q16 q17 q18 q19 q20 q21 q22 q23 q24 q25 q26 q27 q28 q29 q30 q31 u0 u1 u2 u3 u4 u5 u6 u7 u8 u9 u10 u11 u12 u13 u14 u15 u16 u17 u18 i_law i_row i_set v24 i_value a25)) (isC := []) (ps := [none, none, none, none]) (va_runS (As := [.long (Int64.ofInt v27), .long (Int64.ofInt (-1000000000)), .long (Int64.ofInt 1000000000)]) (rest := [.ref q0]) ⟨hx, hb, hml, hown, hts⟩ (c_HM_in l ev dC dI cA hg H.size) (va_cwS 3 hts (zgS zw_1329 zw_1330 zw_115 zw_1331) rfl rfl rfl hd_HM_in.2 ⟨Nat.le_of_ble_eq_true rfl, Nat.le_of_ble_eq_true rfl⟩) (xv_preS hE hA hS hK hP hD (isC := []) (by decide +kernel) hC) rfl rfl hl.1 rfl (lv_room (Nat.le_of_ble_eq_true rfl)) dX11_reckonAll_163 ⟨Nat.le_refl _, Nat.le_refl _⟩) hP hD hS hA (by decide +kernel) rfl hC rfl rfl (fun H locs hP hD hS => ?_)
              refine xi_if_ne (tgt := 173) hx hb dX11_reckonAll_166 (by decide) hf (fun hf => ?_) (fun hf => ?_)
              · refine lv_iconst (v := Int32.ofInt 0) hx hb dX11_reckonAll_173 rfl ?_
                exact b_174 _ ih10 _ _ _ _ _ _ _ _ _ _ hf hP hD hS (lv_sub hl [4, 5, 0, 1] rfl)
              · exact b_169 _ ih10 _ _ _ _ _ _ _ _ _ hf hP hD hS (lv_sub hl [4, 5, 0, 1] rfl)
        · refine lv_aload_n hx hb dX11_reckonAll_73 rfl (lv_at hl 3 rfl) ?_
          refine va_get (D := (dC, dI)) (ci := 11) (v := .ref q13) (C := RX11) (T := TX11) (N := 53) hx hb hz zi_X11 hown hK hP 0 rfl rfl 28 (by decide) (hz _ zw_1193) (fun _ h9 => h9) rfl dX11_reckonAll_74 ?_
          refine lv_iload_n hx hb dX11_reckonAll_77 rfl (lv_at hl 5 rfl) ?_
          refine lv_iload hx hb dX11_reckonAll_78 (lv_at hl 2 rfl) ?_
          refine xi_if_ne (tgt := 89) hx hb dX11_reckonAll_80 (by decide) hf (fun hf => ?_) (fun hf => ?_)
          · refine lv_aload_n hx hb dX11_reckonAll_89 rfl (lv_at hl 3 rfl) ?_
            refine va_get (D := (dC, dI)) (ci := 11) (v := .ref q12) (C := RX11) (T := TX11) (N := 53) hx hb hz zi_X11 hown hK hP 0 rfl rfl 27 (by decide) (hz _ zw_1192) (fun _ h9 => h9) rfl dX11_reckonAll_90 ?_
            refine lv_iload hx hb dX11_reckonAll_93 (lv_at hl 2 rfl) ?_
            refine xl_lald hx hb hK hP 2 2 rfl rfl dX11_reckonAll_95 hf (fun v29 hf => ?_)
            exact b_96 _ ih10 _ _ _ _ _ _ _ _ _ _ _ hf hP hD hS (lv_sub hl [3, 4, 5, 0] rfl)
          · refine lv_iload hx hb dX11_reckonAll_83 (lv_at hl 1 rfl) ?_
            refine xi_i2l hx hb dX11_reckonAll_85 hf (fun v30 hf => ?_)
            refine lv_goto (tgt := 96) hx hb dX11_reckonAll_86 (by decide) ?_
            exact b_96 _ ih10 _ _ _ _ _ _ _ _ _ _ _ hf hP hD hS (lv_sub hl [3, 4, 5, 0] rfl)
  have l_10 : ∀ (n : Nat), ∀ (x2 : Int) (x3 : Int) (x4 : Int) (i_broken : Int) (i_value : Int) (i_rest : Nat → Int) (H : Heap) (locs : List Loc) (ls : Array Slot), f_HM_reckonAll_10 i_law i_row i_set n x2 x3 x4 i_broken i_value i_rest = some out → va_P (dC, dI) vwCl (wd_HM_reckonAll cA q0 q1 q2 q3 q4 q5 q6 q7 q8 q9 q10 q11 q12 q13 q14 q15 q16 q17 q18 q19 q20 q21 q22 q23 q24 q25 q26 q27 q28 q29 q30 q31 u0 u1 u2 u3 u4 u5 u6 u7 u8 u9 u10 u11 u12 u13 u14 u15 u16 u17 u18 i_law i_row i_set i_broken i_value i_rest) H → va_D A (wd_HM_reckonAll cA q0 q1 q2 q3 q4 q5 q6 q7 q8 q9 q10 q11 q12 q13 q14 q15 q16 q17 q18 q19 q20 q21 q22 q23 q24 q25 q26 q27 q28 q29 q30 q31 u0 u1 u2 u3 u4 u5 u6 u7 u8 u9 u10 u11 u12 u13 u14 u15 u16 u17 u18 i_law i_row i_set i_broken i_value i_rest) → va_S A s.heap H locs → lv_has ls 7 [(0, .ref q0), (2, .int (Int32.ofInt x2)), (3, .int (Int32.ofInt x3)), (4, .int (Int32.ofInt x4))] → W p l e rm_HM_reckonAll s m args below meth c H locs 0 0 Q (F0 m 10 ls []) := by
    intro n
    induction n with
    | zero => intro x2 x3 x4 i_broken i_value i_rest H locs ls hf hP hD hS hl; exact nomatch hf
    | succ n ih => intro x2 x3 x4 i_broken i_value i_rest H locs ls hf hP hD hS hl; exact b_10 (f_HM_reckonAll_10 i_law i_row i_set n) ih x2 x3 x4 i_broken i_value i_rest H locs ls hf hP hD hS hl
  unfold f_HM_reckonAll at hf
  refine lv_aload_n hx hb dX11_reckonAll_0 rfl (lv_at hl 0 rfl) ?_
  refine lv_iconst (v := Int32.ofInt 0) hx hb dX11_reckonAll_1 rfl ?_
  refine va_put (D := (dC, dI)) (ci := 11) (v := .int (Int32.ofInt 0)) (ty := .boolean) (C := RX11) (T := TX11) (N := 53) hx hb hz zi_X11 tyX11 tyX11_ok nmX11 hown hK hP hD hS 0 rfl rfl 29 (by decide) (hz _ zw_1194) (fun _ h9 => h9) rfl (by decide +kernel) (by decide +kernel) (by decide +kernel) (Nat.le_of_ble_eq_true rfl) dX11_reckonAll_2 (fun H locs hP hD hS => ?_)
  have hP : va_P (dC, dI) vwCl (wd_HM_reckonAll cA q0 q1 q2 q3 q4 q5 q6 q7 q8 q9 q10 q11 q12 q13 q14 q15 q16 q17 q18 q19 q20 q21 q22 q23 q24 q25 q26 q27 q28 q29 q30 q31 u0 u1 u2 u3 u4 u5 u6 u7 u8 u9 u10 u11 u12 u13 u14 u15 u16 u17 u18 i_law i_row i_set 0 i_value i_rest) H := hP
  have hD : va_D A (wd_HM_reckonAll cA q0 q1 q2 q3 q4 q5 q6 q7 q8 q9 q10 q11 q12 q13 q14 q15 q16 q17 q18 q19 q20 q21 q22 q23 q24 q25 q26 q27 q28 q29 q30 q31 u0 u1 u2 u3 u4 u5 u6 u7 u8 u9 u10 u11 u12 u13 u14 u15 u16 u17 u18 i_law i_row i_set 0 i_value i_rest) := hD
  refine lv_iconst (v := Int32.ofInt 0) hx hb dX11_reckonAll_5 rfl ?_
  refine lv_istore_n (lv' := [(3, .int (Int32.ofInt 0)), (0, .ref q0), (1, .int (Int32.ofInt x1)), (2, .int (Int32.ofInt x2))]) hx hb dX11_reckonAll_6 rfl hl (by decide) rfl (fun ls hl => ?_)
  refine lv_iload_n hx hb dX11_reckonAll_7 rfl (lv_at hl 2 rfl) ?_
  refine lv_istore (lv' := [(4, .int (Int32.ofInt x1)), (3, .int (Int32.ofInt 0)), (0, .ref q0), (1, .int (Int32.ofInt x1)), (2, .int (Int32.ofInt x2))]) hx hb dX11_reckonAll_8 hl (by decide) rfl (fun ls hl => ?_)
  exact l_10  _ _ _ _ _ _ _ _ _ _ hf hP hD hS (lv_sub hl [2, 4, 1, 0] rfl)
theorem dX11_isSo_0 : decode cX11_isSo 0 = .ok (.aload_n 0, 1) := by decide +kernel
theorem dX11_isSo_1 : decode cX11_isSo 1 = .ok (.getfield 13, 3) := by decide +kernel
theorem dX11_isSo_4 : decode cX11_isSo 4 = .ok (.iload_n 1, 1) := by decide +kernel
theorem dX11_isSo_5 : decode cX11_isSo 5 = .ok (.iconst 5, 1) := by decide +kernel
theorem dX11_isSo_6 : decode cX11_isSo 6 = .ok (.iadd, 1) := by decide +kernel
theorem dX11_isSo_7 : decode cX11_isSo 7 = .ok (.iaload, 1) := by decide +kernel
theorem dX11_isSo_8 : decode cX11_isSo 8 = .ok (.aload_n 0, 1) := by decide +kernel
theorem dX11_isSo_9 : decode cX11_isSo 9 = .ok (.getfield 13, 3) := by decide +kernel
theorem dX11_isSo_12 : decode cX11_isSo 12 = .ok (.iload_n 1, 1) := by decide +kernel
theorem dX11_isSo_13 : decode cX11_isSo 13 = .ok (.bipush 6, 2) := by decide +kernel
theorem dX11_isSo_15 : decode cX11_isSo 15 = .ok (.iadd, 1) := by decide +kernel
theorem dX11_isSo_16 : decode cX11_isSo 16 = .ok (.iaload, 1) := by decide +kernel
theorem dX11_isSo_17 : decode cX11_isSo 17 = .ok (.if_icmp .ge 42, 3) := by decide +kernel
theorem dX11_isSo_20 : decode cX11_isSo 20 = .ok (.aload_n 0, 1) := by decide +kernel
theorem dX11_isSo_21 : decode cX11_isSo 21 = .ok (.aload_n 0, 1) := by decide +kernel
theorem dX11_isSo_22 : decode cX11_isSo 22 = .ok (.getfield 13, 3) := by decide +kernel
theorem dX11_isSo_25 : decode cX11_isSo 25 = .ok (.iload_n 1, 1) := by decide +kernel
theorem dX11_isSo_26 : decode cX11_isSo 26 = .ok (.iconst 5, 1) := by decide +kernel
theorem dX11_isSo_27 : decode cX11_isSo 27 = .ok (.iadd, 1) := by decide +kernel
theorem dX11_isSo_28 : decode cX11_isSo 28 = .ok (.iaload, 1) := by decide +kernel
theorem dX11_isSo_29 : decode cX11_isSo 29 = .ok (.aload_n 0, 1) := by decide +kernel
theorem dX11_isSo_30 : decode cX11_isSo 30 = .ok (.getfield 13, 3) := by decide +kernel
theorem dX11_isSo_33 : decode cX11_isSo 33 = .ok (.iload_n 1, 1) := by decide +kernel
theorem dX11_isSo_34 : decode cX11_isSo 34 = .ok (.bipush 6, 2) := by decide +kernel
theorem dX11_isSo_36 : decode cX11_isSo 36 = .ok (.iadd, 1) := by decide +kernel
theorem dX11_isSo_37 : decode cX11_isSo 37 = .ok (.iaload, 1) := by decide +kernel
theorem dX11_isSo_38 : decode cX11_isSo 38 = .ok (.invokevirtual 337, 3) := by decide +kernel
theorem dX11_isSo_41 : decode cX11_isSo 41 = .ok (.aload_n 0, 1) := by decide +kernel
theorem dX11_isSo_42 : decode cX11_isSo 42 = .ok (.getfield 320, 3) := by decide +kernel
theorem dX11_isSo_45 : decode cX11_isSo 45 = .ok (.ifCond .ne 12, 3) := by decide +kernel
theorem dX11_isSo_48 : decode cX11_isSo 48 = .ok (.aload_n 0, 1) := by decide +kernel
theorem dX11_isSo_49 : decode cX11_isSo 49 = .ok (.getfield 334, 3) := by decide +kernel
theorem dX11_isSo_52 : decode cX11_isSo 52 = .ok (.lconst 0, 1) := by decide +kernel
theorem dX11_isSo_53 : decode cX11_isSo 53 = .ok (.lcmp, 1) := by decide +kernel
theorem dX11_isSo_54 : decode cX11_isSo 54 = .ok (.ifCond .ne 5, 3) := by decide +kernel
theorem dX11_isSo_57 : decode cX11_isSo 57 = .ok (.iconst 0, 1) := by decide +kernel
theorem dX11_isSo_58 : decode cX11_isSo 58 = .ok (.ireturn, 1) := by decide +kernel
theorem dX11_isSo_59 : decode cX11_isSo 59 = .ok (.aload_n 0, 1) := by decide +kernel
theorem dX11_isSo_60 : decode cX11_isSo 60 = .ok (.getfield 13, 3) := by decide +kernel
theorem dX11_isSo_63 : decode cX11_isSo 63 = .ok (.iload_n 1, 1) := by decide +kernel
theorem dX11_isSo_64 : decode cX11_isSo 64 = .ok (.iaload, 1) := by decide +kernel
theorem dX11_isSo_65 : decode cX11_isSo 65 = .ok (.ifCond .ne 44, 3) := by decide +kernel
theorem dX11_isSo_68 : decode cX11_isSo 68 = .ok (.aload_n 0, 1) := by decide +kernel
theorem dX11_isSo_69 : decode cX11_isSo 69 = .ok (.aload_n 0, 1) := by decide +kernel
theorem dX11_isSo_70 : decode cX11_isSo 70 = .ok (.getfield 13, 3) := by decide +kernel
theorem dX11_isSo_73 : decode cX11_isSo 73 = .ok (.iload_n 1, 1) := by decide +kernel
theorem dX11_isSo_74 : decode cX11_isSo 74 = .ok (.iconst 3, 1) := by decide +kernel
theorem dX11_isSo_75 : decode cX11_isSo 75 = .ok (.iadd, 1) := by decide +kernel
theorem dX11_isSo_76 : decode cX11_isSo 76 = .ok (.iaload, 1) := by decide +kernel
theorem dX11_isSo_77 : decode cX11_isSo 77 = .ok (.aload_n 0, 1) := by decide +kernel
theorem dX11_isSo_78 : decode cX11_isSo 78 = .ok (.getfield 13, 3) := by decide +kernel
theorem dX11_isSo_81 : decode cX11_isSo 81 = .ok (.iload_n 1, 1) := by decide +kernel
theorem dX11_isSo_82 : decode cX11_isSo 82 = .ok (.iconst 4, 1) := by decide +kernel
theorem dX11_isSo_83 : decode cX11_isSo 83 = .ok (.iadd, 1) := by decide +kernel
theorem dX11_isSo_84 : decode cX11_isSo 84 = .ok (.iaload, 1) := by decide +kernel
theorem dX11_isSo_85 : decode cX11_isSo 85 = .ok (.invokevirtual 337, 3) := by decide +kernel
theorem dX11_isSo_88 : decode cX11_isSo 88 = .ok (.aload_n 0, 1) := by decide +kernel
theorem dX11_isSo_89 : decode cX11_isSo 89 = .ok (.aload_n 0, 1) := by decide +kernel
theorem dX11_isSo_90 : decode cX11_isSo 90 = .ok (.getfield 334, 3) := by decide +kernel
theorem dX11_isSo_93 : decode cX11_isSo 93 = .ok (.putfield 340, 3) := by decide +kernel
theorem dX11_isSo_96 : decode cX11_isSo 96 = .ok (.aload_n 0, 1) := by decide +kernel
theorem dX11_isSo_97 : decode cX11_isSo 97 = .ok (.getfield 320, 3) := by decide +kernel
theorem dX11_isSo_100 : decode cX11_isSo 100 = .ok (.ifCond .ne 7, 3) := by decide +kernel
theorem dX11_isSo_103 : decode cX11_isSo 103 = .ok (.iconst 1, 1) := by decide +kernel
theorem dX11_isSo_104 : decode cX11_isSo 104 = .ok (.goto 4, 3) := by decide +kernel
theorem dX11_isSo_107 : decode cX11_isSo 107 = .ok (.iconst 0, 1) := by decide +kernel
theorem dX11_isSo_108 : decode cX11_isSo 108 = .ok (.ireturn, 1) := by decide +kernel
theorem dX11_isSo_109 : decode cX11_isSo 109 = .ok (.iconst 1, 1) := by decide +kernel
theorem dX11_isSo_110 : decode cX11_isSo 110 = .ok (.ireturn, 1) := by decide +kernel
theorem zw_71 : (Jvm.Cond.selects "HillSchoolModel" ({ cls := "HillSchoolModel", name := "reckonAll", desc := "(II)V" } : Jvm.MethodName) ({ cls := "HillSchoolModel", name := "reckonAll", desc := "(II)V" } : Jvm.MethodName)) ∈ zall := zmemG (zmj_0 71 rfl) rfl
theorem zw_1196 : (Jvm.Cond.fieldLink "HillSchoolModel" (340 : Nat) "HillSchoolModel" "sum" "J") ∈ zall := zmemG (zmj_5 133 rfl) rfl
theorem zw_1571 : (Jvm.Cond.code ({ cls := "HillSchoolModel", name := "isSo", desc := "(I)Z" } : Jvm.MethodName) prog_13_method_58_code (2 : Nat) (Option.some Jvm.ClassFile.FieldType.boolean)) ∈ zall := zmemG (zmj_7 28 rfl) rfl
theorem zw_1572 : (Jvm.Cond.methodLink "HillSchoolModel" (337 : Nat) ({ cls := "HillSchoolModel", name := "reckonAll", desc := "(II)V" } : Jvm.MethodName)) ∈ zall := zmemG (zmj_7 29 rfl) rfl
theorem zw_1574 : (Jvm.Cond.instanceMethod ({ cls := "HillSchoolModel", name := "reckonAll", desc := "(II)V" } : Jvm.MethodName)) ∈ zall := zmemG (zmj_7 31 rfl) rfl
abbrev w_HM_isSo : List Cond := .code yX11_isSo cX11_isSo 2 (some .boolean) :: zall
abbrev rm_HM_isSo : Room := { frames := 2, cells := 0, slots := 0, locals := 51 }
theorem hd_HM_isSo : yX11_isSo.cls = "HillSchoolModel" ∧ yX11_isSo.cls ≠ "java/lang/invoke/MethodHandle" ∧ yX11_isSo.cls ≠ "java/lang/invoke/VarHandle" ∧ (parseMethodDescriptor yX11_isSo.desc).map (fun d => d.parameters.length) = some 1 := by decide +kernel
def wd_HM_isSo (cA : Nat → ClassId) (q0 q1 q2 q3 q4 q5 q6 q7 q8 q9 q10 q11 q12 q13 q14 q15 q16 q17 q18 q19 q20 q21 q22 q23 q24 q25 q26 q27 q28 q29 q30 q31 : Nat) (u0 u1 u2 u3 u4 u5 u6 u7 u8 u9 u10 u11 u12 u13 u14 u15 u16 u17 : Int) (i_law : Int) (i_row : Nat → Int) (i_set : Nat → Int) (i_broken : Int) (i_value : Int) (i_sum : Int) (i_rest : Nat → Int) : va_W := [(q0, .inr (11, [.int (Int32.ofInt u0), .int (Int32.ofInt u1), .ref q1, .ref q2, .ref q3, .ref q4, .int (Int32.ofInt u2), .ref q5, .int (Int32.ofInt u3), .int (Int32.ofInt u4), .int (Int32.ofInt u5), .int (Int32.ofInt u6), .long (Int64.ofInt u7), .int (Int32.ofInt u8), .int (Int32.ofInt u9), .int (Int32.ofInt u10), .ref q6, .int (Int32.ofInt u11), .ref q7, .ref q8, .int (Int32.ofInt u12), .ref q9, .ref q10, .int (Int32.ofInt u13), .int (Int32.ofInt u14), .ref q11, .int (Int32.ofInt i_law), .ref q12, .ref q13, .int (Int32.ofInt i_broken), .long (Int64.ofInt i_value), .long (Int64.ofInt i_sum), .ref q14, .ref q15, .ref q16, .ref q17, .ref q18, .int (Int32.ofInt u15), .ref q19, .ref q20, .ref q21, .ref q22, .ref q23, .ref q24, .ref q25, .ref q26, .ref q27, .ref q28, .ref q29, .ref q30, .long (Int64.ofInt u16), .ref q31, .int (Int32.ofInt u17)])), (q2, .inl (cA 0, 5580, .inl (za i_row))), (q12, .inl (cA 2, 13, .inr (.inl (zl i_set)))), (q13, .inl (cA 2, 400, .inr (.inl (zl i_rest))))]
def wf_HM_isSo (cA : Nat → ClassId) (q0 q1 q2 q3 q4 q5 q6 q7 q8 q9 q10 q11 q12 q13 q14 q15 q16 q17 q18 q19 q20 q21 q22 q23 q24 q25 q26 q27 q28 q29 q30 q31 : Nat) (u0 u1 u2 u3 u4 u5 u6 u7 u8 u9 u10 u11 u12 u13 u14 u15 u16 u17 : Int) (i_law : Int) (i_row : Nat → Int) (i_set : Nat → Int) (o : Int × Int × Int × Int × (Nat → Int)) : va_W := wd_HM_isSo cA q0 q1 q2 q3 q4 q5 q6 q7 q8 q9 q10 q11 q12 q13 q14 q15 q16 q17 q18 q19 q20 q21 q22 q23 q24 q25 q26 q27 q28 q29 q30 q31 u0 u1 u2 u3 u4 u5 u6 u7 u8 u9 u10 u11 u12 u13 u14 u15 u16 u17 i_law i_row i_set o.2.1 o.2.2.1 o.2.2.2.1 o.2.2.2.2
def f_HM_isSo_59 (i_law : Int) (i_row : Nat → Int) (i_set : Nat → Int) (x1 : Int) (i_broken : Int) (i_value : Int) (i_sum : Int) (i_rest : Nat → Int) : Option (Int × Int × Int × Int × (Nat → Int)) :=
  zg 5580 i_row x1 fun v1 =>
  if zi_w v1 ≠ 0 then
    some (1, i_broken, i_value, i_sum, i_rest)
  else
    zn (x1 + 3) fun v2 =>
    zg 5580 i_row v2 fun v3 =>
    zn (x1 + 4) fun v4 =>
    zg 5580 i_row v4 fun v5 =>
    zd3 (f_HM_reckonAll v3 v5 i_law i_row i_set i_broken i_value i_rest) fun v6 v7 a8 =>
    if zi_w v6 ≠ 0 then
      some (0, v6, v7, v7, a8)
    else
      some (1, v6, v7, v7, a8)
def f_HM_isSo (x1 : Int) (i_law : Int) (i_row : Nat → Int) (i_set : Nat → Int) (i_broken : Int) (i_value : Int) (i_sum : Int) (i_rest : Nat → Int) : Option (Int × Int × Int × Int × (Nat → Int)) :=
  zn (x1 + 5) fun v1 =>
  zg 5580 i_row v1 fun v2 =>
  zn (x1 + 6) fun v3 =>
  zg 5580 i_row v3 fun v4 =>
  if zi_w v4 ≤ zi_w v2 then
    f_HM_isSo_59 i_law i_row i_set x1 i_broken i_value i_sum i_rest
  else
    zn (x1 + 5) fun v5 =>
    zg 5580 i_row v5 fun v6 =>
    zn (x1 + 6) fun v7 =>
    zg 5580 i_row v7 fun v8 =>
    zd3 (f_HM_reckonAll v6 v8 i_law i_row i_set i_broken i_value i_rest) fun v9 v10 a11 =>
    if zi_w v9 ≠ 0 then
      some (0, v9, v10, i_sum, a11)
    else
      if zl_w v10 ≠ zl_w 0 then
        f_HM_isSo_59 i_law i_row i_set x1 v9 v10 i_sum a11
      else
        some (0, v9, v10, i_sum, a11)
set_option maxHeartbeats 4000000 in
set_option maxRecDepth 100000 in
theorem c_HM_isSo (l : Launch) (ev : zEv) (dC : Nat → ClassId) (dI : Nat → Nat → Nat) (cA : Nat → ClassId) (q0 q1 q2 q3 q4 q5 q6 q7 q8 q9 q10 q11 q12 q13 q14 q15 q16 q17 q18 q19 q20 q21 q22 q23 q24 q25 q26 q27 q28 q29 q30 q31 : Nat) (u0 u1 u2 u3 u4 u5 u6 u7 u8 u9 u10 u11 u12 u13 u14 u15 u16 u17 : Int) {x1 : Int} {i_law : Int} {i_row : Nat → Int} {i_set : Nat → Int} {i_broken : Int} {i_value : Int} {i_sum : Int} {i_rest : Nat → Int} {out : Int × Int × Int × Int × (Nat → Int)} (hf : f_HM_isSo x1 i_law i_row i_set i_broken i_value i_sum i_rest = some out) : xc_I l ev (dC, dI) vwCl (tyl cA) yX11_isSo w_HM_isSo rm_HM_isSo [.ref q0, .int (Int32.ofInt x1)] (wd_HM_isSo cA q0 q1 q2 q3 q4 q5 q6 q7 q8 q9 q10 q11 q12 q13 q14 q15 q16 q17 q18 q19 q20 q21 q22 q23 q24 q25 q26 q27 q28 q29 q30 q31 u0 u1 u2 u3 u4 u5 u6 u7 u8 u9 u10 u11 u12 u13 u14 u15 u16 u17 i_law i_row i_set i_broken i_value i_sum i_rest) (wf_HM_isSo cA q0 q1 q2 q3 q4 q5 q6 q7 q8 q9 q10 q11 q12 q13 q14 q15 q16 q17 q18 q19 q20 q21 q22 q23 q24 q25 q26 q27 q28 q29 q30 q31 u0 u1 u2 u3 u4 u5 u6 u7 u8 u9 u10 u11 u12 u13 u14 u15 u16 u17 i_law i_row i_set out) out.1 := by
  refine xv_startI (cc := cX11_isSo) (maxL := 2) (rt := .boolean) (by decide +kernel) rfl (Nat.le_of_ble_eq_true rfl) ?_
  intro p e s m args below meth c A Q H ls hx hb hml hts hown hK hA hP hD hS hl hE hret
  have hown : s.vm.findClass "HillSchoolModel" = some m.cls := hown
  have hz : ∀ w ∈ zall, w.before args s = true := fun w h => hts w (List.mem_cons_of_mem _ h)
  have hl : lv_has ls 2 [(0, .ref q0), (1, .int (Int32.ofInt x1))] := hl
  have b_59 : ∀ (x1 : Int) (i_broken : Int) (i_value : Int) (i_sum : Int) (i_rest : Nat → Int) (H : Heap) (locs : List Loc) (ls : Array Slot), f_HM_isSo_59 i_law i_row i_set x1 i_broken i_value i_sum i_rest = some out → va_P (dC, dI) vwCl (wd_HM_isSo cA q0 q1 q2 q3 q4 q5 q6 q7 q8 q9 q10 q11 q12 q13 q14 q15 q16 q17 q18 q19 q20 q21 q22 q23 q24 q25 q26 q27 q28 q29 q30 q31 u0 u1 u2 u3 u4 u5 u6 u7 u8 u9 u10 u11 u12 u13 u14 u15 u16 u17 i_law i_row i_set i_broken i_value i_sum i_rest) H → va_D A (wd_HM_isSo cA q0 q1 q2 q3 q4 q5 q6 q7 q8 q9 q10 q11 q12 q13 q14 q15 q16 q17 q18 q19 q20 q21 q22 q23 q24 q25 q26 q27 q28 q29 q30 q31 u0 u1 u2 u3 u4 u5 u6 u7 u8 u9 u10 u11 u12 u13 u14 u15 u16 u17 i_law i_row i_set i_broken i_value i_sum i_rest) → va_S A s.heap H locs → lv_has ls 2 [(0, .ref q0), (1, .int (Int32.ofInt x1))] → W p l e rm_HM_isSo s m args below meth c H locs 0 0 Q (F0 m 59 ls []) := by
    intro x1 i_broken i_value i_sum i_rest H locs ls hf hP hD hS hl
    unfold f_HM_isSo_59 at hf
    refine lv_aload_n hx hb dX11_isSo_59 rfl (lv_at hl 0 rfl) ?_
    refine va_get (D := (dC, dI)) (ci := 11) (v := .ref q2) (C := RX11) (T := TX11) (N := 53) hx hb hz zi_X11 hown hK hP 0 rfl rfl 3 (by decide) (hz _ zw_1168) (fun _ h9 => h9) rfl dX11_isSo_60 ?_
    refine lv_iload_n hx hb dX11_isSo_63 rfl (lv_at hl 1 rfl) ?_
    refine xi_iald hx hb hK hP 1 0 rfl rfl dX11_isSo_64 hf (fun v1 hf => ?_)
    refine xi_if_ne (tgt := 109) hx hb dX11_isSo_65 (by decide) hf (fun hf => ?_) (fun hf => ?_)
    · refine lv_iconst (v := Int32.ofInt 1) hx hb dX11_isSo_109 rfl ?_
      obtain rfl := Option.some.inj hf
      exact hret _ _ _ _ zz_b1 dX11_isSo_110 hP hD hS
    · refine lv_aload_n hx hb dX11_isSo_68 rfl (lv_at hl 0 rfl) ?_
      refine lv_aload_n hx hb dX11_isSo_69 rfl (lv_at hl 0 rfl) ?_
      refine va_get (D := (dC, dI)) (ci := 11) (v := .ref q2) (C := RX11) (T := TX11) (N := 53) hx hb hz zi_X11 hown hK hP 0 rfl rfl 3 (by decide) (hz _ zw_1168) (fun _ h9 => h9) rfl dX11_isSo_70 ?_
      refine lv_iload_n hx hb dX11_isSo_73 rfl (lv_at hl 1 rfl) ?_
      refine lv_iconst (v := Int32.ofInt 3) hx hb dX11_isSo_74 rfl ?_
      refine xi_iadd hx hb dX11_isSo_75 hf (fun v2 hf => ?_)
      refine xi_iald hx hb hK hP 1 0 rfl rfl dX11_isSo_76 hf (fun v3 hf => ?_)
      refine lv_aload_n hx hb dX11_isSo_77 rfl (lv_at hl 0 rfl) ?_
      refine va_get (D := (dC, dI)) (ci := 11) (v := .ref q2) (C := RX11) (T := TX11) (N := 53) hx hb hz zi_X11 hown hK hP 0 rfl rfl 3 (by decide) (hz _ zw_1168) (fun _ h9 => h9) rfl dX11_isSo_78 ?_
      refine lv_iload_n hx hb dX11_isSo_81 rfl (lv_at hl 1 rfl) ?_
      refine lv_iconst (v := Int32.ofInt 4) hx hb dX11_isSo_82 rfl ?_
      refine xi_iadd hx hb dX11_isSo_83 hf (fun v4 hf => ?_)
      refine xi_iald hx hb hK hP 1 0 rfl rfl dX11_isSo_84 hf (fun v5 hf => ?_)
      refine xe_d3 hf (fun v6 v7 a8 hg hf => ?_)
      have hC : ([0, 1, 2, 3] : List Nat).map (fun i => (wd_HM_isSo cA q0 q1 q2 q3 q4 q5 q6 q7 q8 q9 q10 q11 q12 q13 q14 q15 q16 q17 q18 q19 q20 q21 q22 q23 q24 q25 q26 q27 q28 q29 q30 q31 u0 u1 u2 u3 u4 u5 u6 u7 u8 u9 u10 u11 u12 u13 u14 u15 u16 u17 i_law i_row i_set i_broken i_value i_sum i_rest)[i]?) = (wd_HM_reckonAll cA q0 q1 q2 q3 q4 q5 q6 q7 q8 q9 q10 q11 q12 q13 q14 q15 q16 q17 q18 q19 q20 q21 q22 q23 q24 q25 q26 q27 q28 q29 q30 q31 u0 u1 u2 u3 u4 u5 u6 u7 u8 u9 u10 u11 u12 u13 u14 i_sum u15 u16 u17 i_law i_row i_set i_broken i_value i_rest).map some := rfl
      refine xv_afterV (ws' := (wd_HM_isSo cA q0 q1 q2 q3 q4 q5 q6 q7 q8 q9 q10 q11 q12 q13 q14 q15 q16 q17 q18 q19 q20 q21 q22 q23 q24 q25 q26 q27 q28 q29 q30 q31 u0 u1 u2 u3 u4 u5 u6 u7 u8 u9 u10 u11 u12 u13 u14 u15 u16 u17 i_law i_row i_set v6 v7 i_sum a8)) (isC := [0, 1, 2, 3]) (ps := [some 0, some 1, some 2, some 3]) (va_runV (As := [.int (Int32.ofInt v3), .int (Int32.ofInt v5)]) (rest := []) ⟨hx, hb, hml, hown, hts⟩ (c_HM_reckonAll l ev dC dI cA q0 q1 q2 q3 q4 q5 q6 q7 q8 q9 q10 q11 q12 q13 q14 q15 q16 q17 q18 q19 q20 q21 q22 q23 q24 q25 q26 q27 q28 q29 q30 q31 u0 u1 u2 u3 u4 u5 u6 u7 u8 u9 u10 u11 u12 u13 u14 i_sum u15 u16 u17 hg H.size) (cwV 2 hts (zgV zw_1572 zw_1574 zw_71 zw_115 zw_1575) rfl rfl rfl hd_HM_reckonAll ⟨Nat.le_of_ble_eq_true rfl, Nat.le_of_ble_eq_true rfl⟩) (xv_preV (T := TX11) (N := 53) hE hA hS hK hP hD (isC := [0, 1, 2, 3]) (by decide +kernel) hC (q0 := 0) (ci := 11) rfl rfl) rfl rfl hl.1 rfl (lv_room (Nat.le_of_ble_eq_true rfl)) dX11_isSo_85 ⟨Nat.le_refl _, Nat.le_refl _⟩) hP hD hS hA (by decide +kernel) rfl hC rfl rfl (fun H locs hP hD hS => ?_)
      refine lv_aload_n hx hb dX11_isSo_88 rfl (lv_at hl 0 rfl) ?_
      refine lv_aload_n hx hb dX11_isSo_89 rfl (lv_at hl 0 rfl) ?_
      refine va_get (D := (dC, dI)) (ci := 11) (v := .long (Int64.ofInt v7)) (C := RX11) (T := TX11) (N := 53) hx hb hz zi_X11 hown hK hP 0 rfl rfl 30 (by decide) (hz _ zw_1195) (fun _ h9 => h9) rfl dX11_isSo_90 ?_
      refine va_put (D := (dC, dI)) (ci := 11) (v := .long (Int64.ofInt v7)) (ty := .long) (C := RX11) (T := TX11) (N := 53) hx hb hz zi_X11 tyX11 tyX11_ok nmX11 hown hK hP hD hS 0 rfl rfl 31 (by decide) (hz _ zw_1196) (fun _ h9 => h9) rfl (by decide +kernel) rfl rfl (Nat.le_of_ble_eq_true rfl) dX11_isSo_93 (fun H locs hP hD hS => ?_)
      have hP : va_P (dC, dI) vwCl (wd_HM_isSo cA q0 q1 q2 q3 q4 q5 q6 q7 q8 q9 q10 q11 q12 q13 q14 q15 q16 q17 q18 q19 q20 q21 q22 q23 q24 q25 q26 q27 q28 q29 q30 q31 u0 u1 u2 u3 u4 u5 u6 u7 u8 u9 u10 u11 u12 u13 u14 u15 u16 u17 i_law i_row i_set v6 v7 v7 a8) H := hP
      have hD : va_D A (wd_HM_isSo cA q0 q1 q2 q3 q4 q5 q6 q7 q8 q9 q10 q11 q12 q13 q14 q15 q16 q17 q18 q19 q20 q21 q22 q23 q24 q25 q26 q27 q28 q29 q30 q31 u0 u1 u2 u3 u4 u5 u6 u7 u8 u9 u10 u11 u12 u13 u14 u15 u16 u17 i_law i_row i_set v6 v7 v7 a8) := hD
      refine lv_aload_n hx hb dX11_isSo_96 rfl (lv_at hl 0 rfl) ?_
      refine va_get (D := (dC, dI)) (ci := 11) (v := .int (Int32.ofInt v6)) (C := RX11) (T := TX11) (N := 53) hx hb hz zi_X11 hown hK hP 0 rfl rfl 29 (by decide) (hz _ zw_1194) (fun _ h9 => h9) rfl dX11_isSo_97 ?_
      refine xi_if_ne (tgt := 107) hx hb dX11_isSo_100 (by decide) hf (fun hf => ?_) (fun hf => ?_)
      · refine lv_iconst (v := Int32.ofInt 0) hx hb dX11_isSo_107 rfl ?_
        obtain rfl := Option.some.inj hf
        exact hret _ _ _ _ zz_b0 dX11_isSo_108 hP hD hS
      · refine lv_iconst (v := Int32.ofInt 1) hx hb dX11_isSo_103 rfl ?_
        refine lv_goto (tgt := 108) hx hb dX11_isSo_104 (by decide) ?_
        obtain rfl := Option.some.inj hf
        exact hret _ _ _ _ zz_b1 dX11_isSo_108 hP hD hS
  unfold f_HM_isSo at hf
  refine lv_aload_n hx hb dX11_isSo_0 rfl (lv_at hl 0 rfl) ?_
  refine va_get (D := (dC, dI)) (ci := 11) (v := .ref q2) (C := RX11) (T := TX11) (N := 53) hx hb hz zi_X11 hown hK hP 0 rfl rfl 3 (by decide) (hz _ zw_1168) (fun _ h9 => h9) rfl dX11_isSo_1 ?_
  refine lv_iload_n hx hb dX11_isSo_4 rfl (lv_at hl 1 rfl) ?_
  refine lv_iconst (v := Int32.ofInt 5) hx hb dX11_isSo_5 rfl ?_
  refine xi_iadd hx hb dX11_isSo_6 hf (fun v1 hf => ?_)
  refine xi_iald hx hb hK hP 1 0 rfl rfl dX11_isSo_7 hf (fun v2 hf => ?_)
  refine lv_aload_n hx hb dX11_isSo_8 rfl (lv_at hl 0 rfl) ?_
  refine va_get (D := (dC, dI)) (ci := 11) (v := .ref q2) (C := RX11) (T := TX11) (N := 53) hx hb hz zi_X11 hown hK hP 0 rfl rfl 3 (by decide) (hz _ zw_1168) (fun _ h9 => h9) rfl dX11_isSo_9 ?_
  refine lv_iload_n hx hb dX11_isSo_12 rfl (lv_at hl 1 rfl) ?_
  refine lv_bipush (v := Int32.ofInt 6) hx hb dX11_isSo_13 (by decide) ?_
  refine xi_iadd hx hb dX11_isSo_15 hf (fun v3 hf => ?_)
  refine xi_iald hx hb hK hP 1 0 rfl rfl dX11_isSo_16 hf (fun v4 hf => ?_)
  refine xi_icmp_ge (tgt := 59) hx hb dX11_isSo_17 (by decide) hf (fun hf => ?_) (fun hf => ?_)
  · exact b_59  _ _ _ _ _ _ _ _ hf hP hD hS (lv_sub hl [0, 1] rfl)
  · refine lv_aload_n hx hb dX11_isSo_20 rfl (lv_at hl 0 rfl) ?_
    refine lv_aload_n hx hb dX11_isSo_21 rfl (lv_at hl 0 rfl) ?_
    refine va_get (D := (dC, dI)) (ci := 11) (v := .ref q2) (C := RX11) (T := TX11) (N := 53) hx hb hz zi_X11 hown hK hP 0 rfl rfl 3 (by decide) (hz _ zw_1168) (fun _ h9 => h9) rfl dX11_isSo_22 ?_
    refine lv_iload_n hx hb dX11_isSo_25 rfl (lv_at hl 1 rfl) ?_
    refine lv_iconst (v := Int32.ofInt 5) hx hb dX11_isSo_26 rfl ?_
    refine xi_iadd hx hb dX11_isSo_27 hf (fun v5 hf => ?_)
    refine xi_iald hx hb hK hP 1 0 rfl rfl dX11_isSo_28 hf (fun v6 hf => ?_)
    refine lv_aload_n hx hb dX11_isSo_29 rfl (lv_at hl 0 rfl) ?_
    refine va_get (D := (dC, dI)) (ci := 11) (v := .ref q2) (C := RX11) (T := TX11) (N := 53) hx hb hz zi_X11 hown hK hP 0 rfl rfl 3 (by decide) (hz _ zw_1168) (fun _ h9 => h9) rfl dX11_isSo_30 ?_
    refine lv_iload_n hx hb dX11_isSo_33 rfl (lv_at hl 1 rfl) ?_
    refine lv_bipush (v := Int32.ofInt 6) hx hb dX11_isSo_34 (by decide) ?_
    refine xi_iadd hx hb dX11_isSo_36 hf (fun v7 hf => ?_)
    refine xi_iald hx hb hK hP 1 0 rfl rfl dX11_isSo_37 hf (fun v8 hf => ?_)
    refine xe_d3 hf (fun v9 v10 a11 hg hf => ?_)
    have hC : ([0, 1, 2, 3] : List Nat).map (fun i => (wd_HM_isSo cA q0 q1 q2 q3 q4 q5 q6 q7 q8 q9 q10 q11 q12 q13 q14 q15 q16 q17 q18 q19 q20 q21 q22 q23 q24 q25 q26 q27 q28 q29 q30 q31 u0 u1 u2 u3 u4 u5 u6 u7 u8 u9 u10 u11 u12 u13 u14 u15 u16 u17 i_law i_row i_set i_broken i_value i_sum i_rest)[i]?) = (wd_HM_reckonAll cA q0 q1 q2 q3 q4 q5 q6 q7 q8 q9 q10 q11 q12 q13 q14 q15 q16 q17 q18 q19 q20 q21 q22 q23 q24 q25 q26 q27 q28 q29 q30 q31 u0 u1 u2 u3 u4 u5 u6 u7 u8 u9 u10 u11 u12 u13 u14 i_sum u15 u16 u17 i_law i_row i_set i_broken i_value i_rest).map some := rfl
    refine xv_afterV (ws' := (wd_HM_isSo cA q0 q1 q2 q3 q4 q5 q6 q7 q8 q9 q10 q11 q12 q13 q14 q15 q16 q17 q18 q19 q20 q21 q22 q23 q24 q25 q26 q27 q28 q29 q30 q31 u0 u1 u2 u3 u4 u5 u6 u7 u8 u9 u10 u11 u12 u13 u14 u15 u16 u17 i_law i_row i_set v9 v10 i_sum a11)) (isC := [0, 1, 2, 3]) (ps := [some 0, some 1, some 2, some 3]) (va_runV (As := [.int (Int32.ofInt v6), .int (Int32.ofInt v8)]) (rest := []) ⟨hx, hb, hml, hown, hts⟩ (c_HM_reckonAll l ev dC dI cA q0 q1 q2 q3 q4 q5 q6 q7 q8 q9 q10 q11 q12 q13 q14 q15 q16 q17 q18 q19 q20 q21 q22 q23 q24 q25 q26 q27 q28 q29 q30 q31 u0 u1 u2 u3 u4 u5 u6 u7 u8 u9 u10 u11 u12 u13 u14 i_sum u15 u16 u17 hg H.size) (cwV 2 hts (zgV zw_1572 zw_1574 zw_71 zw_115 zw_1575) rfl rfl rfl hd_HM_reckonAll ⟨Nat.le_of_ble_eq_true rfl, Nat.le_of_ble_eq_true rfl⟩) (xv_preV (T := TX11) (N := 53) hE hA hS hK hP hD (isC := [0, 1, 2, 3]) (by decide +kernel) hC (q0 := 0) (ci := 11) rfl rfl) rfl rfl hl.1 rfl (lv_room (Nat.le_of_ble_eq_true rfl)) dX11_isSo_38 ⟨Nat.le_refl _, Nat.le_refl _⟩) hP hD hS hA (by decide +kernel) rfl hC rfl rfl (fun H locs hP hD hS => ?_)
    refine lv_aload_n hx hb dX11_isSo_41 rfl (lv_at hl 0 rfl) ?_
    refine va_get (D := (dC, dI)) (ci := 11) (v := .int (Int32.ofInt v9)) (C := RX11) (T := TX11) (N := 53) hx hb hz zi_X11 hown hK hP 0 rfl rfl 29 (by decide) (hz _ zw_1194) (fun _ h9 => h9) rfl dX11_isSo_42 ?_
    refine xi_if_ne (tgt := 57) hx hb dX11_isSo_45 (by decide) hf (fun hf => ?_) (fun hf => ?_)
    · refine lv_iconst (v := Int32.ofInt 0) hx hb dX11_isSo_57 rfl ?_
      obtain rfl := Option.some.inj hf
      exact hret _ _ _ _ zz_b0 dX11_isSo_58 hP hD hS
    · refine lv_aload_n hx hb dX11_isSo_48 rfl (lv_at hl 0 rfl) ?_
      refine va_get (D := (dC, dI)) (ci := 11) (v := .long (Int64.ofInt v10)) (C := RX11) (T := TX11) (N := 53) hx hb hz zi_X11 hown hK hP 0 rfl rfl 30 (by decide) (hz _ zw_1195) (fun _ h9 => h9) rfl dX11_isSo_49 ?_
      refine lv_lconst (v := Int64.ofInt 0) hx hb dX11_isSo_52 (by decide) ?_
      refine xl_cmp_ne (tgt := 59) hx hb dX11_isSo_53 dX11_isSo_54 (by decide) hf (fun hf => ?_) (fun hf => ?_)
      · exact b_59  _ _ _ _ _ _ _ _ hf hP hD hS (lv_sub hl [0, 1] rfl)
      · refine lv_iconst (v := Int32.ofInt 0) hx hb dX11_isSo_57 rfl ?_
        obtain rfl := Option.some.inj hf
        exact hret _ _ _ _ zz_b0 dX11_isSo_58 hP hD hS
theorem dX11_size_0 : decode cX11_size 0 = .ok (.iload_n 0, 1) := by decide +kernel
theorem dX11_size_1 : decode cX11_size 1 = .ok (.ifCond .ge 8, 3) := by decide +kernel
theorem dX11_size_4 : decode cX11_size 4 = .ok (.iload_n 0, 1) := by decide +kernel
theorem dX11_size_5 : decode cX11_size 5 = .ok (.ineg, 1) := by decide +kernel
theorem dX11_size_6 : decode cX11_size 6 = .ok (.goto 4, 3) := by decide +kernel
theorem dX11_size_9 : decode cX11_size 9 = .ok (.iload_n 0, 1) := by decide +kernel
theorem dX11_size_10 : decode cX11_size 10 = .ok (.ireturn, 1) := by decide +kernel
theorem zw_1567 : (Jvm.Cond.code ({ cls := "HillSchoolModel", name := "size", desc := "(I)I" } : Jvm.MethodName) prog_13_method_5_code (1 : Nat) (Option.some Jvm.ClassFile.FieldType.int)) ∈ zall := zmemG (zmj_7 24 rfl) rfl
abbrev w_HM_size : List Cond := .code yX11_size cX11_size 1 (some .int) :: zall
abbrev rm_HM_size : Room := { frames := 0, cells := 0, slots := 0, locals := 0 }
theorem hd_HM_size : yX11_size.cls = yX11_size.cls ∧ yX11_size.cls ≠ "java/lang/invoke/MethodHandle" ∧ yX11_size.cls ≠ "java/lang/invoke/VarHandle" ∧ (parseMethodDescriptor yX11_size.desc).map (fun d => d.parameters.length) = some 1 := by decide +kernel
def wd_HM_size (cA : Nat → ClassId)   : va_W := []
def wf_HM_size (cA : Nat → ClassId)  (o : Int) : va_W := wd_HM_size cA
def f_HM_size (x0 : Int) : Option (Int) :=
  if 0 ≤ zi_w x0 then
    some x0
  else
    zn (-x0) fun v1 =>
    some v1
set_option maxHeartbeats 4000000 in
set_option maxRecDepth 100000 in
theorem c_HM_size (l : Launch) (ev : zEv) (dC : Nat → ClassId) (dI : Nat → Nat → Nat) (cA : Nat → ClassId) {x0 : Int} {out : Int} (hf : f_HM_size x0 = some out) : xc_I l ev (dC, dI) vwCl (tyl cA) yX11_size w_HM_size rm_HM_size [.int (Int32.ofInt x0)] (wd_HM_size cA) (wf_HM_size cA out) out := by
  refine xv_startI (cc := cX11_size) (maxL := 1) (rt := .int) (by decide +kernel) rfl (Nat.le_of_ble_eq_true rfl) ?_
  intro p e s m args below meth c A Q H ls hx hb hml hts hown hK hA hP hD hS hl hE hret
  have hown : s.vm.findClass "HillSchoolModel" = some m.cls := hown
  have hz : ∀ w ∈ zall, w.before args s = true := fun w h => hts w (List.mem_cons_of_mem _ h)
  have hl : lv_has ls 1 [(0, .int (Int32.ofInt x0))] := hl
  unfold f_HM_size at hf
  refine lv_iload_n hx hb dX11_size_0 rfl (lv_at hl 0 rfl) ?_
  refine xi_if_ge (tgt := 9) hx hb dX11_size_1 (by decide) hf (fun hf => ?_) (fun hf => ?_)
  · refine lv_iload_n hx hb dX11_size_9 rfl (lv_at hl 0 rfl) ?_
    obtain rfl := Option.some.inj hf
    exact hret _ _ _ _ rfl dX11_size_10 hP hD hS
  · refine lv_iload_n hx hb dX11_size_4 rfl (lv_at hl 0 rfl) ?_
    refine xi_ineg hx hb dX11_size_5 hf (fun v1 hf => ?_)
    refine lv_goto (tgt := 10) hx hb dX11_size_6 (by decide) ?_
    obtain rfl := Option.some.inj hf
    exact hret _ _ _ _ rfl dX11_size_10 hP hD hS
theorem dX11_tiring_0 : decode cX11_tiring 0 = .ok (.aload_n 0, 1) := by decide +kernel
theorem dX11_tiring_1 : decode cX11_tiring 1 = .ok (.getfield 13, 3) := by decide +kernel
theorem dX11_tiring_4 : decode cX11_tiring 4 = .ok (.sipush 153, 3) := by decide +kernel
theorem dX11_tiring_7 : decode cX11_tiring 7 = .ok (.iconst 3, 1) := by decide +kernel
theorem dX11_tiring_8 : decode cX11_tiring 8 = .ok (.iload_n 1, 1) := by decide +kernel
theorem dX11_tiring_9 : decode cX11_tiring 9 = .ok (.imul, 1) := by decide +kernel
theorem dX11_tiring_10 : decode cX11_tiring 10 = .ok (.iadd, 1) := by decide +kernel
theorem dX11_tiring_11 : decode cX11_tiring 11 = .ok (.iaload, 1) := by decide +kernel
theorem dX11_tiring_12 : decode cX11_tiring 12 = .ok (.istore 7, 2) := by decide +kernel
theorem dX11_tiring_14 : decode cX11_tiring 14 = .ok (.iload 5, 2) := by decide +kernel
theorem dX11_tiring_16 : decode cX11_tiring 16 = .ok (.ifCond .eq 40, 3) := by decide +kernel
theorem dX11_tiring_19 : decode cX11_tiring 19 = .ok (.iload 6, 2) := by decide +kernel
theorem dX11_tiring_21 : decode cX11_tiring 21 = .ok (.bipush 9, 2) := by decide +kernel
theorem dX11_tiring_23 : decode cX11_tiring 23 = .ok (.if_icmp .gt 33, 3) := by decide +kernel
theorem dX11_tiring_26 : decode cX11_tiring 26 = .ok (.iload_n 3, 1) := by decide +kernel
theorem dX11_tiring_27 : decode cX11_tiring 27 = .ok (.iload 4, 2) := by decide +kernel
theorem dX11_tiring_29 : decode cX11_tiring 29 = .ok (.if_icmp .eq 27, 3) := by decide +kernel
theorem dX11_tiring_32 : decode cX11_tiring 32 = .ok (.aload_n 0, 1) := by decide +kernel
theorem dX11_tiring_33 : decode cX11_tiring 33 = .ok (.getfield 13, 3) := by decide +kernel
theorem dX11_tiring_36 : decode cX11_tiring 36 = .ok (.sipush 153, 3) := by decide +kernel
theorem dX11_tiring_39 : decode cX11_tiring 39 = .ok (.iconst 3, 1) := by decide +kernel
theorem dX11_tiring_40 : decode cX11_tiring 40 = .ok (.iload_n 1, 1) := by decide +kernel
theorem dX11_tiring_41 : decode cX11_tiring 41 = .ok (.imul, 1) := by decide +kernel
theorem dX11_tiring_42 : decode cX11_tiring 42 = .ok (.iadd, 1) := by decide +kernel
theorem dX11_tiring_43 : decode cX11_tiring 43 = .ok (.iconst 1, 1) := by decide +kernel
theorem dX11_tiring_44 : decode cX11_tiring 44 = .ok (.iadd, 1) := by decide +kernel
theorem dX11_tiring_45 : decode cX11_tiring 45 = .ok (.iaload, 1) := by decide +kernel
theorem dX11_tiring_46 : decode cX11_tiring 46 = .ok (.iconst 1, 1) := by decide +kernel
theorem dX11_tiring_47 : decode cX11_tiring 47 = .ok (.if_icmp .eq 9, 3) := by decide +kernel
theorem dX11_tiring_50 : decode cX11_tiring 50 = .ok (.iload 7, 2) := by decide +kernel
theorem dX11_tiring_52 : decode cX11_tiring 52 = .ok (.iload_n 2, 1) := by decide +kernel
theorem dX11_tiring_53 : decode cX11_tiring 53 = .ok (.if_icmp .ge 5, 3) := by decide +kernel
theorem dX11_tiring_56 : decode cX11_tiring 56 = .ok (.iconst (-1), 1) := by decide +kernel
theorem dX11_tiring_57 : decode cX11_tiring 57 = .ok (.ireturn, 1) := by decide +kernel
theorem dX11_tiring_58 : decode cX11_tiring 58 = .ok (.iload_n 3, 1) := by decide +kernel
theorem dX11_tiring_59 : decode cX11_tiring 59 = .ok (.iload 4, 2) := by decide +kernel
theorem dX11_tiring_61 : decode cX11_tiring 61 = .ok (.isub, 1) := by decide +kernel
theorem dX11_tiring_62 : decode cX11_tiring 62 = .ok (.invokestatic 343, 3) := by decide +kernel
theorem dX11_tiring_65 : decode cX11_tiring 65 = .ok (.i2l, 1) := by decide +kernel
theorem dX11_tiring_66 : decode cX11_tiring 66 = .ok (.lstore 8, 2) := by decide +kernel
theorem dX11_tiring_68 : decode cX11_tiring 68 = .ok (.aload_n 0, 1) := by decide +kernel
theorem dX11_tiring_69 : decode cX11_tiring 69 = .ok (.getfield 13, 3) := by decide +kernel
theorem dX11_tiring_72 : decode cX11_tiring 72 = .ok (.iconst 4, 1) := by decide +kernel
theorem dX11_tiring_73 : decode cX11_tiring 73 = .ok (.iaload, 1) := by decide +kernel
theorem dX11_tiring_74 : decode cX11_tiring 74 = .ok (.iconst (-1), 1) := by decide +kernel
theorem dX11_tiring_75 : decode cX11_tiring 75 = .ok (.if_icmp .eq 164, 3) := by decide +kernel
theorem dX11_tiring_78 : decode cX11_tiring 78 = .ok (.aload_n 0, 1) := by decide +kernel
theorem dX11_tiring_79 : decode cX11_tiring 79 = .ok (.sipush 180, 3) := by decide +kernel
theorem dX11_tiring_82 : decode cX11_tiring 82 = .ok (.sipush 900, 3) := by decide +kernel
theorem dX11_tiring_85 : decode cX11_tiring 85 = .ok (.aload_n 0, 1) := by decide +kernel
theorem dX11_tiring_86 : decode cX11_tiring 86 = .ok (.getfield 13, 3) := by decide +kernel
theorem dX11_tiring_89 : decode cX11_tiring 89 = .ok (.iconst 4, 1) := by decide +kernel
theorem dX11_tiring_90 : decode cX11_tiring 90 = .ok (.iaload, 1) := by decide +kernel
theorem dX11_tiring_91 : decode cX11_tiring 91 = .ok (.imul, 1) := by decide +kernel
theorem dX11_tiring_92 : decode cX11_tiring 92 = .ok (.iadd, 1) := by decide +kernel
theorem dX11_tiring_93 : decode cX11_tiring 93 = .ok (.putfield 323, 3) := by decide +kernel
theorem dX11_tiring_96 : decode cX11_tiring 96 = .ok (.aload_n 0, 1) := by decide +kernel
theorem dX11_tiring_97 : decode cX11_tiring 97 = .ok (.getfield 65, 3) := by decide +kernel
theorem dX11_tiring_100 : decode cX11_tiring 100 = .ok (.iconst 1, 1) := by decide +kernel
theorem dX11_tiring_101 : decode cX11_tiring 101 = .ok (.iload_n 1, 1) := by decide +kernel
theorem dX11_tiring_102 : decode cX11_tiring 102 = .ok (.i2l, 1) := by decide +kernel
theorem dX11_tiring_103 : decode cX11_tiring 103 = .ok (.lastore, 1) := by decide +kernel
theorem dX11_tiring_104 : decode cX11_tiring 104 = .ok (.aload_n 0, 1) := by decide +kernel
theorem dX11_tiring_105 : decode cX11_tiring 105 = .ok (.getfield 65, 3) := by decide +kernel
theorem dX11_tiring_108 : decode cX11_tiring 108 = .ok (.iconst 2, 1) := by decide +kernel
theorem dX11_tiring_109 : decode cX11_tiring 109 = .ok (.iload 7, 2) := by decide +kernel
theorem dX11_tiring_111 : decode cX11_tiring 111 = .ok (.i2l, 1) := by decide +kernel
theorem dX11_tiring_112 : decode cX11_tiring 112 = .ok (.lastore, 1) := by decide +kernel
theorem dX11_tiring_113 : decode cX11_tiring 113 = .ok (.aload_n 0, 1) := by decide +kernel
theorem dX11_tiring_114 : decode cX11_tiring 114 = .ok (.getfield 65, 3) := by decide +kernel
theorem dX11_tiring_117 : decode cX11_tiring 117 = .ok (.iconst 3, 1) := by decide +kernel
theorem dX11_tiring_118 : decode cX11_tiring 118 = .ok (.iload_n 2, 1) := by decide +kernel
theorem dX11_tiring_119 : decode cX11_tiring 119 = .ok (.i2l, 1) := by decide +kernel
theorem dX11_tiring_120 : decode cX11_tiring 120 = .ok (.lastore, 1) := by decide +kernel
theorem dX11_tiring_121 : decode cX11_tiring 121 = .ok (.aload_n 0, 1) := by decide +kernel
theorem dX11_tiring_122 : decode cX11_tiring 122 = .ok (.getfield 65, 3) := by decide +kernel
theorem dX11_tiring_125 : decode cX11_tiring 125 = .ok (.iconst 4, 1) := by decide +kernel
theorem dX11_tiring_126 : decode cX11_tiring 126 = .ok (.iload_n 3, 1) := by decide +kernel
theorem dX11_tiring_127 : decode cX11_tiring 127 = .ok (.i2l, 1) := by decide +kernel
theorem dX11_tiring_128 : decode cX11_tiring 128 = .ok (.lastore, 1) := by decide +kernel
theorem dX11_tiring_129 : decode cX11_tiring 129 = .ok (.aload_n 0, 1) := by decide +kernel
theorem dX11_tiring_130 : decode cX11_tiring 130 = .ok (.getfield 65, 3) := by decide +kernel
theorem dX11_tiring_133 : decode cX11_tiring 133 = .ok (.iconst 5, 1) := by decide +kernel
theorem dX11_tiring_134 : decode cX11_tiring 134 = .ok (.iload 4, 2) := by decide +kernel
theorem dX11_tiring_136 : decode cX11_tiring 136 = .ok (.i2l, 1) := by decide +kernel
theorem dX11_tiring_137 : decode cX11_tiring 137 = .ok (.lastore, 1) := by decide +kernel
theorem dX11_tiring_138 : decode cX11_tiring 138 = .ok (.aload_n 0, 1) := by decide +kernel
theorem dX11_tiring_139 : decode cX11_tiring 139 = .ok (.getfield 65, 3) := by decide +kernel
theorem dX11_tiring_142 : decode cX11_tiring 142 = .ok (.bipush 6, 2) := by decide +kernel
theorem dX11_tiring_144 : decode cX11_tiring 144 = .ok (.iload 5, 2) := by decide +kernel
theorem dX11_tiring_146 : decode cX11_tiring 146 = .ok (.i2l, 1) := by decide +kernel
theorem dX11_tiring_147 : decode cX11_tiring 147 = .ok (.lastore, 1) := by decide +kernel
theorem dX11_tiring_148 : decode cX11_tiring 148 = .ok (.aload_n 0, 1) := by decide +kernel
theorem dX11_tiring_149 : decode cX11_tiring 149 = .ok (.getfield 65, 3) := by decide +kernel
theorem dX11_tiring_152 : decode cX11_tiring 152 = .ok (.bipush 7, 2) := by decide +kernel
theorem dX11_tiring_154 : decode cX11_tiring 154 = .ok (.iload 6, 2) := by decide +kernel
theorem dX11_tiring_156 : decode cX11_tiring 156 = .ok (.i2l, 1) := by decide +kernel
theorem dX11_tiring_157 : decode cX11_tiring 157 = .ok (.lastore, 1) := by decide +kernel
theorem dX11_tiring_158 : decode cX11_tiring 158 = .ok (.aload_n 0, 1) := by decide +kernel
theorem dX11_tiring_159 : decode cX11_tiring 159 = .ok (.getfield 65, 3) := by decide +kernel
theorem dX11_tiring_162 : decode cX11_tiring 162 = .ok (.bipush 8, 2) := by decide +kernel
theorem dX11_tiring_164 : decode cX11_tiring 164 = .ok (.aload_n 0, 1) := by decide +kernel
theorem dX11_tiring_165 : decode cX11_tiring 165 = .ok (.getfield 13, 3) := by decide +kernel
theorem dX11_tiring_168 : decode cX11_tiring 168 = .ok (.iconst 5, 1) := by decide +kernel
theorem dX11_tiring_169 : decode cX11_tiring 169 = .ok (.iaload, 1) := by decide +kernel
theorem dX11_tiring_170 : decode cX11_tiring 170 = .ok (.i2l, 1) := by decide +kernel
theorem dX11_tiring_171 : decode cX11_tiring 171 = .ok (.lastore, 1) := by decide +kernel
theorem dX11_tiring_172 : decode cX11_tiring 172 = .ok (.iconst 0, 1) := by decide +kernel
theorem dX11_tiring_173 : decode cX11_tiring 173 = .ok (.istore 10, 2) := by decide +kernel
theorem dX11_tiring_175 : decode cX11_tiring 175 = .ok (.iload 10, 2) := by decide +kernel
theorem dX11_tiring_177 : decode cX11_tiring 177 = .ok (.aload_n 0, 1) := by decide +kernel
theorem dX11_tiring_178 : decode cX11_tiring 178 = .ok (.getfield 13, 3) := by decide +kernel
theorem dX11_tiring_181 : decode cX11_tiring 181 = .ok (.aload_n 0, 1) := by decide +kernel
theorem dX11_tiring_182 : decode cX11_tiring 182 = .ok (.getfield 323, 3) := by decide +kernel
theorem dX11_tiring_185 : decode cX11_tiring 185 = .ok (.iconst 1, 1) := by decide +kernel
theorem dX11_tiring_186 : decode cX11_tiring 186 = .ok (.iadd, 1) := by decide +kernel
theorem dX11_tiring_187 : decode cX11_tiring 187 = .ok (.iaload, 1) := by decide +kernel
theorem dX11_tiring_188 : decode cX11_tiring 188 = .ok (.if_icmp .ge 51, 3) := by decide +kernel
theorem dX11_tiring_191 : decode cX11_tiring 191 = .ok (.aload_n 0, 1) := by decide +kernel
theorem dX11_tiring_192 : decode cX11_tiring 192 = .ok (.getfield 323, 3) := by decide +kernel
theorem dX11_tiring_195 : decode cX11_tiring 195 = .ok (.iconst 2, 1) := by decide +kernel
theorem dX11_tiring_196 : decode cX11_tiring 196 = .ok (.iadd, 1) := by decide +kernel
theorem dX11_tiring_197 : decode cX11_tiring 197 = .ok (.bipush 8, 2) := by decide +kernel
theorem dX11_tiring_199 : decode cX11_tiring 199 = .ok (.iload 10, 2) := by decide +kernel
theorem dX11_tiring_201 : decode cX11_tiring 201 = .ok (.imul, 1) := by decide +kernel
theorem dX11_tiring_202 : decode cX11_tiring 202 = .ok (.iadd, 1) := by decide +kernel
theorem dX11_tiring_203 : decode cX11_tiring 203 = .ok (.istore 11, 2) := by decide +kernel
theorem dX11_tiring_205 : decode cX11_tiring 205 = .ok (.aload_n 0, 1) := by decide +kernel
theorem dX11_tiring_206 : decode cX11_tiring 206 = .ok (.iload 11, 2) := by decide +kernel
theorem dX11_tiring_208 : decode cX11_tiring 208 = .ok (.invokevirtual 346, 3) := by decide +kernel
theorem dX11_tiring_211 : decode cX11_tiring 211 = .ok (.ifCond .eq 22, 3) := by decide +kernel
theorem dX11_tiring_214 : decode cX11_tiring 214 = .ok (.aload_n 0, 1) := by decide +kernel
theorem dX11_tiring_215 : decode cX11_tiring 215 = .ok (.getfield 13, 3) := by decide +kernel
theorem dX11_tiring_218 : decode cX11_tiring 218 = .ok (.iload 11, 2) := by decide +kernel
theorem dX11_tiring_220 : decode cX11_tiring 220 = .ok (.iaload, 1) := by decide +kernel
theorem dX11_tiring_221 : decode cX11_tiring 221 = .ok (.iconst 1, 1) := by decide +kernel
theorem dX11_tiring_222 : decode cX11_tiring 222 = .ok (.if_icmp .ne 5, 3) := by decide +kernel
theorem dX11_tiring_225 : decode cX11_tiring 225 = .ok (.iconst (-1), 1) := by decide +kernel
theorem dX11_tiring_226 : decode cX11_tiring 226 = .ok (.ireturn, 1) := by decide +kernel
theorem dX11_tiring_227 : decode cX11_tiring 227 = .ok (.aload_n 0, 1) := by decide +kernel
theorem dX11_tiring_228 : decode cX11_tiring 228 = .ok (.getfield 340, 3) := by decide +kernel
theorem dX11_tiring_231 : decode cX11_tiring 231 = .ok (.lstore 8, 2) := by decide +kernel
theorem dX11_tiring_233 : decode cX11_tiring 233 = .ok (.iinc 10 1, 3) := by decide +kernel
theorem dX11_tiring_236 : decode cX11_tiring 236 = .ok (.goto (-61), 3) := by decide +kernel
theorem dX11_tiring_239 : decode cX11_tiring 239 = .ok (.lload 8, 2) := by decide +kernel
theorem dX11_tiring_241 : decode cX11_tiring 241 = .ok (.lconst 0, 1) := by decide +kernel
theorem dX11_tiring_242 : decode cX11_tiring 242 = .ok (.lcmp, 1) := by decide +kernel
theorem dX11_tiring_243 : decode cX11_tiring 243 = .ok (.ifCond .ge 7, 3) := by decide +kernel
theorem dX11_tiring_246 : decode cX11_tiring 246 = .ok (.iconst 0, 1) := by decide +kernel
theorem dX11_tiring_247 : decode cX11_tiring 247 = .ok (.goto 20, 3) := by decide +kernel
theorem dX11_tiring_250 : decode cX11_tiring 250 = .ok (.lload 8, 2) := by decide +kernel
theorem dX11_tiring_252 : decode cX11_tiring 252 = .ok (.ldc2_w 164, 3) := by decide +kernel
theorem dX11_tiring_255 : decode cX11_tiring 255 = .ok (.lcmp, 1) := by decide +kernel
theorem dX11_tiring_256 : decode cX11_tiring 256 = .ok (.ifCond .le 8, 3) := by decide +kernel
theorem dX11_tiring_259 : decode cX11_tiring 259 = .ok (.bipush 99, 2) := by decide +kernel
theorem dX11_tiring_261 : decode cX11_tiring 261 = .ok (.goto 6, 3) := by decide +kernel
theorem dX11_tiring_264 : decode cX11_tiring 264 = .ok (.lload 8, 2) := by decide +kernel
theorem dX11_tiring_266 : decode cX11_tiring 266 = .ok (.l2i, 1) := by decide +kernel
theorem dX11_tiring_267 : decode cX11_tiring 267 = .ok (.ireturn, 1) := by decide +kernel
theorem zw_70 : (Jvm.Cond.selects "HillSchoolModel" ({ cls := "HillSchoolModel", name := "isSo", desc := "(I)Z" } : Jvm.MethodName) ({ cls := "HillSchoolModel", name := "isSo", desc := "(I)Z" } : Jvm.MethodName)) ∈ zall := zmemG (zmj_0 70 rfl) rfl
theorem zw_1564 : (Jvm.Cond.code ({ cls := "HillSchoolModel", name := "tiring", desc := "(IIIIII)I" } : Jvm.MethodName) prog_13_method_59_code (12 : Nat) (Option.some Jvm.ClassFile.FieldType.int)) ∈ zall := zmemG (zmj_7 21 rfl) rfl
theorem zw_1565 : (Jvm.Cond.methodLink "HillSchoolModel" (343 : Nat) ({ cls := "HillSchoolModel", name := "size", desc := "(I)I" } : Jvm.MethodName)) ∈ zall := zmemG (zmj_7 22 rfl) rfl
theorem zw_1566 : (Jvm.Cond.static ({ cls := "HillSchoolModel", name := "size", desc := "(I)I" } : Jvm.MethodName)) ∈ zall := zmemG (zmj_7 23 rfl) rfl
theorem zw_1568 : (Jvm.Cond.methodLink "HillSchoolModel" (346 : Nat) ({ cls := "HillSchoolModel", name := "isSo", desc := "(I)Z" } : Jvm.MethodName)) ∈ zall := zmemG (zmj_7 25 rfl) rfl
theorem zw_1570 : (Jvm.Cond.instanceMethod ({ cls := "HillSchoolModel", name := "isSo", desc := "(I)Z" } : Jvm.MethodName)) ∈ zall := zmemG (zmj_7 27 rfl) rfl
abbrev w_HM_tiring : List Cond := .code yX11_tiring cX11_tiring 12 (some .int) :: zall
abbrev rm_HM_tiring : Room := { frames := 3, cells := 0, slots := 0, locals := 72 }
theorem hd_HM_tiring : yX11_tiring.cls = "HillSchoolModel" ∧ yX11_tiring.cls ≠ "java/lang/invoke/MethodHandle" ∧ yX11_tiring.cls ≠ "java/lang/invoke/VarHandle" ∧ (parseMethodDescriptor yX11_tiring.desc).map (fun d => d.parameters.length) = some 6 := by decide +kernel
def wd_HM_tiring (cA : Nat → ClassId) (q0 q1 q2 q3 q4 q5 q6 q7 q8 q9 q10 q11 q12 q13 q14 q15 q16 q17 q18 q19 q20 q21 q22 q23 q24 q25 q26 q27 q28 q29 q30 q31 : Nat) (u0 u1 u2 u3 u4 u5 u6 u7 u8 u9 u10 u11 u12 u13 u14 u15 u16 u17 : Int) (i_row : Nat → Int) (i_law : Int) (i_broken : Int) (i_value : Int) (i_sum : Int) (i_set : Nat → Int) (i_rest : Nat → Int) : va_W := [(q0, .inr (11, [.int (Int32.ofInt u0), .int (Int32.ofInt u1), .ref q1, .ref q2, .ref q3, .ref q4, .int (Int32.ofInt u2), .ref q5, .int (Int32.ofInt u3), .int (Int32.ofInt u4), .int (Int32.ofInt u5), .int (Int32.ofInt u6), .long (Int64.ofInt u7), .int (Int32.ofInt u8), .int (Int32.ofInt u9), .int (Int32.ofInt u10), .ref q6, .int (Int32.ofInt u11), .ref q7, .ref q8, .int (Int32.ofInt u12), .ref q9, .ref q10, .int (Int32.ofInt u13), .int (Int32.ofInt u14), .ref q11, .int (Int32.ofInt i_law), .ref q12, .ref q13, .int (Int32.ofInt i_broken), .long (Int64.ofInt i_value), .long (Int64.ofInt i_sum), .ref q14, .ref q15, .ref q16, .ref q17, .ref q18, .int (Int32.ofInt u15), .ref q19, .ref q20, .ref q21, .ref q22, .ref q23, .ref q24, .ref q25, .ref q26, .ref q27, .ref q28, .ref q29, .ref q30, .long (Int64.ofInt u16), .ref q31, .int (Int32.ofInt u17)])), (q2, .inl (cA 0, 5580, .inl (za i_row))), (q12, .inl (cA 2, 13, .inr (.inl (zl i_set)))), (q13, .inl (cA 2, 400, .inr (.inl (zl i_rest))))]
def wf_HM_tiring (cA : Nat → ClassId) (q0 q1 q2 q3 q4 q5 q6 q7 q8 q9 q10 q11 q12 q13 q14 q15 q16 q17 q18 q19 q20 q21 q22 q23 q24 q25 q26 q27 q28 q29 q30 q31 : Nat) (u0 u1 u2 u3 u4 u5 u6 u7 u8 u9 u10 u11 u12 u13 u14 u15 u16 u17 : Int) (i_row : Nat → Int) (o : Int × Int × Int × Int × Int × (Nat → Int) × (Nat → Int)) : va_W := wd_HM_tiring cA q0 q1 q2 q3 q4 q5 q6 q7 q8 q9 q10 q11 q12 q13 q14 q15 q16 q17 q18 q19 q20 q21 q22 q23 q24 q25 q26 q27 q28 q29 q30 q31 u0 u1 u2 u3 u4 u5 u6 u7 u8 u9 u10 u11 u12 u13 u14 u15 u16 u17 i_row o.2.1 o.2.2.1 o.2.2.2.1 o.2.2.2.2.1 o.2.2.2.2.2.1 o.2.2.2.2.2.2
def f_HM_tiring_239 (i_row : Nat → Int) (x8 : Int) (i_law : Int) (i_broken : Int) (i_value : Int) (i_sum : Int) (i_set : Nat → Int) (i_rest : Nat → Int) : Option (Int × Int × Int × Int × Int × (Nat → Int) × (Nat → Int)) :=
  if zl_w 0 ≤ zl_w x8 then
    if zl_w x8 ≤ zl_w 99 then
      some (x8, i_law, i_broken, i_value, i_sum, i_set, i_rest)
    else
      some (99, i_law, i_broken, i_value, i_sum, i_set, i_rest)
  else
    some (0, i_law, i_broken, i_value, i_sum, i_set, i_rest)
def f_HM_tiring_233 (i_row : Nat → Int) (k175 : Int → Int → Int → Int → Int → Int → (Nat → Int) → (Nat → Int) → Option (Int × Int × Int × Int × Int × (Nat → Int) × (Nat → Int))) (x8 : Int) (x10 : Int) (i_law : Int) (i_broken : Int) (i_value : Int) (i_sum : Int) (i_set : Nat → Int) (i_rest : Nat → Int) : Option (Int × Int × Int × Int × Int × (Nat → Int) × (Nat → Int)) :=
  zn (x10 + 1) fun v1 =>
  k175 x8 v1 i_law i_broken i_value i_sum i_set i_rest
def f_HM_tiring_175_b (i_row : Nat → Int) (k175 : Int → Int → Int → Int → Int → Int → (Nat → Int) → (Nat → Int) → Option (Int × Int × Int × Int × Int × (Nat → Int) × (Nat → Int))) (x8 : Int) (x10 : Int) (i_law : Int) (i_broken : Int) (i_value : Int) (i_sum : Int) (i_set : Nat → Int) (i_rest : Nat → Int) : Option (Int × Int × Int × Int × Int × (Nat → Int) × (Nat → Int)) :=
  zn (i_law + 1) fun v1 =>
  zg 5580 i_row v1 fun v2 =>
  if zi_w v2 ≤ zi_w x10 then
    f_HM_tiring_239 i_row x8 i_law i_broken i_value i_sum i_set i_rest
  else
    zn (i_law + 2) fun v3 =>
    zn (8 * x10) fun v4 =>
    zn (v3 + v4) fun v5 =>
    zd5 (f_HM_isSo v5 i_law i_row i_set i_broken i_value i_sum i_rest) fun v6 v7 v8 v9 a10 =>
    if zi_w v6 = 0 then
      f_HM_tiring_233 i_row k175 x8 x10 i_law v7 v8 v9 i_set a10
    else
      zg 5580 i_row v5 fun v11 =>
      if zi_w v11 ≠ zi_w 1 then
        f_HM_tiring_233 i_row k175 v9 x10 i_law v7 v8 v9 i_set a10
      else
        some ((-1), i_law, v7, v8, v9, i_set, a10)
def f_HM_tiring_175 (i_row : Nat → Int) : Nat → Int → Int → Int → Int → Int → Int → (Nat → Int) → (Nat → Int) → Option (Int × Int × Int × Int × Int × (Nat → Int) × (Nat → Int))
  | 0 => fun _ _ _ _ _ _ _ _ => none
  | n + 1 => fun y0 y1 y2 y3 y4 y5 y6 y7 => f_HM_tiring_175_b i_row (f_HM_tiring_175 i_row n) y0 y1 y2 y3 y4 y5 y6 y7
def f_HM_tiring (x1 : Int) (x2 : Int) (x3 : Int) (x4 : Int) (x5 : Int) (x6 : Int) (i_row : Nat → Int) (i_law : Int) (i_broken : Int) (i_value : Int) (i_sum : Int) (i_set : Nat → Int) (i_rest : Nat → Int) : Option (Int × Int × Int × Int × Int × (Nat → Int) × (Nat → Int)) :=
  zn (3 * x1) fun v1 =>
  zn (153 + v1) fun v2 =>
  zg 5580 i_row v2 fun v3 =>
  if zi_w x5 = 0 then
    some ((-1), i_law, i_broken, i_value, i_sum, i_set, i_rest)
  else
    if zi_w 9 < zi_w x6 then
      some ((-1), i_law, i_broken, i_value, i_sum, i_set, i_rest)
    else
      if zi_w x3 = zi_w x4 then
        some ((-1), i_law, i_broken, i_value, i_sum, i_set, i_rest)
      else
        zn (3 * x1) fun v4 =>
        zn (153 + v4) fun v5 =>
        zn (v5 + 1) fun v6 =>
        zg 5580 i_row v6 fun v7 =>
        if zi_w v7 = zi_w 1 then
          some ((-1), i_law, i_broken, i_value, i_sum, i_set, i_rest)
        else
          if zi_w x2 ≤ zi_w v3 then
            zn (x3 - x4) fun v8 =>
            zd1 (f_HM_size v8) fun v9 =>
            zn (zi_w v9) fun v10 =>
            zg 5580 i_row 4 fun v11 =>
            if zi_w v11 = zi_w (-1) then
              f_HM_tiring_239 i_row v10 i_law i_broken i_value i_sum i_set i_rest
            else
              zg 5580 i_row 4 fun v12 =>
              zn (900 * v12) fun v13 =>
              zn (180 + v13) fun v14 =>
              zn (zi_w x1) fun v15 =>
              zs 13 i_set 1 v15 fun a16 =>
              zn (zi_w v3) fun v17 =>
              zs 13 a16 2 v17 fun a18 =>
              zn (zi_w x2) fun v19 =>
              zs 13 a18 3 v19 fun a20 =>
              zn (zi_w x3) fun v21 =>
              zs 13 a20 4 v21 fun a22 =>
              zn (zi_w x4) fun v23 =>
              zs 13 a22 5 v23 fun a24 =>
              zn (zi_w x5) fun v25 =>
              zs 13 a24 6 v25 fun a26 =>
              zn (zi_w x6) fun v27 =>
              zs 13 a26 7 v27 fun a28 =>
              zg 5580 i_row 5 fun v29 =>
              zn (zi_w v29) fun v30 =>
              zs 13 a28 8 v30 fun a31 =>
              f_HM_tiring_175 i_row zfu v10 0 v14 i_broken i_value i_sum a31 i_rest
          else
            some ((-1), i_law, i_broken, i_value, i_sum, i_set, i_rest)
set_option maxHeartbeats 4000000 in
set_option maxRecDepth 100000 in
theorem c_HM_tiring (l : Launch) (ev : zEv) (dC : Nat → ClassId) (dI : Nat → Nat → Nat) (cA : Nat → ClassId) (q0 q1 q2 q3 q4 q5 q6 q7 q8 q9 q10 q11 q12 q13 q14 q15 q16 q17 q18 q19 q20 q21 q22 q23 q24 q25 q26 q27 q28 q29 q30 q31 : Nat) (u0 u1 u2 u3 u4 u5 u6 u7 u8 u9 u10 u11 u12 u13 u14 u15 u16 u17 : Int) {x1 x2 x3 x4 x5 x6 : Int} {i_row : Nat → Int} {i_law : Int} {i_broken : Int} {i_value : Int} {i_sum : Int} {i_set : Nat → Int} {i_rest : Nat → Int} {out : Int × Int × Int × Int × Int × (Nat → Int) × (Nat → Int)} (hf : f_HM_tiring x1 x2 x3 x4 x5 x6 i_row i_law i_broken i_value i_sum i_set i_rest = some out) : xc_I l ev (dC, dI) vwCl (tyl cA) yX11_tiring w_HM_tiring rm_HM_tiring [.ref q0, .int (Int32.ofInt x1), .int (Int32.ofInt x2), .int (Int32.ofInt x3), .int (Int32.ofInt x4), .int (Int32.ofInt x5), .int (Int32.ofInt x6)] (wd_HM_tiring cA q0 q1 q2 q3 q4 q5 q6 q7 q8 q9 q10 q11 q12 q13 q14 q15 q16 q17 q18 q19 q20 q21 q22 q23 q24 q25 q26 q27 q28 q29 q30 q31 u0 u1 u2 u3 u4 u5 u6 u7 u8 u9 u10 u11 u12 u13 u14 u15 u16 u17 i_row i_law i_broken i_value i_sum i_set i_rest) (wf_HM_tiring cA q0 q1 q2 q3 q4 q5 q6 q7 q8 q9 q10 q11 q12 q13 q14 q15 q16 q17 q18 q19 q20 q21 q22 q23 q24 q25 q26 q27 q28 q29 q30 q31 u0 u1 u2 u3 u4 u5 u6 u7 u8 u9 u10 u11 u12 u13 u14 u15 u16 u17 i_row out) out.1 := by
  refine xv_startI (cc := cX11_tiring) (maxL := 12) (rt := .int) (by decide +kernel) rfl (Nat.le_of_ble_eq_true rfl) ?_
  intro p e s m args below meth c A Q H ls hx hb hml hts hown hK hA hP hD hS hl hE hret
  have hown : s.vm.findClass "HillSchoolModel" = some m.cls := hown
  have hz : ∀ w ∈ zall, w.before args s = true := fun w h => hts w (List.mem_cons_of_mem _ h)
  have hl : lv_has ls 12 [(0, .ref q0), (1, .int (Int32.ofInt x1)), (2, .int (Int32.ofInt x2)), (3, .int (Int32.ofInt x3)), (4, .int (Int32.ofInt x4)), (5, .int (Int32.ofInt x5)), (6, .int (Int32.ofInt x6))] := hl
  have b_239 : ∀ (x8 : Int) (i_law : Int) (i_broken : Int) (i_value : Int) (i_sum : Int) (i_set : Nat → Int) (i_rest : Nat → Int) (H : Heap) (locs : List Loc) (ls : Array Slot), f_HM_tiring_239 i_row x8 i_law i_broken i_value i_sum i_set i_rest = some out → va_P (dC, dI) vwCl (wd_HM_tiring cA q0 q1 q2 q3 q4 q5 q6 q7 q8 q9 q10 q11 q12 q13 q14 q15 q16 q17 q18 q19 q20 q21 q22 q23 q24 q25 q26 q27 q28 q29 q30 q31 u0 u1 u2 u3 u4 u5 u6 u7 u8 u9 u10 u11 u12 u13 u14 u15 u16 u17 i_row i_law i_broken i_value i_sum i_set i_rest) H → va_D A (wd_HM_tiring cA q0 q1 q2 q3 q4 q5 q6 q7 q8 q9 q10 q11 q12 q13 q14 q15 q16 q17 q18 q19 q20 q21 q22 q23 q24 q25 q26 q27 q28 q29 q30 q31 u0 u1 u2 u3 u4 u5 u6 u7 u8 u9 u10 u11 u12 u13 u14 u15 u16 u17 i_row i_law i_broken i_value i_sum i_set i_rest) → va_S A s.heap H locs → lv_has ls 12 [(8, .long (Int64.ofInt x8))] → W p l e rm_HM_tiring s m args below meth c H locs 0 0 Q (F0 m 239 ls []) := by
    intro x8 i_law i_broken i_value i_sum i_set i_rest H locs ls hf hP hD hS hl
    unfold f_HM_tiring_239 at hf
    refine lv_lload hx hb dX11_tiring_239 (lv_at hl 0 rfl) ?_
    refine lv_lconst (v := Int64.ofInt 0) hx hb dX11_tiring_241 (by decide) ?_
    refine xl_cmp_ge (tgt := 250) hx hb dX11_tiring_242 dX11_tiring_243 (by decide) hf (fun hf => ?_) (fun hf => ?_)
    · refine lv_lload hx hb dX11_tiring_250 (lv_at hl 0 rfl) ?_
      refine lv_ldc2 (v := Int64.ofInt 99) hx hb hown (hz _ zw_1405) dX11_tiring_252 ?_
      refine xl_cmp_le (tgt := 264) hx hb dX11_tiring_255 dX11_tiring_256 (by decide) hf (fun hf => ?_) (fun hf => ?_)
      · refine lv_lload hx hb dX11_tiring_264 (lv_at hl 0 rfl) ?_
        refine xl_l2i hx hb dX11_tiring_266 ?_
        obtain rfl := Option.some.inj hf
        exact hret _ _ _ _ rfl dX11_tiring_267 hP hD hS
      · refine lv_bipush (v := Int32.ofInt 99) hx hb dX11_tiring_259 (by decide) ?_
        refine lv_goto (tgt := 267) hx hb dX11_tiring_261 (by decide) ?_
        obtain rfl := Option.some.inj hf
        exact hret _ _ _ _ rfl dX11_tiring_267 hP hD hS
    · refine lv_iconst (v := Int32.ofInt 0) hx hb dX11_tiring_246 rfl ?_
      refine lv_goto (tgt := 267) hx hb dX11_tiring_247 (by decide) ?_
      obtain rfl := Option.some.inj hf
      exact hret _ _ _ _ rfl dX11_tiring_267 hP hD hS
  have b_233 : ∀ (k175 : Int → Int → Int → Int → Int → Int → (Nat → Int) → (Nat → Int) → Option (Int × Int × Int × Int × Int × (Nat → Int) × (Nat → Int))) (_ : ∀ (x8 : Int) (x10 : Int) (i_law : Int) (i_broken : Int) (i_value : Int) (i_sum : Int) (i_set : Nat → Int) (i_rest : Nat → Int) (H : Heap) (locs : List Loc) (ls : Array Slot), k175 x8 x10 i_law i_broken i_value i_sum i_set i_rest = some out → va_P (dC, dI) vwCl (wd_HM_tiring cA q0 q1 q2 q3 q4 q5 q6 q7 q8 q9 q10 q11 q12 q13 q14 q15 q16 q17 q18 q19 q20 q21 q22 q23 q24 q25 q26 q27 q28 q29 q30 q31 u0 u1 u2 u3 u4 u5 u6 u7 u8 u9 u10 u11 u12 u13 u14 u15 u16 u17 i_row i_law i_broken i_value i_sum i_set i_rest) H → va_D A (wd_HM_tiring cA q0 q1 q2 q3 q4 q5 q6 q7 q8 q9 q10 q11 q12 q13 q14 q15 q16 q17 q18 q19 q20 q21 q22 q23 q24 q25 q26 q27 q28 q29 q30 q31 u0 u1 u2 u3 u4 u5 u6 u7 u8 u9 u10 u11 u12 u13 u14 u15 u16 u17 i_row i_law i_broken i_value i_sum i_set i_rest) → va_S A s.heap H locs → lv_has ls 12 [(0, .ref q0), (8, .long (Int64.ofInt x8)), (10, .int (Int32.ofInt x10))] → W p l e rm_HM_tiring s m args below meth c H locs 0 0 Q (F0 m 175 ls [])), ∀ (x8 : Int) (x10 : Int) (i_law : Int) (i_broken : Int) (i_value : Int) (i_sum : Int) (i_set : Nat → Int) (i_rest : Nat → Int) (H : Heap) (locs : List Loc) (ls : Array Slot), f_HM_tiring_233 i_row k175 x8 x10 i_law i_broken i_value i_sum i_set i_rest = some out → va_P (dC, dI) vwCl (wd_HM_tiring cA q0 q1 q2 q3 q4 q5 q6 q7 q8 q9 q10 q11 q12 q13 q14 q15 q16 q17 q18 q19 q20 q21 q22 q23 q24 q25 q26 q27 q28 q29 q30 q31 u0 u1 u2 u3 u4 u5 u6 u7 u8 u9 u10 u11 u12 u13 u14 u15 u16 u17 i_row i_law i_broken i_value i_sum i_set i_rest) H → va_D A (wd_HM_tiring cA q0 q1 q2 q3 q4 q5 q6 q7 q8 q9 q10 q11 q12 q13 q14 q15 q16 q17 q18 q19 q20 q21 q22 q23 q24 q25 q26 q27 q28 q29 q30 q31 u0 u1 u2 u3 u4 u5 u6 u7 u8 u9 u10 u11 u12 u13 u14 u15 u16 u17 i_row i_law i_broken i_value i_sum i_set i_rest) → va_S A s.heap H locs → lv_has ls 12 [(0, .ref q0), (8, .long (Int64.ofInt x8)), (10, .int (Int32.ofInt x10))] → W p l e rm_HM_tiring s m args below meth c H locs 0 0 Q (F0 m 233 ls []) := by
    intro k175 ih175 x8 x10 i_law i_broken i_value i_sum i_set i_rest H locs ls hf hP hD hS hl
    unfold f_HM_tiring_233 at hf
    refine xi_iinc hx hb dX11_tiring_233 hl (k := 2) rfl (by decide) hf (fun v1 ls hl hf => ?_)
    have hl : lv_has ls 12 [(10, .int (Int32.ofInt v1)), (0, .ref q0), (8, .long (Int64.ofInt x8))] := hl
    refine lv_goto (tgt := 175) hx hb dX11_tiring_236 (by decide) ?_
    exact ih175 _ _ _ _ _ _ _ _ _ _ _ hf hP hD hS (lv_sub hl [1, 2, 0] rfl)
  have b_175 : ∀ (k175 : Int → Int → Int → Int → Int → Int → (Nat → Int) → (Nat → Int) → Option (Int × Int × Int × Int × Int × (Nat → Int) × (Nat → Int))) (_ : ∀ (x8 : Int) (x10 : Int) (i_law : Int) (i_broken : Int) (i_value : Int) (i_sum : Int) (i_set : Nat → Int) (i_rest : Nat → Int) (H : Heap) (locs : List Loc) (ls : Array Slot), k175 x8 x10 i_law i_broken i_value i_sum i_set i_rest = some out → va_P (dC, dI) vwCl (wd_HM_tiring cA q0 q1 q2 q3 q4 q5 q6 q7 q8 q9 q10 q11 q12 q13 q14 q15 q16 q17 q18 q19 q20 q21 q22 q23 q24 q25 q26 q27 q28 q29 q30 q31 u0 u1 u2 u3 u4 u5 u6 u7 u8 u9 u10 u11 u12 u13 u14 u15 u16 u17 i_row i_law i_broken i_value i_sum i_set i_rest) H → va_D A (wd_HM_tiring cA q0 q1 q2 q3 q4 q5 q6 q7 q8 q9 q10 q11 q12 q13 q14 q15 q16 q17 q18 q19 q20 q21 q22 q23 q24 q25 q26 q27 q28 q29 q30 q31 u0 u1 u2 u3 u4 u5 u6 u7 u8 u9 u10 u11 u12 u13 u14 u15 u16 u17 i_row i_law i_broken i_value i_sum i_set i_rest) → va_S A s.heap H locs → lv_has ls 12 [(0, .ref q0), (8, .long (Int64.ofInt x8)), (10, .int (Int32.ofInt x10))] → W p l e rm_HM_tiring s m args below meth c H locs 0 0 Q (F0 m 175 ls [])), ∀ (x8 : Int) (x10 : Int) (i_law : Int) (i_broken : Int) (i_value : Int) (i_sum : Int) (i_set : Nat → Int) (i_rest : Nat → Int) (H : Heap) (locs : List Loc) (ls : Array Slot), f_HM_tiring_175_b i_row k175 x8 x10 i_law i_broken i_value i_sum i_set i_rest = some out → va_P (dC, dI) vwCl (wd_HM_tiring cA q0 q1 q2 q3 q4 q5 q6 q7 q8 q9 q10 q11 q12 q13 q14 q15 q16 q17 q18 q19 q20 q21 q22 q23 q24 q25 q26 q27 q28 q29 q30 q31 u0 u1 u2 u3 u4 u5 u6 u7 u8 u9 u10 u11 u12 u13 u14 u15 u16 u17 i_row i_law i_broken i_value i_sum i_set i_rest) H → va_D A (wd_HM_tiring cA q0 q1 q2 q3 q4 q5 q6 q7 q8 q9 q10 q11 q12 q13 q14 q15 q16 q17 q18 q19 q20 q21 q22 q23 q24 q25 q26 q27 q28 q29 q30 q31 u0 u1 u2 u3 u4 u5 u6 u7 u8 u9 u10 u11 u12 u13 u14 u15 u16 u17 i_row i_law i_broken i_value i_sum i_set i_rest) → va_S A s.heap H locs → lv_has ls 12 [(0, .ref q0), (8, .long (Int64.ofInt x8)), (10, .int (Int32.ofInt x10))] → W p l e rm_HM_tiring s m args below meth c H locs 0 0 Q (F0 m 175 ls []) := by
    intro k175 ih175 x8 x10 i_law i_broken i_value i_sum i_set i_rest H locs ls hf hP hD hS hl
    unfold f_HM_tiring_175_b at hf
    refine lv_iload hx hb dX11_tiring_175 (lv_at hl 2 rfl) ?_
    refine lv_aload_n hx hb dX11_tiring_177 rfl (lv_at hl 0 rfl) ?_
    refine va_get (D := (dC, dI)) (ci := 11) (v := .ref q2) (C := RX11) (T := TX11) (N := 53) hx hb hz zi_X11 hown hK hP 0 rfl rfl 3 (by decide) (hz _ zw_1168) (fun _ h9 => h9) rfl dX11_tiring_178 ?_
    refine lv_aload_n hx hb dX11_tiring_181 rfl (lv_at hl 0 rfl) ?_
    refine va_get (D := (dC, dI)) (ci := 11) (v := .int (Int32.ofInt i_law)) (C := RX11) (T := TX11) (N := 53) hx hb hz zi_X11 hown hK hP 0 rfl rfl 26 (by decide) (hz _ zw_1191) (fun _ h9 => h9) rfl dX11_tiring_182 ?_
    refine lv_iconst (v := Int32.ofInt 1) hx hb dX11_tiring_185 rfl ?_
    refine xi_iadd hx hb dX11_tiring_186 hf (fun v1 hf => ?_)
    refine xi_iald hx hb hK hP 1 0 rfl rfl dX11_tiring_187 hf (fun v2 hf => ?_)
    refine xi_icmp_ge (tgt := 239) hx hb dX11_tiring_188 (by decide) hf (fun hf => ?_) (fun hf => ?_)
    · exact b_239  _ _ _ _ _ _ _ _ _ _ hf hP hD hS (lv_sub hl [1] rfl)
    · refine lv_aload_n hx hb dX11_tiring_191 rfl (lv_at hl 0 rfl) ?_
      refine va_get (D := (dC, dI)) (ci := 11) (v := .int (Int32.ofInt i_law)) (C := RX11) (T := TX11) (N := 53) hx hb hz zi_X11 hown hK hP 0 rfl rfl 26 (by decide) (hz _ zw_1191) (fun _ h9 => h9) rfl dX11_tiring_192 ?_
      refine lv_iconst (v := Int32.ofInt 2) hx hb dX11_tiring_195 rfl ?_
      refine xi_iadd hx hb dX11_tiring_196 hf (fun v3 hf => ?_)
      refine lv_bipush (v := Int32.ofInt 8) hx hb dX11_tiring_197 (by decide) ?_
      refine lv_iload hx hb dX11_tiring_199 (lv_at hl 2 rfl) ?_
      refine xi_imul hx hb dX11_tiring_201 hf (fun v4 hf => ?_)
      refine xi_iadd hx hb dX11_tiring_202 hf (fun v5 hf => ?_)
      refine lv_istore (lv' := [(11, .int (Int32.ofInt v5)), (0, .ref q0), (8, .long (Int64.ofInt x8)), (10, .int (Int32.ofInt x10))]) hx hb dX11_tiring_203 hl (by decide) rfl (fun ls hl => ?_)
      refine lv_aload_n hx hb dX11_tiring_205 rfl (lv_at hl 1 rfl) ?_
      refine lv_iload hx hb dX11_tiring_206 (lv_at hl 0 rfl) ?_
      refine xe_d5 hf (fun v6 v7 v8 v9 a10 hg hf => ?_)
      have hC : ([0, 1, 2, 3] : List Nat).map (fun i => (wd_HM_tiring cA q0 q1 q2 q3 q4 q5 q6 q7 q8 q9 q10 q11 q12 q13 q14 q15 q16 q17 q18 q19 q20 q21 q22 q23 q24 q25 q26 q27 q28 q29 q30 q31 u0 u1 u2 u3 u4 u5 u6 u7 u8 u9 u10 u11 u12 u13 u14 u15 u16 u17 i_row i_law i_broken i_value i_sum i_set i_rest)[i]?) = (wd_HM_isSo cA q0 q1 q2 q3 q4 q5 q6 q7 q8 q9 q10 q11 q12 q13 q14 q15 q16 q17 q18 q19 q20 q21 q22 q23 q24 q25 q26 q27 q28 q29 q30 q31 u0 u1 u2 u3 u4 u5 u6 u7 u8 u9 u10 u11 u12 u13 u14 u15 u16 u17 i_law i_row i_set i_broken i_value i_sum i_rest).map some := rfl
      refine xv_afterI (ws' := (wd_HM_tiring cA q0 q1 q2 q3 q4 q5 q6 q7 q8 q9 q10 q11 q12 q13 q14 q15 q16 q17 q18 q19 q20 q21 q22 q23 q24 q25 q26 q27 q28 q29 q30 q31 u0 u1 u2 u3 u4 u5 u6 u7 u8 u9 u10 u11 u12 u13 u14 u15 u16 u17 i_row i_law v7 v8 v9 i_set a10)) (isC := [0, 1, 2, 3]) (ps := [some 0, some 1, some 2, some 3]) (va_runV (As := [.int (Int32.ofInt v5)]) (rest := []) ⟨hx, hb, hml, hown, hts⟩ (c_HM_isSo l ev dC dI cA q0 q1 q2 q3 q4 q5 q6 q7 q8 q9 q10 q11 q12 q13 q14 q15 q16 q17 q18 q19 q20 q21 q22 q23 q24 q25 q26 q27 q28 q29 q30 q31 u0 u1 u2 u3 u4 u5 u6 u7 u8 u9 u10 u11 u12 u13 u14 u15 u16 u17 hg H.size) (cwV 1 hts (zgV zw_1568 zw_1570 zw_70 zw_115 zw_1571) rfl rfl rfl hd_HM_isSo ⟨Nat.le_of_ble_eq_true rfl, Nat.le_of_ble_eq_true rfl⟩) (xv_preV (T := TX11) (N := 53) hE hA hS hK hP hD (isC := [0, 1, 2, 3]) (by decide +kernel) hC (q0 := 0) (ci := 11) rfl rfl) rfl rfl hl.1 rfl (lv_room (Nat.le_of_ble_eq_true rfl)) dX11_tiring_208 ⟨Nat.le_refl _, Nat.le_refl _⟩) hP hD hS hA (by decide +kernel) rfl hC rfl rfl (fun H locs hP hD hS => ?_)
      refine xi_if_eq (tgt := 233) hx hb dX11_tiring_211 (by decide) hf (fun hf => ?_) (fun hf => ?_)
      · exact b_233 _ ih175 _ _ _ _ _ _ _ _ _ _ _ hf hP hD hS (lv_sub hl [1, 2, 3] rfl)
      · refine lv_aload_n hx hb dX11_tiring_214 rfl (lv_at hl 1 rfl) ?_
        refine va_get (D := (dC, dI)) (ci := 11) (v := .ref q2) (C := RX11) (T := TX11) (N := 53) hx hb hz zi_X11 hown hK hP 0 rfl rfl 3 (by decide) (hz _ zw_1168) (fun _ h9 => h9) rfl dX11_tiring_215 ?_
        refine lv_iload hx hb dX11_tiring_218 (lv_at hl 0 rfl) ?_
        refine xi_iald hx hb hK hP 1 0 rfl rfl dX11_tiring_220 hf (fun v11 hf => ?_)
        refine lv_iconst (v := Int32.ofInt 1) hx hb dX11_tiring_221 rfl ?_
        refine xi_icmp_ne (tgt := 227) hx hb dX11_tiring_222 (by decide) hf (fun hf => ?_) (fun hf => ?_)
        · refine lv_aload_n hx hb dX11_tiring_227 rfl (lv_at hl 1 rfl) ?_
          refine va_get (D := (dC, dI)) (ci := 11) (v := .long (Int64.ofInt v9)) (C := RX11) (T := TX11) (N := 53) hx hb hz zi_X11 hown hK hP 0 rfl rfl 31 (by decide) (hz _ zw_1196) (fun _ h9 => h9) rfl dX11_tiring_228 ?_
          refine lv_lstore (lv' := [(8, .long (Int64.ofInt v9)), (11, .int (Int32.ofInt v5)), (0, .ref q0), (10, .int (Int32.ofInt x10))]) hx hb dX11_tiring_231 hl (by decide) rfl (fun ls hl => ?_)
          exact b_233 _ ih175 _ _ _ _ _ _ _ _ _ _ _ hf hP hD hS (lv_sub hl [2, 0, 3] rfl)
        · refine lv_iconst (v := Int32.ofInt (-1)) hx hb dX11_tiring_225 rfl ?_
          obtain rfl := Option.some.inj hf
          exact hret _ _ _ _ rfl dX11_tiring_226 hP hD hS
  have l_175 : ∀ (n : Nat), ∀ (x8 : Int) (x10 : Int) (i_law : Int) (i_broken : Int) (i_value : Int) (i_sum : Int) (i_set : Nat → Int) (i_rest : Nat → Int) (H : Heap) (locs : List Loc) (ls : Array Slot), f_HM_tiring_175 i_row n x8 x10 i_law i_broken i_value i_sum i_set i_rest = some out → va_P (dC, dI) vwCl (wd_HM_tiring cA q0 q1 q2 q3 q4 q5 q6 q7 q8 q9 q10 q11 q12 q13 q14 q15 q16 q17 q18 q19 q20 q21 q22 q23 q24 q25 q26 q27 q28 q29 q30 q31 u0 u1 u2 u3 u4 u5 u6 u7 u8 u9 u10 u11 u12 u13 u14 u15 u16 u17 i_row i_law i_broken i_value i_sum i_set i_rest) H → va_D A (wd_HM_tiring cA q0 q1 q2 q3 q4 q5 q6 q7 q8 q9 q10 q11 q12 q13 q14 q15 q16 q17 q18 q19 q20 q21 q22 q23 q24 q25 q26 q27 q28 q29 q30 q31 u0 u1 u2 u3 u4 u5 u6 u7 u8 u9 u10 u11 u12 u13 u14 u15 u16 u17 i_row i_law i_broken i_value i_sum i_set i_rest) → va_S A s.heap H locs → lv_has ls 12 [(0, .ref q0), (8, .long (Int64.ofInt x8)), (10, .int (Int32.ofInt x10))] → W p l e rm_HM_tiring s m args below meth c H locs 0 0 Q (F0 m 175 ls []) := by
    intro n
    induction n with
    | zero => intro x8 x10 i_law i_broken i_value i_sum i_set i_rest H locs ls hf hP hD hS hl; exact nomatch hf
    | succ n ih => intro x8 x10 i_law i_broken i_value i_sum i_set i_rest H locs ls hf hP hD hS hl; exact b_175 (f_HM_tiring_175 i_row n) ih x8 x10 i_law i_broken i_value i_sum i_set i_rest H locs ls hf hP hD hS hl
  unfold f_HM_tiring at hf
  refine lv_aload_n hx hb dX11_tiring_0 rfl (lv_at hl 0 rfl) ?_
  refine va_get (D := (dC, dI)) (ci := 11) (v := .ref q2) (C := RX11) (T := TX11) (N := 53) hx hb hz zi_X11 hown hK hP 0 rfl rfl 3 (by decide) (hz _ zw_1168) (fun _ h9 => h9) rfl dX11_tiring_1 ?_
  refine lv_sipush (v := Int32.ofInt 153) hx hb dX11_tiring_4 (by decide) ?_
  refine lv_iconst (v := Int32.ofInt 3) hx hb dX11_tiring_7 rfl ?_
  refine lv_iload_n hx hb dX11_tiring_8 rfl (lv_at hl 1 rfl) ?_
  refine xi_imul hx hb dX11_tiring_9 hf (fun v1 hf => ?_)
  refine xi_iadd hx hb dX11_tiring_10 hf (fun v2 hf => ?_)
  refine xi_iald hx hb hK hP 1 0 rfl rfl dX11_tiring_11 hf (fun v3 hf => ?_)
  refine lv_istore (lv' := [(7, .int (Int32.ofInt v3)), (0, .ref q0), (1, .int (Int32.ofInt x1)), (2, .int (Int32.ofInt x2)), (3, .int (Int32.ofInt x3)), (4, .int (Int32.ofInt x4)), (5, .int (Int32.ofInt x5)), (6, .int (Int32.ofInt x6))]) hx hb dX11_tiring_12 hl (by decide) rfl (fun ls hl => ?_)
  refine lv_iload hx hb dX11_tiring_14 (lv_at hl 6 rfl) ?_
  refine xi_if_eq (tgt := 56) hx hb dX11_tiring_16 (by decide) hf (fun hf => ?_) (fun hf => ?_)
  · refine lv_iconst (v := Int32.ofInt (-1)) hx hb dX11_tiring_56 rfl ?_
    obtain rfl := Option.some.inj hf
    exact hret _ _ _ _ rfl dX11_tiring_57 hP hD hS
  · refine lv_iload hx hb dX11_tiring_19 (lv_at hl 7 rfl) ?_
    refine lv_bipush (v := Int32.ofInt 9) hx hb dX11_tiring_21 (by decide) ?_
    refine xi_icmp_gt (tgt := 56) hx hb dX11_tiring_23 (by decide) hf (fun hf => ?_) (fun hf => ?_)
    · refine lv_iconst (v := Int32.ofInt (-1)) hx hb dX11_tiring_56 rfl ?_
      obtain rfl := Option.some.inj hf
      exact hret _ _ _ _ rfl dX11_tiring_57 hP hD hS
    · refine lv_iload_n hx hb dX11_tiring_26 rfl (lv_at hl 4 rfl) ?_
      refine lv_iload hx hb dX11_tiring_27 (lv_at hl 5 rfl) ?_
      refine xi_icmp_eq (tgt := 56) hx hb dX11_tiring_29 (by decide) hf (fun hf => ?_) (fun hf => ?_)
      · refine lv_iconst (v := Int32.ofInt (-1)) hx hb dX11_tiring_56 rfl ?_
        obtain rfl := Option.some.inj hf
        exact hret _ _ _ _ rfl dX11_tiring_57 hP hD hS
      · refine lv_aload_n hx hb dX11_tiring_32 rfl (lv_at hl 1 rfl) ?_
        refine va_get (D := (dC, dI)) (ci := 11) (v := .ref q2) (C := RX11) (T := TX11) (N := 53) hx hb hz zi_X11 hown hK hP 0 rfl rfl 3 (by decide) (hz _ zw_1168) (fun _ h9 => h9) rfl dX11_tiring_33 ?_
        refine lv_sipush (v := Int32.ofInt 153) hx hb dX11_tiring_36 (by decide) ?_
        refine lv_iconst (v := Int32.ofInt 3) hx hb dX11_tiring_39 rfl ?_
        refine lv_iload_n hx hb dX11_tiring_40 rfl (lv_at hl 2 rfl) ?_
        refine xi_imul hx hb dX11_tiring_41 hf (fun v4 hf => ?_)
        refine xi_iadd hx hb dX11_tiring_42 hf (fun v5 hf => ?_)
        refine lv_iconst (v := Int32.ofInt 1) hx hb dX11_tiring_43 rfl ?_
        refine xi_iadd hx hb dX11_tiring_44 hf (fun v6 hf => ?_)
        refine xi_iald hx hb hK hP 1 0 rfl rfl dX11_tiring_45 hf (fun v7 hf => ?_)
        refine lv_iconst (v := Int32.ofInt 1) hx hb dX11_tiring_46 rfl ?_
        refine xi_icmp_eq (tgt := 56) hx hb dX11_tiring_47 (by decide) hf (fun hf => ?_) (fun hf => ?_)
        · refine lv_iconst (v := Int32.ofInt (-1)) hx hb dX11_tiring_56 rfl ?_
          obtain rfl := Option.some.inj hf
          exact hret _ _ _ _ rfl dX11_tiring_57 hP hD hS
        · refine lv_iload hx hb dX11_tiring_50 (lv_at hl 0 rfl) ?_
          refine lv_iload_n hx hb dX11_tiring_52 rfl (lv_at hl 3 rfl) ?_
          refine xi_icmp_ge (tgt := 58) hx hb dX11_tiring_53 (by decide) hf (fun hf => ?_) (fun hf => ?_)
          · refine lv_iload_n hx hb dX11_tiring_58 rfl (lv_at hl 4 rfl) ?_
            refine lv_iload hx hb dX11_tiring_59 (lv_at hl 5 rfl) ?_
            refine xi_isub hx hb dX11_tiring_61 hf (fun v8 hf => ?_)
            refine xe_d1 hf (fun v9 hg hf => ?_)
            have hC : ([] : List Nat).map (fun i => (wd_HM_tiring cA q0 q1 q2 q3 q4 q5 q6 q7 q8 q9 q10 q11 q12 q13 q14 q15 q16 q17 q18 q19 q20 q21 q22 q23 q24 q25 q26 q27 q28 q29 q30 q31 u0 u1 u2 u3 u4 u5 u6 u7 u8 u9 u10 u11 u12 u13 u14 u15 u16 u17 i_row i_law i_broken i_value i_sum i_set i_rest)[i]?) = (wd_HM_size cA).map some := rfl
            refine xv_afterI (ws' := (wd_HM_tiring cA q0 q1 q2 q3 q4 q5 q6 q7 q8 q9 q10 q11 q12 q13 q14 q15 q16 q17 q18 q19 q20 q21 q22 q23 q24 q25 q26 q27 q28 q29 q30 q31 u0 u1 u2 u3 u4 u5 u6 u7 u8 u9 u10 u11 u12 u13 u14 u15 u16 u17 i_row i_law i_broken i_value i_sum i_set i_rest)) (isC := []) (ps := [none, none, none, none]) (va_runS (As := [.int (Int32.ofInt v8)]) (rest := []) ⟨hx, hb, hml, hown, hts⟩ (c_HM_size l ev dC dI cA hg H.size) (va_cwS 1 hts (zgS zw_1565 zw_1566 zw_115 zw_1567) rfl rfl rfl hd_HM_size.2 ⟨Nat.le_of_ble_eq_true rfl, Nat.le_of_ble_eq_true rfl⟩) (xv_preS hE hA hS hK hP hD (isC := []) (by decide +kernel) hC) rfl rfl hl.1 rfl (lv_room (Nat.le_of_ble_eq_true rfl)) dX11_tiring_62 ⟨Nat.le_refl _, Nat.le_refl _⟩) hP hD hS hA (by decide +kernel) rfl hC rfl rfl (fun H locs hP hD hS => ?_)
            refine xi_i2l hx hb dX11_tiring_65 hf (fun v10 hf => ?_)
            refine lv_lstore (lv' := [(8, .long (Int64.ofInt v10)), (7, .int (Int32.ofInt v3)), (0, .ref q0), (1, .int (Int32.ofInt x1)), (2, .int (Int32.ofInt x2)), (3, .int (Int32.ofInt x3)), (4, .int (Int32.ofInt x4)), (5, .int (Int32.ofInt x5)), (6, .int (Int32.ofInt x6))]) hx hb dX11_tiring_66 hl (by decide) rfl (fun ls hl => ?_)
            refine lv_aload_n hx hb dX11_tiring_68 rfl (lv_at hl 2 rfl) ?_
            refine va_get (D := (dC, dI)) (ci := 11) (v := .ref q2) (C := RX11) (T := TX11) (N := 53) hx hb hz zi_X11 hown hK hP 0 rfl rfl 3 (by decide) (hz _ zw_1168) (fun _ h9 => h9) rfl dX11_tiring_69 ?_
            refine lv_iconst (v := Int32.ofInt 4) hx hb dX11_tiring_72 rfl ?_
            refine xi_iald hx hb hK hP 1 0 rfl rfl dX11_tiring_73 hf (fun v11 hf => ?_)
            refine lv_iconst (v := Int32.ofInt (-1)) hx hb dX11_tiring_74 rfl ?_
            refine xi_icmp_eq (tgt := 239) hx hb dX11_tiring_75 (by decide) hf (fun hf => ?_) (fun hf => ?_)
            · exact b_239  _ _ _ _ _ _ _ _ _ _ hf hP hD hS (lv_sub hl [0] rfl)
            · refine lv_aload_n hx hb dX11_tiring_78 rfl (lv_at hl 2 rfl) ?_
              refine lv_sipush (v := Int32.ofInt 180) hx hb dX11_tiring_79 (by decide) ?_
              refine lv_sipush (v := Int32.ofInt 900) hx hb dX11_tiring_82 (by decide) ?_
              refine lv_aload_n hx hb dX11_tiring_85 rfl (lv_at hl 2 rfl) ?_
              refine va_get (D := (dC, dI)) (ci := 11) (v := .ref q2) (C := RX11) (T := TX11) (N := 53) hx hb hz zi_X11 hown hK hP 0 rfl rfl 3 (by decide) (hz _ zw_1168) (fun _ h9 => h9) rfl dX11_tiring_86 ?_
              refine lv_iconst (v := Int32.ofInt 4) hx hb dX11_tiring_89 rfl ?_
              refine xi_iald hx hb hK hP 1 0 rfl rfl dX11_tiring_90 hf (fun v12 hf => ?_)
              refine xi_imul hx hb dX11_tiring_91 hf (fun v13 hf => ?_)
              refine xi_iadd hx hb dX11_tiring_92 hf (fun v14 hf => ?_)
              refine va_put (D := (dC, dI)) (ci := 11) (v := .int (Int32.ofInt v14)) (ty := .int) (C := RX11) (T := TX11) (N := 53) hx hb hz zi_X11 tyX11 tyX11_ok nmX11 hown hK hP hD hS 0 rfl rfl 26 (by decide) (hz _ zw_1191) (fun _ h9 => h9) rfl (by decide +kernel) rfl rfl (Nat.le_of_ble_eq_true rfl) dX11_tiring_93 (fun H locs hP hD hS => ?_)
              have hP : va_P (dC, dI) vwCl (wd_HM_tiring cA q0 q1 q2 q3 q4 q5 q6 q7 q8 q9 q10 q11 q12 q13 q14 q15 q16 q17 q18 q19 q20 q21 q22 q23 q24 q25 q26 q27 q28 q29 q30 q31 u0 u1 u2 u3 u4 u5 u6 u7 u8 u9 u10 u11 u12 u13 u14 u15 u16 u17 i_row v14 i_broken i_value i_sum i_set i_rest) H := hP
              have hD : va_D A (wd_HM_tiring cA q0 q1 q2 q3 q4 q5 q6 q7 q8 q9 q10 q11 q12 q13 q14 q15 q16 q17 q18 q19 q20 q21 q22 q23 q24 q25 q26 q27 q28 q29 q30 q31 u0 u1 u2 u3 u4 u5 u6 u7 u8 u9 u10 u11 u12 u13 u14 u15 u16 u17 i_row v14 i_broken i_value i_sum i_set i_rest) := hD
              refine lv_aload_n hx hb dX11_tiring_96 rfl (lv_at hl 2 rfl) ?_
              refine va_get (D := (dC, dI)) (ci := 11) (v := .ref q12) (C := RX11) (T := TX11) (N := 53) hx hb hz zi_X11 hown hK hP 0 rfl rfl 27 (by decide) (hz _ zw_1192) (fun _ h9 => h9) rfl dX11_tiring_97 ?_
              refine lv_iconst (v := Int32.ofInt 1) hx hb dX11_tiring_100 rfl ?_
              refine lv_iload_n hx hb dX11_tiring_101 rfl (lv_at hl 3 rfl) ?_
              refine xi_i2l hx hb dX11_tiring_102 hf (fun v15 hf => ?_)
              refine xl_last hx hb hK hP hD hS 2 2 rfl rfl dX11_tiring_103 hf (fun a16 H locs hP hD hS hf => ?_)
              have hP : va_P (dC, dI) vwCl (wd_HM_tiring cA q0 q1 q2 q3 q4 q5 q6 q7 q8 q9 q10 q11 q12 q13 q14 q15 q16 q17 q18 q19 q20 q21 q22 q23 q24 q25 q26 q27 q28 q29 q30 q31 u0 u1 u2 u3 u4 u5 u6 u7 u8 u9 u10 u11 u12 u13 u14 u15 u16 u17 i_row v14 i_broken i_value i_sum a16 i_rest) H := hP
              have hD : va_D A (wd_HM_tiring cA q0 q1 q2 q3 q4 q5 q6 q7 q8 q9 q10 q11 q12 q13 q14 q15 q16 q17 q18 q19 q20 q21 q22 q23 q24 q25 q26 q27 q28 q29 q30 q31 u0 u1 u2 u3 u4 u5 u6 u7 u8 u9 u10 u11 u12 u13 u14 u15 u16 u17 i_row v14 i_broken i_value i_sum a16 i_rest) := hD
              refine lv_aload_n hx hb dX11_tiring_104 rfl (lv_at hl 2 rfl) ?_
              refine va_get (D := (dC, dI)) (ci := 11) (v := .ref q12) (C := RX11) (T := TX11) (N := 53) hx hb hz zi_X11 hown hK hP 0 rfl rfl 27 (by decide) (hz _ zw_1192) (fun _ h9 => h9) rfl dX11_tiring_105 ?_
              refine lv_iconst (v := Int32.ofInt 2) hx hb dX11_tiring_108 rfl ?_
              refine lv_iload hx hb dX11_tiring_109 (lv_at hl 1 rfl) ?_
              refine xi_i2l hx hb dX11_tiring_111 hf (fun v17 hf => ?_)
              refine xl_last hx hb hK hP hD hS 2 2 rfl rfl dX11_tiring_112 hf (fun a18 H locs hP hD hS hf => ?_)
              have hP : va_P (dC, dI) vwCl (wd_HM_tiring cA q0 q1 q2 q3 q4 q5 q6 q7 q8 q9 q10 q11 q12 q13 q14 q15 q16 q17 q18 q19 q20 q21 q22 q23 q24 q25 q26 q27 q28 q29 q30 q31 u0 u1 u2 u3 u4 u5 u6 u7 u8 u9 u10 u11 u12 u13 u14 u15 u16 u17 i_row v14 i_broken i_value i_sum a18 i_rest) H := hP
              have hD : va_D A (wd_HM_tiring cA q0 q1 q2 q3 q4 q5 q6 q7 q8 q9 q10 q11 q12 q13 q14 q15 q16 q17 q18 q19 q20 q21 q22 q23 q24 q25 q26 q27 q28 q29 q30 q31 u0 u1 u2 u3 u4 u5 u6 u7 u8 u9 u10 u11 u12 u13 u14 u15 u16 u17 i_row v14 i_broken i_value i_sum a18 i_rest) := hD
              refine lv_aload_n hx hb dX11_tiring_113 rfl (lv_at hl 2 rfl) ?_
              refine va_get (D := (dC, dI)) (ci := 11) (v := .ref q12) (C := RX11) (T := TX11) (N := 53) hx hb hz zi_X11 hown hK hP 0 rfl rfl 27 (by decide) (hz _ zw_1192) (fun _ h9 => h9) rfl dX11_tiring_114 ?_
              refine lv_iconst (v := Int32.ofInt 3) hx hb dX11_tiring_117 rfl ?_
              refine lv_iload_n hx hb dX11_tiring_118 rfl (lv_at hl 4 rfl) ?_
              refine xi_i2l hx hb dX11_tiring_119 hf (fun v19 hf => ?_)
              refine xl_last hx hb hK hP hD hS 2 2 rfl rfl dX11_tiring_120 hf (fun a20 H locs hP hD hS hf => ?_)
              have hP : va_P (dC, dI) vwCl (wd_HM_tiring cA q0 q1 q2 q3 q4 q5 q6 q7 q8 q9 q10 q11 q12 q13 q14 q15 q16 q17 q18 q19 q20 q21 q22 q23 q24 q25 q26 q27 q28 q29 q30 q31 u0 u1 u2 u3 u4 u5 u6 u7 u8 u9 u10 u11 u12 u13 u14 u15 u16 u17 i_row v14 i_broken i_value i_sum a20 i_rest) H := hP
              have hD : va_D A (wd_HM_tiring cA q0 q1 q2 q3 q4 q5 q6 q7 q8 q9 q10 q11 q12 q13 q14 q15 q16 q17 q18 q19 q20 q21 q22 q23 q24 q25 q26 q27 q28 q29 q30 q31 u0 u1 u2 u3 u4 u5 u6 u7 u8 u9 u10 u11 u12 u13 u14 u15 u16 u17 i_row v14 i_broken i_value i_sum a20 i_rest) := hD
              refine lv_aload_n hx hb dX11_tiring_121 rfl (lv_at hl 2 rfl) ?_
              refine va_get (D := (dC, dI)) (ci := 11) (v := .ref q12) (C := RX11) (T := TX11) (N := 53) hx hb hz zi_X11 hown hK hP 0 rfl rfl 27 (by decide) (hz _ zw_1192) (fun _ h9 => h9) rfl dX11_tiring_122 ?_
              refine lv_iconst (v := Int32.ofInt 4) hx hb dX11_tiring_125 rfl ?_
              refine lv_iload_n hx hb dX11_tiring_126 rfl (lv_at hl 5 rfl) ?_
              refine xi_i2l hx hb dX11_tiring_127 hf (fun v21 hf => ?_)
              refine xl_last hx hb hK hP hD hS 2 2 rfl rfl dX11_tiring_128 hf (fun a22 H locs hP hD hS hf => ?_)
              have hP : va_P (dC, dI) vwCl (wd_HM_tiring cA q0 q1 q2 q3 q4 q5 q6 q7 q8 q9 q10 q11 q12 q13 q14 q15 q16 q17 q18 q19 q20 q21 q22 q23 q24 q25 q26 q27 q28 q29 q30 q31 u0 u1 u2 u3 u4 u5 u6 u7 u8 u9 u10 u11 u12 u13 u14 u15 u16 u17 i_row v14 i_broken i_value i_sum a22 i_rest) H := hP
              have hD : va_D A (wd_HM_tiring cA q0 q1 q2 q3 q4 q5 q6 q7 q8 q9 q10 q11 q12 q13 q14 q15 q16 q17 q18 q19 q20 q21 q22 q23 q24 q25 q26 q27 q28 q29 q30 q31 u0 u1 u2 u3 u4 u5 u6 u7 u8 u9 u10 u11 u12 u13 u14 u15 u16 u17 i_row v14 i_broken i_value i_sum a22 i_rest) := hD
              refine lv_aload_n hx hb dX11_tiring_129 rfl (lv_at hl 2 rfl) ?_
              refine va_get (D := (dC, dI)) (ci := 11) (v := .ref q12) (C := RX11) (T := TX11) (N := 53) hx hb hz zi_X11 hown hK hP 0 rfl rfl 27 (by decide) (hz _ zw_1192) (fun _ h9 => h9) rfl dX11_tiring_130 ?_
              refine lv_iconst (v := Int32.ofInt 5) hx hb dX11_tiring_133 rfl ?_
              refine lv_iload hx hb dX11_tiring_134 (lv_at hl 6 rfl) ?_
              refine xi_i2l hx hb dX11_tiring_136 hf (fun v23 hf => ?_)
              refine xl_last hx hb hK hP hD hS 2 2 rfl rfl dX11_tiring_137 hf (fun a24 H locs hP hD hS hf => ?_)
              have hP : va_P (dC, dI) vwCl (wd_HM_tiring cA q0 q1 q2 q3 q4 q5 q6 q7 q8 q9 q10 q11 q12 q13 q14 q15 q16 q17 q18 q19 q20 q21 q22 q23 q24 q25 q26 q27 q28 q29 q30 q31 u0 u1 u2 u3 u4 u5 u6 u7 u8 u9 u10 u11 u12 u13 u14 u15 u16 u17 i_row v14 i_broken i_value i_sum a24 i_rest) H := hP
              have hD : va_D A (wd_HM_tiring cA q0 q1 q2 q3 q4 q5 q6 q7 q8 q9 q10 q11 q12 q13 q14 q15 q16 q17 q18 q19 q20 q21 q22 q23 q24 q25 q26 q27 q28 q29 q30 q31 u0 u1 u2 u3 u4 u5 u6 u7 u8 u9 u10 u11 u12 u13 u14 u15 u16 u17 i_row v14 i_broken i_value i_sum a24 i_rest) := hD
              refine lv_aload_n hx hb dX11_tiring_138 rfl (lv_at hl 2 rfl) ?_
              refine va_get (D := (dC, dI)) (ci := 11) (v := .ref q12) (C := RX11) (T := TX11) (N := 53) hx hb hz zi_X11 hown hK hP 0 rfl rfl 27 (by decide) (hz _ zw_1192) (fun _ h9 => h9) rfl dX11_tiring_139 ?_
              refine lv_bipush (v := Int32.ofInt 6) hx hb dX11_tiring_142 (by decide) ?_
              refine lv_iload hx hb dX11_tiring_144 (lv_at hl 7 rfl) ?_
              refine xi_i2l hx hb dX11_tiring_146 hf (fun v25 hf => ?_)
              refine xl_last hx hb hK hP hD hS 2 2 rfl rfl dX11_tiring_147 hf (fun a26 H locs hP hD hS hf => ?_)
              have hP : va_P (dC, dI) vwCl (wd_HM_tiring cA q0 q1 q2 q3 q4 q5 q6 q7 q8 q9 q10 q11 q12 q13 q14 q15 q16 q17 q18 q19 q20 q21 q22 q23 q24 q25 q26 q27 q28 q29 q30 q31 u0 u1 u2 u3 u4 u5 u6 u7 u8 u9 u10 u11 u12 u13 u14 u15 u16 u17 i_row v14 i_broken i_value i_sum a26 i_rest) H := hP
              have hD : va_D A (wd_HM_tiring cA q0 q1 q2 q3 q4 q5 q6 q7 q8 q9 q10 q11 q12 q13 q14 q15 q16 q17 q18 q19 q20 q21 q22 q23 q24 q25 q26 q27 q28 q29 q30 q31 u0 u1 u2 u3 u4 u5 u6 u7 u8 u9 u10 u11 u12 u13 u14 u15 u16 u17 i_row v14 i_broken i_value i_sum a26 i_rest) := hD
              refine lv_aload_n hx hb dX11_tiring_148 rfl (lv_at hl 2 rfl) ?_
              refine va_get (D := (dC, dI)) (ci := 11) (v := .ref q12) (C := RX11) (T := TX11) (N := 53) hx hb hz zi_X11 hown hK hP 0 rfl rfl 27 (by decide) (hz _ zw_1192) (fun _ h9 => h9) rfl dX11_tiring_149 ?_
              refine lv_bipush (v := Int32.ofInt 7) hx hb dX11_tiring_152 (by decide) ?_
              refine lv_iload hx hb dX11_tiring_154 (lv_at hl 8 rfl) ?_
              refine xi_i2l hx hb dX11_tiring_156 hf (fun v27 hf => ?_)
              refine xl_last hx hb hK hP hD hS 2 2 rfl rfl dX11_tiring_157 hf (fun a28 H locs hP hD hS hf => ?_)
              have hP : va_P (dC, dI) vwCl (wd_HM_tiring cA q0 q1 q2 q3 q4 q5 q6 q7 q8 q9 q10 q11 q12 q13 q14 q15 q16 q17 q18 q19 q20 q21 q22 q23 q24 q25 q26 q27 q28 q29 q30 q31 u0 u1 u2 u3 u4 u5 u6 u7 u8 u9 u10 u11 u12 u13 u14 u15 u16 u17 i_row v14 i_broken i_value i_sum a28 i_rest) H := hP
              have hD : va_D A (wd_HM_tiring cA q0 q1 q2 q3 q4 q5 q6 q7 q8 q9 q10 q11 q12 q13 q14 q15 q16 q17 q18 q19 q20 q21 q22 q23 q24 q25 q26 q27 q28 q29 q30 q31 u0 u1 u2 u3 u4 u5 u6 u7 u8 u9 u10 u11 u12 u13 u14 u15 u16 u17 i_row v14 i_broken i_value i_sum a28 i_rest) := hD
              refine lv_aload_n hx hb dX11_tiring_158 rfl (lv_at hl 2 rfl) ?_
              refine va_get (D := (dC, dI)) (ci := 11) (v := .ref q12) (C := RX11) (T := TX11) (N := 53) hx hb hz zi_X11 hown hK hP 0 rfl rfl 27 (by decide) (hz _ zw_1192) (fun _ h9 => h9) rfl dX11_tiring_159 ?_
              refine lv_bipush (v := Int32.ofInt 8) hx hb dX11_tiring_162 (by decide) ?_
              refine lv_aload_n hx hb dX11_tiring_164 rfl (lv_at hl 2 rfl) ?_
              refine va_get (D := (dC, dI)) (ci := 11) (v := .ref q2) (C := RX11) (T := TX11) (N := 53) hx hb hz zi_X11 hown hK hP 0 rfl rfl 3 (by decide) (hz _ zw_1168) (fun _ h9 => h9) rfl dX11_tiring_165 ?_
              refine lv_iconst (v := Int32.ofInt 5) hx hb dX11_tiring_168 rfl ?_
              refine xi_iald hx hb hK hP 1 0 rfl rfl dX11_tiring_169 hf (fun v29 hf => ?_)
              refine xi_i2l hx hb dX11_tiring_170 hf (fun v30 hf => ?_)
              refine xl_last hx hb hK hP hD hS 2 2 rfl rfl dX11_tiring_171 hf (fun a31 H locs hP hD hS hf => ?_)
              have hP : va_P (dC, dI) vwCl (wd_HM_tiring cA q0 q1 q2 q3 q4 q5 q6 q7 q8 q9 q10 q11 q12 q13 q14 q15 q16 q17 q18 q19 q20 q21 q22 q23 q24 q25 q26 q27 q28 q29 q30 q31 u0 u1 u2 u3 u4 u5 u6 u7 u8 u9 u10 u11 u12 u13 u14 u15 u16 u17 i_row v14 i_broken i_value i_sum a31 i_rest) H := hP
              have hD : va_D A (wd_HM_tiring cA q0 q1 q2 q3 q4 q5 q6 q7 q8 q9 q10 q11 q12 q13 q14 q15 q16 q17 q18 q19 q20 q21 q22 q23 q24 q25 q26 q27 q28 q29 q30 q31 u0 u1 u2 u3 u4 u5 u6 u7 u8 u9 u10 u11 u12 u13 u14 u15 u16 u17 i_row v14 i_broken i_value i_sum a31 i_rest) := hD
              refine lv_iconst (v := Int32.ofInt 0) hx hb dX11_tiring_172 rfl ?_
              refine lv_istore (lv' := [(10, .int (Int32.ofInt 0)), (8, .long (Int64.ofInt v10)), (7, .int (Int32.ofInt v3)), (0, .ref q0), (1, .int (Int32.ofInt x1)), (2, .int (Int32.ofInt x2)), (3, .int (Int32.ofInt x3)), (4, .int (Int32.ofInt x4)), (5, .int (Int32.ofInt x5)), (6, .int (Int32.ofInt x6))]) hx hb dX11_tiring_173 hl (by decide) rfl (fun ls hl => ?_)
              exact l_175  _ _ _ _ _ _ _ _ _ _ _ _ hf hP hD hS (lv_sub hl [3, 1, 0] rfl)
          · refine lv_iconst (v := Int32.ofInt (-1)) hx hb dX11_tiring_56 rfl ?_
            obtain rfl := Option.some.inj hf
            exact hret _ _ _ _ rfl dX11_tiring_57 hP hD hS
