theorem dX11_carrying_0 : decode cX11_carrying 0 = .ok (.aload_n 0, 1) := by decide +kernel
theorem dX11_carrying_1 : decode cX11_carrying 1 = .ok (.iload_n 1, 1) := by decide +kernel
theorem dX11_carrying_2 : decode cX11_carrying 2 = .ok (.aload_n 0, 1) := by decide +kernel
theorem dX11_carrying_3 : decode cX11_carrying 3 = .ok (.iload_n 2, 1) := by decide +kernel
theorem dX11_carrying_4 : decode cX11_carrying 4 = .ok (.invokevirtual 349, 3) := by decide +kernel
theorem dX11_carrying_7 : decode cX11_carrying 7 = .ok (.iload_n 2, 1) := by decide +kernel
theorem dX11_carrying_8 : decode cX11_carrying 8 = .ok (.iload_n 3, 1) := by decide +kernel
theorem dX11_carrying_9 : decode cX11_carrying 9 = .ok (.aload_n 0, 1) := by decide +kernel
theorem dX11_carrying_10 : decode cX11_carrying 10 = .ok (.getfield 71, 3) := by decide +kernel
theorem dX11_carrying_13 : decode cX11_carrying 13 = .ok (.iload_n 2, 1) := by decide +kernel
theorem dX11_carrying_14 : decode cX11_carrying 14 = .ok (.iaload, 1) := by decide +kernel
theorem dX11_carrying_15 : decode cX11_carrying 15 = .ok (.aload_n 0, 1) := by decide +kernel
theorem dX11_carrying_16 : decode cX11_carrying 16 = .ok (.getfield 71, 3) := by decide +kernel
theorem dX11_carrying_19 : decode cX11_carrying 19 = .ok (.iload_n 3, 1) := by decide +kernel
theorem dX11_carrying_20 : decode cX11_carrying 20 = .ok (.iaload, 1) := by decide +kernel
theorem dX11_carrying_21 : decode cX11_carrying 21 = .ok (.invokevirtual 352, 3) := by decide +kernel
theorem dX11_carrying_24 : decode cX11_carrying 24 = .ok (.ireturn, 1) := by decide +kernel
theorem zw_68 : (Jvm.Cond.selects "HillSchoolModel" ({ cls := "HillSchoolModel", name := "top", desc := "(I)I" } : Jvm.MethodName) ({ cls := "HillSchoolModel", name := "top", desc := "(I)I" } : Jvm.MethodName)) ∈ zall := zmemG (zmj_0 68 rfl) rfl
theorem zw_69 : (Jvm.Cond.selects "HillSchoolModel" ({ cls := "HillSchoolModel", name := "tiring", desc := "(IIIIII)I" } : Jvm.MethodName) ({ cls := "HillSchoolModel", name := "tiring", desc := "(IIIIII)I" } : Jvm.MethodName)) ∈ zall := zmemG (zmj_0 69 rfl) rfl
theorem zw_1556 : (Jvm.Cond.code ({ cls := "HillSchoolModel", name := "carrying", desc := "(III)I" } : Jvm.MethodName) prog_13_method_63_code (4 : Nat) (Option.some Jvm.ClassFile.FieldType.int)) ∈ zall := zmemG (zmj_7 13 rfl) rfl
theorem zw_1557 : (Jvm.Cond.methodLink "HillSchoolModel" (349 : Nat) ({ cls := "HillSchoolModel", name := "top", desc := "(I)I" } : Jvm.MethodName)) ∈ zall := zmemG (zmj_7 14 rfl) rfl
theorem zw_1559 : (Jvm.Cond.instanceMethod ({ cls := "HillSchoolModel", name := "top", desc := "(I)I" } : Jvm.MethodName)) ∈ zall := zmemG (zmj_7 16 rfl) rfl
theorem zw_1561 : (Jvm.Cond.methodLink "HillSchoolModel" (352 : Nat) ({ cls := "HillSchoolModel", name := "tiring", desc := "(IIIIII)I" } : Jvm.MethodName)) ∈ zall := zmemG (zmj_7 18 rfl) rfl
theorem zw_1563 : (Jvm.Cond.instanceMethod ({ cls := "HillSchoolModel", name := "tiring", desc := "(IIIIII)I" } : Jvm.MethodName)) ∈ zall := zmemG (zmj_7 20 rfl) rfl
abbrev w_HM_carrying : List Cond := .code yX11_carrying cX11_carrying 4 (some .int) :: zall
abbrev rm_HM_carrying : Room := { frames := 4, cells := 0, slots := 0, locals := 103 }
theorem hd_HM_carrying : yX11_carrying.cls = "HillSchoolModel" ∧ yX11_carrying.cls ≠ "java/lang/invoke/MethodHandle" ∧ yX11_carrying.cls ≠ "java/lang/invoke/VarHandle" ∧ (parseMethodDescriptor yX11_carrying.desc).map (fun d => d.parameters.length) = some 3 := by decide +kernel
def wd_HM_carrying (cA : Nat → ClassId) (q0 q1 q2 q3 q4 q5 q6 q7 q8 q9 q10 q11 q12 q13 q14 q15 q16 q17 q18 q19 q20 q21 q22 q23 q24 q25 q26 q27 q28 q29 q30 q31 : Nat) (u0 u1 u2 u3 u4 u5 u6 u7 u8 u9 u10 u11 u12 u13 u14 u15 u16 u17 : Int) (i_row : Nat → Int) (i_high : Nat → Int) (i_heaps : Nat → Int) (i_law : Int) (i_broken : Int) (i_value : Int) (i_sum : Int) (i_set : Nat → Int) (i_rest : Nat → Int) : va_W := [(q0, .inr (11, [.int (Int32.ofInt u0), .int (Int32.ofInt u1), .ref q1, .ref q2, .ref q3, .ref q4, .int (Int32.ofInt u2), .ref q5, .int (Int32.ofInt u3), .int (Int32.ofInt u4), .int (Int32.ofInt u5), .int (Int32.ofInt u6), .long (Int64.ofInt u7), .int (Int32.ofInt u8), .int (Int32.ofInt u9), .int (Int32.ofInt u10), .ref q6, .int (Int32.ofInt u11), .ref q7, .ref q8, .int (Int32.ofInt u12), .ref q9, .ref q10, .int (Int32.ofInt u13), .int (Int32.ofInt u14), .ref q11, .int (Int32.ofInt i_law), .ref q12, .ref q13, .int (Int32.ofInt i_broken), .long (Int64.ofInt i_value), .long (Int64.ofInt i_sum), .ref q14, .ref q15, .ref q16, .ref q17, .ref q18, .int (Int32.ofInt u15), .ref q19, .ref q20, .ref q21, .ref q22, .ref q23, .ref q24, .ref q25, .ref q26, .ref q27, .ref q28, .ref q29, .ref q30, .long (Int64.ofInt u16), .ref q31, .int (Int32.ofInt u17)])), (q2, .inl (cA 0, 5580, .inl (za i_row))), (q12, .inl (cA 2, 13, .inr (.inl (zl i_set)))), (q13, .inl (cA 2, 400, .inr (.inl (zl i_rest)))), (q14, .inl (cA 0, 12, .inl (za i_high))), (q15, .inl (cA 0, 120, .inl (za i_heaps)))]
def wf_HM_carrying (cA : Nat → ClassId) (q0 q1 q2 q3 q4 q5 q6 q7 q8 q9 q10 q11 q12 q13 q14 q15 q16 q17 q18 q19 q20 q21 q22 q23 q24 q25 q26 q27 q28 q29 q30 q31 : Nat) (u0 u1 u2 u3 u4 u5 u6 u7 u8 u9 u10 u11 u12 u13 u14 u15 u16 u17 : Int) (i_row : Nat → Int) (i_high : Nat → Int) (i_heaps : Nat → Int) (o : Int × Int × Int × Int × Int × (Nat → Int) × (Nat → Int)) : va_W := wd_HM_carrying cA q0 q1 q2 q3 q4 q5 q6 q7 q8 q9 q10 q11 q12 q13 q14 q15 q16 q17 q18 q19 q20 q21 q22 q23 q24 q25 q26 q27 q28 q29 q30 q31 u0 u1 u2 u3 u4 u5 u6 u7 u8 u9 u10 u11 u12 u13 u14 u15 u16 u17 i_row i_high i_heaps o.2.1 o.2.2.1 o.2.2.2.1 o.2.2.2.2.1 o.2.2.2.2.2.1 o.2.2.2.2.2.2
def f_HM_carrying (x1 : Int) (x2 : Int) (x3 : Int) (i_row : Nat → Int) (i_high : Nat → Int) (i_heaps : Nat → Int) (i_law : Int) (i_broken : Int) (i_value : Int) (i_sum : Int) (i_set : Nat → Int) (i_rest : Nat → Int) : Option (Int × Int × Int × Int × Int × (Nat → Int) × (Nat → Int)) :=
  zd1 (f_HM_top x2 i_high i_heaps) fun v1 =>
  zg 12 i_high x2 fun v2 =>
  zg 12 i_high x3 fun v3 =>
  zd7 (f_HM_tiring x1 v1 x2 x3 v2 v3 i_row i_law i_broken i_value i_sum i_set i_rest) fun v4 v5 v6 v7 v8 a9 a10 =>
  some (v4, v5, v6, v7, v8, a9, a10)
set_option maxHeartbeats 4000000 in
set_option maxRecDepth 100000 in
theorem c_HM_carrying (l : Launch) (ev : zEv) (dC : Nat → ClassId) (dI : Nat → Nat → Nat) (cA : Nat → ClassId) (q0 q1 q2 q3 q4 q5 q6 q7 q8 q9 q10 q11 q12 q13 q14 q15 q16 q17 q18 q19 q20 q21 q22 q23 q24 q25 q26 q27 q28 q29 q30 q31 : Nat) (u0 u1 u2 u3 u4 u5 u6 u7 u8 u9 u10 u11 u12 u13 u14 u15 u16 u17 : Int) {x1 x2 x3 : Int} {i_row : Nat → Int} {i_high : Nat → Int} {i_heaps : Nat → Int} {i_law : Int} {i_broken : Int} {i_value : Int} {i_sum : Int} {i_set : Nat → Int} {i_rest : Nat → Int} {out : Int × Int × Int × Int × Int × (Nat → Int) × (Nat → Int)} (hf : f_HM_carrying x1 x2 x3 i_row i_high i_heaps i_law i_broken i_value i_sum i_set i_rest = some out) : xc_I l ev (dC, dI) vwCl (tyl cA) yX11_carrying w_HM_carrying rm_HM_carrying [.ref q0, .int (Int32.ofInt x1), .int (Int32.ofInt x2), .int (Int32.ofInt x3)] (wd_HM_carrying cA q0 q1 q2 q3 q4 q5 q6 q7 q8 q9 q10 q11 q12 q13 q14 q15 q16 q17 q18 q19 q20 q21 q22 q23 q24 q25 q26 q27 q28 q29 q30 q31 u0 u1 u2 u3 u4 u5 u6 u7 u8 u9 u10 u11 u12 u13 u14 u15 u16 u17 i_row i_high i_heaps i_law i_broken i_value i_sum i_set i_rest) (wf_HM_carrying cA q0 q1 q2 q3 q4 q5 q6 q7 q8 q9 q10 q11 q12 q13 q14 q15 q16 q17 q18 q19 q20 q21 q22 q23 q24 q25 q26 q27 q28 q29 q30 q31 u0 u1 u2 u3 u4 u5 u6 u7 u8 u9 u10 u11 u12 u13 u14 u15 u16 u17 i_row i_high i_heaps out) out.1 := by
  refine xv_startI (cc := cX11_carrying) (maxL := 4) (rt := .int) (by decide +kernel) rfl (Nat.le_of_ble_eq_true rfl) ?_
  intro p e s m args below meth c A Q H ls hx hb hml hts hown hK hA hP hD hS hl hE hret
  have hown : s.vm.findClass "HillSchoolModel" = some m.cls := hown
  have hz : ∀ w ∈ zall, w.before args s = true := fun w h => hts w (List.mem_cons_of_mem _ h)
  have hl : lv_has ls 4 [(0, .ref q0), (1, .int (Int32.ofInt x1)), (2, .int (Int32.ofInt x2)), (3, .int (Int32.ofInt x3))] := hl
  unfold f_HM_carrying at hf
  refine lv_aload_n hx hb dX11_carrying_0 rfl (lv_at hl 0 rfl) ?_
  refine lv_iload_n hx hb dX11_carrying_1 rfl (lv_at hl 1 rfl) ?_
  refine lv_aload_n hx hb dX11_carrying_2 rfl (lv_at hl 0 rfl) ?_
  refine lv_iload_n hx hb dX11_carrying_3 rfl (lv_at hl 2 rfl) ?_
  refine xe_d1 hf (fun v1 hg hf => ?_)
  have hC : ([0, 4, 5] : List Nat).map (fun i => (wd_HM_carrying cA q0 q1 q2 q3 q4 q5 q6 q7 q8 q9 q10 q11 q12 q13 q14 q15 q16 q17 q18 q19 q20 q21 q22 q23 q24 q25 q26 q27 q28 q29 q30 q31 u0 u1 u2 u3 u4 u5 u6 u7 u8 u9 u10 u11 u12 u13 u14 u15 u16 u17 i_row i_high i_heaps i_law i_broken i_value i_sum i_set i_rest)[i]?) = (wd_HM_top cA q0 q1 q2 q3 q4 q5 q6 q7 q8 q9 q10 q11 q12 q13 q14 q15 q16 q17 q18 q19 q20 q21 q22 q23 q24 q25 q26 q27 q28 q29 q30 q31 u0 u1 u2 u3 u4 u5 u6 u7 u8 u9 u10 u11 u12 u13 u14 i_law i_broken i_value i_sum u15 u16 u17 i_high i_heaps).map some := rfl
  refine xv_afterI (ws' := (wd_HM_carrying cA q0 q1 q2 q3 q4 q5 q6 q7 q8 q9 q10 q11 q12 q13 q14 q15 q16 q17 q18 q19 q20 q21 q22 q23 q24 q25 q26 q27 q28 q29 q30 q31 u0 u1 u2 u3 u4 u5 u6 u7 u8 u9 u10 u11 u12 u13 u14 u15 u16 u17 i_row i_high i_heaps i_law i_broken i_value i_sum i_set i_rest)) (isC := [0, 4, 5]) (ps := [some 0, none, none, none, some 1, some 2]) (va_runV (As := [.int (Int32.ofInt x2)]) (rest := [.int (Int32.ofInt x1), .ref q0]) ⟨hx, hb, hml, hown, hts⟩ (c_HM_top l ev dC dI cA q0 q1 q2 q3 q4 q5 q6 q7 q8 q9 q10 q11 q12 q13 q14 q15 q16 q17 q18 q19 q20 q21 q22 q23 q24 q25 q26 q27 q28 q29 q30 q31 u0 u1 u2 u3 u4 u5 u6 u7 u8 u9 u10 u11 u12 u13 u14 i_law i_broken i_value i_sum u15 u16 u17 hg H.size) (cwV 1 hts (zgV zw_1557 zw_1559 zw_68 zw_115 zw_1560) rfl rfl rfl hd_HM_top ⟨Nat.le_of_ble_eq_true rfl, Nat.le_of_ble_eq_true rfl⟩) (xv_preV (T := TX11) (N := 53) hE hA hS hK hP hD (isC := [0, 4, 5]) (by decide +kernel) hC (q0 := 0) (ci := 11) rfl rfl) rfl rfl hl.1 rfl (lv_room (Nat.le_of_ble_eq_true rfl)) dX11_carrying_4 ⟨Nat.le_refl _, Nat.le_refl _⟩) hP hD hS hA (by decide +kernel) rfl hC rfl rfl (fun H locs hP hD hS => ?_)
  refine lv_iload_n hx hb dX11_carrying_7 rfl (lv_at hl 2 rfl) ?_
  refine lv_iload_n hx hb dX11_carrying_8 rfl (lv_at hl 3 rfl) ?_
  refine lv_aload_n hx hb dX11_carrying_9 rfl (lv_at hl 0 rfl) ?_
  refine va_get (D := (dC, dI)) (ci := 11) (v := .ref q14) (C := RX11) (T := TX11) (N := 53) hx hb hz zi_X11 hown hK hP 0 rfl rfl 32 (by decide) (hz _ zw_1197) (fun _ h9 => h9) rfl dX11_carrying_10 ?_
  refine lv_iload_n hx hb dX11_carrying_13 rfl (lv_at hl 2 rfl) ?_
  refine xi_iald hx hb hK hP 4 0 rfl rfl dX11_carrying_14 hf (fun v2 hf => ?_)
  refine lv_aload_n hx hb dX11_carrying_15 rfl (lv_at hl 0 rfl) ?_
  refine va_get (D := (dC, dI)) (ci := 11) (v := .ref q14) (C := RX11) (T := TX11) (N := 53) hx hb hz zi_X11 hown hK hP 0 rfl rfl 32 (by decide) (hz _ zw_1197) (fun _ h9 => h9) rfl dX11_carrying_16 ?_
  refine lv_iload_n hx hb dX11_carrying_19 rfl (lv_at hl 3 rfl) ?_
  refine xi_iald hx hb hK hP 4 0 rfl rfl dX11_carrying_20 hf (fun v3 hf => ?_)
  refine xe_d7 hf (fun v4 v5 v6 v7 v8 a9 a10 hg hf => ?_)
  have hC : ([0, 1, 2, 3] : List Nat).map (fun i => (wd_HM_carrying cA q0 q1 q2 q3 q4 q5 q6 q7 q8 q9 q10 q11 q12 q13 q14 q15 q16 q17 q18 q19 q20 q21 q22 q23 q24 q25 q26 q27 q28 q29 q30 q31 u0 u1 u2 u3 u4 u5 u6 u7 u8 u9 u10 u11 u12 u13 u14 u15 u16 u17 i_row i_high i_heaps i_law i_broken i_value i_sum i_set i_rest)[i]?) = (wd_HM_tiring cA q0 q1 q2 q3 q4 q5 q6 q7 q8 q9 q10 q11 q12 q13 q14 q15 q16 q17 q18 q19 q20 q21 q22 q23 q24 q25 q26 q27 q28 q29 q30 q31 u0 u1 u2 u3 u4 u5 u6 u7 u8 u9 u10 u11 u12 u13 u14 u15 u16 u17 i_row i_law i_broken i_value i_sum i_set i_rest).map some := rfl
  refine xv_afterI (ws' := (wd_HM_carrying cA q0 q1 q2 q3 q4 q5 q6 q7 q8 q9 q10 q11 q12 q13 q14 q15 q16 q17 q18 q19 q20 q21 q22 q23 q24 q25 q26 q27 q28 q29 q30 q31 u0 u1 u2 u3 u4 u5 u6 u7 u8 u9 u10 u11 u12 u13 u14 u15 u16 u17 i_row i_high i_heaps v5 v6 v7 v8 a9 a10)) (isC := [0, 1, 2, 3]) (ps := [some 0, some 1, some 2, some 3, none, none]) (va_runV (As := [.int (Int32.ofInt x1), .int (Int32.ofInt v1), .int (Int32.ofInt x2), .int (Int32.ofInt x3), .int (Int32.ofInt v2), .int (Int32.ofInt v3)]) (rest := []) ⟨hx, hb, hml, hown, hts⟩ (c_HM_tiring l ev dC dI cA q0 q1 q2 q3 q4 q5 q6 q7 q8 q9 q10 q11 q12 q13 q14 q15 q16 q17 q18 q19 q20 q21 q22 q23 q24 q25 q26 q27 q28 q29 q30 q31 u0 u1 u2 u3 u4 u5 u6 u7 u8 u9 u10 u11 u12 u13 u14 u15 u16 u17 hg H.size) (cwV 6 hts (zgV zw_1561 zw_1563 zw_69 zw_115 zw_1564) rfl rfl rfl hd_HM_tiring ⟨Nat.le_of_ble_eq_true rfl, Nat.le_of_ble_eq_true rfl⟩) (xv_preV (T := TX11) (N := 53) hE hA hS hK hP hD (isC := [0, 1, 2, 3]) (by decide +kernel) hC (q0 := 0) (ci := 11) rfl rfl) rfl rfl hl.1 rfl (lv_room (Nat.le_of_ble_eq_true rfl)) dX11_carrying_21 ⟨Nat.le_refl _, Nat.le_refl _⟩) hP hD hS hA (by decide +kernel) rfl hC rfl rfl (fun H locs hP hD hS => ?_)
  obtain rfl := Option.some.inj hf
  exact hret _ _ _ _ rfl dX11_carrying_24 hP hD hS
theorem dX11_load_0 : decode cX11_load 0 = .ok (.iconst 0, 1) := by decide +kernel
theorem dX11_load_1 : decode cX11_load 1 = .ok (.istore_n 1, 1) := by decide +kernel
theorem dX11_load_2 : decode cX11_load 2 = .ok (.iload_n 1, 1) := by decide +kernel
theorem dX11_load_3 : decode cX11_load 3 = .ok (.bipush 12, 2) := by decide +kernel
theorem dX11_load_5 : decode cX11_load 5 = .ok (.if_icmp .ge 24, 3) := by decide +kernel
theorem dX11_load_8 : decode cX11_load 8 = .ok (.aload_n 0, 1) := by decide +kernel
theorem dX11_load_9 : decode cX11_load 9 = .ok (.getfield 71, 3) := by decide +kernel
theorem dX11_load_12 : decode cX11_load 12 = .ok (.iload_n 1, 1) := by decide +kernel
theorem dX11_load_13 : decode cX11_load 13 = .ok (.aload_n 0, 1) := by decide +kernel
theorem dX11_load_14 : decode cX11_load 14 = .ok (.getfield 13, 3) := by decide +kernel
theorem dX11_load_17 : decode cX11_load 17 = .ok (.bipush 9, 2) := by decide +kernel
theorem dX11_load_19 : decode cX11_load 19 = .ok (.iload_n 1, 1) := by decide +kernel
theorem dX11_load_20 : decode cX11_load 20 = .ok (.iadd, 1) := by decide +kernel
theorem dX11_load_21 : decode cX11_load 21 = .ok (.iaload, 1) := by decide +kernel
theorem dX11_load_22 : decode cX11_load 22 = .ok (.iastore, 1) := by decide +kernel
theorem dX11_load_23 : decode cX11_load 23 = .ok (.iinc 1 1, 3) := by decide +kernel
theorem dX11_load_26 : decode cX11_load 26 = .ok (.goto (-24), 3) := by decide +kernel
theorem dX11_load_29 : decode cX11_load 29 = .ok (.iconst 0, 1) := by decide +kernel
theorem dX11_load_30 : decode cX11_load 30 = .ok (.istore_n 1, 1) := by decide +kernel
theorem dX11_load_31 : decode cX11_load 31 = .ok (.iload_n 1, 1) := by decide +kernel
theorem dX11_load_32 : decode cX11_load 32 = .ok (.bipush 120, 2) := by decide +kernel
theorem dX11_load_34 : decode cX11_load 34 = .ok (.if_icmp .ge 24, 3) := by decide +kernel
theorem dX11_load_37 : decode cX11_load 37 = .ok (.aload_n 0, 1) := by decide +kernel
theorem dX11_load_38 : decode cX11_load 38 = .ok (.getfield 74, 3) := by decide +kernel
theorem dX11_load_41 : decode cX11_load 41 = .ok (.iload_n 1, 1) := by decide +kernel
theorem dX11_load_42 : decode cX11_load 42 = .ok (.aload_n 0, 1) := by decide +kernel
theorem dX11_load_43 : decode cX11_load 43 = .ok (.getfield 13, 3) := by decide +kernel
theorem dX11_load_46 : decode cX11_load 46 = .ok (.bipush 21, 2) := by decide +kernel
theorem dX11_load_48 : decode cX11_load 48 = .ok (.iload_n 1, 1) := by decide +kernel
theorem dX11_load_49 : decode cX11_load 49 = .ok (.iadd, 1) := by decide +kernel
theorem dX11_load_50 : decode cX11_load 50 = .ok (.iaload, 1) := by decide +kernel
theorem dX11_load_51 : decode cX11_load 51 = .ok (.iastore, 1) := by decide +kernel
theorem dX11_load_52 : decode cX11_load 52 = .ok (.iinc 1 1, 3) := by decide +kernel
theorem dX11_load_55 : decode cX11_load 55 = .ok (.goto (-24), 3) := by decide +kernel
theorem dX11_load_58 : decode cX11_load 58 = .ok (.return_, 1) := by decide +kernel
theorem zw_1552 : (Jvm.Cond.code ({ cls := "HillSchoolModel", name := "load", desc := "()V" } : Jvm.MethodName) prog_13_method_60_code (2 : Nat) (Option.none : Option Jvm.ClassFile.FieldType)) ∈ zall := zmemG (zmj_7 9 rfl) rfl
abbrev w_HM_load : List Cond := .code yX11_load cX11_load 2 none :: zall
abbrev rm_HM_load : Room := { frames := 0, cells := 0, slots := 0, locals := 0 }
theorem hd_HM_load : yX11_load.cls = "HillSchoolModel" ∧ yX11_load.cls ≠ "java/lang/invoke/MethodHandle" ∧ yX11_load.cls ≠ "java/lang/invoke/VarHandle" ∧ (parseMethodDescriptor yX11_load.desc).map (fun d => d.parameters.length) = some 0 := by decide +kernel
def wd_HM_load (cA : Nat → ClassId) (q0 q1 q2 q3 q4 q5 q6 q7 q8 q9 q10 q11 q12 q13 q14 q15 q16 q17 q18 q19 q20 q21 q22 q23 q24 q25 q26 q27 q28 q29 q30 q31 : Nat) (u0 u1 u2 u3 u4 u5 u6 u7 u8 u9 u10 u11 u12 u13 u14 u15 u16 u17 u18 u19 u20 u21 : Int) (i_row : Nat → Int) (i_high : Nat → Int) (i_heaps : Nat → Int) : va_W := [(q0, .inr (11, [.int (Int32.ofInt u0), .int (Int32.ofInt u1), .ref q1, .ref q2, .ref q3, .ref q4, .int (Int32.ofInt u2), .ref q5, .int (Int32.ofInt u3), .int (Int32.ofInt u4), .int (Int32.ofInt u5), .int (Int32.ofInt u6), .long (Int64.ofInt u7), .int (Int32.ofInt u8), .int (Int32.ofInt u9), .int (Int32.ofInt u10), .ref q6, .int (Int32.ofInt u11), .ref q7, .ref q8, .int (Int32.ofInt u12), .ref q9, .ref q10, .int (Int32.ofInt u13), .int (Int32.ofInt u14), .ref q11, .int (Int32.ofInt u15), .ref q12, .ref q13, .int (Int32.ofInt u16), .long (Int64.ofInt u17), .long (Int64.ofInt u18), .ref q14, .ref q15, .ref q16, .ref q17, .ref q18, .int (Int32.ofInt u19), .ref q19, .ref q20, .ref q21, .ref q22, .ref q23, .ref q24, .ref q25, .ref q26, .ref q27, .ref q28, .ref q29, .ref q30, .long (Int64.ofInt u20), .ref q31, .int (Int32.ofInt u21)])), (q2, .inl (cA 0, 5580, .inl (za i_row))), (q14, .inl (cA 0, 12, .inl (za i_high))), (q15, .inl (cA 0, 120, .inl (za i_heaps)))]
def wf_HM_load (cA : Nat → ClassId) (q0 q1 q2 q3 q4 q5 q6 q7 q8 q9 q10 q11 q12 q13 q14 q15 q16 q17 q18 q19 q20 q21 q22 q23 q24 q25 q26 q27 q28 q29 q30 q31 : Nat) (u0 u1 u2 u3 u4 u5 u6 u7 u8 u9 u10 u11 u12 u13 u14 u15 u16 u17 u18 u19 u20 u21 : Int) (i_row : Nat → Int) (o : (Nat → Int) × (Nat → Int)) : va_W := wd_HM_load cA q0 q1 q2 q3 q4 q5 q6 q7 q8 q9 q10 q11 q12 q13 q14 q15 q16 q17 q18 q19 q20 q21 q22 q23 q24 q25 q26 q27 q28 q29 q30 q31 u0 u1 u2 u3 u4 u5 u6 u7 u8 u9 u10 u11 u12 u13 u14 u15 u16 u17 u18 u19 u20 u21 i_row o.1 o.2
def f_HM_load_31_b (i_row : Nat → Int) (k31 : Int → (Nat → Int) → (Nat → Int) → Option ((Nat → Int) × (Nat → Int))) (x1 : Int) (i_high : Nat → Int) (i_heaps : Nat → Int) : Option ((Nat → Int) × (Nat → Int)) :=
  if zi_w 120 ≤ zi_w x1 then
    some (i_high, i_heaps)
  else
    zn (21 + x1) fun v1 =>
    zg 5580 i_row v1 fun v2 =>
    zs 120 i_heaps x1 v2 fun a3 =>
    zn (x1 + 1) fun v4 =>
    k31 v4 i_high a3
def f_HM_load_31 (i_row : Nat → Int) : Nat → Int → (Nat → Int) → (Nat → Int) → Option ((Nat → Int) × (Nat → Int))
  | 0 => fun _ _ _ => none
  | n + 1 => fun y0 y1 y2 => f_HM_load_31_b i_row (f_HM_load_31 i_row n) y0 y1 y2
def f_HM_load_2_b (i_row : Nat → Int) (k2 : Int → (Nat → Int) → (Nat → Int) → Option ((Nat → Int) × (Nat → Int))) (x1 : Int) (i_high : Nat → Int) (i_heaps : Nat → Int) : Option ((Nat → Int) × (Nat → Int)) :=
  if zi_w 12 ≤ zi_w x1 then
    f_HM_load_31 i_row zfu 0 i_high i_heaps
  else
    zn (9 + x1) fun v1 =>
    zg 5580 i_row v1 fun v2 =>
    zs 12 i_high x1 v2 fun a3 =>
    zn (x1 + 1) fun v4 =>
    k2 v4 a3 i_heaps
def f_HM_load_2 (i_row : Nat → Int) : Nat → Int → (Nat → Int) → (Nat → Int) → Option ((Nat → Int) × (Nat → Int))
  | 0 => fun _ _ _ => none
  | n + 1 => fun y0 y1 y2 => f_HM_load_2_b i_row (f_HM_load_2 i_row n) y0 y1 y2
def f_HM_load (i_row : Nat → Int) (i_high : Nat → Int) (i_heaps : Nat → Int) : Option ((Nat → Int) × (Nat → Int)) :=
  f_HM_load_2 i_row zfu 0 i_high i_heaps
set_option maxHeartbeats 4000000 in
set_option maxRecDepth 100000 in
theorem c_HM_load (l : Launch) (ev : zEv) (dC : Nat → ClassId) (dI : Nat → Nat → Nat) (cA : Nat → ClassId) (q0 q1 q2 q3 q4 q5 q6 q7 q8 q9 q10 q11 q12 q13 q14 q15 q16 q17 q18 q19 q20 q21 q22 q23 q24 q25 q26 q27 q28 q29 q30 q31 : Nat) (u0 u1 u2 u3 u4 u5 u6 u7 u8 u9 u10 u11 u12 u13 u14 u15 u16 u17 u18 u19 u20 u21 : Int) {i_row : Nat → Int} {i_high : Nat → Int} {i_heaps : Nat → Int} {out : (Nat → Int) × (Nat → Int)} (hf : f_HM_load i_row i_high i_heaps = some out) : xc_V l ev (dC, dI) vwCl (tyl cA) yX11_load w_HM_load rm_HM_load [.ref q0] (wd_HM_load cA q0 q1 q2 q3 q4 q5 q6 q7 q8 q9 q10 q11 q12 q13 q14 q15 q16 q17 q18 q19 q20 q21 q22 q23 q24 q25 q26 q27 q28 q29 q30 q31 u0 u1 u2 u3 u4 u5 u6 u7 u8 u9 u10 u11 u12 u13 u14 u15 u16 u17 u18 u19 u20 u21 i_row i_high i_heaps) (wf_HM_load cA q0 q1 q2 q3 q4 q5 q6 q7 q8 q9 q10 q11 q12 q13 q14 q15 q16 q17 q18 q19 q20 q21 q22 q23 q24 q25 q26 q27 q28 q29 q30 q31 u0 u1 u2 u3 u4 u5 u6 u7 u8 u9 u10 u11 u12 u13 u14 u15 u16 u17 u18 u19 u20 u21 i_row out) := by
  refine xv_startV (cc := cX11_load) (maxL := 2) (by decide +kernel) rfl (Nat.le_of_ble_eq_true rfl) ?_
  intro p e s m args below meth c A Q H ls hx hb hml hts hown hK hA hP hD hS hl hE hret
  have hown : s.vm.findClass "HillSchoolModel" = some m.cls := hown
  have hz : ∀ w ∈ zall, w.before args s = true := fun w h => hts w (List.mem_cons_of_mem _ h)
  have hl : lv_has ls 2 [(0, .ref q0)] := hl
  have b_31 : ∀ (k31 : Int → (Nat → Int) → (Nat → Int) → Option ((Nat → Int) × (Nat → Int))) (_ : ∀ (x1 : Int) (i_high : Nat → Int) (i_heaps : Nat → Int) (H : Heap) (locs : List Loc) (ls : Array Slot), k31 x1 i_high i_heaps = some out → va_P (dC, dI) vwCl (wd_HM_load cA q0 q1 q2 q3 q4 q5 q6 q7 q8 q9 q10 q11 q12 q13 q14 q15 q16 q17 q18 q19 q20 q21 q22 q23 q24 q25 q26 q27 q28 q29 q30 q31 u0 u1 u2 u3 u4 u5 u6 u7 u8 u9 u10 u11 u12 u13 u14 u15 u16 u17 u18 u19 u20 u21 i_row i_high i_heaps) H → va_D A (wd_HM_load cA q0 q1 q2 q3 q4 q5 q6 q7 q8 q9 q10 q11 q12 q13 q14 q15 q16 q17 q18 q19 q20 q21 q22 q23 q24 q25 q26 q27 q28 q29 q30 q31 u0 u1 u2 u3 u4 u5 u6 u7 u8 u9 u10 u11 u12 u13 u14 u15 u16 u17 u18 u19 u20 u21 i_row i_high i_heaps) → va_S A s.heap H locs → lv_has ls 2 [(0, .ref q0), (1, .int (Int32.ofInt x1))] → W p l e rm_HM_load s m args below meth c H locs 0 0 Q (F0 m 31 ls [])), ∀ (x1 : Int) (i_high : Nat → Int) (i_heaps : Nat → Int) (H : Heap) (locs : List Loc) (ls : Array Slot), f_HM_load_31_b i_row k31 x1 i_high i_heaps = some out → va_P (dC, dI) vwCl (wd_HM_load cA q0 q1 q2 q3 q4 q5 q6 q7 q8 q9 q10 q11 q12 q13 q14 q15 q16 q17 q18 q19 q20 q21 q22 q23 q24 q25 q26 q27 q28 q29 q30 q31 u0 u1 u2 u3 u4 u5 u6 u7 u8 u9 u10 u11 u12 u13 u14 u15 u16 u17 u18 u19 u20 u21 i_row i_high i_heaps) H → va_D A (wd_HM_load cA q0 q1 q2 q3 q4 q5 q6 q7 q8 q9 q10 q11 q12 q13 q14 q15 q16 q17 q18 q19 q20 q21 q22 q23 q24 q25 q26 q27 q28 q29 q30 q31 u0 u1 u2 u3 u4 u5 u6 u7 u8 u9 u10 u11 u12 u13 u14 u15 u16 u17 u18 u19 u20 u21 i_row i_high i_heaps) → va_S A s.heap H locs → lv_has ls 2 [(0, .ref q0), (1, .int (Int32.ofInt x1))] → W p l e rm_HM_load s m args below meth c H locs 0 0 Q (F0 m 31 ls []) := by
    intro k31 ih31 x1 i_high i_heaps H locs ls hf hP hD hS hl
    unfold f_HM_load_31_b at hf
    refine lv_iload_n hx hb dX11_load_31 rfl (lv_at hl 1 rfl) ?_
    refine lv_bipush (v := Int32.ofInt 120) hx hb dX11_load_32 (by decide) ?_
    refine xi_icmp_ge (tgt := 58) hx hb dX11_load_34 (by decide) hf (fun hf => ?_) (fun hf => ?_)
    · obtain rfl := Option.some.inj hf
      exact hret _ _ _ _ dX11_load_58 hP hD hS
    · refine lv_aload_n hx hb dX11_load_37 rfl (lv_at hl 0 rfl) ?_
      refine va_get (D := (dC, dI)) (ci := 11) (v := .ref q15) (C := RX11) (T := TX11) (N := 53) hx hb hz zi_X11 hown hK hP 0 rfl rfl 33 (by decide) (hz _ zw_1198) (fun _ h9 => h9) rfl dX11_load_38 ?_
      refine lv_iload_n hx hb dX11_load_41 rfl (lv_at hl 1 rfl) ?_
      refine lv_aload_n hx hb dX11_load_42 rfl (lv_at hl 0 rfl) ?_
      refine va_get (D := (dC, dI)) (ci := 11) (v := .ref q2) (C := RX11) (T := TX11) (N := 53) hx hb hz zi_X11 hown hK hP 0 rfl rfl 3 (by decide) (hz _ zw_1168) (fun _ h9 => h9) rfl dX11_load_43 ?_
      refine lv_bipush (v := Int32.ofInt 21) hx hb dX11_load_46 (by decide) ?_
      refine lv_iload_n hx hb dX11_load_48 rfl (lv_at hl 1 rfl) ?_
      refine xi_iadd hx hb dX11_load_49 hf (fun v1 hf => ?_)
      refine xi_iald hx hb hK hP 1 0 rfl rfl dX11_load_50 hf (fun v2 hf => ?_)
      refine xi_iast hx hb hK hP hD hS 3 0 rfl rfl dX11_load_51 hf (fun a3 H locs hP hD hS hf => ?_)
      have hP : va_P (dC, dI) vwCl (wd_HM_load cA q0 q1 q2 q3 q4 q5 q6 q7 q8 q9 q10 q11 q12 q13 q14 q15 q16 q17 q18 q19 q20 q21 q22 q23 q24 q25 q26 q27 q28 q29 q30 q31 u0 u1 u2 u3 u4 u5 u6 u7 u8 u9 u10 u11 u12 u13 u14 u15 u16 u17 u18 u19 u20 u21 i_row i_high a3) H := hP
      have hD : va_D A (wd_HM_load cA q0 q1 q2 q3 q4 q5 q6 q7 q8 q9 q10 q11 q12 q13 q14 q15 q16 q17 q18 q19 q20 q21 q22 q23 q24 q25 q26 q27 q28 q29 q30 q31 u0 u1 u2 u3 u4 u5 u6 u7 u8 u9 u10 u11 u12 u13 u14 u15 u16 u17 u18 u19 u20 u21 i_row i_high a3) := hD
      refine xi_iinc hx hb dX11_load_52 hl (k := 1) rfl (by decide) hf (fun v4 ls hl hf => ?_)
      have hl : lv_has ls 2 [(1, .int (Int32.ofInt v4)), (0, .ref q0)] := hl
      refine lv_goto (tgt := 31) hx hb dX11_load_55 (by decide) ?_
      exact ih31 _ _ _ _ _ _ hf hP hD hS (lv_sub hl [1, 0] rfl)
  have l_31 : ∀ (n : Nat), ∀ (x1 : Int) (i_high : Nat → Int) (i_heaps : Nat → Int) (H : Heap) (locs : List Loc) (ls : Array Slot), f_HM_load_31 i_row n x1 i_high i_heaps = some out → va_P (dC, dI) vwCl (wd_HM_load cA q0 q1 q2 q3 q4 q5 q6 q7 q8 q9 q10 q11 q12 q13 q14 q15 q16 q17 q18 q19 q20 q21 q22 q23 q24 q25 q26 q27 q28 q29 q30 q31 u0 u1 u2 u3 u4 u5 u6 u7 u8 u9 u10 u11 u12 u13 u14 u15 u16 u17 u18 u19 u20 u21 i_row i_high i_heaps) H → va_D A (wd_HM_load cA q0 q1 q2 q3 q4 q5 q6 q7 q8 q9 q10 q11 q12 q13 q14 q15 q16 q17 q18 q19 q20 q21 q22 q23 q24 q25 q26 q27 q28 q29 q30 q31 u0 u1 u2 u3 u4 u5 u6 u7 u8 u9 u10 u11 u12 u13 u14 u15 u16 u17 u18 u19 u20 u21 i_row i_high i_heaps) → va_S A s.heap H locs → lv_has ls 2 [(0, .ref q0), (1, .int (Int32.ofInt x1))] → W p l e rm_HM_load s m args below meth c H locs 0 0 Q (F0 m 31 ls []) := by
    intro n
    induction n with
    | zero => intro x1 i_high i_heaps H locs ls hf hP hD hS hl; exact nomatch hf
    | succ n ih => intro x1 i_high i_heaps H locs ls hf hP hD hS hl; exact b_31 (f_HM_load_31 i_row n) ih x1 i_high i_heaps H locs ls hf hP hD hS hl
  have b_2 : ∀ (k2 : Int → (Nat → Int) → (Nat → Int) → Option ((Nat → Int) × (Nat → Int))) (_ : ∀ (x1 : Int) (i_high : Nat → Int) (i_heaps : Nat → Int) (H : Heap) (locs : List Loc) (ls : Array Slot), k2 x1 i_high i_heaps = some out → va_P (dC, dI) vwCl (wd_HM_load cA q0 q1 q2 q3 q4 q5 q6 q7 q8 q9 q10 q11 q12 q13 q14 q15 q16 q17 q18 q19 q20 q21 q22 q23 q24 q25 q26 q27 q28 q29 q30 q31 u0 u1 u2 u3 u4 u5 u6 u7 u8 u9 u10 u11 u12 u13 u14 u15 u16 u17 u18 u19 u20 u21 i_row i_high i_heaps) H → va_D A (wd_HM_load cA q0 q1 q2 q3 q4 q5 q6 q7 q8 q9 q10 q11 q12 q13 q14 q15 q16 q17 q18 q19 q20 q21 q22 q23 q24 q25 q26 q27 q28 q29 q30 q31 u0 u1 u2 u3 u4 u5 u6 u7 u8 u9 u10 u11 u12 u13 u14 u15 u16 u17 u18 u19 u20 u21 i_row i_high i_heaps) → va_S A s.heap H locs → lv_has ls 2 [(0, .ref q0), (1, .int (Int32.ofInt x1))] → W p l e rm_HM_load s m args below meth c H locs 0 0 Q (F0 m 2 ls [])), ∀ (x1 : Int) (i_high : Nat → Int) (i_heaps : Nat → Int) (H : Heap) (locs : List Loc) (ls : Array Slot), f_HM_load_2_b i_row k2 x1 i_high i_heaps = some out → va_P (dC, dI) vwCl (wd_HM_load cA q0 q1 q2 q3 q4 q5 q6 q7 q8 q9 q10 q11 q12 q13 q14 q15 q16 q17 q18 q19 q20 q21 q22 q23 q24 q25 q26 q27 q28 q29 q30 q31 u0 u1 u2 u3 u4 u5 u6 u7 u8 u9 u10 u11 u12 u13 u14 u15 u16 u17 u18 u19 u20 u21 i_row i_high i_heaps) H → va_D A (wd_HM_load cA q0 q1 q2 q3 q4 q5 q6 q7 q8 q9 q10 q11 q12 q13 q14 q15 q16 q17 q18 q19 q20 q21 q22 q23 q24 q25 q26 q27 q28 q29 q30 q31 u0 u1 u2 u3 u4 u5 u6 u7 u8 u9 u10 u11 u12 u13 u14 u15 u16 u17 u18 u19 u20 u21 i_row i_high i_heaps) → va_S A s.heap H locs → lv_has ls 2 [(0, .ref q0), (1, .int (Int32.ofInt x1))] → W p l e rm_HM_load s m args below meth c H locs 0 0 Q (F0 m 2 ls []) := by
    intro k2 ih2 x1 i_high i_heaps H locs ls hf hP hD hS hl
    unfold f_HM_load_2_b at hf
    refine lv_iload_n hx hb dX11_load_2 rfl (lv_at hl 1 rfl) ?_
    refine lv_bipush (v := Int32.ofInt 12) hx hb dX11_load_3 (by decide) ?_
    refine xi_icmp_ge (tgt := 29) hx hb dX11_load_5 (by decide) hf (fun hf => ?_) (fun hf => ?_)
    · refine lv_iconst (v := Int32.ofInt 0) hx hb dX11_load_29 rfl ?_
      refine lv_istore_n (lv' := [(1, .int (Int32.ofInt 0)), (0, .ref q0)]) hx hb dX11_load_30 rfl hl (by decide) rfl (fun ls hl => ?_)
      exact l_31  _ _ _ _ _ _ _ hf hP hD hS (lv_sub hl [1, 0] rfl)
    · refine lv_aload_n hx hb dX11_load_8 rfl (lv_at hl 0 rfl) ?_
      refine va_get (D := (dC, dI)) (ci := 11) (v := .ref q14) (C := RX11) (T := TX11) (N := 53) hx hb hz zi_X11 hown hK hP 0 rfl rfl 32 (by decide) (hz _ zw_1197) (fun _ h9 => h9) rfl dX11_load_9 ?_
      refine lv_iload_n hx hb dX11_load_12 rfl (lv_at hl 1 rfl) ?_
      refine lv_aload_n hx hb dX11_load_13 rfl (lv_at hl 0 rfl) ?_
      refine va_get (D := (dC, dI)) (ci := 11) (v := .ref q2) (C := RX11) (T := TX11) (N := 53) hx hb hz zi_X11 hown hK hP 0 rfl rfl 3 (by decide) (hz _ zw_1168) (fun _ h9 => h9) rfl dX11_load_14 ?_
      refine lv_bipush (v := Int32.ofInt 9) hx hb dX11_load_17 (by decide) ?_
      refine lv_iload_n hx hb dX11_load_19 rfl (lv_at hl 1 rfl) ?_
      refine xi_iadd hx hb dX11_load_20 hf (fun v1 hf => ?_)
      refine xi_iald hx hb hK hP 1 0 rfl rfl dX11_load_21 hf (fun v2 hf => ?_)
      refine xi_iast hx hb hK hP hD hS 2 0 rfl rfl dX11_load_22 hf (fun a3 H locs hP hD hS hf => ?_)
      have hP : va_P (dC, dI) vwCl (wd_HM_load cA q0 q1 q2 q3 q4 q5 q6 q7 q8 q9 q10 q11 q12 q13 q14 q15 q16 q17 q18 q19 q20 q21 q22 q23 q24 q25 q26 q27 q28 q29 q30 q31 u0 u1 u2 u3 u4 u5 u6 u7 u8 u9 u10 u11 u12 u13 u14 u15 u16 u17 u18 u19 u20 u21 i_row a3 i_heaps) H := hP
      have hD : va_D A (wd_HM_load cA q0 q1 q2 q3 q4 q5 q6 q7 q8 q9 q10 q11 q12 q13 q14 q15 q16 q17 q18 q19 q20 q21 q22 q23 q24 q25 q26 q27 q28 q29 q30 q31 u0 u1 u2 u3 u4 u5 u6 u7 u8 u9 u10 u11 u12 u13 u14 u15 u16 u17 u18 u19 u20 u21 i_row a3 i_heaps) := hD
      refine xi_iinc hx hb dX11_load_23 hl (k := 1) rfl (by decide) hf (fun v4 ls hl hf => ?_)
      have hl : lv_has ls 2 [(1, .int (Int32.ofInt v4)), (0, .ref q0)] := hl
      refine lv_goto (tgt := 2) hx hb dX11_load_26 (by decide) ?_
      exact ih2 _ _ _ _ _ _ hf hP hD hS (lv_sub hl [1, 0] rfl)
  have l_2 : ∀ (n : Nat), ∀ (x1 : Int) (i_high : Nat → Int) (i_heaps : Nat → Int) (H : Heap) (locs : List Loc) (ls : Array Slot), f_HM_load_2 i_row n x1 i_high i_heaps = some out → va_P (dC, dI) vwCl (wd_HM_load cA q0 q1 q2 q3 q4 q5 q6 q7 q8 q9 q10 q11 q12 q13 q14 q15 q16 q17 q18 q19 q20 q21 q22 q23 q24 q25 q26 q27 q28 q29 q30 q31 u0 u1 u2 u3 u4 u5 u6 u7 u8 u9 u10 u11 u12 u13 u14 u15 u16 u17 u18 u19 u20 u21 i_row i_high i_heaps) H → va_D A (wd_HM_load cA q0 q1 q2 q3 q4 q5 q6 q7 q8 q9 q10 q11 q12 q13 q14 q15 q16 q17 q18 q19 q20 q21 q22 q23 q24 q25 q26 q27 q28 q29 q30 q31 u0 u1 u2 u3 u4 u5 u6 u7 u8 u9 u10 u11 u12 u13 u14 u15 u16 u17 u18 u19 u20 u21 i_row i_high i_heaps) → va_S A s.heap H locs → lv_has ls 2 [(0, .ref q0), (1, .int (Int32.ofInt x1))] → W p l e rm_HM_load s m args below meth c H locs 0 0 Q (F0 m 2 ls []) := by
    intro n
    induction n with
    | zero => intro x1 i_high i_heaps H locs ls hf hP hD hS hl; exact nomatch hf
    | succ n ih => intro x1 i_high i_heaps H locs ls hf hP hD hS hl; exact b_2 (f_HM_load_2 i_row n) ih x1 i_high i_heaps H locs ls hf hP hD hS hl
  unfold f_HM_load at hf
  refine lv_iconst (v := Int32.ofInt 0) hx hb dX11_load_0 rfl ?_
  refine lv_istore_n (lv' := [(1, .int (Int32.ofInt 0)), (0, .ref q0)]) hx hb dX11_load_1 rfl hl (by decide) rfl (fun ls hl => ?_)
  exact l_2  _ _ _ _ _ _ _ hf hP hD hS (lv_sub hl [1, 0] rfl)
theorem dX11_can_0 : decode cX11_can 0 = .ok (.aload_n 0, 1) := by decide +kernel
theorem dX11_can_1 : decode cX11_can 1 = .ok (.iconst 0, 1) := by decide +kernel
theorem dX11_can_2 : decode cX11_can 2 = .ok (.putfield 126, 3) := by decide +kernel
theorem dX11_can_5 : decode cX11_can 5 = .ok (.aload_n 0, 1) := by decide +kernel
theorem dX11_can_6 : decode cX11_can 6 = .ok (.iload_n 1, 1) := by decide +kernel
theorem dX11_can_7 : decode cX11_can 7 = .ok (.iload_n 2, 1) := by decide +kernel
theorem dX11_can_8 : decode cX11_can 8 = .ok (.iload_n 3, 1) := by decide +kernel
theorem dX11_can_9 : decode cX11_can 9 = .ok (.invokevirtual 356, 3) := by decide +kernel
theorem dX11_can_12 : decode cX11_can 12 = .ok (.ifCond .ne 5, 3) := by decide +kernel
theorem dX11_can_15 : decode cX11_can 15 = .ok (.iconst (-1), 1) := by decide +kernel
theorem dX11_can_16 : decode cX11_can 16 = .ok (.ireturn, 1) := by decide +kernel
theorem dX11_can_17 : decode cX11_can 17 = .ok (.aload_n 0, 1) := by decide +kernel
theorem dX11_can_18 : decode cX11_can 18 = .ok (.invokevirtual 360, 3) := by decide +kernel
theorem dX11_can_21 : decode cX11_can 21 = .ok (.aload_n 0, 1) := by decide +kernel
theorem dX11_can_22 : decode cX11_can 22 = .ok (.iload_n 1, 1) := by decide +kernel
theorem dX11_can_23 : decode cX11_can 23 = .ok (.iload_n 2, 1) := by decide +kernel
theorem dX11_can_24 : decode cX11_can 24 = .ok (.iload_n 3, 1) := by decide +kernel
theorem dX11_can_25 : decode cX11_can 25 = .ok (.invokevirtual 363, 3) := by decide +kernel
theorem dX11_can_28 : decode cX11_can 28 = .ok (.iconst (-1), 1) := by decide +kernel
theorem dX11_can_29 : decode cX11_can 29 = .ok (.if_icmp .ne 7, 3) := by decide +kernel
theorem dX11_can_32 : decode cX11_can 32 = .ok (.iconst 0, 1) := by decide +kernel
theorem dX11_can_33 : decode cX11_can 33 = .ok (.goto 4, 3) := by decide +kernel
theorem dX11_can_36 : decode cX11_can 36 = .ok (.iconst 1, 1) := by decide +kernel
theorem dX11_can_37 : decode cX11_can 37 = .ok (.ireturn, 1) := by decide +kernel
theorem zw_65 : (Jvm.Cond.selects "HillSchoolModel" ({ cls := "HillSchoolModel", name := "are", desc := "(III)Z" } : Jvm.MethodName) ({ cls := "HillSchoolModel", name := "are", desc := "(III)Z" } : Jvm.MethodName)) ∈ zall := zmemG (zmj_0 65 rfl) rfl
theorem zw_66 : (Jvm.Cond.selects "HillSchoolModel" ({ cls := "HillSchoolModel", name := "load", desc := "()V" } : Jvm.MethodName) ({ cls := "HillSchoolModel", name := "load", desc := "()V" } : Jvm.MethodName)) ∈ zall := zmemG (zmj_0 66 rfl) rfl
theorem zw_67 : (Jvm.Cond.selects "HillSchoolModel" ({ cls := "HillSchoolModel", name := "carrying", desc := "(III)I" } : Jvm.MethodName) ({ cls := "HillSchoolModel", name := "carrying", desc := "(III)I" } : Jvm.MethodName)) ∈ zall := zmemG (zmj_0 67 rfl) rfl
theorem zw_1544 : (Jvm.Cond.code ({ cls := "HillSchoolModel", name := "can", desc := "(III)I" } : Jvm.MethodName) prog_13_method_66_code (4 : Nat) (Option.some Jvm.ClassFile.FieldType.int)) ∈ zall := zmemG (zmj_7 1 rfl) rfl
theorem zw_1545 : (Jvm.Cond.methodLink "HillSchoolModel" (356 : Nat) ({ cls := "HillSchoolModel", name := "are", desc := "(III)Z" } : Jvm.MethodName)) ∈ zall := zmemG (zmj_7 2 rfl) rfl
theorem zw_1547 : (Jvm.Cond.instanceMethod ({ cls := "HillSchoolModel", name := "are", desc := "(III)Z" } : Jvm.MethodName)) ∈ zall := zmemG (zmj_7 4 rfl) rfl
theorem zw_1549 : (Jvm.Cond.methodLink "HillSchoolModel" (360 : Nat) ({ cls := "HillSchoolModel", name := "load", desc := "()V" } : Jvm.MethodName)) ∈ zall := zmemG (zmj_7 6 rfl) rfl
theorem zw_1551 : (Jvm.Cond.instanceMethod ({ cls := "HillSchoolModel", name := "load", desc := "()V" } : Jvm.MethodName)) ∈ zall := zmemG (zmj_7 8 rfl) rfl
theorem zw_1553 : (Jvm.Cond.methodLink "HillSchoolModel" (363 : Nat) ({ cls := "HillSchoolModel", name := "carrying", desc := "(III)I" } : Jvm.MethodName)) ∈ zall := zmemG (zmj_7 10 rfl) rfl
theorem zw_1555 : (Jvm.Cond.instanceMethod ({ cls := "HillSchoolModel", name := "carrying", desc := "(III)I" } : Jvm.MethodName)) ∈ zall := zmemG (zmj_7 12 rfl) rfl
abbrev w_HM_can : List Cond := .code yX11_can cX11_can 4 (some .int) :: zall
abbrev rm_HM_can : Room := { frames := 5, cells := 0, slots := 0, locals := 126 }
theorem hd_HM_can : yX11_can.cls = "HillSchoolModel" ∧ yX11_can.cls ≠ "java/lang/invoke/MethodHandle" ∧ yX11_can.cls ≠ "java/lang/invoke/VarHandle" ∧ (parseMethodDescriptor yX11_can.desc).map (fun d => d.parameters.length) = some 3 := by decide +kernel
def wd_HM_can (cA : Nat → ClassId) (q0 q1 q2 q3 q4 q5 q6 q7 q8 q9 q10 q11 q12 q13 q14 q15 q16 q17 q18 q19 q20 q21 q22 q23 q24 q25 q26 q27 q28 q29 q30 q31 : Nat) (u0 u1 u2 u3 u4 u5 u6 u7 u8 u9 u10 u11 u12 u13 u14 u15 u16 : Int) (i_row : Nat → Int) (i_thrown : Int) (i_law : Int) (i_broken : Int) (i_value : Int) (i_sum : Int) (i_set : Nat → Int) (i_rest : Nat → Int) (i_high : Nat → Int) (i_heaps : Nat → Int) : va_W := [(q0, .inr (11, [.int (Int32.ofInt i_thrown), .int (Int32.ofInt u0), .ref q1, .ref q2, .ref q3, .ref q4, .int (Int32.ofInt u1), .ref q5, .int (Int32.ofInt u2), .int (Int32.ofInt u3), .int (Int32.ofInt u4), .int (Int32.ofInt u5), .long (Int64.ofInt u6), .int (Int32.ofInt u7), .int (Int32.ofInt u8), .int (Int32.ofInt u9), .ref q6, .int (Int32.ofInt u10), .ref q7, .ref q8, .int (Int32.ofInt u11), .ref q9, .ref q10, .int (Int32.ofInt u12), .int (Int32.ofInt u13), .ref q11, .int (Int32.ofInt i_law), .ref q12, .ref q13, .int (Int32.ofInt i_broken), .long (Int64.ofInt i_value), .long (Int64.ofInt i_sum), .ref q14, .ref q15, .ref q16, .ref q17, .ref q18, .int (Int32.ofInt u14), .ref q19, .ref q20, .ref q21, .ref q22, .ref q23, .ref q24, .ref q25, .ref q26, .ref q27, .ref q28, .ref q29, .ref q30, .long (Int64.ofInt u15), .ref q31, .int (Int32.ofInt u16)])), (q2, .inl (cA 0, 5580, .inl (za i_row))), (q12, .inl (cA 2, 13, .inr (.inl (zl i_set)))), (q13, .inl (cA 2, 400, .inr (.inl (zl i_rest)))), (q14, .inl (cA 0, 12, .inl (za i_high))), (q15, .inl (cA 0, 120, .inl (za i_heaps)))]
def wf_HM_can (cA : Nat → ClassId) (q0 q1 q2 q3 q4 q5 q6 q7 q8 q9 q10 q11 q12 q13 q14 q15 q16 q17 q18 q19 q20 q21 q22 q23 q24 q25 q26 q27 q28 q29 q30 q31 : Nat) (u0 u1 u2 u3 u4 u5 u6 u7 u8 u9 u10 u11 u12 u13 u14 u15 u16 : Int) (i_row : Nat → Int) (o : Int × Int × Int × Int × Int × Int × (Nat → Int) × (Nat → Int) × (Nat → Int) × (Nat → Int)) : va_W := wd_HM_can cA q0 q1 q2 q3 q4 q5 q6 q7 q8 q9 q10 q11 q12 q13 q14 q15 q16 q17 q18 q19 q20 q21 q22 q23 q24 q25 q26 q27 q28 q29 q30 q31 u0 u1 u2 u3 u4 u5 u6 u7 u8 u9 u10 u11 u12 u13 u14 u15 u16 i_row o.2.1 o.2.2.1 o.2.2.2.1 o.2.2.2.2.1 o.2.2.2.2.2.1 o.2.2.2.2.2.2.1 o.2.2.2.2.2.2.2.1 o.2.2.2.2.2.2.2.2.1 o.2.2.2.2.2.2.2.2.2
def f_HM_can (x1 : Int) (x2 : Int) (x3 : Int) (i_row : Nat → Int) (i_thrown : Int) (i_law : Int) (i_broken : Int) (i_value : Int) (i_sum : Int) (i_set : Nat → Int) (i_rest : Nat → Int) (i_high : Nat → Int) (i_heaps : Nat → Int) : Option (Int × Int × Int × Int × Int × Int × (Nat → Int) × (Nat → Int) × (Nat → Int) × (Nat → Int)) :=
  zd1 (f_HM_are x1 x2 x3 i_row) fun v1 =>
  if zi_w v1 ≠ 0 then
    zd2 (f_HM_load i_row i_high i_heaps) fun a2 a3 =>
    zd7 (f_HM_carrying x1 x2 x3 i_row a2 a3 i_law i_broken i_value i_sum i_set i_rest) fun v4 v5 v6 v7 v8 a9 a10 =>
    if zi_w v4 ≠ zi_w (-1) then
      some (1, 0, v5, v6, v7, v8, a9, a10, a2, a3)
    else
      some (0, 0, v5, v6, v7, v8, a9, a10, a2, a3)
  else
    some ((-1), 0, i_law, i_broken, i_value, i_sum, i_set, i_rest, i_high, i_heaps)
set_option maxHeartbeats 4000000 in
set_option maxRecDepth 100000 in
theorem c_HM_can (l : Launch) (ev : zEv) (dC : Nat → ClassId) (dI : Nat → Nat → Nat) (cA : Nat → ClassId) (q0 q1 q2 q3 q4 q5 q6 q7 q8 q9 q10 q11 q12 q13 q14 q15 q16 q17 q18 q19 q20 q21 q22 q23 q24 q25 q26 q27 q28 q29 q30 q31 : Nat) (u0 u1 u2 u3 u4 u5 u6 u7 u8 u9 u10 u11 u12 u13 u14 u15 u16 : Int) {x1 x2 x3 : Int} {i_row : Nat → Int} {i_thrown : Int} {i_law : Int} {i_broken : Int} {i_value : Int} {i_sum : Int} {i_set : Nat → Int} {i_rest : Nat → Int} {i_high : Nat → Int} {i_heaps : Nat → Int} {out : Int × Int × Int × Int × Int × Int × (Nat → Int) × (Nat → Int) × (Nat → Int) × (Nat → Int)} (hf : f_HM_can x1 x2 x3 i_row i_thrown i_law i_broken i_value i_sum i_set i_rest i_high i_heaps = some out) : xc_I l ev (dC, dI) vwCl (tyl cA) yX11_can w_HM_can rm_HM_can [.ref q0, .int (Int32.ofInt x1), .int (Int32.ofInt x2), .int (Int32.ofInt x3)] (wd_HM_can cA q0 q1 q2 q3 q4 q5 q6 q7 q8 q9 q10 q11 q12 q13 q14 q15 q16 q17 q18 q19 q20 q21 q22 q23 q24 q25 q26 q27 q28 q29 q30 q31 u0 u1 u2 u3 u4 u5 u6 u7 u8 u9 u10 u11 u12 u13 u14 u15 u16 i_row i_thrown i_law i_broken i_value i_sum i_set i_rest i_high i_heaps) (wf_HM_can cA q0 q1 q2 q3 q4 q5 q6 q7 q8 q9 q10 q11 q12 q13 q14 q15 q16 q17 q18 q19 q20 q21 q22 q23 q24 q25 q26 q27 q28 q29 q30 q31 u0 u1 u2 u3 u4 u5 u6 u7 u8 u9 u10 u11 u12 u13 u14 u15 u16 i_row out) out.1 := by
  refine xv_startI (cc := cX11_can) (maxL := 4) (rt := .int) (by decide +kernel) rfl (Nat.le_of_ble_eq_true rfl) ?_
  intro p e s m args below meth c A Q H ls hx hb hml hts hown hK hA hP hD hS hl hE hret
  have hown : s.vm.findClass "HillSchoolModel" = some m.cls := hown
  have hz : ∀ w ∈ zall, w.before args s = true := fun w h => hts w (List.mem_cons_of_mem _ h)
  have hl : lv_has ls 4 [(0, .ref q0), (1, .int (Int32.ofInt x1)), (2, .int (Int32.ofInt x2)), (3, .int (Int32.ofInt x3))] := hl
  unfold f_HM_can at hf
  refine lv_aload_n hx hb dX11_can_0 rfl (lv_at hl 0 rfl) ?_
  refine lv_iconst (v := Int32.ofInt 0) hx hb dX11_can_1 rfl ?_
  refine va_put (D := (dC, dI)) (ci := 11) (v := .int (Int32.ofInt 0)) (ty := .int) (C := RX11) (T := TX11) (N := 53) hx hb hz zi_X11 tyX11 tyX11_ok nmX11 hown hK hP hD hS 0 rfl rfl 0 (by decide) (hz _ zw_1165) (fun _ h9 => h9) rfl (by decide +kernel) rfl rfl (Nat.le_of_ble_eq_true rfl) dX11_can_2 (fun H locs hP hD hS => ?_)
  have hP : va_P (dC, dI) vwCl (wd_HM_can cA q0 q1 q2 q3 q4 q5 q6 q7 q8 q9 q10 q11 q12 q13 q14 q15 q16 q17 q18 q19 q20 q21 q22 q23 q24 q25 q26 q27 q28 q29 q30 q31 u0 u1 u2 u3 u4 u5 u6 u7 u8 u9 u10 u11 u12 u13 u14 u15 u16 i_row 0 i_law i_broken i_value i_sum i_set i_rest i_high i_heaps) H := hP
  have hD : va_D A (wd_HM_can cA q0 q1 q2 q3 q4 q5 q6 q7 q8 q9 q10 q11 q12 q13 q14 q15 q16 q17 q18 q19 q20 q21 q22 q23 q24 q25 q26 q27 q28 q29 q30 q31 u0 u1 u2 u3 u4 u5 u6 u7 u8 u9 u10 u11 u12 u13 u14 u15 u16 i_row 0 i_law i_broken i_value i_sum i_set i_rest i_high i_heaps) := hD
  refine lv_aload_n hx hb dX11_can_5 rfl (lv_at hl 0 rfl) ?_
  refine lv_iload_n hx hb dX11_can_6 rfl (lv_at hl 1 rfl) ?_
  refine lv_iload_n hx hb dX11_can_7 rfl (lv_at hl 2 rfl) ?_
  refine lv_iload_n hx hb dX11_can_8 rfl (lv_at hl 3 rfl) ?_
  refine xe_d1 hf (fun v1 hg hf => ?_)
  have hC : ([0, 1] : List Nat).map (fun i => (wd_HM_can cA q0 q1 q2 q3 q4 q5 q6 q7 q8 q9 q10 q11 q12 q13 q14 q15 q16 q17 q18 q19 q20 q21 q22 q23 q24 q25 q26 q27 q28 q29 q30 q31 u0 u1 u2 u3 u4 u5 u6 u7 u8 u9 u10 u11 u12 u13 u14 u15 u16 i_row 0 i_law i_broken i_value i_sum i_set i_rest i_high i_heaps)[i]?) = (wd_HM_are cA q0 q1 q2 q3 q4 q5 q6 q7 q8 q9 q10 q11 q12 q13 q14 q15 q16 q17 q18 q19 q20 q21 q22 q23 q24 q25 q26 q27 q28 q29 q30 q31 0 u0 u1 u2 u3 u4 u5 u6 u7 u8 u9 u10 u11 u12 u13 i_law i_broken i_value i_sum u14 u15 u16 i_row).map some := rfl
  refine xv_afterI (ws' := (wd_HM_can cA q0 q1 q2 q3 q4 q5 q6 q7 q8 q9 q10 q11 q12 q13 q14 q15 q16 q17 q18 q19 q20 q21 q22 q23 q24 q25 q26 q27 q28 q29 q30 q31 u0 u1 u2 u3 u4 u5 u6 u7 u8 u9 u10 u11 u12 u13 u14 u15 u16 i_row 0 i_law i_broken i_value i_sum i_set i_rest i_high i_heaps)) (isC := [0, 1]) (ps := [some 0, some 1, none, none, none, none]) (va_runV (As := [.int (Int32.ofInt x1), .int (Int32.ofInt x2), .int (Int32.ofInt x3)]) (rest := []) ⟨hx, hb, hml, hown, hts⟩ (c_HM_are l ev dC dI cA q0 q1 q2 q3 q4 q5 q6 q7 q8 q9 q10 q11 q12 q13 q14 q15 q16 q17 q18 q19 q20 q21 q22 q23 q24 q25 q26 q27 q28 q29 q30 q31 0 u0 u1 u2 u3 u4 u5 u6 u7 u8 u9 u10 u11 u12 u13 i_law i_broken i_value i_sum u14 u15 u16 hg H.size) (cwV 3 hts (zgV zw_1545 zw_1547 zw_65 zw_115 zw_1548) rfl rfl rfl hd_HM_are ⟨Nat.le_of_ble_eq_true rfl, Nat.le_of_ble_eq_true rfl⟩) (xv_preV (T := TX11) (N := 53) hE hA hS hK hP hD (isC := [0, 1]) (by decide +kernel) hC (q0 := 0) (ci := 11) rfl rfl) rfl rfl hl.1 rfl (lv_room (Nat.le_of_ble_eq_true rfl)) dX11_can_9 ⟨Nat.le_refl _, Nat.le_refl _⟩) hP hD hS hA (by decide +kernel) rfl hC rfl rfl (fun H locs hP hD hS => ?_)
  refine xi_if_ne (tgt := 17) hx hb dX11_can_12 (by decide) hf (fun hf => ?_) (fun hf => ?_)
  · refine lv_aload_n hx hb dX11_can_17 rfl (lv_at hl 0 rfl) ?_
    refine xe_d2 hf (fun a2 a3 hg hf => ?_)
    have hC : ([0, 1, 4, 5] : List Nat).map (fun i => (wd_HM_can cA q0 q1 q2 q3 q4 q5 q6 q7 q8 q9 q10 q11 q12 q13 q14 q15 q16 q17 q18 q19 q20 q21 q22 q23 q24 q25 q26 q27 q28 q29 q30 q31 u0 u1 u2 u3 u4 u5 u6 u7 u8 u9 u10 u11 u12 u13 u14 u15 u16 i_row 0 i_law i_broken i_value i_sum i_set i_rest i_high i_heaps)[i]?) = (wd_HM_load cA q0 q1 q2 q3 q4 q5 q6 q7 q8 q9 q10 q11 q12 q13 q14 q15 q16 q17 q18 q19 q20 q21 q22 q23 q24 q25 q26 q27 q28 q29 q30 q31 0 u0 u1 u2 u3 u4 u5 u6 u7 u8 u9 u10 u11 u12 u13 i_law i_broken i_value i_sum u14 u15 u16 i_row i_high i_heaps).map some := rfl
    refine xv_afterV (ws' := (wd_HM_can cA q0 q1 q2 q3 q4 q5 q6 q7 q8 q9 q10 q11 q12 q13 q14 q15 q16 q17 q18 q19 q20 q21 q22 q23 q24 q25 q26 q27 q28 q29 q30 q31 u0 u1 u2 u3 u4 u5 u6 u7 u8 u9 u10 u11 u12 u13 u14 u15 u16 i_row 0 i_law i_broken i_value i_sum i_set i_rest a2 a3)) (isC := [0, 1, 4, 5]) (ps := [some 0, some 1, none, none, some 2, some 3]) (va_runV (As := []) (rest := []) ⟨hx, hb, hml, hown, hts⟩ (c_HM_load l ev dC dI cA q0 q1 q2 q3 q4 q5 q6 q7 q8 q9 q10 q11 q12 q13 q14 q15 q16 q17 q18 q19 q20 q21 q22 q23 q24 q25 q26 q27 q28 q29 q30 q31 0 u0 u1 u2 u3 u4 u5 u6 u7 u8 u9 u10 u11 u12 u13 i_law i_broken i_value i_sum u14 u15 u16 hg H.size) (cwV 0 hts (zgV zw_1549 zw_1551 zw_66 zw_115 zw_1552) rfl rfl rfl hd_HM_load ⟨Nat.le_of_ble_eq_true rfl, Nat.le_of_ble_eq_true rfl⟩) (xv_preV (T := TX11) (N := 53) hE hA hS hK hP hD (isC := [0, 1, 4, 5]) (by decide +kernel) hC (q0 := 0) (ci := 11) rfl rfl) rfl rfl hl.1 rfl (lv_room (Nat.le_of_ble_eq_true rfl)) dX11_can_18 ⟨Nat.le_refl _, Nat.le_refl _⟩) hP hD hS hA (by decide +kernel) rfl hC rfl rfl (fun H locs hP hD hS => ?_)
    refine lv_aload_n hx hb dX11_can_21 rfl (lv_at hl 0 rfl) ?_
    refine lv_iload_n hx hb dX11_can_22 rfl (lv_at hl 1 rfl) ?_
    refine lv_iload_n hx hb dX11_can_23 rfl (lv_at hl 2 rfl) ?_
    refine lv_iload_n hx hb dX11_can_24 rfl (lv_at hl 3 rfl) ?_
    refine xe_d7 hf (fun v4 v5 v6 v7 v8 a9 a10 hg hf => ?_)
    have hC : ([0, 1, 2, 3, 4, 5] : List Nat).map (fun i => (wd_HM_can cA q0 q1 q2 q3 q4 q5 q6 q7 q8 q9 q10 q11 q12 q13 q14 q15 q16 q17 q18 q19 q20 q21 q22 q23 q24 q25 q26 q27 q28 q29 q30 q31 u0 u1 u2 u3 u4 u5 u6 u7 u8 u9 u10 u11 u12 u13 u14 u15 u16 i_row 0 i_law i_broken i_value i_sum i_set i_rest a2 a3)[i]?) = (wd_HM_carrying cA q0 q1 q2 q3 q4 q5 q6 q7 q8 q9 q10 q11 q12 q13 q14 q15 q16 q17 q18 q19 q20 q21 q22 q23 q24 q25 q26 q27 q28 q29 q30 q31 0 u0 u1 u2 u3 u4 u5 u6 u7 u8 u9 u10 u11 u12 u13 u14 u15 u16 i_row a2 a3 i_law i_broken i_value i_sum i_set i_rest).map some := rfl
    refine xv_afterI (ws' := (wd_HM_can cA q0 q1 q2 q3 q4 q5 q6 q7 q8 q9 q10 q11 q12 q13 q14 q15 q16 q17 q18 q19 q20 q21 q22 q23 q24 q25 q26 q27 q28 q29 q30 q31 u0 u1 u2 u3 u4 u5 u6 u7 u8 u9 u10 u11 u12 u13 u14 u15 u16 i_row 0 v5 v6 v7 v8 a9 a10 a2 a3)) (isC := [0, 1, 2, 3, 4, 5]) (ps := [some 0, some 1, some 2, some 3, some 4, some 5]) (va_runV (As := [.int (Int32.ofInt x1), .int (Int32.ofInt x2), .int (Int32.ofInt x3)]) (rest := []) ⟨hx, hb, hml, hown, hts⟩ (c_HM_carrying l ev dC dI cA q0 q1 q2 q3 q4 q5 q6 q7 q8 q9 q10 q11 q12 q13 q14 q15 q16 q17 q18 q19 q20 q21 q22 q23 q24 q25 q26 q27 q28 q29 q30 q31 0 u0 u1 u2 u3 u4 u5 u6 u7 u8 u9 u10 u11 u12 u13 u14 u15 u16 hg H.size) (cwV 3 hts (zgV zw_1553 zw_1555 zw_67 zw_115 zw_1556) rfl rfl rfl hd_HM_carrying ⟨Nat.le_of_ble_eq_true rfl, Nat.le_of_ble_eq_true rfl⟩) (xv_preV (T := TX11) (N := 53) hE hA hS hK hP hD (isC := [0, 1, 2, 3, 4, 5]) (by decide +kernel) hC (q0 := 0) (ci := 11) rfl rfl) rfl rfl hl.1 rfl (lv_room (Nat.le_of_ble_eq_true rfl)) dX11_can_25 ⟨Nat.le_refl _, Nat.le_refl _⟩) hP hD hS hA (by decide +kernel) rfl hC rfl rfl (fun H locs hP hD hS => ?_)
    refine lv_iconst (v := Int32.ofInt (-1)) hx hb dX11_can_28 rfl ?_
    refine xi_icmp_ne (tgt := 36) hx hb dX11_can_29 (by decide) hf (fun hf => ?_) (fun hf => ?_)
    · refine lv_iconst (v := Int32.ofInt 1) hx hb dX11_can_36 rfl ?_
      obtain rfl := Option.some.inj hf
      exact hret _ _ _ _ rfl dX11_can_37 hP hD hS
    · refine lv_iconst (v := Int32.ofInt 0) hx hb dX11_can_32 rfl ?_
      refine lv_goto (tgt := 37) hx hb dX11_can_33 (by decide) ?_
      obtain rfl := Option.some.inj hf
      exact hret _ _ _ _ rfl dX11_can_37 hP hD hS
  · refine lv_iconst (v := Int32.ofInt (-1)) hx hb dX11_can_15 rfl ?_
    obtain rfl := Option.some.inj hf
    exact hret _ _ _ _ rfl dX11_can_16 hP hD hS
theorem dX11_tires_0 : decode cX11_tires 0 = .ok (.aload_n 0, 1) := by decide +kernel
theorem dX11_tires_1 : decode cX11_tires 1 = .ok (.iconst 0, 1) := by decide +kernel
theorem dX11_tires_2 : decode cX11_tires 2 = .ok (.putfield 126, 3) := by decide +kernel
theorem dX11_tires_5 : decode cX11_tires 5 = .ok (.aload_n 0, 1) := by decide +kernel
theorem dX11_tires_6 : decode cX11_tires 6 = .ok (.iload_n 1, 1) := by decide +kernel
theorem dX11_tires_7 : decode cX11_tires 7 = .ok (.iload_n 2, 1) := by decide +kernel
theorem dX11_tires_8 : decode cX11_tires 8 = .ok (.iload_n 3, 1) := by decide +kernel
theorem dX11_tires_9 : decode cX11_tires 9 = .ok (.invokevirtual 356, 3) := by decide +kernel
theorem dX11_tires_12 : decode cX11_tires 12 = .ok (.ifCond .ne 5, 3) := by decide +kernel
theorem dX11_tires_15 : decode cX11_tires 15 = .ok (.iconst (-1), 1) := by decide +kernel
theorem dX11_tires_16 : decode cX11_tires 16 = .ok (.ireturn, 1) := by decide +kernel
theorem dX11_tires_17 : decode cX11_tires 17 = .ok (.aload_n 0, 1) := by decide +kernel
theorem dX11_tires_18 : decode cX11_tires 18 = .ok (.invokevirtual 360, 3) := by decide +kernel
theorem dX11_tires_21 : decode cX11_tires 21 = .ok (.aload_n 0, 1) := by decide +kernel
theorem dX11_tires_22 : decode cX11_tires 22 = .ok (.iload_n 1, 1) := by decide +kernel
theorem dX11_tires_23 : decode cX11_tires 23 = .ok (.iload_n 2, 1) := by decide +kernel
theorem dX11_tires_24 : decode cX11_tires 24 = .ok (.iload_n 3, 1) := by decide +kernel
theorem dX11_tires_25 : decode cX11_tires 25 = .ok (.invokevirtual 363, 3) := by decide +kernel
theorem dX11_tires_28 : decode cX11_tires 28 = .ok (.ireturn, 1) := by decide +kernel
theorem zw_1585 : (Jvm.Cond.code ({ cls := "HillSchoolModel", name := "tires", desc := "(III)I" } : Jvm.MethodName) prog_13_method_67_code (4 : Nat) (Option.some Jvm.ClassFile.FieldType.int)) ∈ zall := zmemG (zmj_7 42 rfl) rfl
abbrev w_HM_tires : List Cond := .code yX11_tires cX11_tires 4 (some .int) :: zall
abbrev rm_HM_tires : Room := { frames := 5, cells := 0, slots := 0, locals := 126 }
theorem hd_HM_tires : yX11_tires.cls = "HillSchoolModel" ∧ yX11_tires.cls ≠ "java/lang/invoke/MethodHandle" ∧ yX11_tires.cls ≠ "java/lang/invoke/VarHandle" ∧ (parseMethodDescriptor yX11_tires.desc).map (fun d => d.parameters.length) = some 3 := by decide +kernel
def wd_HM_tires (cA : Nat → ClassId) (q0 q1 q2 q3 q4 q5 q6 q7 q8 q9 q10 q11 q12 q13 q14 q15 q16 q17 q18 q19 q20 q21 q22 q23 q24 q25 q26 q27 q28 q29 q30 q31 : Nat) (u0 u1 u2 u3 u4 u5 u6 u7 u8 u9 u10 u11 u12 u13 u14 u15 u16 : Int) (i_row : Nat → Int) (i_thrown : Int) (i_law : Int) (i_broken : Int) (i_value : Int) (i_sum : Int) (i_set : Nat → Int) (i_rest : Nat → Int) (i_high : Nat → Int) (i_heaps : Nat → Int) : va_W := [(q0, .inr (11, [.int (Int32.ofInt i_thrown), .int (Int32.ofInt u0), .ref q1, .ref q2, .ref q3, .ref q4, .int (Int32.ofInt u1), .ref q5, .int (Int32.ofInt u2), .int (Int32.ofInt u3), .int (Int32.ofInt u4), .int (Int32.ofInt u5), .long (Int64.ofInt u6), .int (Int32.ofInt u7), .int (Int32.ofInt u8), .int (Int32.ofInt u9), .ref q6, .int (Int32.ofInt u10), .ref q7, .ref q8, .int (Int32.ofInt u11), .ref q9, .ref q10, .int (Int32.ofInt u12), .int (Int32.ofInt u13), .ref q11, .int (Int32.ofInt i_law), .ref q12, .ref q13, .int (Int32.ofInt i_broken), .long (Int64.ofInt i_value), .long (Int64.ofInt i_sum), .ref q14, .ref q15, .ref q16, .ref q17, .ref q18, .int (Int32.ofInt u14), .ref q19, .ref q20, .ref q21, .ref q22, .ref q23, .ref q24, .ref q25, .ref q26, .ref q27, .ref q28, .ref q29, .ref q30, .long (Int64.ofInt u15), .ref q31, .int (Int32.ofInt u16)])), (q2, .inl (cA 0, 5580, .inl (za i_row))), (q12, .inl (cA 2, 13, .inr (.inl (zl i_set)))), (q13, .inl (cA 2, 400, .inr (.inl (zl i_rest)))), (q14, .inl (cA 0, 12, .inl (za i_high))), (q15, .inl (cA 0, 120, .inl (za i_heaps)))]
def wf_HM_tires (cA : Nat → ClassId) (q0 q1 q2 q3 q4 q5 q6 q7 q8 q9 q10 q11 q12 q13 q14 q15 q16 q17 q18 q19 q20 q21 q22 q23 q24 q25 q26 q27 q28 q29 q30 q31 : Nat) (u0 u1 u2 u3 u4 u5 u6 u7 u8 u9 u10 u11 u12 u13 u14 u15 u16 : Int) (i_row : Nat → Int) (o : Int × Int × Int × Int × Int × Int × (Nat → Int) × (Nat → Int) × (Nat → Int) × (Nat → Int)) : va_W := wd_HM_tires cA q0 q1 q2 q3 q4 q5 q6 q7 q8 q9 q10 q11 q12 q13 q14 q15 q16 q17 q18 q19 q20 q21 q22 q23 q24 q25 q26 q27 q28 q29 q30 q31 u0 u1 u2 u3 u4 u5 u6 u7 u8 u9 u10 u11 u12 u13 u14 u15 u16 i_row o.2.1 o.2.2.1 o.2.2.2.1 o.2.2.2.2.1 o.2.2.2.2.2.1 o.2.2.2.2.2.2.1 o.2.2.2.2.2.2.2.1 o.2.2.2.2.2.2.2.2.1 o.2.2.2.2.2.2.2.2.2
def f_HM_tires (x1 : Int) (x2 : Int) (x3 : Int) (i_row : Nat → Int) (i_thrown : Int) (i_law : Int) (i_broken : Int) (i_value : Int) (i_sum : Int) (i_set : Nat → Int) (i_rest : Nat → Int) (i_high : Nat → Int) (i_heaps : Nat → Int) : Option (Int × Int × Int × Int × Int × Int × (Nat → Int) × (Nat → Int) × (Nat → Int) × (Nat → Int)) :=
  zd1 (f_HM_are x1 x2 x3 i_row) fun v1 =>
  if zi_w v1 ≠ 0 then
    zd2 (f_HM_load i_row i_high i_heaps) fun a2 a3 =>
    zd7 (f_HM_carrying x1 x2 x3 i_row a2 a3 i_law i_broken i_value i_sum i_set i_rest) fun v4 v5 v6 v7 v8 a9 a10 =>
    some (v4, 0, v5, v6, v7, v8, a9, a10, a2, a3)
  else
    some ((-1), 0, i_law, i_broken, i_value, i_sum, i_set, i_rest, i_high, i_heaps)
set_option maxHeartbeats 4000000 in
set_option maxRecDepth 100000 in
theorem c_HM_tires (l : Launch) (ev : zEv) (dC : Nat → ClassId) (dI : Nat → Nat → Nat) (cA : Nat → ClassId) (q0 q1 q2 q3 q4 q5 q6 q7 q8 q9 q10 q11 q12 q13 q14 q15 q16 q17 q18 q19 q20 q21 q22 q23 q24 q25 q26 q27 q28 q29 q30 q31 : Nat) (u0 u1 u2 u3 u4 u5 u6 u7 u8 u9 u10 u11 u12 u13 u14 u15 u16 : Int) {x1 x2 x3 : Int} {i_row : Nat → Int} {i_thrown : Int} {i_law : Int} {i_broken : Int} {i_value : Int} {i_sum : Int} {i_set : Nat → Int} {i_rest : Nat → Int} {i_high : Nat → Int} {i_heaps : Nat → Int} {out : Int × Int × Int × Int × Int × Int × (Nat → Int) × (Nat → Int) × (Nat → Int) × (Nat → Int)} (hf : f_HM_tires x1 x2 x3 i_row i_thrown i_law i_broken i_value i_sum i_set i_rest i_high i_heaps = some out) : xc_I l ev (dC, dI) vwCl (tyl cA) yX11_tires w_HM_tires rm_HM_tires [.ref q0, .int (Int32.ofInt x1), .int (Int32.ofInt x2), .int (Int32.ofInt x3)] (wd_HM_tires cA q0 q1 q2 q3 q4 q5 q6 q7 q8 q9 q10 q11 q12 q13 q14 q15 q16 q17 q18 q19 q20 q21 q22 q23 q24 q25 q26 q27 q28 q29 q30 q31 u0 u1 u2 u3 u4 u5 u6 u7 u8 u9 u10 u11 u12 u13 u14 u15 u16 i_row i_thrown i_law i_broken i_value i_sum i_set i_rest i_high i_heaps) (wf_HM_tires cA q0 q1 q2 q3 q4 q5 q6 q7 q8 q9 q10 q11 q12 q13 q14 q15 q16 q17 q18 q19 q20 q21 q22 q23 q24 q25 q26 q27 q28 q29 q30 q31 u0 u1 u2 u3 u4 u5 u6 u7 u8 u9 u10 u11 u12 u13 u14 u15 u16 i_row out) out.1 := by
  refine xv_startI (cc := cX11_tires) (maxL := 4) (rt := .int) (by decide +kernel) rfl (Nat.le_of_ble_eq_true rfl) ?_
  intro p e s m args below meth c A Q H ls hx hb hml hts hown hK hA hP hD hS hl hE hret
  have hown : s.vm.findClass "HillSchoolModel" = some m.cls := hown
  have hz : ∀ w ∈ zall, w.before args s = true := fun w h => hts w (List.mem_cons_of_mem _ h)
  have hl : lv_has ls 4 [(0, .ref q0), (1, .int (Int32.ofInt x1)), (2, .int (Int32.ofInt x2)), (3, .int (Int32.ofInt x3))] := hl
  unfold f_HM_tires at hf
  refine lv_aload_n hx hb dX11_tires_0 rfl (lv_at hl 0 rfl) ?_
  refine lv_iconst (v := Int32.ofInt 0) hx hb dX11_tires_1 rfl ?_
  refine va_put (D := (dC, dI)) (ci := 11) (v := .int (Int32.ofInt 0)) (ty := .int) (C := RX11) (T := TX11) (N := 53) hx hb hz zi_X11 tyX11 tyX11_ok nmX11 hown hK hP hD hS 0 rfl rfl 0 (by decide) (hz _ zw_1165) (fun _ h9 => h9) rfl (by decide +kernel) rfl rfl (Nat.le_of_ble_eq_true rfl) dX11_tires_2 (fun H locs hP hD hS => ?_)
  have hP : va_P (dC, dI) vwCl (wd_HM_tires cA q0 q1 q2 q3 q4 q5 q6 q7 q8 q9 q10 q11 q12 q13 q14 q15 q16 q17 q18 q19 q20 q21 q22 q23 q24 q25 q26 q27 q28 q29 q30 q31 u0 u1 u2 u3 u4 u5 u6 u7 u8 u9 u10 u11 u12 u13 u14 u15 u16 i_row 0 i_law i_broken i_value i_sum i_set i_rest i_high i_heaps) H := hP
  have hD : va_D A (wd_HM_tires cA q0 q1 q2 q3 q4 q5 q6 q7 q8 q9 q10 q11 q12 q13 q14 q15 q16 q17 q18 q19 q20 q21 q22 q23 q24 q25 q26 q27 q28 q29 q30 q31 u0 u1 u2 u3 u4 u5 u6 u7 u8 u9 u10 u11 u12 u13 u14 u15 u16 i_row 0 i_law i_broken i_value i_sum i_set i_rest i_high i_heaps) := hD
  refine lv_aload_n hx hb dX11_tires_5 rfl (lv_at hl 0 rfl) ?_
  refine lv_iload_n hx hb dX11_tires_6 rfl (lv_at hl 1 rfl) ?_
  refine lv_iload_n hx hb dX11_tires_7 rfl (lv_at hl 2 rfl) ?_
  refine lv_iload_n hx hb dX11_tires_8 rfl (lv_at hl 3 rfl) ?_
  refine xe_d1 hf (fun v1 hg hf => ?_)
  have hC : ([0, 1] : List Nat).map (fun i => (wd_HM_tires cA q0 q1 q2 q3 q4 q5 q6 q7 q8 q9 q10 q11 q12 q13 q14 q15 q16 q17 q18 q19 q20 q21 q22 q23 q24 q25 q26 q27 q28 q29 q30 q31 u0 u1 u2 u3 u4 u5 u6 u7 u8 u9 u10 u11 u12 u13 u14 u15 u16 i_row 0 i_law i_broken i_value i_sum i_set i_rest i_high i_heaps)[i]?) = (wd_HM_are cA q0 q1 q2 q3 q4 q5 q6 q7 q8 q9 q10 q11 q12 q13 q14 q15 q16 q17 q18 q19 q20 q21 q22 q23 q24 q25 q26 q27 q28 q29 q30 q31 0 u0 u1 u2 u3 u4 u5 u6 u7 u8 u9 u10 u11 u12 u13 i_law i_broken i_value i_sum u14 u15 u16 i_row).map some := rfl
  refine xv_afterI (ws' := (wd_HM_tires cA q0 q1 q2 q3 q4 q5 q6 q7 q8 q9 q10 q11 q12 q13 q14 q15 q16 q17 q18 q19 q20 q21 q22 q23 q24 q25 q26 q27 q28 q29 q30 q31 u0 u1 u2 u3 u4 u5 u6 u7 u8 u9 u10 u11 u12 u13 u14 u15 u16 i_row 0 i_law i_broken i_value i_sum i_set i_rest i_high i_heaps)) (isC := [0, 1]) (ps := [some 0, some 1, none, none, none, none]) (va_runV (As := [.int (Int32.ofInt x1), .int (Int32.ofInt x2), .int (Int32.ofInt x3)]) (rest := []) ⟨hx, hb, hml, hown, hts⟩ (c_HM_are l ev dC dI cA q0 q1 q2 q3 q4 q5 q6 q7 q8 q9 q10 q11 q12 q13 q14 q15 q16 q17 q18 q19 q20 q21 q22 q23 q24 q25 q26 q27 q28 q29 q30 q31 0 u0 u1 u2 u3 u4 u5 u6 u7 u8 u9 u10 u11 u12 u13 i_law i_broken i_value i_sum u14 u15 u16 hg H.size) (cwV 3 hts (zgV zw_1545 zw_1547 zw_65 zw_115 zw_1548) rfl rfl rfl hd_HM_are ⟨Nat.le_of_ble_eq_true rfl, Nat.le_of_ble_eq_true rfl⟩) (xv_preV (T := TX11) (N := 53) hE hA hS hK hP hD (isC := [0, 1]) (by decide +kernel) hC (q0 := 0) (ci := 11) rfl rfl) rfl rfl hl.1 rfl (lv_room (Nat.le_of_ble_eq_true rfl)) dX11_tires_9 ⟨Nat.le_refl _, Nat.le_refl _⟩) hP hD hS hA (by decide +kernel) rfl hC rfl rfl (fun H locs hP hD hS => ?_)
  refine xi_if_ne (tgt := 17) hx hb dX11_tires_12 (by decide) hf (fun hf => ?_) (fun hf => ?_)
  · refine lv_aload_n hx hb dX11_tires_17 rfl (lv_at hl 0 rfl) ?_
    refine xe_d2 hf (fun a2 a3 hg hf => ?_)
    have hC : ([0, 1, 4, 5] : List Nat).map (fun i => (wd_HM_tires cA q0 q1 q2 q3 q4 q5 q6 q7 q8 q9 q10 q11 q12 q13 q14 q15 q16 q17 q18 q19 q20 q21 q22 q23 q24 q25 q26 q27 q28 q29 q30 q31 u0 u1 u2 u3 u4 u5 u6 u7 u8 u9 u10 u11 u12 u13 u14 u15 u16 i_row 0 i_law i_broken i_value i_sum i_set i_rest i_high i_heaps)[i]?) = (wd_HM_load cA q0 q1 q2 q3 q4 q5 q6 q7 q8 q9 q10 q11 q12 q13 q14 q15 q16 q17 q18 q19 q20 q21 q22 q23 q24 q25 q26 q27 q28 q29 q30 q31 0 u0 u1 u2 u3 u4 u5 u6 u7 u8 u9 u10 u11 u12 u13 i_law i_broken i_value i_sum u14 u15 u16 i_row i_high i_heaps).map some := rfl
    refine xv_afterV (ws' := (wd_HM_tires cA q0 q1 q2 q3 q4 q5 q6 q7 q8 q9 q10 q11 q12 q13 q14 q15 q16 q17 q18 q19 q20 q21 q22 q23 q24 q25 q26 q27 q28 q29 q30 q31 u0 u1 u2 u3 u4 u5 u6 u7 u8 u9 u10 u11 u12 u13 u14 u15 u16 i_row 0 i_law i_broken i_value i_sum i_set i_rest a2 a3)) (isC := [0, 1, 4, 5]) (ps := [some 0, some 1, none, none, some 2, some 3]) (va_runV (As := []) (rest := []) ⟨hx, hb, hml, hown, hts⟩ (c_HM_load l ev dC dI cA q0 q1 q2 q3 q4 q5 q6 q7 q8 q9 q10 q11 q12 q13 q14 q15 q16 q17 q18 q19 q20 q21 q22 q23 q24 q25 q26 q27 q28 q29 q30 q31 0 u0 u1 u2 u3 u4 u5 u6 u7 u8 u9 u10 u11 u12 u13 i_law i_broken i_value i_sum u14 u15 u16 hg H.size) (cwV 0 hts (zgV zw_1549 zw_1551 zw_66 zw_115 zw_1552) rfl rfl rfl hd_HM_load ⟨Nat.le_of_ble_eq_true rfl, Nat.le_of_ble_eq_true rfl⟩) (xv_preV (T := TX11) (N := 53) hE hA hS hK hP hD (isC := [0, 1, 4, 5]) (by decide +kernel) hC (q0 := 0) (ci := 11) rfl rfl) rfl rfl hl.1 rfl (lv_room (Nat.le_of_ble_eq_true rfl)) dX11_tires_18 ⟨Nat.le_refl _, Nat.le_refl _⟩) hP hD hS hA (by decide +kernel) rfl hC rfl rfl (fun H locs hP hD hS => ?_)
    refine lv_aload_n hx hb dX11_tires_21 rfl (lv_at hl 0 rfl) ?_
    refine lv_iload_n hx hb dX11_tires_22 rfl (lv_at hl 1 rfl) ?_
    refine lv_iload_n hx hb dX11_tires_23 rfl (lv_at hl 2 rfl) ?_
    refine lv_iload_n hx hb dX11_tires_24 rfl (lv_at hl 3 rfl) ?_
    refine xe_d7 hf (fun v4 v5 v6 v7 v8 a9 a10 hg hf => ?_)
    have hC : ([0, 1, 2, 3, 4, 5] : List Nat).map (fun i => (wd_HM_tires cA q0 q1 q2 q3 q4 q5 q6 q7 q8 q9 q10 q11 q12 q13 q14 q15 q16 q17 q18 q19 q20 q21 q22 q23 q24 q25 q26 q27 q28 q29 q30 q31 u0 u1 u2 u3 u4 u5 u6 u7 u8 u9 u10 u11 u12 u13 u14 u15 u16 i_row 0 i_law i_broken i_value i_sum i_set i_rest a2 a3)[i]?) = (wd_HM_carrying cA q0 q1 q2 q3 q4 q5 q6 q7 q8 q9 q10 q11 q12 q13 q14 q15 q16 q17 q18 q19 q20 q21 q22 q23 q24 q25 q26 q27 q28 q29 q30 q31 0 u0 u1 u2 u3 u4 u5 u6 u7 u8 u9 u10 u11 u12 u13 u14 u15 u16 i_row a2 a3 i_law i_broken i_value i_sum i_set i_rest).map some := rfl
    refine xv_afterI (ws' := (wd_HM_tires cA q0 q1 q2 q3 q4 q5 q6 q7 q8 q9 q10 q11 q12 q13 q14 q15 q16 q17 q18 q19 q20 q21 q22 q23 q24 q25 q26 q27 q28 q29 q30 q31 u0 u1 u2 u3 u4 u5 u6 u7 u8 u9 u10 u11 u12 u13 u14 u15 u16 i_row 0 v5 v6 v7 v8 a9 a10 a2 a3)) (isC := [0, 1, 2, 3, 4, 5]) (ps := [some 0, some 1, some 2, some 3, some 4, some 5]) (va_runV (As := [.int (Int32.ofInt x1), .int (Int32.ofInt x2), .int (Int32.ofInt x3)]) (rest := []) ⟨hx, hb, hml, hown, hts⟩ (c_HM_carrying l ev dC dI cA q0 q1 q2 q3 q4 q5 q6 q7 q8 q9 q10 q11 q12 q13 q14 q15 q16 q17 q18 q19 q20 q21 q22 q23 q24 q25 q26 q27 q28 q29 q30 q31 0 u0 u1 u2 u3 u4 u5 u6 u7 u8 u9 u10 u11 u12 u13 u14 u15 u16 hg H.size) (cwV 3 hts (zgV zw_1553 zw_1555 zw_67 zw_115 zw_1556) rfl rfl rfl hd_HM_carrying ⟨Nat.le_of_ble_eq_true rfl, Nat.le_of_ble_eq_true rfl⟩) (xv_preV (T := TX11) (N := 53) hE hA hS hK hP hD (isC := [0, 1, 2, 3, 4, 5]) (by decide +kernel) hC (q0 := 0) (ci := 11) rfl rfl) rfl rfl hl.1 rfl (lv_room (Nat.le_of_ble_eq_true rfl)) dX11_tires_25 ⟨Nat.le_refl _, Nat.le_refl _⟩) hP hD hS hA (by decide +kernel) rfl hC rfl rfl (fun H locs hP hD hS => ?_)
    obtain rfl := Option.some.inj hf
    exact hret _ _ _ _ rfl dX11_tires_28 hP hD hS
  · refine lv_iconst (v := Int32.ofInt (-1)) hx hb dX11_tires_15 rfl ?_
    obtain rfl := Option.some.inj hf
    exact hret _ _ _ _ rfl dX11_tires_16 hP hD hS
theorem dX11_store_0 : decode cX11_store 0 = .ok (.iconst 0, 1) := by decide +kernel
theorem dX11_store_1 : decode cX11_store 1 = .ok (.istore_n 1, 1) := by decide +kernel
theorem dX11_store_2 : decode cX11_store 2 = .ok (.iload_n 1, 1) := by decide +kernel
theorem dX11_store_3 : decode cX11_store 3 = .ok (.aload_n 0, 1) := by decide +kernel
theorem dX11_store_4 : decode cX11_store 4 = .ok (.invokevirtual 140, 3) := by decide +kernel
theorem dX11_store_7 : decode cX11_store 7 = .ok (.if_icmp .ge 24, 3) := by decide +kernel
theorem dX11_store_10 : decode cX11_store 10 = .ok (.aload_n 0, 1) := by decide +kernel
theorem dX11_store_11 : decode cX11_store 11 = .ok (.getfield 13, 3) := by decide +kernel
theorem dX11_store_14 : decode cX11_store 14 = .ok (.bipush 9, 2) := by decide +kernel
theorem dX11_store_16 : decode cX11_store 16 = .ok (.iload_n 1, 1) := by decide +kernel
theorem dX11_store_17 : decode cX11_store 17 = .ok (.iadd, 1) := by decide +kernel
theorem dX11_store_18 : decode cX11_store 18 = .ok (.aload_n 0, 1) := by decide +kernel
theorem dX11_store_19 : decode cX11_store 19 = .ok (.getfield 71, 3) := by decide +kernel
theorem dX11_store_22 : decode cX11_store 22 = .ok (.iload_n 1, 1) := by decide +kernel
theorem dX11_store_23 : decode cX11_store 23 = .ok (.iaload, 1) := by decide +kernel
theorem dX11_store_24 : decode cX11_store 24 = .ok (.iastore, 1) := by decide +kernel
theorem dX11_store_25 : decode cX11_store 25 = .ok (.iinc 1 1, 3) := by decide +kernel
theorem dX11_store_28 : decode cX11_store 28 = .ok (.goto (-26), 3) := by decide +kernel
theorem dX11_store_31 : decode cX11_store 31 = .ok (.iconst 0, 1) := by decide +kernel
theorem dX11_store_32 : decode cX11_store 32 = .ok (.istore_n 1, 1) := by decide +kernel
theorem dX11_store_33 : decode cX11_store 33 = .ok (.iload_n 1, 1) := by decide +kernel
theorem dX11_store_34 : decode cX11_store 34 = .ok (.bipush 120, 2) := by decide +kernel
theorem dX11_store_36 : decode cX11_store 36 = .ok (.if_icmp .ge 24, 3) := by decide +kernel
theorem dX11_store_39 : decode cX11_store 39 = .ok (.aload_n 0, 1) := by decide +kernel
theorem dX11_store_40 : decode cX11_store 40 = .ok (.getfield 13, 3) := by decide +kernel
theorem dX11_store_43 : decode cX11_store 43 = .ok (.bipush 21, 2) := by decide +kernel
theorem dX11_store_45 : decode cX11_store 45 = .ok (.iload_n 1, 1) := by decide +kernel
theorem dX11_store_46 : decode cX11_store 46 = .ok (.iadd, 1) := by decide +kernel
theorem dX11_store_47 : decode cX11_store 47 = .ok (.aload_n 0, 1) := by decide +kernel
theorem dX11_store_48 : decode cX11_store 48 = .ok (.getfield 74, 3) := by decide +kernel
theorem dX11_store_51 : decode cX11_store 51 = .ok (.iload_n 1, 1) := by decide +kernel
theorem dX11_store_52 : decode cX11_store 52 = .ok (.iaload, 1) := by decide +kernel
theorem dX11_store_53 : decode cX11_store 53 = .ok (.iastore, 1) := by decide +kernel
theorem dX11_store_54 : decode cX11_store 54 = .ok (.iinc 1 1, 3) := by decide +kernel
theorem dX11_store_57 : decode cX11_store 57 = .ok (.goto (-24), 3) := by decide +kernel
theorem dX11_store_60 : decode cX11_store 60 = .ok (.return_, 1) := by decide +kernel
theorem zw_1597 : (Jvm.Cond.code ({ cls := "HillSchoolModel", name := "store", desc := "()V" } : Jvm.MethodName) prog_13_method_61_code (2 : Nat) (Option.none : Option Jvm.ClassFile.FieldType)) ∈ zall := zmemG (zmj_7 54 rfl) rfl
abbrev w_HM_store : List Cond := .code yX11_store cX11_store 2 none :: zall
abbrev rm_HM_store : Room := { frames := 1, cells := 0, slots := 0, locals := 20 }
theorem hd_HM_store : yX11_store.cls = "HillSchoolModel" ∧ yX11_store.cls ≠ "java/lang/invoke/MethodHandle" ∧ yX11_store.cls ≠ "java/lang/invoke/VarHandle" ∧ (parseMethodDescriptor yX11_store.desc).map (fun d => d.parameters.length) = some 0 := by decide +kernel
def wd_HM_store (cA : Nat → ClassId) (q0 q1 q2 q3 q4 q5 q6 q7 q8 q9 q10 q11 q12 q13 q14 q15 q16 q17 q18 q19 q20 q21 q22 q23 q24 q25 q26 q27 q28 q29 q30 q31 : Nat) (u0 u1 u2 u3 u4 u5 u6 u7 u8 u9 u10 u11 u12 u13 u14 u15 u16 u17 u18 u19 u20 u21 : Int) (i_high : Nat → Int) (i_heaps : Nat → Int) (i_row : Nat → Int) : va_W := [(q0, .inr (11, [.int (Int32.ofInt u0), .int (Int32.ofInt u1), .ref q1, .ref q2, .ref q3, .ref q4, .int (Int32.ofInt u2), .ref q5, .int (Int32.ofInt u3), .int (Int32.ofInt u4), .int (Int32.ofInt u5), .int (Int32.ofInt u6), .long (Int64.ofInt u7), .int (Int32.ofInt u8), .int (Int32.ofInt u9), .int (Int32.ofInt u10), .ref q6, .int (Int32.ofInt u11), .ref q7, .ref q8, .int (Int32.ofInt u12), .ref q9, .ref q10, .int (Int32.ofInt u13), .int (Int32.ofInt u14), .ref q11, .int (Int32.ofInt u15), .ref q12, .ref q13, .int (Int32.ofInt u16), .long (Int64.ofInt u17), .long (Int64.ofInt u18), .ref q14, .ref q15, .ref q16, .ref q17, .ref q18, .int (Int32.ofInt u19), .ref q19, .ref q20, .ref q21, .ref q22, .ref q23, .ref q24, .ref q25, .ref q26, .ref q27, .ref q28, .ref q29, .ref q30, .long (Int64.ofInt u20), .ref q31, .int (Int32.ofInt u21)])), (q2, .inl (cA 0, 5580, .inl (za i_row))), (q14, .inl (cA 0, 12, .inl (za i_high))), (q15, .inl (cA 0, 120, .inl (za i_heaps)))]
def wf_HM_store (cA : Nat → ClassId) (q0 q1 q2 q3 q4 q5 q6 q7 q8 q9 q10 q11 q12 q13 q14 q15 q16 q17 q18 q19 q20 q21 q22 q23 q24 q25 q26 q27 q28 q29 q30 q31 : Nat) (u0 u1 u2 u3 u4 u5 u6 u7 u8 u9 u10 u11 u12 u13 u14 u15 u16 u17 u18 u19 u20 u21 : Int) (i_high : Nat → Int) (i_heaps : Nat → Int) (o : (Nat → Int)) : va_W := wd_HM_store cA q0 q1 q2 q3 q4 q5 q6 q7 q8 q9 q10 q11 q12 q13 q14 q15 q16 q17 q18 q19 q20 q21 q22 q23 q24 q25 q26 q27 q28 q29 q30 q31 u0 u1 u2 u3 u4 u5 u6 u7 u8 u9 u10 u11 u12 u13 u14 u15 u16 u17 u18 u19 u20 u21 i_high i_heaps o
def f_HM_store_33_b (i_high : Nat → Int) (i_heaps : Nat → Int) (k33 : Int → (Nat → Int) → Option ((Nat → Int))) (x1 : Int) (i_row : Nat → Int) : Option ((Nat → Int)) :=
  if zi_w 120 ≤ zi_w x1 then
    some i_row
  else
    zn (21 + x1) fun v1 =>
    zg 120 i_heaps x1 fun v2 =>
    zs 5580 i_row v1 v2 fun a3 =>
    zn (x1 + 1) fun v4 =>
    k33 v4 a3
def f_HM_store_33 (i_high : Nat → Int) (i_heaps : Nat → Int) : Nat → Int → (Nat → Int) → Option ((Nat → Int))
  | 0 => fun _ _ => none
  | n + 1 => fun y0 y1 => f_HM_store_33_b i_high i_heaps (f_HM_store_33 i_high i_heaps n) y0 y1
def f_HM_store_2_b (i_high : Nat → Int) (i_heaps : Nat → Int) (k2 : Int → (Nat → Int) → Option ((Nat → Int))) (x1 : Int) (i_row : Nat → Int) : Option ((Nat → Int)) :=
  zd1 (f_HM_columns i_row) fun v1 =>
  if zi_w v1 ≤ zi_w x1 then
    f_HM_store_33 i_high i_heaps zfu 0 i_row
  else
    zn (9 + x1) fun v2 =>
    zg 12 i_high x1 fun v3 =>
    zs 5580 i_row v2 v3 fun a4 =>
    zn (x1 + 1) fun v5 =>
    k2 v5 a4
def f_HM_store_2 (i_high : Nat → Int) (i_heaps : Nat → Int) : Nat → Int → (Nat → Int) → Option ((Nat → Int))
  | 0 => fun _ _ => none
  | n + 1 => fun y0 y1 => f_HM_store_2_b i_high i_heaps (f_HM_store_2 i_high i_heaps n) y0 y1
def f_HM_store (i_high : Nat → Int) (i_heaps : Nat → Int) (i_row : Nat → Int) : Option ((Nat → Int)) :=
  f_HM_store_2 i_high i_heaps zfu 0 i_row
set_option maxHeartbeats 4000000 in
set_option maxRecDepth 100000 in
theorem c_HM_store (l : Launch) (ev : zEv) (dC : Nat → ClassId) (dI : Nat → Nat → Nat) (cA : Nat → ClassId) (q0 q1 q2 q3 q4 q5 q6 q7 q8 q9 q10 q11 q12 q13 q14 q15 q16 q17 q18 q19 q20 q21 q22 q23 q24 q25 q26 q27 q28 q29 q30 q31 : Nat) (u0 u1 u2 u3 u4 u5 u6 u7 u8 u9 u10 u11 u12 u13 u14 u15 u16 u17 u18 u19 u20 u21 : Int) {i_high : Nat → Int} {i_heaps : Nat → Int} {i_row : Nat → Int} {out : (Nat → Int)} (hf : f_HM_store i_high i_heaps i_row = some out) : xc_V l ev (dC, dI) vwCl (tyl cA) yX11_store w_HM_store rm_HM_store [.ref q0] (wd_HM_store cA q0 q1 q2 q3 q4 q5 q6 q7 q8 q9 q10 q11 q12 q13 q14 q15 q16 q17 q18 q19 q20 q21 q22 q23 q24 q25 q26 q27 q28 q29 q30 q31 u0 u1 u2 u3 u4 u5 u6 u7 u8 u9 u10 u11 u12 u13 u14 u15 u16 u17 u18 u19 u20 u21 i_high i_heaps i_row) (wf_HM_store cA q0 q1 q2 q3 q4 q5 q6 q7 q8 q9 q10 q11 q12 q13 q14 q15 q16 q17 q18 q19 q20 q21 q22 q23 q24 q25 q26 q27 q28 q29 q30 q31 u0 u1 u2 u3 u4 u5 u6 u7 u8 u9 u10 u11 u12 u13 u14 u15 u16 u17 u18 u19 u20 u21 i_high i_heaps out) := by
  refine xv_startV (cc := cX11_store) (maxL := 2) (by decide +kernel) rfl (Nat.le_of_ble_eq_true rfl) ?_
  intro p e s m args below meth c A Q H ls hx hb hml hts hown hK hA hP hD hS hl hE hret
  have hown : s.vm.findClass "HillSchoolModel" = some m.cls := hown
  have hz : ∀ w ∈ zall, w.before args s = true := fun w h => hts w (List.mem_cons_of_mem _ h)
  have hl : lv_has ls 2 [(0, .ref q0)] := hl
  have b_33 : ∀ (k33 : Int → (Nat → Int) → Option ((Nat → Int))) (_ : ∀ (x1 : Int) (i_row : Nat → Int) (H : Heap) (locs : List Loc) (ls : Array Slot), k33 x1 i_row = some out → va_P (dC, dI) vwCl (wd_HM_store cA q0 q1 q2 q3 q4 q5 q6 q7 q8 q9 q10 q11 q12 q13 q14 q15 q16 q17 q18 q19 q20 q21 q22 q23 q24 q25 q26 q27 q28 q29 q30 q31 u0 u1 u2 u3 u4 u5 u6 u7 u8 u9 u10 u11 u12 u13 u14 u15 u16 u17 u18 u19 u20 u21 i_high i_heaps i_row) H → va_D A (wd_HM_store cA q0 q1 q2 q3 q4 q5 q6 q7 q8 q9 q10 q11 q12 q13 q14 q15 q16 q17 q18 q19 q20 q21 q22 q23 q24 q25 q26 q27 q28 q29 q30 q31 u0 u1 u2 u3 u4 u5 u6 u7 u8 u9 u10 u11 u12 u13 u14 u15 u16 u17 u18 u19 u20 u21 i_high i_heaps i_row) → va_S A s.heap H locs → lv_has ls 2 [(0, .ref q0), (1, .int (Int32.ofInt x1))] → W p l e rm_HM_store s m args below meth c H locs 0 0 Q (F0 m 33 ls [])), ∀ (x1 : Int) (i_row : Nat → Int) (H : Heap) (locs : List Loc) (ls : Array Slot), f_HM_store_33_b i_high i_heaps k33 x1 i_row = some out → va_P (dC, dI) vwCl (wd_HM_store cA q0 q1 q2 q3 q4 q5 q6 q7 q8 q9 q10 q11 q12 q13 q14 q15 q16 q17 q18 q19 q20 q21 q22 q23 q24 q25 q26 q27 q28 q29 q30 q31 u0 u1 u2 u3 u4 u5 u6 u7 u8 u9 u10 u11 u12 u13 u14 u15 u16 u17 u18 u19 u20 u21 i_high i_heaps i_row) H → va_D A (wd_HM_store cA q0 q1 q2 q3 q4 q5 q6 q7 q8 q9 q10 q11 q12 q13 q14 q15 q16 q17 q18 q19 q20 q21 q22 q23 q24 q25 q26 q27 q28 q29 q30 q31 u0 u1 u2 u3 u4 u5 u6 u7 u8 u9 u10 u11 u12 u13 u14 u15 u16 u17 u18 u19 u20 u21 i_high i_heaps i_row) → va_S A s.heap H locs → lv_has ls 2 [(0, .ref q0), (1, .int (Int32.ofInt x1))] → W p l e rm_HM_store s m args below meth c H locs 0 0 Q (F0 m 33 ls []) := by
    intro k33 ih33 x1 i_row H locs ls hf hP hD hS hl
    unfold f_HM_store_33_b at hf
    refine lv_iload_n hx hb dX11_store_33 rfl (lv_at hl 1 rfl) ?_
    refine lv_bipush (v := Int32.ofInt 120) hx hb dX11_store_34 (by decide) ?_
    refine xi_icmp_ge (tgt := 60) hx hb dX11_store_36 (by decide) hf (fun hf => ?_) (fun hf => ?_)
    · obtain rfl := Option.some.inj hf
      exact hret _ _ _ _ dX11_store_60 hP hD hS
    · refine lv_aload_n hx hb dX11_store_39 rfl (lv_at hl 0 rfl) ?_
      refine va_get (D := (dC, dI)) (ci := 11) (v := .ref q2) (C := RX11) (T := TX11) (N := 53) hx hb hz zi_X11 hown hK hP 0 rfl rfl 3 (by decide) (hz _ zw_1168) (fun _ h9 => h9) rfl dX11_store_40 ?_
      refine lv_bipush (v := Int32.ofInt 21) hx hb dX11_store_43 (by decide) ?_
      refine lv_iload_n hx hb dX11_store_45 rfl (lv_at hl 1 rfl) ?_
      refine xi_iadd hx hb dX11_store_46 hf (fun v1 hf => ?_)
      refine lv_aload_n hx hb dX11_store_47 rfl (lv_at hl 0 rfl) ?_
      refine va_get (D := (dC, dI)) (ci := 11) (v := .ref q15) (C := RX11) (T := TX11) (N := 53) hx hb hz zi_X11 hown hK hP 0 rfl rfl 33 (by decide) (hz _ zw_1198) (fun _ h9 => h9) rfl dX11_store_48 ?_
      refine lv_iload_n hx hb dX11_store_51 rfl (lv_at hl 1 rfl) ?_
      refine xi_iald hx hb hK hP 3 0 rfl rfl dX11_store_52 hf (fun v2 hf => ?_)
      refine xi_iast hx hb hK hP hD hS 1 0 rfl rfl dX11_store_53 hf (fun a3 H locs hP hD hS hf => ?_)
      have hP : va_P (dC, dI) vwCl (wd_HM_store cA q0 q1 q2 q3 q4 q5 q6 q7 q8 q9 q10 q11 q12 q13 q14 q15 q16 q17 q18 q19 q20 q21 q22 q23 q24 q25 q26 q27 q28 q29 q30 q31 u0 u1 u2 u3 u4 u5 u6 u7 u8 u9 u10 u11 u12 u13 u14 u15 u16 u17 u18 u19 u20 u21 i_high i_heaps a3) H := hP
      have hD : va_D A (wd_HM_store cA q0 q1 q2 q3 q4 q5 q6 q7 q8 q9 q10 q11 q12 q13 q14 q15 q16 q17 q18 q19 q20 q21 q22 q23 q24 q25 q26 q27 q28 q29 q30 q31 u0 u1 u2 u3 u4 u5 u6 u7 u8 u9 u10 u11 u12 u13 u14 u15 u16 u17 u18 u19 u20 u21 i_high i_heaps a3) := hD
      refine xi_iinc hx hb dX11_store_54 hl (k := 1) rfl (by decide) hf (fun v4 ls hl hf => ?_)
      have hl : lv_has ls 2 [(1, .int (Int32.ofInt v4)), (0, .ref q0)] := hl
      refine lv_goto (tgt := 33) hx hb dX11_store_57 (by decide) ?_
      exact ih33 _ _ _ _ _ hf hP hD hS (lv_sub hl [1, 0] rfl)
  have l_33 : ∀ (n : Nat), ∀ (x1 : Int) (i_row : Nat → Int) (H : Heap) (locs : List Loc) (ls : Array Slot), f_HM_store_33 i_high i_heaps n x1 i_row = some out → va_P (dC, dI) vwCl (wd_HM_store cA q0 q1 q2 q3 q4 q5 q6 q7 q8 q9 q10 q11 q12 q13 q14 q15 q16 q17 q18 q19 q20 q21 q22 q23 q24 q25 q26 q27 q28 q29 q30 q31 u0 u1 u2 u3 u4 u5 u6 u7 u8 u9 u10 u11 u12 u13 u14 u15 u16 u17 u18 u19 u20 u21 i_high i_heaps i_row) H → va_D A (wd_HM_store cA q0 q1 q2 q3 q4 q5 q6 q7 q8 q9 q10 q11 q12 q13 q14 q15 q16 q17 q18 q19 q20 q21 q22 q23 q24 q25 q26 q27 q28 q29 q30 q31 u0 u1 u2 u3 u4 u5 u6 u7 u8 u9 u10 u11 u12 u13 u14 u15 u16 u17 u18 u19 u20 u21 i_high i_heaps i_row) → va_S A s.heap H locs → lv_has ls 2 [(0, .ref q0), (1, .int (Int32.ofInt x1))] → W p l e rm_HM_store s m args below meth c H locs 0 0 Q (F0 m 33 ls []) := by
    intro n
    induction n with
    | zero => intro x1 i_row H locs ls hf hP hD hS hl; exact nomatch hf
    | succ n ih => intro x1 i_row H locs ls hf hP hD hS hl; exact b_33 (f_HM_store_33 i_high i_heaps n) ih x1 i_row H locs ls hf hP hD hS hl
  have b_2 : ∀ (k2 : Int → (Nat → Int) → Option ((Nat → Int))) (_ : ∀ (x1 : Int) (i_row : Nat → Int) (H : Heap) (locs : List Loc) (ls : Array Slot), k2 x1 i_row = some out → va_P (dC, dI) vwCl (wd_HM_store cA q0 q1 q2 q3 q4 q5 q6 q7 q8 q9 q10 q11 q12 q13 q14 q15 q16 q17 q18 q19 q20 q21 q22 q23 q24 q25 q26 q27 q28 q29 q30 q31 u0 u1 u2 u3 u4 u5 u6 u7 u8 u9 u10 u11 u12 u13 u14 u15 u16 u17 u18 u19 u20 u21 i_high i_heaps i_row) H → va_D A (wd_HM_store cA q0 q1 q2 q3 q4 q5 q6 q7 q8 q9 q10 q11 q12 q13 q14 q15 q16 q17 q18 q19 q20 q21 q22 q23 q24 q25 q26 q27 q28 q29 q30 q31 u0 u1 u2 u3 u4 u5 u6 u7 u8 u9 u10 u11 u12 u13 u14 u15 u16 u17 u18 u19 u20 u21 i_high i_heaps i_row) → va_S A s.heap H locs → lv_has ls 2 [(0, .ref q0), (1, .int (Int32.ofInt x1))] → W p l e rm_HM_store s m args below meth c H locs 0 0 Q (F0 m 2 ls [])), ∀ (x1 : Int) (i_row : Nat → Int) (H : Heap) (locs : List Loc) (ls : Array Slot), f_HM_store_2_b i_high i_heaps k2 x1 i_row = some out → va_P (dC, dI) vwCl (wd_HM_store cA q0 q1 q2 q3 q4 q5 q6 q7 q8 q9 q10 q11 q12 q13 q14 q15 q16 q17 q18 q19 q20 q21 q22 q23 q24 q25 q26 q27 q28 q29 q30 q31 u0 u1 u2 u3 u4 u5 u6 u7 u8 u9 u10 u11 u12 u13 u14 u15 u16 u17 u18 u19 u20 u21 i_high i_heaps i_row) H → va_D A (wd_HM_store cA q0 q1 q2 q3 q4 q5 q6 q7 q8 q9 q10 q11 q12 q13 q14 q15 q16 q17 q18 q19 q20 q21 q22 q23 q24 q25 q26 q27 q28 q29 q30 q31 u0 u1 u2 u3 u4 u5 u6 u7 u8 u9 u10 u11 u12 u13 u14 u15 u16 u17 u18 u19 u20 u21 i_high i_heaps i_row) → va_S A s.heap H locs → lv_has ls 2 [(0, .ref q0), (1, .int (Int32.ofInt x1))] → W p l e rm_HM_store s m args below meth c H locs 0 0 Q (F0 m 2 ls []) := by
    intro k2 ih2 x1 i_row H locs ls hf hP hD hS hl
    unfold f_HM_store_2_b at hf
    refine lv_iload_n hx hb dX11_store_2 rfl (lv_at hl 1 rfl) ?_
    refine lv_aload_n hx hb dX11_store_3 rfl (lv_at hl 0 rfl) ?_
    refine xe_d1 hf (fun v1 hg hf => ?_)
    have hC : ([0, 1] : List Nat).map (fun i => (wd_HM_store cA q0 q1 q2 q3 q4 q5 q6 q7 q8 q9 q10 q11 q12 q13 q14 q15 q16 q17 q18 q19 q20 q21 q22 q23 q24 q25 q26 q27 q28 q29 q30 q31 u0 u1 u2 u3 u4 u5 u6 u7 u8 u9 u10 u11 u12 u13 u14 u15 u16 u17 u18 u19 u20 u21 i_high i_heaps i_row)[i]?) = (wd_HM_columns cA q0 q1 q2 q3 q4 q5 q6 q7 q8 q9 q10 q11 q12 q13 q14 q15 q16 q17 q18 q19 q20 q21 q22 q23 q24 q25 q26 q27 q28 q29 q30 q31 u0 u1 u2 u3 u4 u5 u6 u7 u8 u9 u10 u11 u12 u13 u14 u15 u16 u17 u18 u19 u20 u21 i_row).map some := rfl
    refine xv_afterI (ws' := (wd_HM_store cA q0 q1 q2 q3 q4 q5 q6 q7 q8 q9 q10 q11 q12 q13 q14 q15 q16 q17 q18 q19 q20 q21 q22 q23 q24 q25 q26 q27 q28 q29 q30 q31 u0 u1 u2 u3 u4 u5 u6 u7 u8 u9 u10 u11 u12 u13 u14 u15 u16 u17 u18 u19 u20 u21 i_high i_heaps i_row)) (isC := [0, 1]) (ps := [some 0, some 1, none, none]) (va_runV (As := []) (rest := [.int (Int32.ofInt x1)]) ⟨hx, hb, hml, hown, hts⟩ (c_HM_columns l ev dC dI cA q0 q1 q2 q3 q4 q5 q6 q7 q8 q9 q10 q11 q12 q13 q14 q15 q16 q17 q18 q19 q20 q21 q22 q23 q24 q25 q26 q27 q28 q29 q30 q31 u0 u1 u2 u3 u4 u5 u6 u7 u8 u9 u10 u11 u12 u13 u14 u15 u16 u17 u18 u19 u20 u21 hg H.size) (cwV 0 hts (zgV zw_1344 zw_1346 zw_41 zw_115 zw_1347) rfl rfl rfl hd_HM_columns ⟨Nat.le_of_ble_eq_true rfl, Nat.le_of_ble_eq_true rfl⟩) (xv_preV (T := TX11) (N := 53) hE hA hS hK hP hD (isC := [0, 1]) (by decide +kernel) hC (q0 := 0) (ci := 11) rfl rfl) rfl rfl hl.1 rfl (lv_room (Nat.le_of_ble_eq_true rfl)) dX11_store_4 ⟨Nat.le_refl _, Nat.le_refl _⟩) hP hD hS hA (by decide +kernel) rfl hC rfl rfl (fun H locs hP hD hS => ?_)
    refine xi_icmp_ge (tgt := 31) hx hb dX11_store_7 (by decide) hf (fun hf => ?_) (fun hf => ?_)
    · refine lv_iconst (v := Int32.ofInt 0) hx hb dX11_store_31 rfl ?_
      refine lv_istore_n (lv' := [(1, .int (Int32.ofInt 0)), (0, .ref q0)]) hx hb dX11_store_32 rfl hl (by decide) rfl (fun ls hl => ?_)
      exact l_33  _ _ _ _ _ _ hf hP hD hS (lv_sub hl [1, 0] rfl)
    · refine lv_aload_n hx hb dX11_store_10 rfl (lv_at hl 0 rfl) ?_
      refine va_get (D := (dC, dI)) (ci := 11) (v := .ref q2) (C := RX11) (T := TX11) (N := 53) hx hb hz zi_X11 hown hK hP 0 rfl rfl 3 (by decide) (hz _ zw_1168) (fun _ h9 => h9) rfl dX11_store_11 ?_
      refine lv_bipush (v := Int32.ofInt 9) hx hb dX11_store_14 (by decide) ?_
      refine lv_iload_n hx hb dX11_store_16 rfl (lv_at hl 1 rfl) ?_
      refine xi_iadd hx hb dX11_store_17 hf (fun v2 hf => ?_)
      refine lv_aload_n hx hb dX11_store_18 rfl (lv_at hl 0 rfl) ?_
      refine va_get (D := (dC, dI)) (ci := 11) (v := .ref q14) (C := RX11) (T := TX11) (N := 53) hx hb hz zi_X11 hown hK hP 0 rfl rfl 32 (by decide) (hz _ zw_1197) (fun _ h9 => h9) rfl dX11_store_19 ?_
      refine lv_iload_n hx hb dX11_store_22 rfl (lv_at hl 1 rfl) ?_
      refine xi_iald hx hb hK hP 2 0 rfl rfl dX11_store_23 hf (fun v3 hf => ?_)
      refine xi_iast hx hb hK hP hD hS 1 0 rfl rfl dX11_store_24 hf (fun a4 H locs hP hD hS hf => ?_)
      have hP : va_P (dC, dI) vwCl (wd_HM_store cA q0 q1 q2 q3 q4 q5 q6 q7 q8 q9 q10 q11 q12 q13 q14 q15 q16 q17 q18 q19 q20 q21 q22 q23 q24 q25 q26 q27 q28 q29 q30 q31 u0 u1 u2 u3 u4 u5 u6 u7 u8 u9 u10 u11 u12 u13 u14 u15 u16 u17 u18 u19 u20 u21 i_high i_heaps a4) H := hP
      have hD : va_D A (wd_HM_store cA q0 q1 q2 q3 q4 q5 q6 q7 q8 q9 q10 q11 q12 q13 q14 q15 q16 q17 q18 q19 q20 q21 q22 q23 q24 q25 q26 q27 q28 q29 q30 q31 u0 u1 u2 u3 u4 u5 u6 u7 u8 u9 u10 u11 u12 u13 u14 u15 u16 u17 u18 u19 u20 u21 i_high i_heaps a4) := hD
      refine xi_iinc hx hb dX11_store_25 hl (k := 1) rfl (by decide) hf (fun v5 ls hl hf => ?_)
      have hl : lv_has ls 2 [(1, .int (Int32.ofInt v5)), (0, .ref q0)] := hl
      refine lv_goto (tgt := 2) hx hb dX11_store_28 (by decide) ?_
      exact ih2 _ _ _ _ _ hf hP hD hS (lv_sub hl [1, 0] rfl)
  have l_2 : ∀ (n : Nat), ∀ (x1 : Int) (i_row : Nat → Int) (H : Heap) (locs : List Loc) (ls : Array Slot), f_HM_store_2 i_high i_heaps n x1 i_row = some out → va_P (dC, dI) vwCl (wd_HM_store cA q0 q1 q2 q3 q4 q5 q6 q7 q8 q9 q10 q11 q12 q13 q14 q15 q16 q17 q18 q19 q20 q21 q22 q23 q24 q25 q26 q27 q28 q29 q30 q31 u0 u1 u2 u3 u4 u5 u6 u7 u8 u9 u10 u11 u12 u13 u14 u15 u16 u17 u18 u19 u20 u21 i_high i_heaps i_row) H → va_D A (wd_HM_store cA q0 q1 q2 q3 q4 q5 q6 q7 q8 q9 q10 q11 q12 q13 q14 q15 q16 q17 q18 q19 q20 q21 q22 q23 q24 q25 q26 q27 q28 q29 q30 q31 u0 u1 u2 u3 u4 u5 u6 u7 u8 u9 u10 u11 u12 u13 u14 u15 u16 u17 u18 u19 u20 u21 i_high i_heaps i_row) → va_S A s.heap H locs → lv_has ls 2 [(0, .ref q0), (1, .int (Int32.ofInt x1))] → W p l e rm_HM_store s m args below meth c H locs 0 0 Q (F0 m 2 ls []) := by
    intro n
    induction n with
    | zero => intro x1 i_row H locs ls hf hP hD hS hl; exact nomatch hf
    | succ n ih => intro x1 i_row H locs ls hf hP hD hS hl; exact b_2 (f_HM_store_2 i_high i_heaps n) ih x1 i_row H locs ls hf hP hD hS hl
  unfold f_HM_store at hf
  refine lv_iconst (v := Int32.ofInt 0) hx hb dX11_store_0 rfl ?_
  refine lv_istore_n (lv' := [(1, .int (Int32.ofInt 0)), (0, .ref q0)]) hx hb dX11_store_1 rfl hl (by decide) rfl (fun ls hl => ?_)
  exact l_2  _ _ _ _ _ _ hf hP hD hS (lv_sub hl [1, 0] rfl)
theorem dX11_shift_0 : decode cX11_shift 0 = .ok (.aload_n 0, 1) := by decide +kernel
theorem dX11_shift_1 : decode cX11_shift 1 = .ok (.iload_n 1, 1) := by decide +kernel
theorem dX11_shift_2 : decode cX11_shift 2 = .ok (.invokevirtual 349, 3) := by decide +kernel
theorem dX11_shift_5 : decode cX11_shift 5 = .ok (.istore_n 3, 1) := by decide +kernel
theorem dX11_shift_6 : decode cX11_shift 6 = .ok (.aload_n 0, 1) := by decide +kernel
theorem dX11_shift_7 : decode cX11_shift 7 = .ok (.getfield 71, 3) := by decide +kernel
theorem dX11_shift_10 : decode cX11_shift 10 = .ok (.iload_n 1, 1) := by decide +kernel
theorem dX11_shift_11 : decode cX11_shift 11 = .ok (.dup2, 1) := by decide +kernel
theorem dX11_shift_12 : decode cX11_shift 12 = .ok (.iaload, 1) := by decide +kernel
theorem dX11_shift_13 : decode cX11_shift 13 = .ok (.iconst 1, 1) := by decide +kernel
theorem dX11_shift_14 : decode cX11_shift 14 = .ok (.isub, 1) := by decide +kernel
theorem dX11_shift_15 : decode cX11_shift 15 = .ok (.iastore, 1) := by decide +kernel
theorem dX11_shift_16 : decode cX11_shift 16 = .ok (.aload_n 0, 1) := by decide +kernel
theorem dX11_shift_17 : decode cX11_shift 17 = .ok (.getfield 74, 3) := by decide +kernel
theorem dX11_shift_20 : decode cX11_shift 20 = .ok (.bipush 10, 2) := by decide +kernel
theorem dX11_shift_22 : decode cX11_shift 22 = .ok (.iload_n 2, 1) := by decide +kernel
theorem dX11_shift_23 : decode cX11_shift 23 = .ok (.imul, 1) := by decide +kernel
theorem dX11_shift_24 : decode cX11_shift 24 = .ok (.aload_n 0, 1) := by decide +kernel
theorem dX11_shift_25 : decode cX11_shift 25 = .ok (.getfield 71, 3) := by decide +kernel
theorem dX11_shift_28 : decode cX11_shift 28 = .ok (.iload_n 2, 1) := by decide +kernel
theorem dX11_shift_29 : decode cX11_shift 29 = .ok (.iaload, 1) := by decide +kernel
theorem dX11_shift_30 : decode cX11_shift 30 = .ok (.iadd, 1) := by decide +kernel
theorem dX11_shift_31 : decode cX11_shift 31 = .ok (.iload_n 3, 1) := by decide +kernel
theorem dX11_shift_32 : decode cX11_shift 32 = .ok (.iastore, 1) := by decide +kernel
theorem dX11_shift_33 : decode cX11_shift 33 = .ok (.aload_n 0, 1) := by decide +kernel
theorem dX11_shift_34 : decode cX11_shift 34 = .ok (.getfield 71, 3) := by decide +kernel
theorem dX11_shift_37 : decode cX11_shift 37 = .ok (.iload_n 2, 1) := by decide +kernel
theorem dX11_shift_38 : decode cX11_shift 38 = .ok (.dup2, 1) := by decide +kernel
theorem dX11_shift_39 : decode cX11_shift 39 = .ok (.iaload, 1) := by decide +kernel
theorem dX11_shift_40 : decode cX11_shift 40 = .ok (.iconst 1, 1) := by decide +kernel
theorem dX11_shift_41 : decode cX11_shift 41 = .ok (.iadd, 1) := by decide +kernel
theorem dX11_shift_42 : decode cX11_shift 42 = .ok (.iastore, 1) := by decide +kernel
theorem dX11_shift_43 : decode cX11_shift 43 = .ok (.return_, 1) := by decide +kernel
theorem zw_1593 : (Jvm.Cond.code ({ cls := "HillSchoolModel", name := "shift", desc := "(II)V" } : Jvm.MethodName) prog_13_method_64_code (4 : Nat) (Option.none : Option Jvm.ClassFile.FieldType)) ∈ zall := zmemG (zmj_7 50 rfl) rfl
abbrev w_HM_shift : List Cond := .code yX11_shift cX11_shift 4 none :: zall
abbrev rm_HM_shift : Room := { frames := 1, cells := 0, slots := 0, locals := 21 }
theorem hd_HM_shift : yX11_shift.cls = "HillSchoolModel" ∧ yX11_shift.cls ≠ "java/lang/invoke/MethodHandle" ∧ yX11_shift.cls ≠ "java/lang/invoke/VarHandle" ∧ (parseMethodDescriptor yX11_shift.desc).map (fun d => d.parameters.length) = some 2 := by decide +kernel
def wd_HM_shift (cA : Nat → ClassId) (q0 q1 q2 q3 q4 q5 q6 q7 q8 q9 q10 q11 q12 q13 q14 q15 q16 q17 q18 q19 q20 q21 q22 q23 q24 q25 q26 q27 q28 q29 q30 q31 : Nat) (u0 u1 u2 u3 u4 u5 u6 u7 u8 u9 u10 u11 u12 u13 u14 u15 u16 u17 u18 u19 u20 u21 : Int)  (i_high : Nat → Int) (i_heaps : Nat → Int) : va_W := [(q0, .inr (11, [.int (Int32.ofInt u0), .int (Int32.ofInt u1), .ref q1, .ref q2, .ref q3, .ref q4, .int (Int32.ofInt u2), .ref q5, .int (Int32.ofInt u3), .int (Int32.ofInt u4), .int (Int32.ofInt u5), .int (Int32.ofInt u6), .long (Int64.ofInt u7), .int (Int32.ofInt u8), .int (Int32.ofInt u9), .int (Int32.ofInt u10), .ref q6, .int (Int32.ofInt u11), .ref q7, .ref q8, .int (Int32.ofInt u12), .ref q9, .ref q10, .int (Int32.ofInt u13), .int (Int32.ofInt u14), .ref q11, .int (Int32.ofInt u15), .ref q12, .ref q13, .int (Int32.ofInt u16), .long (Int64.ofInt u17), .long (Int64.ofInt u18), .ref q14, .ref q15, .ref q16, .ref q17, .ref q18, .int (Int32.ofInt u19), .ref q19, .ref q20, .ref q21, .ref q22, .ref q23, .ref q24, .ref q25, .ref q26, .ref q27, .ref q28, .ref q29, .ref q30, .long (Int64.ofInt u20), .ref q31, .int (Int32.ofInt u21)])), (q14, .inl (cA 0, 12, .inl (za i_high))), (q15, .inl (cA 0, 120, .inl (za i_heaps)))]
def wf_HM_shift (cA : Nat → ClassId) (q0 q1 q2 q3 q4 q5 q6 q7 q8 q9 q10 q11 q12 q13 q14 q15 q16 q17 q18 q19 q20 q21 q22 q23 q24 q25 q26 q27 q28 q29 q30 q31 : Nat) (u0 u1 u2 u3 u4 u5 u6 u7 u8 u9 u10 u11 u12 u13 u14 u15 u16 u17 u18 u19 u20 u21 : Int)  (o : (Nat → Int) × (Nat → Int)) : va_W := wd_HM_shift cA q0 q1 q2 q3 q4 q5 q6 q7 q8 q9 q10 q11 q12 q13 q14 q15 q16 q17 q18 q19 q20 q21 q22 q23 q24 q25 q26 q27 q28 q29 q30 q31 u0 u1 u2 u3 u4 u5 u6 u7 u8 u9 u10 u11 u12 u13 u14 u15 u16 u17 u18 u19 u20 u21 o.1 o.2
def f_HM_shift (x1 : Int) (x2 : Int) (i_high : Nat → Int) (i_heaps : Nat → Int) : Option ((Nat → Int) × (Nat → Int)) :=
  zd1 (f_HM_top x1 i_high i_heaps) fun v1 =>
  zg 12 i_high x1 fun v2 =>
  zn (v2 - 1) fun v3 =>
  zs 12 i_high x1 v3 fun a4 =>
  zn (10 * x2) fun v5 =>
  zg 12 a4 x2 fun v6 =>
  zn (v5 + v6) fun v7 =>
  zs 120 i_heaps v7 v1 fun a8 =>
  zg 12 a4 x2 fun v9 =>
  zn (v9 + 1) fun v10 =>
  zs 12 a4 x2 v10 fun a11 =>
  some (a11, a8)
set_option maxHeartbeats 4000000 in
set_option maxRecDepth 100000 in
theorem c_HM_shift (l : Launch) (ev : zEv) (dC : Nat → ClassId) (dI : Nat → Nat → Nat) (cA : Nat → ClassId) (q0 q1 q2 q3 q4 q5 q6 q7 q8 q9 q10 q11 q12 q13 q14 q15 q16 q17 q18 q19 q20 q21 q22 q23 q24 q25 q26 q27 q28 q29 q30 q31 : Nat) (u0 u1 u2 u3 u4 u5 u6 u7 u8 u9 u10 u11 u12 u13 u14 u15 u16 u17 u18 u19 u20 u21 : Int) {x1 x2 : Int} {i_high : Nat → Int} {i_heaps : Nat → Int} {out : (Nat → Int) × (Nat → Int)} (hf : f_HM_shift x1 x2 i_high i_heaps = some out) : xc_V l ev (dC, dI) vwCl (tyl cA) yX11_shift w_HM_shift rm_HM_shift [.ref q0, .int (Int32.ofInt x1), .int (Int32.ofInt x2)] (wd_HM_shift cA q0 q1 q2 q3 q4 q5 q6 q7 q8 q9 q10 q11 q12 q13 q14 q15 q16 q17 q18 q19 q20 q21 q22 q23 q24 q25 q26 q27 q28 q29 q30 q31 u0 u1 u2 u3 u4 u5 u6 u7 u8 u9 u10 u11 u12 u13 u14 u15 u16 u17 u18 u19 u20 u21 i_high i_heaps) (wf_HM_shift cA q0 q1 q2 q3 q4 q5 q6 q7 q8 q9 q10 q11 q12 q13 q14 q15 q16 q17 q18 q19 q20 q21 q22 q23 q24 q25 q26 q27 q28 q29 q30 q31 u0 u1 u2 u3 u4 u5 u6 u7 u8 u9 u10 u11 u12 u13 u14 u15 u16 u17 u18 u19 u20 u21 out) := by
  refine xv_startV (cc := cX11_shift) (maxL := 4) (by decide +kernel) rfl (Nat.le_of_ble_eq_true rfl) ?_
  intro p e s m args below meth c A Q H ls hx hb hml hts hown hK hA hP hD hS hl hE hret
  have hown : s.vm.findClass "HillSchoolModel" = some m.cls := hown
  have hz : ∀ w ∈ zall, w.before args s = true := fun w h => hts w (List.mem_cons_of_mem _ h)
  have hl : lv_has ls 4 [(0, .ref q0), (1, .int (Int32.ofInt x1)), (2, .int (Int32.ofInt x2))] := hl
  unfold f_HM_shift at hf
  refine lv_aload_n hx hb dX11_shift_0 rfl (lv_at hl 0 rfl) ?_
  refine lv_iload_n hx hb dX11_shift_1 rfl (lv_at hl 1 rfl) ?_
  refine xe_d1 hf (fun v1 hg hf => ?_)
  have hC : ([0, 1, 2] : List Nat).map (fun i => (wd_HM_shift cA q0 q1 q2 q3 q4 q5 q6 q7 q8 q9 q10 q11 q12 q13 q14 q15 q16 q17 q18 q19 q20 q21 q22 q23 q24 q25 q26 q27 q28 q29 q30 q31 u0 u1 u2 u3 u4 u5 u6 u7 u8 u9 u10 u11 u12 u13 u14 u15 u16 u17 u18 u19 u20 u21 i_high i_heaps)[i]?) = (wd_HM_top cA q0 q1 q2 q3 q4 q5 q6 q7 q8 q9 q10 q11 q12 q13 q14 q15 q16 q17 q18 q19 q20 q21 q22 q23 q24 q25 q26 q27 q28 q29 q30 q31 u0 u1 u2 u3 u4 u5 u6 u7 u8 u9 u10 u11 u12 u13 u14 u15 u16 u17 u18 u19 u20 u21 i_high i_heaps).map some := rfl
  refine xv_afterI (ws' := (wd_HM_shift cA q0 q1 q2 q3 q4 q5 q6 q7 q8 q9 q10 q11 q12 q13 q14 q15 q16 q17 q18 q19 q20 q21 q22 q23 q24 q25 q26 q27 q28 q29 q30 q31 u0 u1 u2 u3 u4 u5 u6 u7 u8 u9 u10 u11 u12 u13 u14 u15 u16 u17 u18 u19 u20 u21 i_high i_heaps)) (isC := [0, 1, 2]) (ps := [some 0, some 1, some 2]) (va_runV (As := [.int (Int32.ofInt x1)]) (rest := []) ⟨hx, hb, hml, hown, hts⟩ (c_HM_top l ev dC dI cA q0 q1 q2 q3 q4 q5 q6 q7 q8 q9 q10 q11 q12 q13 q14 q15 q16 q17 q18 q19 q20 q21 q22 q23 q24 q25 q26 q27 q28 q29 q30 q31 u0 u1 u2 u3 u4 u5 u6 u7 u8 u9 u10 u11 u12 u13 u14 u15 u16 u17 u18 u19 u20 u21 hg H.size) (cwV 1 hts (zgV zw_1557 zw_1559 zw_68 zw_115 zw_1560) rfl rfl rfl hd_HM_top ⟨Nat.le_of_ble_eq_true rfl, Nat.le_of_ble_eq_true rfl⟩) (xv_preV (T := TX11) (N := 53) hE hA hS hK hP hD (isC := [0, 1, 2]) (by decide +kernel) hC (q0 := 0) (ci := 11) rfl rfl) rfl rfl hl.1 rfl (lv_room (Nat.le_of_ble_eq_true rfl)) dX11_shift_2 ⟨Nat.le_refl _, Nat.le_refl _⟩) hP hD hS hA (by decide +kernel) rfl hC rfl rfl (fun H locs hP hD hS => ?_)
  refine lv_istore_n (lv' := [(3, .int (Int32.ofInt v1)), (0, .ref q0), (1, .int (Int32.ofInt x1)), (2, .int (Int32.ofInt x2))]) hx hb dX11_shift_5 rfl hl (by decide) rfl (fun ls hl => ?_)
  refine lv_aload_n hx hb dX11_shift_6 rfl (lv_at hl 1 rfl) ?_
  refine va_get (D := (dC, dI)) (ci := 11) (v := .ref q14) (C := RX11) (T := TX11) (N := 53) hx hb hz zi_X11 hown hK hP 0 rfl rfl 32 (by decide) (hz _ zw_1197) (fun _ h9 => h9) rfl dX11_shift_7 ?_
  refine lv_iload_n hx hb dX11_shift_10 rfl (lv_at hl 2 rfl) ?_
  refine lv_dup2_11 hx hb dX11_shift_11 rfl rfl ?_
  refine xi_iald hx hb hK hP 1 0 rfl rfl dX11_shift_12 hf (fun v2 hf => ?_)
  refine lv_iconst (v := Int32.ofInt 1) hx hb dX11_shift_13 rfl ?_
  refine xi_isub hx hb dX11_shift_14 hf (fun v3 hf => ?_)
  refine xi_iast hx hb hK hP hD hS 1 0 rfl rfl dX11_shift_15 hf (fun a4 H locs hP hD hS hf => ?_)
  have hP : va_P (dC, dI) vwCl (wd_HM_shift cA q0 q1 q2 q3 q4 q5 q6 q7 q8 q9 q10 q11 q12 q13 q14 q15 q16 q17 q18 q19 q20 q21 q22 q23 q24 q25 q26 q27 q28 q29 q30 q31 u0 u1 u2 u3 u4 u5 u6 u7 u8 u9 u10 u11 u12 u13 u14 u15 u16 u17 u18 u19 u20 u21 a4 i_heaps) H := hP
  have hD : va_D A (wd_HM_shift cA q0 q1 q2 q3 q4 q5 q6 q7 q8 q9 q10 q11 q12 q13 q14 q15 q16 q17 q18 q19 q20 q21 q22 q23 q24 q25 q26 q27 q28 q29 q30 q31 u0 u1 u2 u3 u4 u5 u6 u7 u8 u9 u10 u11 u12 u13 u14 u15 u16 u17 u18 u19 u20 u21 a4 i_heaps) := hD
  refine lv_aload_n hx hb dX11_shift_16 rfl (lv_at hl 1 rfl) ?_
  refine va_get (D := (dC, dI)) (ci := 11) (v := .ref q15) (C := RX11) (T := TX11) (N := 53) hx hb hz zi_X11 hown hK hP 0 rfl rfl 33 (by decide) (hz _ zw_1198) (fun _ h9 => h9) rfl dX11_shift_17 ?_
  refine lv_bipush (v := Int32.ofInt 10) hx hb dX11_shift_20 (by decide) ?_
  refine lv_iload_n hx hb dX11_shift_22 rfl (lv_at hl 3 rfl) ?_
  refine xi_imul hx hb dX11_shift_23 hf (fun v5 hf => ?_)
  refine lv_aload_n hx hb dX11_shift_24 rfl (lv_at hl 1 rfl) ?_
  refine va_get (D := (dC, dI)) (ci := 11) (v := .ref q14) (C := RX11) (T := TX11) (N := 53) hx hb hz zi_X11 hown hK hP 0 rfl rfl 32 (by decide) (hz _ zw_1197) (fun _ h9 => h9) rfl dX11_shift_25 ?_
  refine lv_iload_n hx hb dX11_shift_28 rfl (lv_at hl 3 rfl) ?_
  refine xi_iald hx hb hK hP 1 0 rfl rfl dX11_shift_29 hf (fun v6 hf => ?_)
  refine xi_iadd hx hb dX11_shift_30 hf (fun v7 hf => ?_)
  refine lv_iload_n hx hb dX11_shift_31 rfl (lv_at hl 0 rfl) ?_
  refine xi_iast hx hb hK hP hD hS 2 0 rfl rfl dX11_shift_32 hf (fun a8 H locs hP hD hS hf => ?_)
  have hP : va_P (dC, dI) vwCl (wd_HM_shift cA q0 q1 q2 q3 q4 q5 q6 q7 q8 q9 q10 q11 q12 q13 q14 q15 q16 q17 q18 q19 q20 q21 q22 q23 q24 q25 q26 q27 q28 q29 q30 q31 u0 u1 u2 u3 u4 u5 u6 u7 u8 u9 u10 u11 u12 u13 u14 u15 u16 u17 u18 u19 u20 u21 a4 a8) H := hP
  have hD : va_D A (wd_HM_shift cA q0 q1 q2 q3 q4 q5 q6 q7 q8 q9 q10 q11 q12 q13 q14 q15 q16 q17 q18 q19 q20 q21 q22 q23 q24 q25 q26 q27 q28 q29 q30 q31 u0 u1 u2 u3 u4 u5 u6 u7 u8 u9 u10 u11 u12 u13 u14 u15 u16 u17 u18 u19 u20 u21 a4 a8) := hD
  refine lv_aload_n hx hb dX11_shift_33 rfl (lv_at hl 1 rfl) ?_
  refine va_get (D := (dC, dI)) (ci := 11) (v := .ref q14) (C := RX11) (T := TX11) (N := 53) hx hb hz zi_X11 hown hK hP 0 rfl rfl 32 (by decide) (hz _ zw_1197) (fun _ h9 => h9) rfl dX11_shift_34 ?_
  refine lv_iload_n hx hb dX11_shift_37 rfl (lv_at hl 3 rfl) ?_
  refine lv_dup2_11 hx hb dX11_shift_38 rfl rfl ?_
  refine xi_iald hx hb hK hP 1 0 rfl rfl dX11_shift_39 hf (fun v9 hf => ?_)
  refine lv_iconst (v := Int32.ofInt 1) hx hb dX11_shift_40 rfl ?_
  refine xi_iadd hx hb dX11_shift_41 hf (fun v10 hf => ?_)
  refine xi_iast hx hb hK hP hD hS 1 0 rfl rfl dX11_shift_42 hf (fun a11 H locs hP hD hS hf => ?_)
  have hP : va_P (dC, dI) vwCl (wd_HM_shift cA q0 q1 q2 q3 q4 q5 q6 q7 q8 q9 q10 q11 q12 q13 q14 q15 q16 q17 q18 q19 q20 q21 q22 q23 q24 q25 q26 q27 q28 q29 q30 q31 u0 u1 u2 u3 u4 u5 u6 u7 u8 u9 u10 u11 u12 u13 u14 u15 u16 u17 u18 u19 u20 u21 a11 a8) H := hP
  have hD : va_D A (wd_HM_shift cA q0 q1 q2 q3 q4 q5 q6 q7 q8 q9 q10 q11 q12 q13 q14 q15 q16 q17 q18 q19 q20 q21 q22 q23 q24 q25 q26 q27 q28 q29 q30 q31 u0 u1 u2 u3 u4 u5 u6 u7 u8 u9 u10 u11 u12 u13 u14 u15 u16 u17 u18 u19 u20 u21 a11 a8) := hD
  obtain rfl := Option.some.inj hf
  exact hret _ _ _ _ dX11_shift_43 hP hD hS
theorem dX11_carry_0 : decode cX11_carry 0 = .ok (.aload_n 0, 1) := by decide +kernel
theorem dX11_carry_1 : decode cX11_carry 1 = .ok (.iconst 0, 1) := by decide +kernel
theorem dX11_carry_2 : decode cX11_carry 2 = .ok (.putfield 126, 3) := by decide +kernel
theorem dX11_carry_5 : decode cX11_carry 5 = .ok (.aload_n 0, 1) := by decide +kernel
theorem dX11_carry_6 : decode cX11_carry 6 = .ok (.iload_n 1, 1) := by decide +kernel
theorem dX11_carry_7 : decode cX11_carry 7 = .ok (.iload_n 2, 1) := by decide +kernel
theorem dX11_carry_8 : decode cX11_carry 8 = .ok (.iload_n 3, 1) := by decide +kernel
theorem dX11_carry_9 : decode cX11_carry 9 = .ok (.invokevirtual 356, 3) := by decide +kernel
theorem dX11_carry_12 : decode cX11_carry 12 = .ok (.ifCond .ne 10, 3) := by decide +kernel
theorem dX11_carry_15 : decode cX11_carry 15 = .ok (.aload_n 0, 1) := by decide +kernel
theorem dX11_carry_16 : decode cX11_carry 16 = .ok (.bipush (-2), 2) := by decide +kernel
theorem dX11_carry_18 : decode cX11_carry 18 = .ok (.invokevirtual 136, 3) := by decide +kernel
theorem dX11_carry_21 : decode cX11_carry 21 = .ok (.ireturn, 1) := by decide +kernel
theorem dX11_carry_22 : decode cX11_carry 22 = .ok (.aload_n 0, 1) := by decide +kernel
theorem dX11_carry_23 : decode cX11_carry 23 = .ok (.invokevirtual 360, 3) := by decide +kernel
theorem dX11_carry_26 : decode cX11_carry 26 = .ok (.aload_n 0, 1) := by decide +kernel
theorem dX11_carry_27 : decode cX11_carry 27 = .ok (.iload_n 1, 1) := by decide +kernel
theorem dX11_carry_28 : decode cX11_carry 28 = .ok (.iload_n 2, 1) := by decide +kernel
theorem dX11_carry_29 : decode cX11_carry 29 = .ok (.iload_n 3, 1) := by decide +kernel
theorem dX11_carry_30 : decode cX11_carry 30 = .ok (.invokevirtual 363, 3) := by decide +kernel
theorem dX11_carry_33 : decode cX11_carry 33 = .ok (.iconst (-1), 1) := by decide +kernel
theorem dX11_carry_34 : decode cX11_carry 34 = .ok (.if_icmp .ne 10, 3) := by decide +kernel
theorem dX11_carry_37 : decode cX11_carry 37 = .ok (.aload_n 0, 1) := by decide +kernel
theorem dX11_carry_38 : decode cX11_carry 38 = .ok (.bipush (-3), 2) := by decide +kernel
theorem dX11_carry_40 : decode cX11_carry 40 = .ok (.invokevirtual 136, 3) := by decide +kernel
theorem dX11_carry_43 : decode cX11_carry 43 = .ok (.ireturn, 1) := by decide +kernel
theorem dX11_carry_44 : decode cX11_carry 44 = .ok (.aload_n 0, 1) := by decide +kernel
theorem dX11_carry_45 : decode cX11_carry 45 = .ok (.iload_n 2, 1) := by decide +kernel
theorem dX11_carry_46 : decode cX11_carry 46 = .ok (.invokevirtual 349, 3) := by decide +kernel
theorem dX11_carry_49 : decode cX11_carry 49 = .ok (.istore 4, 2) := by decide +kernel
theorem dX11_carry_51 : decode cX11_carry 51 = .ok (.aload_n 0, 1) := by decide +kernel
theorem dX11_carry_52 : decode cX11_carry 52 = .ok (.iload_n 2, 1) := by decide +kernel
theorem dX11_carry_53 : decode cX11_carry 53 = .ok (.iload_n 3, 1) := by decide +kernel
theorem dX11_carry_54 : decode cX11_carry 54 = .ok (.invokevirtual 367, 3) := by decide +kernel
theorem dX11_carry_57 : decode cX11_carry 57 = .ok (.aload_n 0, 1) := by decide +kernel
theorem dX11_carry_58 : decode cX11_carry 58 = .ok (.invokevirtual 370, 3) := by decide +kernel
theorem dX11_carry_61 : decode cX11_carry 61 = .ok (.aload_n 0, 1) := by decide +kernel
theorem dX11_carry_62 : decode cX11_carry 62 = .ok (.iload 4, 2) := by decide +kernel
theorem dX11_carry_64 : decode cX11_carry 64 = .ok (.invokevirtual 136, 3) := by decide +kernel
theorem dX11_carry_67 : decode cX11_carry 67 = .ok (.ireturn, 1) := by decide +kernel
theorem zw_73 : (Jvm.Cond.selects "HillSchoolModel" ({ cls := "HillSchoolModel", name := "shift", desc := "(II)V" } : Jvm.MethodName) ({ cls := "HillSchoolModel", name := "shift", desc := "(II)V" } : Jvm.MethodName)) ∈ zall := zmemG (zmj_0 73 rfl) rfl
theorem zw_74 : (Jvm.Cond.selects "HillSchoolModel" ({ cls := "HillSchoolModel", name := "store", desc := "()V" } : Jvm.MethodName) ({ cls := "HillSchoolModel", name := "store", desc := "()V" } : Jvm.MethodName)) ∈ zall := zmemG (zmj_0 74 rfl) rfl
theorem zw_1589 : (Jvm.Cond.code ({ cls := "HillSchoolModel", name := "carry", desc := "(III)I" } : Jvm.MethodName) prog_13_method_68_code (5 : Nat) (Option.some Jvm.ClassFile.FieldType.int)) ∈ zall := zmemG (zmj_7 46 rfl) rfl
theorem zw_1590 : (Jvm.Cond.methodLink "HillSchoolModel" (367 : Nat) ({ cls := "HillSchoolModel", name := "shift", desc := "(II)V" } : Jvm.MethodName)) ∈ zall := zmemG (zmj_7 47 rfl) rfl
theorem zw_1592 : (Jvm.Cond.instanceMethod ({ cls := "HillSchoolModel", name := "shift", desc := "(II)V" } : Jvm.MethodName)) ∈ zall := zmemG (zmj_7 49 rfl) rfl
theorem zw_1594 : (Jvm.Cond.methodLink "HillSchoolModel" (370 : Nat) ({ cls := "HillSchoolModel", name := "store", desc := "()V" } : Jvm.MethodName)) ∈ zall := zmemG (zmj_7 51 rfl) rfl
theorem zw_1596 : (Jvm.Cond.instanceMethod ({ cls := "HillSchoolModel", name := "store", desc := "()V" } : Jvm.MethodName)) ∈ zall := zmemG (zmj_7 53 rfl) rfl
abbrev w_HM_carry : List Cond := .code yX11_carry cX11_carry 5 (some .int) :: zall
abbrev rm_HM_carry : Room := { frames := 5, cells := 0, slots := 0, locals := 126 }
theorem hd_HM_carry : yX11_carry.cls = "HillSchoolModel" ∧ yX11_carry.cls ≠ "java/lang/invoke/MethodHandle" ∧ yX11_carry.cls ≠ "java/lang/invoke/VarHandle" ∧ (parseMethodDescriptor yX11_carry.desc).map (fun d => d.parameters.length) = some 3 := by decide +kernel
def wd_HM_carry (cA : Nat → ClassId) (q0 q1 q2 q3 q4 q5 q6 q7 q8 q9 q10 q11 q12 q13 q14 q15 q16 q17 q18 q19 q20 q21 q22 q23 q24 q25 q26 q27 q28 q29 q30 q31 : Nat) (u0 u1 u2 u3 u4 u5 u6 u7 u8 u9 u10 u11 u12 u13 u14 u15 : Int)  (i_thrown : Int) (i_status : Int) (i_law : Int) (i_broken : Int) (i_value : Int) (i_sum : Int) (i_refusals : Nat → Int) (i_row : Nat → Int) (i_set : Nat → Int) (i_rest : Nat → Int) (i_high : Nat → Int) (i_heaps : Nat → Int) : va_W := [(q0, .inr (11, [.int (Int32.ofInt i_thrown), .int (Int32.ofInt i_status), .ref q1, .ref q2, .ref q3, .ref q4, .int (Int32.ofInt u0), .ref q5, .int (Int32.ofInt u1), .int (Int32.ofInt u2), .int (Int32.ofInt u3), .int (Int32.ofInt u4), .long (Int64.ofInt u5), .int (Int32.ofInt u6), .int (Int32.ofInt u7), .int (Int32.ofInt u8), .ref q6, .int (Int32.ofInt u9), .ref q7, .ref q8, .int (Int32.ofInt u10), .ref q9, .ref q10, .int (Int32.ofInt u11), .int (Int32.ofInt u12), .ref q11, .int (Int32.ofInt i_law), .ref q12, .ref q13, .int (Int32.ofInt i_broken), .long (Int64.ofInt i_value), .long (Int64.ofInt i_sum), .ref q14, .ref q15, .ref q16, .ref q17, .ref q18, .int (Int32.ofInt u13), .ref q19, .ref q20, .ref q21, .ref q22, .ref q23, .ref q24, .ref q25, .ref q26, .ref q27, .ref q28, .ref q29, .ref q30, .long (Int64.ofInt u14), .ref q31, .int (Int32.ofInt u15)])), (q1, .inl (cA 0, 7, .inl (za i_refusals))), (q2, .inl (cA 0, 5580, .inl (za i_row))), (q12, .inl (cA 2, 13, .inr (.inl (zl i_set)))), (q13, .inl (cA 2, 400, .inr (.inl (zl i_rest)))), (q14, .inl (cA 0, 12, .inl (za i_high))), (q15, .inl (cA 0, 120, .inl (za i_heaps)))]
def wf_HM_carry (cA : Nat → ClassId) (q0 q1 q2 q3 q4 q5 q6 q7 q8 q9 q10 q11 q12 q13 q14 q15 q16 q17 q18 q19 q20 q21 q22 q23 q24 q25 q26 q27 q28 q29 q30 q31 : Nat) (u0 u1 u2 u3 u4 u5 u6 u7 u8 u9 u10 u11 u12 u13 u14 u15 : Int)  (o : Int × Int × Int × Int × Int × Int × Int × (Nat → Int) × (Nat → Int) × (Nat → Int) × (Nat → Int) × (Nat → Int) × (Nat → Int)) : va_W := wd_HM_carry cA q0 q1 q2 q3 q4 q5 q6 q7 q8 q9 q10 q11 q12 q13 q14 q15 q16 q17 q18 q19 q20 q21 q22 q23 q24 q25 q26 q27 q28 q29 q30 q31 u0 u1 u2 u3 u4 u5 u6 u7 u8 u9 u10 u11 u12 u13 u14 u15 o.2.1 o.2.2.1 o.2.2.2.1 o.2.2.2.2.1 o.2.2.2.2.2.1 o.2.2.2.2.2.2.1 o.2.2.2.2.2.2.2.1 o.2.2.2.2.2.2.2.2.1 o.2.2.2.2.2.2.2.2.2.1 o.2.2.2.2.2.2.2.2.2.2.1 o.2.2.2.2.2.2.2.2.2.2.2.1 o.2.2.2.2.2.2.2.2.2.2.2.2
def f_HM_carry (x1 : Int) (x2 : Int) (x3 : Int) (i_thrown : Int) (i_status : Int) (i_law : Int) (i_broken : Int) (i_value : Int) (i_sum : Int) (i_refusals : Nat → Int) (i_row : Nat → Int) (i_set : Nat → Int) (i_rest : Nat → Int) (i_high : Nat → Int) (i_heaps : Nat → Int) : Option (Int × Int × Int × Int × Int × Int × Int × (Nat → Int) × (Nat → Int) × (Nat → Int) × (Nat → Int) × (Nat → Int) × (Nat → Int)) :=
  zd1 (f_HM_are x1 x2 x3 i_row) fun v1 =>
  if zi_w v1 ≠ 0 then
    zd2 (f_HM_load i_row i_high i_heaps) fun a2 a3 =>
    zd7 (f_HM_carrying x1 x2 x3 i_row a2 a3 i_law i_broken i_value i_sum i_set i_rest) fun v4 v5 v6 v7 v8 a9 a10 =>
    if zi_w v4 ≠ zi_w (-1) then
      zd1 (f_HM_top x2 a2 a3) fun v11 =>
      zd2 (f_HM_shift x2 x3 a2 a3) fun a12 a13 =>
      zd1 (f_HM_store a12 a13 i_row) fun a14 =>
      zd3 (f_HM_tell v11 i_status i_refusals) fun v15 v16 a17 =>
      some (v15, 0, v16, v5, v6, v7, v8, a17, a14, a9, a10, a12, a13)
    else
      zd3 (f_HM_tell (-3) i_status i_refusals) fun v18 v19 a20 =>
      some (v18, 0, v19, v5, v6, v7, v8, a20, i_row, a9, a10, a2, a3)
  else
    zd3 (f_HM_tell (-2) i_status i_refusals) fun v21 v22 a23 =>
    some (v21, 0, v22, i_law, i_broken, i_value, i_sum, a23, i_row, i_set, i_rest, i_high, i_heaps)
set_option maxHeartbeats 4000000 in
set_option maxRecDepth 100000 in
theorem c_HM_carry (l : Launch) (ev : zEv) (dC : Nat → ClassId) (dI : Nat → Nat → Nat) (cA : Nat → ClassId) (q0 q1 q2 q3 q4 q5 q6 q7 q8 q9 q10 q11 q12 q13 q14 q15 q16 q17 q18 q19 q20 q21 q22 q23 q24 q25 q26 q27 q28 q29 q30 q31 : Nat) (u0 u1 u2 u3 u4 u5 u6 u7 u8 u9 u10 u11 u12 u13 u14 u15 : Int) {x1 x2 x3 : Int} {i_thrown : Int} {i_status : Int} {i_law : Int} {i_broken : Int} {i_value : Int} {i_sum : Int} {i_refusals : Nat → Int} {i_row : Nat → Int} {i_set : Nat → Int} {i_rest : Nat → Int} {i_high : Nat → Int} {i_heaps : Nat → Int} {out : Int × Int × Int × Int × Int × Int × Int × (Nat → Int) × (Nat → Int) × (Nat → Int) × (Nat → Int) × (Nat → Int) × (Nat → Int)} (hf : f_HM_carry x1 x2 x3 i_thrown i_status i_law i_broken i_value i_sum i_refusals i_row i_set i_rest i_high i_heaps = some out) : xc_I l ev (dC, dI) vwCl (tyl cA) yX11_carry w_HM_carry rm_HM_carry [.ref q0, .int (Int32.ofInt x1), .int (Int32.ofInt x2), .int (Int32.ofInt x3)] (wd_HM_carry cA q0 q1 q2 q3 q4 q5 q6 q7 q8 q9 q10 q11 q12 q13 q14 q15 q16 q17 q18 q19 q20 q21 q22 q23 q24 q25 q26 q27 q28 q29 q30 q31 u0 u1 u2 u3 u4 u5 u6 u7 u8 u9 u10 u11 u12 u13 u14 u15 i_thrown i_status i_law i_broken i_value i_sum i_refusals i_row i_set i_rest i_high i_heaps) (wf_HM_carry cA q0 q1 q2 q3 q4 q5 q6 q7 q8 q9 q10 q11 q12 q13 q14 q15 q16 q17 q18 q19 q20 q21 q22 q23 q24 q25 q26 q27 q28 q29 q30 q31 u0 u1 u2 u3 u4 u5 u6 u7 u8 u9 u10 u11 u12 u13 u14 u15 out) out.1 := by
  refine xv_startI (cc := cX11_carry) (maxL := 5) (rt := .int) (by decide +kernel) rfl (Nat.le_of_ble_eq_true rfl) ?_
  intro p e s m args below meth c A Q H ls hx hb hml hts hown hK hA hP hD hS hl hE hret
  have hown : s.vm.findClass "HillSchoolModel" = some m.cls := hown
  have hz : ∀ w ∈ zall, w.before args s = true := fun w h => hts w (List.mem_cons_of_mem _ h)
  have hl : lv_has ls 5 [(0, .ref q0), (1, .int (Int32.ofInt x1)), (2, .int (Int32.ofInt x2)), (3, .int (Int32.ofInt x3))] := hl
  unfold f_HM_carry at hf
  refine lv_aload_n hx hb dX11_carry_0 rfl (lv_at hl 0 rfl) ?_
  refine lv_iconst (v := Int32.ofInt 0) hx hb dX11_carry_1 rfl ?_
  refine va_put (D := (dC, dI)) (ci := 11) (v := .int (Int32.ofInt 0)) (ty := .int) (C := RX11) (T := TX11) (N := 53) hx hb hz zi_X11 tyX11 tyX11_ok nmX11 hown hK hP hD hS 0 rfl rfl 0 (by decide) (hz _ zw_1165) (fun _ h9 => h9) rfl (by decide +kernel) rfl rfl (Nat.le_of_ble_eq_true rfl) dX11_carry_2 (fun H locs hP hD hS => ?_)
  have hP : va_P (dC, dI) vwCl (wd_HM_carry cA q0 q1 q2 q3 q4 q5 q6 q7 q8 q9 q10 q11 q12 q13 q14 q15 q16 q17 q18 q19 q20 q21 q22 q23 q24 q25 q26 q27 q28 q29 q30 q31 u0 u1 u2 u3 u4 u5 u6 u7 u8 u9 u10 u11 u12 u13 u14 u15 0 i_status i_law i_broken i_value i_sum i_refusals i_row i_set i_rest i_high i_heaps) H := hP
  have hD : va_D A (wd_HM_carry cA q0 q1 q2 q3 q4 q5 q6 q7 q8 q9 q10 q11 q12 q13 q14 q15 q16 q17 q18 q19 q20 q21 q22 q23 q24 q25 q26 q27 q28 q29 q30 q31 u0 u1 u2 u3 u4 u5 u6 u7 u8 u9 u10 u11 u12 u13 u14 u15 0 i_status i_law i_broken i_value i_sum i_refusals i_row i_set i_rest i_high i_heaps) := hD
  refine lv_aload_n hx hb dX11_carry_5 rfl (lv_at hl 0 rfl) ?_
  refine lv_iload_n hx hb dX11_carry_6 rfl (lv_at hl 1 rfl) ?_
  refine lv_iload_n hx hb dX11_carry_7 rfl (lv_at hl 2 rfl) ?_
  refine lv_iload_n hx hb dX11_carry_8 rfl (lv_at hl 3 rfl) ?_
  refine xe_d1 hf (fun v1 hg hf => ?_)
  have hC : ([0, 2] : List Nat).map (fun i => (wd_HM_carry cA q0 q1 q2 q3 q4 q5 q6 q7 q8 q9 q10 q11 q12 q13 q14 q15 q16 q17 q18 q19 q20 q21 q22 q23 q24 q25 q26 q27 q28 q29 q30 q31 u0 u1 u2 u3 u4 u5 u6 u7 u8 u9 u10 u11 u12 u13 u14 u15 0 i_status i_law i_broken i_value i_sum i_refusals i_row i_set i_rest i_high i_heaps)[i]?) = (wd_HM_are cA q0 q1 q2 q3 q4 q5 q6 q7 q8 q9 q10 q11 q12 q13 q14 q15 q16 q17 q18 q19 q20 q21 q22 q23 q24 q25 q26 q27 q28 q29 q30 q31 0 i_status u0 u1 u2 u3 u4 u5 u6 u7 u8 u9 u10 u11 u12 i_law i_broken i_value i_sum u13 u14 u15 i_row).map some := rfl
  refine xv_afterI (ws' := (wd_HM_carry cA q0 q1 q2 q3 q4 q5 q6 q7 q8 q9 q10 q11 q12 q13 q14 q15 q16 q17 q18 q19 q20 q21 q22 q23 q24 q25 q26 q27 q28 q29 q30 q31 u0 u1 u2 u3 u4 u5 u6 u7 u8 u9 u10 u11 u12 u13 u14 u15 0 i_status i_law i_broken i_value i_sum i_refusals i_row i_set i_rest i_high i_heaps)) (isC := [0, 2]) (ps := [some 0, none, some 1, none, none, none, none]) (va_runV (As := [.int (Int32.ofInt x1), .int (Int32.ofInt x2), .int (Int32.ofInt x3)]) (rest := []) ⟨hx, hb, hml, hown, hts⟩ (c_HM_are l ev dC dI cA q0 q1 q2 q3 q4 q5 q6 q7 q8 q9 q10 q11 q12 q13 q14 q15 q16 q17 q18 q19 q20 q21 q22 q23 q24 q25 q26 q27 q28 q29 q30 q31 0 i_status u0 u1 u2 u3 u4 u5 u6 u7 u8 u9 u10 u11 u12 i_law i_broken i_value i_sum u13 u14 u15 hg H.size) (cwV 3 hts (zgV zw_1545 zw_1547 zw_65 zw_115 zw_1548) rfl rfl rfl hd_HM_are ⟨Nat.le_of_ble_eq_true rfl, Nat.le_of_ble_eq_true rfl⟩) (xv_preV (T := TX11) (N := 53) hE hA hS hK hP hD (isC := [0, 2]) (by decide +kernel) hC (q0 := 0) (ci := 11) rfl rfl) rfl rfl hl.1 rfl (lv_room (Nat.le_of_ble_eq_true rfl)) dX11_carry_9 ⟨Nat.le_refl _, Nat.le_refl _⟩) hP hD hS hA (by decide +kernel) rfl hC rfl rfl (fun H locs hP hD hS => ?_)
  refine xi_if_ne (tgt := 22) hx hb dX11_carry_12 (by decide) hf (fun hf => ?_) (fun hf => ?_)
  · refine lv_aload_n hx hb dX11_carry_22 rfl (lv_at hl 0 rfl) ?_
    refine xe_d2 hf (fun a2 a3 hg hf => ?_)
    have hC : ([0, 2, 5, 6] : List Nat).map (fun i => (wd_HM_carry cA q0 q1 q2 q3 q4 q5 q6 q7 q8 q9 q10 q11 q12 q13 q14 q15 q16 q17 q18 q19 q20 q21 q22 q23 q24 q25 q26 q27 q28 q29 q30 q31 u0 u1 u2 u3 u4 u5 u6 u7 u8 u9 u10 u11 u12 u13 u14 u15 0 i_status i_law i_broken i_value i_sum i_refusals i_row i_set i_rest i_high i_heaps)[i]?) = (wd_HM_load cA q0 q1 q2 q3 q4 q5 q6 q7 q8 q9 q10 q11 q12 q13 q14 q15 q16 q17 q18 q19 q20 q21 q22 q23 q24 q25 q26 q27 q28 q29 q30 q31 0 i_status u0 u1 u2 u3 u4 u5 u6 u7 u8 u9 u10 u11 u12 i_law i_broken i_value i_sum u13 u14 u15 i_row i_high i_heaps).map some := rfl
    refine xv_afterV (ws' := (wd_HM_carry cA q0 q1 q2 q3 q4 q5 q6 q7 q8 q9 q10 q11 q12 q13 q14 q15 q16 q17 q18 q19 q20 q21 q22 q23 q24 q25 q26 q27 q28 q29 q30 q31 u0 u1 u2 u3 u4 u5 u6 u7 u8 u9 u10 u11 u12 u13 u14 u15 0 i_status i_law i_broken i_value i_sum i_refusals i_row i_set i_rest a2 a3)) (isC := [0, 2, 5, 6]) (ps := [some 0, none, some 1, none, none, some 2, some 3]) (va_runV (As := []) (rest := []) ⟨hx, hb, hml, hown, hts⟩ (c_HM_load l ev dC dI cA q0 q1 q2 q3 q4 q5 q6 q7 q8 q9 q10 q11 q12 q13 q14 q15 q16 q17 q18 q19 q20 q21 q22 q23 q24 q25 q26 q27 q28 q29 q30 q31 0 i_status u0 u1 u2 u3 u4 u5 u6 u7 u8 u9 u10 u11 u12 i_law i_broken i_value i_sum u13 u14 u15 hg H.size) (cwV 0 hts (zgV zw_1549 zw_1551 zw_66 zw_115 zw_1552) rfl rfl rfl hd_HM_load ⟨Nat.le_of_ble_eq_true rfl, Nat.le_of_ble_eq_true rfl⟩) (xv_preV (T := TX11) (N := 53) hE hA hS hK hP hD (isC := [0, 2, 5, 6]) (by decide +kernel) hC (q0 := 0) (ci := 11) rfl rfl) rfl rfl hl.1 rfl (lv_room (Nat.le_of_ble_eq_true rfl)) dX11_carry_23 ⟨Nat.le_refl _, Nat.le_refl _⟩) hP hD hS hA (by decide +kernel) rfl hC rfl rfl (fun H locs hP hD hS => ?_)
    refine lv_aload_n hx hb dX11_carry_26 rfl (lv_at hl 0 rfl) ?_
    refine lv_iload_n hx hb dX11_carry_27 rfl (lv_at hl 1 rfl) ?_
    refine lv_iload_n hx hb dX11_carry_28 rfl (lv_at hl 2 rfl) ?_
    refine lv_iload_n hx hb dX11_carry_29 rfl (lv_at hl 3 rfl) ?_
    refine xe_d7 hf (fun v4 v5 v6 v7 v8 a9 a10 hg hf => ?_)
    have hC : ([0, 2, 3, 4, 5, 6] : List Nat).map (fun i => (wd_HM_carry cA q0 q1 q2 q3 q4 q5 q6 q7 q8 q9 q10 q11 q12 q13 q14 q15 q16 q17 q18 q19 q20 q21 q22 q23 q24 q25 q26 q27 q28 q29 q30 q31 u0 u1 u2 u3 u4 u5 u6 u7 u8 u9 u10 u11 u12 u13 u14 u15 0 i_status i_law i_broken i_value i_sum i_refusals i_row i_set i_rest a2 a3)[i]?) = (wd_HM_carrying cA q0 q1 q2 q3 q4 q5 q6 q7 q8 q9 q10 q11 q12 q13 q14 q15 q16 q17 q18 q19 q20 q21 q22 q23 q24 q25 q26 q27 q28 q29 q30 q31 0 i_status u0 u1 u2 u3 u4 u5 u6 u7 u8 u9 u10 u11 u12 u13 u14 u15 i_row a2 a3 i_law i_broken i_value i_sum i_set i_rest).map some := rfl
    refine xv_afterI (ws' := (wd_HM_carry cA q0 q1 q2 q3 q4 q5 q6 q7 q8 q9 q10 q11 q12 q13 q14 q15 q16 q17 q18 q19 q20 q21 q22 q23 q24 q25 q26 q27 q28 q29 q30 q31 u0 u1 u2 u3 u4 u5 u6 u7 u8 u9 u10 u11 u12 u13 u14 u15 0 i_status v5 v6 v7 v8 i_refusals i_row a9 a10 a2 a3)) (isC := [0, 2, 3, 4, 5, 6]) (ps := [some 0, none, some 1, some 2, some 3, some 4, some 5]) (va_runV (As := [.int (Int32.ofInt x1), .int (Int32.ofInt x2), .int (Int32.ofInt x3)]) (rest := []) ⟨hx, hb, hml, hown, hts⟩ (c_HM_carrying l ev dC dI cA q0 q1 q2 q3 q4 q5 q6 q7 q8 q9 q10 q11 q12 q13 q14 q15 q16 q17 q18 q19 q20 q21 q22 q23 q24 q25 q26 q27 q28 q29 q30 q31 0 i_status u0 u1 u2 u3 u4 u5 u6 u7 u8 u9 u10 u11 u12 u13 u14 u15 hg H.size) (cwV 3 hts (zgV zw_1553 zw_1555 zw_67 zw_115 zw_1556) rfl rfl rfl hd_HM_carrying ⟨Nat.le_of_ble_eq_true rfl, Nat.le_of_ble_eq_true rfl⟩) (xv_preV (T := TX11) (N := 53) hE hA hS hK hP hD (isC := [0, 2, 3, 4, 5, 6]) (by decide +kernel) hC (q0 := 0) (ci := 11) rfl rfl) rfl rfl hl.1 rfl (lv_room (Nat.le_of_ble_eq_true rfl)) dX11_carry_30 ⟨Nat.le_refl _, Nat.le_refl _⟩) hP hD hS hA (by decide +kernel) rfl hC rfl rfl (fun H locs hP hD hS => ?_)
    refine lv_iconst (v := Int32.ofInt (-1)) hx hb dX11_carry_33 rfl ?_
    refine xi_icmp_ne (tgt := 44) hx hb dX11_carry_34 (by decide) hf (fun hf => ?_) (fun hf => ?_)
    · refine lv_aload_n hx hb dX11_carry_44 rfl (lv_at hl 0 rfl) ?_
      refine lv_iload_n hx hb dX11_carry_45 rfl (lv_at hl 2 rfl) ?_
      refine xe_d1 hf (fun v11 hg hf => ?_)
      have hC : ([0, 5, 6] : List Nat).map (fun i => (wd_HM_carry cA q0 q1 q2 q3 q4 q5 q6 q7 q8 q9 q10 q11 q12 q13 q14 q15 q16 q17 q18 q19 q20 q21 q22 q23 q24 q25 q26 q27 q28 q29 q30 q31 u0 u1 u2 u3 u4 u5 u6 u7 u8 u9 u10 u11 u12 u13 u14 u15 0 i_status v5 v6 v7 v8 i_refusals i_row a9 a10 a2 a3)[i]?) = (wd_HM_top cA q0 q1 q2 q3 q4 q5 q6 q7 q8 q9 q10 q11 q12 q13 q14 q15 q16 q17 q18 q19 q20 q21 q22 q23 q24 q25 q26 q27 q28 q29 q30 q31 0 i_status u0 u1 u2 u3 u4 u5 u6 u7 u8 u9 u10 u11 u12 v5 v6 v7 v8 u13 u14 u15 a2 a3).map some := rfl
      refine xv_afterI (ws' := (wd_HM_carry cA q0 q1 q2 q3 q4 q5 q6 q7 q8 q9 q10 q11 q12 q13 q14 q15 q16 q17 q18 q19 q20 q21 q22 q23 q24 q25 q26 q27 q28 q29 q30 q31 u0 u1 u2 u3 u4 u5 u6 u7 u8 u9 u10 u11 u12 u13 u14 u15 0 i_status v5 v6 v7 v8 i_refusals i_row a9 a10 a2 a3)) (isC := [0, 5, 6]) (ps := [some 0, none, none, none, none, some 1, some 2]) (va_runV (As := [.int (Int32.ofInt x2)]) (rest := []) ⟨hx, hb, hml, hown, hts⟩ (c_HM_top l ev dC dI cA q0 q1 q2 q3 q4 q5 q6 q7 q8 q9 q10 q11 q12 q13 q14 q15 q16 q17 q18 q19 q20 q21 q22 q23 q24 q25 q26 q27 q28 q29 q30 q31 0 i_status u0 u1 u2 u3 u4 u5 u6 u7 u8 u9 u10 u11 u12 v5 v6 v7 v8 u13 u14 u15 hg H.size) (cwV 1 hts (zgV zw_1557 zw_1559 zw_68 zw_115 zw_1560) rfl rfl rfl hd_HM_top ⟨Nat.le_of_ble_eq_true rfl, Nat.le_of_ble_eq_true rfl⟩) (xv_preV (T := TX11) (N := 53) hE hA hS hK hP hD (isC := [0, 5, 6]) (by decide +kernel) hC (q0 := 0) (ci := 11) rfl rfl) rfl rfl hl.1 rfl (lv_room (Nat.le_of_ble_eq_true rfl)) dX11_carry_46 ⟨Nat.le_refl _, Nat.le_refl _⟩) hP hD hS hA (by decide +kernel) rfl hC rfl rfl (fun H locs hP hD hS => ?_)
      refine lv_istore (lv' := [(4, .int (Int32.ofInt v11)), (0, .ref q0), (1, .int (Int32.ofInt x1)), (2, .int (Int32.ofInt x2)), (3, .int (Int32.ofInt x3))]) hx hb dX11_carry_49 hl (by decide) rfl (fun ls hl => ?_)
      refine lv_aload_n hx hb dX11_carry_51 rfl (lv_at hl 1 rfl) ?_
      refine lv_iload_n hx hb dX11_carry_52 rfl (lv_at hl 3 rfl) ?_
      refine lv_iload_n hx hb dX11_carry_53 rfl (lv_at hl 4 rfl) ?_
      refine xe_d2 hf (fun a12 a13 hg hf => ?_)
      have hC : ([0, 5, 6] : List Nat).map (fun i => (wd_HM_carry cA q0 q1 q2 q3 q4 q5 q6 q7 q8 q9 q10 q11 q12 q13 q14 q15 q16 q17 q18 q19 q20 q21 q22 q23 q24 q25 q26 q27 q28 q29 q30 q31 u0 u1 u2 u3 u4 u5 u6 u7 u8 u9 u10 u11 u12 u13 u14 u15 0 i_status v5 v6 v7 v8 i_refusals i_row a9 a10 a2 a3)[i]?) = (wd_HM_shift cA q0 q1 q2 q3 q4 q5 q6 q7 q8 q9 q10 q11 q12 q13 q14 q15 q16 q17 q18 q19 q20 q21 q22 q23 q24 q25 q26 q27 q28 q29 q30 q31 0 i_status u0 u1 u2 u3 u4 u5 u6 u7 u8 u9 u10 u11 u12 v5 v6 v7 v8 u13 u14 u15 a2 a3).map some := rfl
      refine xv_afterV (ws' := (wd_HM_carry cA q0 q1 q2 q3 q4 q5 q6 q7 q8 q9 q10 q11 q12 q13 q14 q15 q16 q17 q18 q19 q20 q21 q22 q23 q24 q25 q26 q27 q28 q29 q30 q31 u0 u1 u2 u3 u4 u5 u6 u7 u8 u9 u10 u11 u12 u13 u14 u15 0 i_status v5 v6 v7 v8 i_refusals i_row a9 a10 a12 a13)) (isC := [0, 5, 6]) (ps := [some 0, none, none, none, none, some 1, some 2]) (va_runV (As := [.int (Int32.ofInt x2), .int (Int32.ofInt x3)]) (rest := []) ⟨hx, hb, hml, hown, hts⟩ (c_HM_shift l ev dC dI cA q0 q1 q2 q3 q4 q5 q6 q7 q8 q9 q10 q11 q12 q13 q14 q15 q16 q17 q18 q19 q20 q21 q22 q23 q24 q25 q26 q27 q28 q29 q30 q31 0 i_status u0 u1 u2 u3 u4 u5 u6 u7 u8 u9 u10 u11 u12 v5 v6 v7 v8 u13 u14 u15 hg H.size) (cwV 2 hts (zgV zw_1590 zw_1592 zw_73 zw_115 zw_1593) rfl rfl rfl hd_HM_shift ⟨Nat.le_of_ble_eq_true rfl, Nat.le_of_ble_eq_true rfl⟩) (xv_preV (T := TX11) (N := 53) hE hA hS hK hP hD (isC := [0, 5, 6]) (by decide +kernel) hC (q0 := 0) (ci := 11) rfl rfl) rfl rfl hl.1 rfl (lv_room (Nat.le_of_ble_eq_true rfl)) dX11_carry_54 ⟨Nat.le_refl _, Nat.le_refl _⟩) hP hD hS hA (by decide +kernel) rfl hC rfl rfl (fun H locs hP hD hS => ?_)
      refine lv_aload_n hx hb dX11_carry_57 rfl (lv_at hl 1 rfl) ?_
      refine xe_d1 hf (fun a14 hg hf => ?_)
      have hC : ([0, 2, 5, 6] : List Nat).map (fun i => (wd_HM_carry cA q0 q1 q2 q3 q4 q5 q6 q7 q8 q9 q10 q11 q12 q13 q14 q15 q16 q17 q18 q19 q20 q21 q22 q23 q24 q25 q26 q27 q28 q29 q30 q31 u0 u1 u2 u3 u4 u5 u6 u7 u8 u9 u10 u11 u12 u13 u14 u15 0 i_status v5 v6 v7 v8 i_refusals i_row a9 a10 a12 a13)[i]?) = (wd_HM_store cA q0 q1 q2 q3 q4 q5 q6 q7 q8 q9 q10 q11 q12 q13 q14 q15 q16 q17 q18 q19 q20 q21 q22 q23 q24 q25 q26 q27 q28 q29 q30 q31 0 i_status u0 u1 u2 u3 u4 u5 u6 u7 u8 u9 u10 u11 u12 v5 v6 v7 v8 u13 u14 u15 a12 a13 i_row).map some := rfl
      refine xv_afterV (ws' := (wd_HM_carry cA q0 q1 q2 q3 q4 q5 q6 q7 q8 q9 q10 q11 q12 q13 q14 q15 q16 q17 q18 q19 q20 q21 q22 q23 q24 q25 q26 q27 q28 q29 q30 q31 u0 u1 u2 u3 u4 u5 u6 u7 u8 u9 u10 u11 u12 u13 u14 u15 0 i_status v5 v6 v7 v8 i_refusals a14 a9 a10 a12 a13)) (isC := [0, 2, 5, 6]) (ps := [some 0, none, some 1, none, none, some 2, some 3]) (va_runV (As := []) (rest := []) ⟨hx, hb, hml, hown, hts⟩ (c_HM_store l ev dC dI cA q0 q1 q2 q3 q4 q5 q6 q7 q8 q9 q10 q11 q12 q13 q14 q15 q16 q17 q18 q19 q20 q21 q22 q23 q24 q25 q26 q27 q28 q29 q30 q31 0 i_status u0 u1 u2 u3 u4 u5 u6 u7 u8 u9 u10 u11 u12 v5 v6 v7 v8 u13 u14 u15 hg H.size) (cwV 0 hts (zgV zw_1594 zw_1596 zw_74 zw_115 zw_1597) rfl rfl rfl hd_HM_store ⟨Nat.le_of_ble_eq_true rfl, Nat.le_of_ble_eq_true rfl⟩) (xv_preV (T := TX11) (N := 53) hE hA hS hK hP hD (isC := [0, 2, 5, 6]) (by decide +kernel) hC (q0 := 0) (ci := 11) rfl rfl) rfl rfl hl.1 rfl (lv_room (Nat.le_of_ble_eq_true rfl)) dX11_carry_58 ⟨Nat.le_refl _, Nat.le_refl _⟩) hP hD hS hA (by decide +kernel) rfl hC rfl rfl (fun H locs hP hD hS => ?_)
      refine lv_aload_n hx hb dX11_carry_61 rfl (lv_at hl 1 rfl) ?_
      refine lv_iload hx hb dX11_carry_62 (lv_at hl 0 rfl) ?_
      refine xe_d3 hf (fun v15 v16 a17 hg hf => ?_)
      have hC : ([0, 1] : List Nat).map (fun i => (wd_HM_carry cA q0 q1 q2 q3 q4 q5 q6 q7 q8 q9 q10 q11 q12 q13 q14 q15 q16 q17 q18 q19 q20 q21 q22 q23 q24 q25 q26 q27 q28 q29 q30 q31 u0 u1 u2 u3 u4 u5 u6 u7 u8 u9 u10 u11 u12 u13 u14 u15 0 i_status v5 v6 v7 v8 i_refusals a14 a9 a10 a12 a13)[i]?) = (wd_HM_tell cA q0 q1 q2 q3 q4 q5 q6 q7 q8 q9 q10 q11 q12 q13 q14 q15 q16 q17 q18 q19 q20 q21 q22 q23 q24 q25 q26 q27 q28 q29 q30 q31 0 u0 u1 u2 u3 u4 u5 u6 u7 u8 u9 u10 u11 u12 v5 v6 v7 v8 u13 u14 u15 i_status i_refusals).map some := rfl
      refine xv_afterI (ws' := (wd_HM_carry cA q0 q1 q2 q3 q4 q5 q6 q7 q8 q9 q10 q11 q12 q13 q14 q15 q16 q17 q18 q19 q20 q21 q22 q23 q24 q25 q26 q27 q28 q29 q30 q31 u0 u1 u2 u3 u4 u5 u6 u7 u8 u9 u10 u11 u12 u13 u14 u15 0 v16 v5 v6 v7 v8 a17 a14 a9 a10 a12 a13)) (isC := [0, 1]) (ps := [some 0, some 1, none, none, none, none, none]) (va_runV (As := [.int (Int32.ofInt v11)]) (rest := []) ⟨hx, hb, hml, hown, hts⟩ (c_HM_tell l ev dC dI cA q0 q1 q2 q3 q4 q5 q6 q7 q8 q9 q10 q11 q12 q13 q14 q15 q16 q17 q18 q19 q20 q21 q22 q23 q24 q25 q26 q27 q28 q29 q30 q31 0 u0 u1 u2 u3 u4 u5 u6 u7 u8 u9 u10 u11 u12 v5 v6 v7 v8 u13 u14 u15 hg H.size) (cwV 1 hts (zgV zw_1332 zw_1334 zw_40 zw_115 zw_1335) rfl rfl rfl hd_HM_tell ⟨Nat.le_of_ble_eq_true rfl, Nat.le_of_ble_eq_true rfl⟩) (xv_preV (T := TX11) (N := 53) hE hA hS hK hP hD (isC := [0, 1]) (by decide +kernel) hC (q0 := 0) (ci := 11) rfl rfl) rfl rfl hl.1 rfl (lv_room (Nat.le_of_ble_eq_true rfl)) dX11_carry_64 ⟨Nat.le_refl _, Nat.le_refl _⟩) hP hD hS hA (by decide +kernel) rfl hC rfl rfl (fun H locs hP hD hS => ?_)
      obtain rfl := Option.some.inj hf
      exact hret _ _ _ _ rfl dX11_carry_67 hP hD hS
    · refine lv_aload_n hx hb dX11_carry_37 rfl (lv_at hl 0 rfl) ?_
      refine lv_bipush (v := Int32.ofInt (-3)) hx hb dX11_carry_38 (by decide) ?_
      refine xe_d3 hf (fun v18 v19 a20 hg hf => ?_)
      have hC : ([0, 1] : List Nat).map (fun i => (wd_HM_carry cA q0 q1 q2 q3 q4 q5 q6 q7 q8 q9 q10 q11 q12 q13 q14 q15 q16 q17 q18 q19 q20 q21 q22 q23 q24 q25 q26 q27 q28 q29 q30 q31 u0 u1 u2 u3 u4 u5 u6 u7 u8 u9 u10 u11 u12 u13 u14 u15 0 i_status v5 v6 v7 v8 i_refusals i_row a9 a10 a2 a3)[i]?) = (wd_HM_tell cA q0 q1 q2 q3 q4 q5 q6 q7 q8 q9 q10 q11 q12 q13 q14 q15 q16 q17 q18 q19 q20 q21 q22 q23 q24 q25 q26 q27 q28 q29 q30 q31 0 u0 u1 u2 u3 u4 u5 u6 u7 u8 u9 u10 u11 u12 v5 v6 v7 v8 u13 u14 u15 i_status i_refusals).map some := rfl
      refine xv_afterI (ws' := (wd_HM_carry cA q0 q1 q2 q3 q4 q5 q6 q7 q8 q9 q10 q11 q12 q13 q14 q15 q16 q17 q18 q19 q20 q21 q22 q23 q24 q25 q26 q27 q28 q29 q30 q31 u0 u1 u2 u3 u4 u5 u6 u7 u8 u9 u10 u11 u12 u13 u14 u15 0 v19 v5 v6 v7 v8 a20 i_row a9 a10 a2 a3)) (isC := [0, 1]) (ps := [some 0, some 1, none, none, none, none, none]) (va_runV (As := [.int (Int32.ofInt (-3))]) (rest := []) ⟨hx, hb, hml, hown, hts⟩ (c_HM_tell l ev dC dI cA q0 q1 q2 q3 q4 q5 q6 q7 q8 q9 q10 q11 q12 q13 q14 q15 q16 q17 q18 q19 q20 q21 q22 q23 q24 q25 q26 q27 q28 q29 q30 q31 0 u0 u1 u2 u3 u4 u5 u6 u7 u8 u9 u10 u11 u12 v5 v6 v7 v8 u13 u14 u15 hg H.size) (cwV 1 hts (zgV zw_1332 zw_1334 zw_40 zw_115 zw_1335) rfl rfl rfl hd_HM_tell ⟨Nat.le_of_ble_eq_true rfl, Nat.le_of_ble_eq_true rfl⟩) (xv_preV (T := TX11) (N := 53) hE hA hS hK hP hD (isC := [0, 1]) (by decide +kernel) hC (q0 := 0) (ci := 11) rfl rfl) rfl rfl hl.1 rfl (lv_room (Nat.le_of_ble_eq_true rfl)) dX11_carry_40 ⟨Nat.le_refl _, Nat.le_refl _⟩) hP hD hS hA (by decide +kernel) rfl hC rfl rfl (fun H locs hP hD hS => ?_)
      obtain rfl := Option.some.inj hf
      exact hret _ _ _ _ rfl dX11_carry_43 hP hD hS
  · refine lv_aload_n hx hb dX11_carry_15 rfl (lv_at hl 0 rfl) ?_
    refine lv_bipush (v := Int32.ofInt (-2)) hx hb dX11_carry_16 (by decide) ?_
    refine xe_d3 hf (fun v21 v22 a23 hg hf => ?_)
    have hC : ([0, 1] : List Nat).map (fun i => (wd_HM_carry cA q0 q1 q2 q3 q4 q5 q6 q7 q8 q9 q10 q11 q12 q13 q14 q15 q16 q17 q18 q19 q20 q21 q22 q23 q24 q25 q26 q27 q28 q29 q30 q31 u0 u1 u2 u3 u4 u5 u6 u7 u8 u9 u10 u11 u12 u13 u14 u15 0 i_status i_law i_broken i_value i_sum i_refusals i_row i_set i_rest i_high i_heaps)[i]?) = (wd_HM_tell cA q0 q1 q2 q3 q4 q5 q6 q7 q8 q9 q10 q11 q12 q13 q14 q15 q16 q17 q18 q19 q20 q21 q22 q23 q24 q25 q26 q27 q28 q29 q30 q31 0 u0 u1 u2 u3 u4 u5 u6 u7 u8 u9 u10 u11 u12 i_law i_broken i_value i_sum u13 u14 u15 i_status i_refusals).map some := rfl
    refine xv_afterI (ws' := (wd_HM_carry cA q0 q1 q2 q3 q4 q5 q6 q7 q8 q9 q10 q11 q12 q13 q14 q15 q16 q17 q18 q19 q20 q21 q22 q23 q24 q25 q26 q27 q28 q29 q30 q31 u0 u1 u2 u3 u4 u5 u6 u7 u8 u9 u10 u11 u12 u13 u14 u15 0 v22 i_law i_broken i_value i_sum a23 i_row i_set i_rest i_high i_heaps)) (isC := [0, 1]) (ps := [some 0, some 1, none, none, none, none, none]) (va_runV (As := [.int (Int32.ofInt (-2))]) (rest := []) ⟨hx, hb, hml, hown, hts⟩ (c_HM_tell l ev dC dI cA q0 q1 q2 q3 q4 q5 q6 q7 q8 q9 q10 q11 q12 q13 q14 q15 q16 q17 q18 q19 q20 q21 q22 q23 q24 q25 q26 q27 q28 q29 q30 q31 0 u0 u1 u2 u3 u4 u5 u6 u7 u8 u9 u10 u11 u12 i_law i_broken i_value i_sum u13 u14 u15 hg H.size) (cwV 1 hts (zgV zw_1332 zw_1334 zw_40 zw_115 zw_1335) rfl rfl rfl hd_HM_tell ⟨Nat.le_of_ble_eq_true rfl, Nat.le_of_ble_eq_true rfl⟩) (xv_preV (T := TX11) (N := 53) hE hA hS hK hP hD (isC := [0, 1]) (by decide +kernel) hC (q0 := 0) (ci := 11) rfl rfl) rfl rfl hl.1 rfl (lv_room (Nat.le_of_ble_eq_true rfl)) dX11_carry_18 ⟨Nat.le_refl _, Nat.le_refl _⟩) hP hD hS hA (by decide +kernel) rfl hC rfl rfl (fun H locs hP hD hS => ?_)
    obtain rfl := Option.some.inj hf
    exact hret _ _ _ _ rfl dX11_carry_21 hP hD hS
theorem dX11_exchange_0 : decode cX11_exchange 0 = .ok (.aload_n 0, 1) := by decide +kernel
theorem dX11_exchange_1 : decode cX11_exchange 1 = .ok (.iconst 0, 1) := by decide +kernel
theorem dX11_exchange_2 : decode cX11_exchange 2 = .ok (.putfield 126, 3) := by decide +kernel
theorem dX11_exchange_5 : decode cX11_exchange 5 = .ok (.aload_n 0, 1) := by decide +kernel
theorem dX11_exchange_6 : decode cX11_exchange 6 = .ok (.iload_n 1, 1) := by decide +kernel
theorem dX11_exchange_7 : decode cX11_exchange 7 = .ok (.iload_n 2, 1) := by decide +kernel
theorem dX11_exchange_8 : decode cX11_exchange 8 = .ok (.iload_n 3, 1) := by decide +kernel
theorem dX11_exchange_9 : decode cX11_exchange 9 = .ok (.invokevirtual 356, 3) := by decide +kernel
theorem dX11_exchange_12 : decode cX11_exchange 12 = .ok (.ifCond .eq 12, 3) := by decide +kernel
theorem dX11_exchange_15 : decode cX11_exchange 15 = .ok (.aload_n 0, 1) := by decide +kernel
theorem dX11_exchange_16 : decode cX11_exchange 16 = .ok (.iload 4, 2) := by decide +kernel
theorem dX11_exchange_18 : decode cX11_exchange 18 = .ok (.invokevirtual 150, 3) := by decide +kernel
theorem dX11_exchange_21 : decode cX11_exchange 21 = .ok (.ifCond .ne 10, 3) := by decide +kernel
theorem dX11_exchange_24 : decode cX11_exchange 24 = .ok (.aload_n 0, 1) := by decide +kernel
theorem dX11_exchange_25 : decode cX11_exchange 25 = .ok (.bipush (-2), 2) := by decide +kernel
theorem dX11_exchange_27 : decode cX11_exchange 27 = .ok (.invokevirtual 136, 3) := by decide +kernel
theorem dX11_exchange_30 : decode cX11_exchange 30 = .ok (.ireturn, 1) := by decide +kernel
theorem dX11_exchange_31 : decode cX11_exchange 31 = .ok (.aload_n 0, 1) := by decide +kernel
theorem dX11_exchange_32 : decode cX11_exchange 32 = .ok (.invokevirtual 360, 3) := by decide +kernel
theorem dX11_exchange_35 : decode cX11_exchange 35 = .ok (.aload_n 0, 1) := by decide +kernel
theorem dX11_exchange_36 : decode cX11_exchange 36 = .ok (.iload_n 1, 1) := by decide +kernel
theorem dX11_exchange_37 : decode cX11_exchange 37 = .ok (.iload_n 2, 1) := by decide +kernel
theorem dX11_exchange_38 : decode cX11_exchange 38 = .ok (.iload_n 3, 1) := by decide +kernel
theorem dX11_exchange_39 : decode cX11_exchange 39 = .ok (.invokevirtual 363, 3) := by decide +kernel
theorem dX11_exchange_42 : decode cX11_exchange 42 = .ok (.iconst (-1), 1) := by decide +kernel
theorem dX11_exchange_43 : decode cX11_exchange 43 = .ok (.if_icmp .ne 10, 3) := by decide +kernel
theorem dX11_exchange_46 : decode cX11_exchange 46 = .ok (.aload_n 0, 1) := by decide +kernel
theorem dX11_exchange_47 : decode cX11_exchange 47 = .ok (.bipush (-3), 2) := by decide +kernel
theorem dX11_exchange_49 : decode cX11_exchange 49 = .ok (.invokevirtual 136, 3) := by decide +kernel
theorem dX11_exchange_52 : decode cX11_exchange 52 = .ok (.ireturn, 1) := by decide +kernel
theorem dX11_exchange_53 : decode cX11_exchange 53 = .ok (.aload_n 0, 1) := by decide +kernel
theorem dX11_exchange_54 : decode cX11_exchange 54 = .ok (.iload_n 2, 1) := by decide +kernel
theorem dX11_exchange_55 : decode cX11_exchange 55 = .ok (.invokevirtual 349, 3) := by decide +kernel
theorem dX11_exchange_58 : decode cX11_exchange 58 = .ok (.istore 5, 2) := by decide +kernel
theorem dX11_exchange_60 : decode cX11_exchange 60 = .ok (.aload_n 0, 1) := by decide +kernel
theorem dX11_exchange_61 : decode cX11_exchange 61 = .ok (.iload_n 2, 1) := by decide +kernel
theorem dX11_exchange_62 : decode cX11_exchange 62 = .ok (.iload_n 3, 1) := by decide +kernel
theorem dX11_exchange_63 : decode cX11_exchange 63 = .ok (.invokevirtual 367, 3) := by decide +kernel
theorem dX11_exchange_66 : decode cX11_exchange 66 = .ok (.aload_n 0, 1) := by decide +kernel
theorem dX11_exchange_67 : decode cX11_exchange 67 = .ok (.iload_n 1, 1) := by decide +kernel
theorem dX11_exchange_68 : decode cX11_exchange 68 = .ok (.iload 4, 2) := by decide +kernel
theorem dX11_exchange_70 : decode cX11_exchange 70 = .ok (.iload_n 2, 1) := by decide +kernel
theorem dX11_exchange_71 : decode cX11_exchange 71 = .ok (.invokevirtual 363, 3) := by decide +kernel
theorem dX11_exchange_74 : decode cX11_exchange 74 = .ok (.iconst (-1), 1) := by decide +kernel
theorem dX11_exchange_75 : decode cX11_exchange 75 = .ok (.if_icmp .ne 10, 3) := by decide +kernel
theorem dX11_exchange_78 : decode cX11_exchange 78 = .ok (.aload_n 0, 1) := by decide +kernel
theorem dX11_exchange_79 : decode cX11_exchange 79 = .ok (.bipush (-3), 2) := by decide +kernel
theorem dX11_exchange_81 : decode cX11_exchange 81 = .ok (.invokevirtual 136, 3) := by decide +kernel
theorem dX11_exchange_84 : decode cX11_exchange 84 = .ok (.ireturn, 1) := by decide +kernel
theorem dX11_exchange_85 : decode cX11_exchange 85 = .ok (.iload 5, 2) := by decide +kernel
theorem dX11_exchange_87 : decode cX11_exchange 87 = .ok (.aload_n 0, 1) := by decide +kernel
theorem dX11_exchange_88 : decode cX11_exchange 88 = .ok (.iload 4, 2) := by decide +kernel
theorem dX11_exchange_90 : decode cX11_exchange 90 = .ok (.invokevirtual 349, 3) := by decide +kernel
theorem dX11_exchange_93 : decode cX11_exchange 93 = .ok (.isub, 1) := by decide +kernel
theorem dX11_exchange_94 : decode cX11_exchange 94 = .ok (.invokestatic 343, 3) := by decide +kernel
theorem dX11_exchange_97 : decode cX11_exchange 97 = .ok (.istore 6, 2) := by decide +kernel
theorem dX11_exchange_99 : decode cX11_exchange 99 = .ok (.iload 6, 2) := by decide +kernel
theorem dX11_exchange_101 : decode cX11_exchange 101 = .ok (.aload_n 0, 1) := by decide +kernel
theorem dX11_exchange_102 : decode cX11_exchange 102 = .ok (.getfield 13, 3) := by decide +kernel
theorem dX11_exchange_105 : decode cX11_exchange 105 = .ok (.bipush 8, 2) := by decide +kernel
theorem dX11_exchange_107 : decode cX11_exchange 107 = .ok (.iaload, 1) := by decide +kernel
theorem dX11_exchange_108 : decode cX11_exchange 108 = .ok (.if_icmp .ge 10, 3) := by decide +kernel
theorem dX11_exchange_111 : decode cX11_exchange 111 = .ok (.aload_n 0, 1) := by decide +kernel
theorem dX11_exchange_112 : decode cX11_exchange 112 = .ok (.bipush (-3), 2) := by decide +kernel
theorem dX11_exchange_114 : decode cX11_exchange 114 = .ok (.invokevirtual 136, 3) := by decide +kernel
theorem dX11_exchange_117 : decode cX11_exchange 117 = .ok (.ireturn, 1) := by decide +kernel
theorem dX11_exchange_118 : decode cX11_exchange 118 = .ok (.aload_n 0, 1) := by decide +kernel
theorem dX11_exchange_119 : decode cX11_exchange 119 = .ok (.iload 4, 2) := by decide +kernel
theorem dX11_exchange_121 : decode cX11_exchange 121 = .ok (.iload_n 2, 1) := by decide +kernel
theorem dX11_exchange_122 : decode cX11_exchange 122 = .ok (.invokevirtual 367, 3) := by decide +kernel
theorem dX11_exchange_125 : decode cX11_exchange 125 = .ok (.aload_n 0, 1) := by decide +kernel
theorem dX11_exchange_126 : decode cX11_exchange 126 = .ok (.invokevirtual 370, 3) := by decide +kernel
theorem dX11_exchange_129 : decode cX11_exchange 129 = .ok (.aload_n 0, 1) := by decide +kernel
theorem dX11_exchange_130 : decode cX11_exchange 130 = .ok (.iload 6, 2) := by decide +kernel
theorem dX11_exchange_132 : decode cX11_exchange 132 = .ok (.invokevirtual 136, 3) := by decide +kernel
theorem dX11_exchange_135 : decode cX11_exchange 135 = .ok (.ireturn, 1) := by decide +kernel
theorem zw_1601 : (Jvm.Cond.code ({ cls := "HillSchoolModel", name := "exchange", desc := "(IIII)I" } : Jvm.MethodName) prog_13_method_69_code (7 : Nat) (Option.some Jvm.ClassFile.FieldType.int)) ∈ zall := zmemG (zmj_7 58 rfl) rfl
abbrev w_HM_exchange : List Cond := .code yX11_exchange cX11_exchange 7 (some .int) :: zall
abbrev rm_HM_exchange : Room := { frames := 5, cells := 0, slots := 0, locals := 126 }
theorem hd_HM_exchange : yX11_exchange.cls = "HillSchoolModel" ∧ yX11_exchange.cls ≠ "java/lang/invoke/MethodHandle" ∧ yX11_exchange.cls ≠ "java/lang/invoke/VarHandle" ∧ (parseMethodDescriptor yX11_exchange.desc).map (fun d => d.parameters.length) = some 4 := by decide +kernel
def wd_HM_exchange (cA : Nat → ClassId) (q0 q1 q2 q3 q4 q5 q6 q7 q8 q9 q10 q11 q12 q13 q14 q15 q16 q17 q18 q19 q20 q21 q22 q23 q24 q25 q26 q27 q28 q29 q30 q31 : Nat) (u0 u1 u2 u3 u4 u5 u6 u7 u8 u9 u10 u11 u12 u13 u14 u15 : Int)  (i_thrown : Int) (i_status : Int) (i_law : Int) (i_broken : Int) (i_value : Int) (i_sum : Int) (i_refusals : Nat → Int) (i_row : Nat → Int) (i_set : Nat → Int) (i_rest : Nat → Int) (i_high : Nat → Int) (i_heaps : Nat → Int) : va_W := [(q0, .inr (11, [.int (Int32.ofInt i_thrown), .int (Int32.ofInt i_status), .ref q1, .ref q2, .ref q3, .ref q4, .int (Int32.ofInt u0), .ref q5, .int (Int32.ofInt u1), .int (Int32.ofInt u2), .int (Int32.ofInt u3), .int (Int32.ofInt u4), .long (Int64.ofInt u5), .int (Int32.ofInt u6), .int (Int32.ofInt u7), .int (Int32.ofInt u8), .ref q6, .int (Int32.ofInt u9), .ref q7, .ref q8, .int (Int32.ofInt u10), .ref q9, .ref q10, .int (Int32.ofInt u11), .int (Int32.ofInt u12), .ref q11, .int (Int32.ofInt i_law), .ref q12, .ref q13, .int (Int32.ofInt i_broken), .long (Int64.ofInt i_value), .long (Int64.ofInt i_sum), .ref q14, .ref q15, .ref q16, .ref q17, .ref q18, .int (Int32.ofInt u13), .ref q19, .ref q20, .ref q21, .ref q22, .ref q23, .ref q24, .ref q25, .ref q26, .ref q27, .ref q28, .ref q29, .ref q30, .long (Int64.ofInt u14), .ref q31, .int (Int32.ofInt u15)])), (q1, .inl (cA 0, 7, .inl (za i_refusals))), (q2, .inl (cA 0, 5580, .inl (za i_row))), (q12, .inl (cA 2, 13, .inr (.inl (zl i_set)))), (q13, .inl (cA 2, 400, .inr (.inl (zl i_rest)))), (q14, .inl (cA 0, 12, .inl (za i_high))), (q15, .inl (cA 0, 120, .inl (za i_heaps)))]
def wf_HM_exchange (cA : Nat → ClassId) (q0 q1 q2 q3 q4 q5 q6 q7 q8 q9 q10 q11 q12 q13 q14 q15 q16 q17 q18 q19 q20 q21 q22 q23 q24 q25 q26 q27 q28 q29 q30 q31 : Nat) (u0 u1 u2 u3 u4 u5 u6 u7 u8 u9 u10 u11 u12 u13 u14 u15 : Int)  (o : Int × Int × Int × Int × Int × Int × Int × (Nat → Int) × (Nat → Int) × (Nat → Int) × (Nat → Int) × (Nat → Int) × (Nat → Int)) : va_W := wd_HM_exchange cA q0 q1 q2 q3 q4 q5 q6 q7 q8 q9 q10 q11 q12 q13 q14 q15 q16 q17 q18 q19 q20 q21 q22 q23 q24 q25 q26 q27 q28 q29 q30 q31 u0 u1 u2 u3 u4 u5 u6 u7 u8 u9 u10 u11 u12 u13 u14 u15 o.2.1 o.2.2.1 o.2.2.2.1 o.2.2.2.2.1 o.2.2.2.2.2.1 o.2.2.2.2.2.2.1 o.2.2.2.2.2.2.2.1 o.2.2.2.2.2.2.2.2.1 o.2.2.2.2.2.2.2.2.2.1 o.2.2.2.2.2.2.2.2.2.2.1 o.2.2.2.2.2.2.2.2.2.2.2.1 o.2.2.2.2.2.2.2.2.2.2.2.2
def f_HM_exchange_24  (i_thrown : Int) (i_status : Int) (i_law : Int) (i_broken : Int) (i_value : Int) (i_sum : Int) (i_refusals : Nat → Int) (i_row : Nat → Int) (i_set : Nat → Int) (i_rest : Nat → Int) (i_high : Nat → Int) (i_heaps : Nat → Int) : Option (Int × Int × Int × Int × Int × Int × Int × (Nat → Int) × (Nat → Int) × (Nat → Int) × (Nat → Int) × (Nat → Int) × (Nat → Int)) :=
  zd3 (f_HM_tell (-2) i_status i_refusals) fun v1 v2 a3 =>
  some (v1, i_thrown, v2, i_law, i_broken, i_value, i_sum, a3, i_row, i_set, i_rest, i_high, i_heaps)
def f_HM_exchange (x1 : Int) (x2 : Int) (x3 : Int) (x4 : Int) (i_thrown : Int) (i_status : Int) (i_law : Int) (i_broken : Int) (i_value : Int) (i_sum : Int) (i_refusals : Nat → Int) (i_row : Nat → Int) (i_set : Nat → Int) (i_rest : Nat → Int) (i_high : Nat → Int) (i_heaps : Nat → Int) : Option (Int × Int × Int × Int × Int × Int × Int × (Nat → Int) × (Nat → Int) × (Nat → Int) × (Nat → Int) × (Nat → Int) × (Nat → Int)) :=
  zd1 (f_HM_are x1 x2 x3 i_row) fun v1 =>
  if zi_w v1 = 0 then
    f_HM_exchange_24 0 i_status i_law i_broken i_value i_sum i_refusals i_row i_set i_rest i_high i_heaps
  else
    zd1 (f_HM_isColumn x4 i_row) fun v2 =>
    if zi_w v2 ≠ 0 then
      zd2 (f_HM_load i_row i_high i_heaps) fun a3 a4 =>
      zd7 (f_HM_carrying x1 x2 x3 i_row a3 a4 i_law i_broken i_value i_sum i_set i_rest) fun v5 v6 v7 v8 v9 a10 a11 =>
      if zi_w v5 ≠ zi_w (-1) then
        zd1 (f_HM_top x2 a3 a4) fun v12 =>
        zd2 (f_HM_shift x2 x3 a3 a4) fun a13 a14 =>
        zd7 (f_HM_carrying x1 x4 x2 i_row a13 a14 v6 v7 v8 v9 a10 a11) fun v15 v16 v17 v18 v19 a20 a21 =>
        if zi_w v15 ≠ zi_w (-1) then
          zd1 (f_HM_top x4 a13 a14) fun v22 =>
          zn (v12 - v22) fun v23 =>
          zd1 (f_HM_size v23) fun v24 =>
          zg 5580 i_row 8 fun v25 =>
          if zi_w v25 ≤ zi_w v24 then
            zd2 (f_HM_shift x4 x2 a13 a14) fun a26 a27 =>
            zd1 (f_HM_store a26 a27 i_row) fun a28 =>
            zd3 (f_HM_tell v24 i_status i_refusals) fun v29 v30 a31 =>
            some (v29, 0, v30, v16, v17, v18, v19, a31, a28, a20, a21, a26, a27)
          else
            zd3 (f_HM_tell (-3) i_status i_refusals) fun v32 v33 a34 =>
            some (v32, 0, v33, v16, v17, v18, v19, a34, i_row, a20, a21, a13, a14)
        else
          zd3 (f_HM_tell (-3) i_status i_refusals) fun v35 v36 a37 =>
          some (v35, 0, v36, v16, v17, v18, v19, a37, i_row, a20, a21, a13, a14)
      else
        zd3 (f_HM_tell (-3) i_status i_refusals) fun v38 v39 a40 =>
        some (v38, 0, v39, v6, v7, v8, v9, a40, i_row, a10, a11, a3, a4)
    else
      f_HM_exchange_24 0 i_status i_law i_broken i_value i_sum i_refusals i_row i_set i_rest i_high i_heaps
set_option maxHeartbeats 4000000 in
set_option maxRecDepth 100000 in
theorem c_HM_exchange (l : Launch) (ev : zEv) (dC : Nat → ClassId) (dI : Nat → Nat → Nat) (cA : Nat → ClassId) (q0 q1 q2 q3 q4 q5 q6 q7 q8 q9 q10 q11 q12 q13 q14 q15 q16 q17 q18 q19 q20 q21 q22 q23 q24 q25 q26 q27 q28 q29 q30 q31 : Nat) (u0 u1 u2 u3 u4 u5 u6 u7 u8 u9 u10 u11 u12 u13 u14 u15 : Int) {x1 x2 x3 x4 : Int} {i_thrown : Int} {i_status : Int} {i_law : Int} {i_broken : Int} {i_value : Int} {i_sum : Int} {i_refusals : Nat → Int} {i_row : Nat → Int} {i_set : Nat → Int} {i_rest : Nat → Int} {i_high : Nat → Int} {i_heaps : Nat → Int} {out : Int × Int × Int × Int × Int × Int × Int × (Nat → Int) × (Nat → Int) × (Nat → Int) × (Nat → Int) × (Nat → Int) × (Nat → Int)} (hf : f_HM_exchange x1 x2 x3 x4 i_thrown i_status i_law i_broken i_value i_sum i_refusals i_row i_set i_rest i_high i_heaps = some out) : xc_I l ev (dC, dI) vwCl (tyl cA) yX11_exchange w_HM_exchange rm_HM_exchange [.ref q0, .int (Int32.ofInt x1), .int (Int32.ofInt x2), .int (Int32.ofInt x3), .int (Int32.ofInt x4)] (wd_HM_exchange cA q0 q1 q2 q3 q4 q5 q6 q7 q8 q9 q10 q11 q12 q13 q14 q15 q16 q17 q18 q19 q20 q21 q22 q23 q24 q25 q26 q27 q28 q29 q30 q31 u0 u1 u2 u3 u4 u5 u6 u7 u8 u9 u10 u11 u12 u13 u14 u15 i_thrown i_status i_law i_broken i_value i_sum i_refusals i_row i_set i_rest i_high i_heaps) (wf_HM_exchange cA q0 q1 q2 q3 q4 q5 q6 q7 q8 q9 q10 q11 q12 q13 q14 q15 q16 q17 q18 q19 q20 q21 q22 q23 q24 q25 q26 q27 q28 q29 q30 q31 u0 u1 u2 u3 u4 u5 u6 u7 u8 u9 u10 u11 u12 u13 u14 u15 out) out.1 := by
  refine xv_startI (cc := cX11_exchange) (maxL := 7) (rt := .int) (by decide +kernel) rfl (Nat.le_of_ble_eq_true rfl) ?_
  intro p e s m args below meth c A Q H ls hx hb hml hts hown hK hA hP hD hS hl hE hret
  have hown : s.vm.findClass "HillSchoolModel" = some m.cls := hown
  have hz : ∀ w ∈ zall, w.before args s = true := fun w h => hts w (List.mem_cons_of_mem _ h)
  have hl : lv_has ls 7 [(0, .ref q0), (1, .int (Int32.ofInt x1)), (2, .int (Int32.ofInt x2)), (3, .int (Int32.ofInt x3)), (4, .int (Int32.ofInt x4))] := hl
  have b_24 : ∀ (i_thrown : Int) (i_status : Int) (i_law : Int) (i_broken : Int) (i_value : Int) (i_sum : Int) (i_refusals : Nat → Int) (i_row : Nat → Int) (i_set : Nat → Int) (i_rest : Nat → Int) (i_high : Nat → Int) (i_heaps : Nat → Int) (H : Heap) (locs : List Loc) (ls : Array Slot), f_HM_exchange_24 i_thrown i_status i_law i_broken i_value i_sum i_refusals i_row i_set i_rest i_high i_heaps = some out → va_P (dC, dI) vwCl (wd_HM_exchange cA q0 q1 q2 q3 q4 q5 q6 q7 q8 q9 q10 q11 q12 q13 q14 q15 q16 q17 q18 q19 q20 q21 q22 q23 q24 q25 q26 q27 q28 q29 q30 q31 u0 u1 u2 u3 u4 u5 u6 u7 u8 u9 u10 u11 u12 u13 u14 u15 i_thrown i_status i_law i_broken i_value i_sum i_refusals i_row i_set i_rest i_high i_heaps) H → va_D A (wd_HM_exchange cA q0 q1 q2 q3 q4 q5 q6 q7 q8 q9 q10 q11 q12 q13 q14 q15 q16 q17 q18 q19 q20 q21 q22 q23 q24 q25 q26 q27 q28 q29 q30 q31 u0 u1 u2 u3 u4 u5 u6 u7 u8 u9 u10 u11 u12 u13 u14 u15 i_thrown i_status i_law i_broken i_value i_sum i_refusals i_row i_set i_rest i_high i_heaps) → va_S A s.heap H locs → lv_has ls 7 [(0, .ref q0)] → W p l e rm_HM_exchange s m args below meth c H locs 0 0 Q (F0 m 24 ls []) := by
    intro i_thrown i_status i_law i_broken i_value i_sum i_refusals i_row i_set i_rest i_high i_heaps H locs ls hf hP hD hS hl
    unfold f_HM_exchange_24 at hf
    refine lv_aload_n hx hb dX11_exchange_24 rfl (lv_at hl 0 rfl) ?_
    refine lv_bipush (v := Int32.ofInt (-2)) hx hb dX11_exchange_25 (by decide) ?_
    refine xe_d3 hf (fun v1 v2 a3 hg hf => ?_)
    have hC : ([0, 1] : List Nat).map (fun i => (wd_HM_exchange cA q0 q1 q2 q3 q4 q5 q6 q7 q8 q9 q10 q11 q12 q13 q14 q15 q16 q17 q18 q19 q20 q21 q22 q23 q24 q25 q26 q27 q28 q29 q30 q31 u0 u1 u2 u3 u4 u5 u6 u7 u8 u9 u10 u11 u12 u13 u14 u15 i_thrown i_status i_law i_broken i_value i_sum i_refusals i_row i_set i_rest i_high i_heaps)[i]?) = (wd_HM_tell cA q0 q1 q2 q3 q4 q5 q6 q7 q8 q9 q10 q11 q12 q13 q14 q15 q16 q17 q18 q19 q20 q21 q22 q23 q24 q25 q26 q27 q28 q29 q30 q31 i_thrown u0 u1 u2 u3 u4 u5 u6 u7 u8 u9 u10 u11 u12 i_law i_broken i_value i_sum u13 u14 u15 i_status i_refusals).map some := rfl
    refine xv_afterI (ws' := (wd_HM_exchange cA q0 q1 q2 q3 q4 q5 q6 q7 q8 q9 q10 q11 q12 q13 q14 q15 q16 q17 q18 q19 q20 q21 q22 q23 q24 q25 q26 q27 q28 q29 q30 q31 u0 u1 u2 u3 u4 u5 u6 u7 u8 u9 u10 u11 u12 u13 u14 u15 i_thrown v2 i_law i_broken i_value i_sum a3 i_row i_set i_rest i_high i_heaps)) (isC := [0, 1]) (ps := [some 0, some 1, none, none, none, none, none]) (va_runV (As := [.int (Int32.ofInt (-2))]) (rest := []) ⟨hx, hb, hml, hown, hts⟩ (c_HM_tell l ev dC dI cA q0 q1 q2 q3 q4 q5 q6 q7 q8 q9 q10 q11 q12 q13 q14 q15 q16 q17 q18 q19 q20 q21 q22 q23 q24 q25 q26 q27 q28 q29 q30 q31 i_thrown u0 u1 u2 u3 u4 u5 u6 u7 u8 u9 u10 u11 u12 i_law i_broken i_value i_sum u13 u14 u15 hg H.size) (cwV 1 hts (zgV zw_1332 zw_1334 zw_40 zw_115 zw_1335) rfl rfl rfl hd_HM_tell ⟨Nat.le_of_ble_eq_true rfl, Nat.le_of_ble_eq_true rfl⟩) (xv_preV (T := TX11) (N := 53) hE hA hS hK hP hD (isC := [0, 1]) (by decide +kernel) hC (q0 := 0) (ci := 11) rfl rfl) rfl rfl hl.1 rfl (lv_room (Nat.le_of_ble_eq_true rfl)) dX11_exchange_27 ⟨Nat.le_refl _, Nat.le_refl _⟩) hP hD hS hA (by decide +kernel) rfl hC rfl rfl (fun H locs hP hD hS => ?_)
    obtain rfl := Option.some.inj hf
    exact hret _ _ _ _ rfl dX11_exchange_30 hP hD hS
  unfold f_HM_exchange at hf
  refine lv_aload_n hx hb dX11_exchange_0 rfl (lv_at hl 0 rfl) ?_
  refine lv_iconst (v := Int32.ofInt 0) hx hb dX11_exchange_1 rfl ?_
  refine va_put (D := (dC, dI)) (ci := 11) (v := .int (Int32.ofInt 0)) (ty := .int) (C := RX11) (T := TX11) (N := 53) hx hb hz zi_X11 tyX11 tyX11_ok nmX11 hown hK hP hD hS 0 rfl rfl 0 (by decide) (hz _ zw_1165) (fun _ h9 => h9) rfl (by decide +kernel) rfl rfl (Nat.le_of_ble_eq_true rfl) dX11_exchange_2 (fun H locs hP hD hS => ?_)
  have hP : va_P (dC, dI) vwCl (wd_HM_exchange cA q0 q1 q2 q3 q4 q5 q6 q7 q8 q9 q10 q11 q12 q13 q14 q15 q16 q17 q18 q19 q20 q21 q22 q23 q24 q25 q26 q27 q28 q29 q30 q31 u0 u1 u2 u3 u4 u5 u6 u7 u8 u9 u10 u11 u12 u13 u14 u15 0 i_status i_law i_broken i_value i_sum i_refusals i_row i_set i_rest i_high i_heaps) H := hP
  have hD : va_D A (wd_HM_exchange cA q0 q1 q2 q3 q4 q5 q6 q7 q8 q9 q10 q11 q12 q13 q14 q15 q16 q17 q18 q19 q20 q21 q22 q23 q24 q25 q26 q27 q28 q29 q30 q31 u0 u1 u2 u3 u4 u5 u6 u7 u8 u9 u10 u11 u12 u13 u14 u15 0 i_status i_law i_broken i_value i_sum i_refusals i_row i_set i_rest i_high i_heaps) := hD
  refine lv_aload_n hx hb dX11_exchange_5 rfl (lv_at hl 0 rfl) ?_
  refine lv_iload_n hx hb dX11_exchange_6 rfl (lv_at hl 1 rfl) ?_
  refine lv_iload_n hx hb dX11_exchange_7 rfl (lv_at hl 2 rfl) ?_
  refine lv_iload_n hx hb dX11_exchange_8 rfl (lv_at hl 3 rfl) ?_
  refine xe_d1 hf (fun v1 hg hf => ?_)
  have hC : ([0, 2] : List Nat).map (fun i => (wd_HM_exchange cA q0 q1 q2 q3 q4 q5 q6 q7 q8 q9 q10 q11 q12 q13 q14 q15 q16 q17 q18 q19 q20 q21 q22 q23 q24 q25 q26 q27 q28 q29 q30 q31 u0 u1 u2 u3 u4 u5 u6 u7 u8 u9 u10 u11 u12 u13 u14 u15 0 i_status i_law i_broken i_value i_sum i_refusals i_row i_set i_rest i_high i_heaps)[i]?) = (wd_HM_are cA q0 q1 q2 q3 q4 q5 q6 q7 q8 q9 q10 q11 q12 q13 q14 q15 q16 q17 q18 q19 q20 q21 q22 q23 q24 q25 q26 q27 q28 q29 q30 q31 0 i_status u0 u1 u2 u3 u4 u5 u6 u7 u8 u9 u10 u11 u12 i_law i_broken i_value i_sum u13 u14 u15 i_row).map some := rfl
  refine xv_afterI (ws' := (wd_HM_exchange cA q0 q1 q2 q3 q4 q5 q6 q7 q8 q9 q10 q11 q12 q13 q14 q15 q16 q17 q18 q19 q20 q21 q22 q23 q24 q25 q26 q27 q28 q29 q30 q31 u0 u1 u2 u3 u4 u5 u6 u7 u8 u9 u10 u11 u12 u13 u14 u15 0 i_status i_law i_broken i_value i_sum i_refusals i_row i_set i_rest i_high i_heaps)) (isC := [0, 2]) (ps := [some 0, none, some 1, none, none, none, none]) (va_runV (As := [.int (Int32.ofInt x1), .int (Int32.ofInt x2), .int (Int32.ofInt x3)]) (rest := []) ⟨hx, hb, hml, hown, hts⟩ (c_HM_are l ev dC dI cA q0 q1 q2 q3 q4 q5 q6 q7 q8 q9 q10 q11 q12 q13 q14 q15 q16 q17 q18 q19 q20 q21 q22 q23 q24 q25 q26 q27 q28 q29 q30 q31 0 i_status u0 u1 u2 u3 u4 u5 u6 u7 u8 u9 u10 u11 u12 i_law i_broken i_value i_sum u13 u14 u15 hg H.size) (cwV 3 hts (zgV zw_1545 zw_1547 zw_65 zw_115 zw_1548) rfl rfl rfl hd_HM_are ⟨Nat.le_of_ble_eq_true rfl, Nat.le_of_ble_eq_true rfl⟩) (xv_preV (T := TX11) (N := 53) hE hA hS hK hP hD (isC := [0, 2]) (by decide +kernel) hC (q0 := 0) (ci := 11) rfl rfl) rfl rfl hl.1 rfl (lv_room (Nat.le_of_ble_eq_true rfl)) dX11_exchange_9 ⟨Nat.le_refl _, Nat.le_refl _⟩) hP hD hS hA (by decide +kernel) rfl hC rfl rfl (fun H locs hP hD hS => ?_)
  refine xi_if_eq (tgt := 24) hx hb dX11_exchange_12 (by decide) hf (fun hf => ?_) (fun hf => ?_)
  · exact b_24  _ _ _ _ _ _ _ _ _ _ _ _ _ _ _ hf hP hD hS (lv_sub hl [0] rfl)
  · refine lv_aload_n hx hb dX11_exchange_15 rfl (lv_at hl 0 rfl) ?_
    refine lv_iload hx hb dX11_exchange_16 (lv_at hl 4 rfl) ?_
    refine xe_d1 hf (fun v2 hg hf => ?_)
    have hC : ([0, 2] : List Nat).map (fun i => (wd_HM_exchange cA q0 q1 q2 q3 q4 q5 q6 q7 q8 q9 q10 q11 q12 q13 q14 q15 q16 q17 q18 q19 q20 q21 q22 q23 q24 q25 q26 q27 q28 q29 q30 q31 u0 u1 u2 u3 u4 u5 u6 u7 u8 u9 u10 u11 u12 u13 u14 u15 0 i_status i_law i_broken i_value i_sum i_refusals i_row i_set i_rest i_high i_heaps)[i]?) = (wd_HM_isColumn cA q0 q1 q2 q3 q4 q5 q6 q7 q8 q9 q10 q11 q12 q13 q14 q15 q16 q17 q18 q19 q20 q21 q22 q23 q24 q25 q26 q27 q28 q29 q30 q31 0 i_status u0 u1 u2 u3 u4 u5 u6 u7 u8 u9 u10 u11 u12 i_law i_broken i_value i_sum u13 u14 u15 i_row).map some := rfl
    refine xv_afterI (ws' := (wd_HM_exchange cA q0 q1 q2 q3 q4 q5 q6 q7 q8 q9 q10 q11 q12 q13 q14 q15 q16 q17 q18 q19 q20 q21 q22 q23 q24 q25 q26 q27 q28 q29 q30 q31 u0 u1 u2 u3 u4 u5 u6 u7 u8 u9 u10 u11 u12 u13 u14 u15 0 i_status i_law i_broken i_value i_sum i_refusals i_row i_set i_rest i_high i_heaps)) (isC := [0, 2]) (ps := [some 0, none, some 1, none, none, none, none]) (va_runV (As := [.int (Int32.ofInt x4)]) (rest := []) ⟨hx, hb, hml, hown, hts⟩ (c_HM_isColumn l ev dC dI cA q0 q1 q2 q3 q4 q5 q6 q7 q8 q9 q10 q11 q12 q13 q14 q15 q16 q17 q18 q19 q20 q21 q22 q23 q24 q25 q26 q27 q28 q29 q30 q31 0 i_status u0 u1 u2 u3 u4 u5 u6 u7 u8 u9 u10 u11 u12 i_law i_broken i_value i_sum u13 u14 u15 hg H.size) (cwV 1 hts (zgV zw_1356 zw_1358 zw_42 zw_115 zw_1359) rfl rfl rfl hd_HM_isColumn ⟨Nat.le_of_ble_eq_true rfl, Nat.le_of_ble_eq_true rfl⟩) (xv_preV (T := TX11) (N := 53) hE hA hS hK hP hD (isC := [0, 2]) (by decide +kernel) hC (q0 := 0) (ci := 11) rfl rfl) rfl rfl hl.1 rfl (lv_room (Nat.le_of_ble_eq_true rfl)) dX11_exchange_18 ⟨Nat.le_refl _, Nat.le_refl _⟩) hP hD hS hA (by decide +kernel) rfl hC rfl rfl (fun H locs hP hD hS => ?_)
    refine xi_if_ne (tgt := 31) hx hb dX11_exchange_21 (by decide) hf (fun hf => ?_) (fun hf => ?_)
    · refine lv_aload_n hx hb dX11_exchange_31 rfl (lv_at hl 0 rfl) ?_
      refine xe_d2 hf (fun a3 a4 hg hf => ?_)
      have hC : ([0, 2, 5, 6] : List Nat).map (fun i => (wd_HM_exchange cA q0 q1 q2 q3 q4 q5 q6 q7 q8 q9 q10 q11 q12 q13 q14 q15 q16 q17 q18 q19 q20 q21 q22 q23 q24 q25 q26 q27 q28 q29 q30 q31 u0 u1 u2 u3 u4 u5 u6 u7 u8 u9 u10 u11 u12 u13 u14 u15 0 i_status i_law i_broken i_value i_sum i_refusals i_row i_set i_rest i_high i_heaps)[i]?) = (wd_HM_load cA q0 q1 q2 q3 q4 q5 q6 q7 q8 q9 q10 q11 q12 q13 q14 q15 q16 q17 q18 q19 q20 q21 q22 q23 q24 q25 q26 q27 q28 q29 q30 q31 0 i_status u0 u1 u2 u3 u4 u5 u6 u7 u8 u9 u10 u11 u12 i_law i_broken i_value i_sum u13 u14 u15 i_row i_high i_heaps).map some := rfl
      refine xv_afterV (ws' := (wd_HM_exchange cA q0 q1 q2 q3 q4 q5 q6 q7 q8 q9 q10 q11 q12 q13 q14 q15 q16 q17 q18 q19 q20 q21 q22 q23 q24 q25 q26 q27 q28 q29 q30 q31 u0 u1 u2 u3 u4 u5 u6 u7 u8 u9 u10 u11 u12 u13 u14 u15 0 i_status i_law i_broken i_value i_sum i_refusals i_row i_set i_rest a3 a4)) (isC := [0, 2, 5, 6]) (ps := [some 0, none, some 1, none, none, some 2, some 3]) (va_runV (As := []) (rest := []) ⟨hx, hb, hml, hown, hts⟩ (c_HM_load l ev dC dI cA q0 q1 q2 q3 q4 q5 q6 q7 q8 q9 q10 q11 q12 q13 q14 q15 q16 q17 q18 q19 q20 q21 q22 q23 q24 q25 q26 q27 q28 q29 q30 q31 0 i_status u0 u1 u2 u3 u4 u5 u6 u7 u8 u9 u10 u11 u12 i_law i_broken i_value i_sum u13 u14 u15 hg H.size) (cwV 0 hts (zgV zw_1549 zw_1551 zw_66 zw_115 zw_1552) rfl rfl rfl hd_HM_load ⟨Nat.le_of_ble_eq_true rfl, Nat.le_of_ble_eq_true rfl⟩) (xv_preV (T := TX11) (N := 53) hE hA hS hK hP hD (isC := [0, 2, 5, 6]) (by decide +kernel) hC (q0 := 0) (ci := 11) rfl rfl) rfl rfl hl.1 rfl (lv_room (Nat.le_of_ble_eq_true rfl)) dX11_exchange_32 ⟨Nat.le_refl _, Nat.le_refl _⟩) hP hD hS hA (by decide +kernel) rfl hC rfl rfl (fun H locs hP hD hS => ?_)
      refine lv_aload_n hx hb dX11_exchange_35 rfl (lv_at hl 0 rfl) ?_
      refine lv_iload_n hx hb dX11_exchange_36 rfl (lv_at hl 1 rfl) ?_
      refine lv_iload_n hx hb dX11_exchange_37 rfl (lv_at hl 2 rfl) ?_
      refine lv_iload_n hx hb dX11_exchange_38 rfl (lv_at hl 3 rfl) ?_
      refine xe_d7 hf (fun v5 v6 v7 v8 v9 a10 a11 hg hf => ?_)
      have hC : ([0, 2, 3, 4, 5, 6] : List Nat).map (fun i => (wd_HM_exchange cA q0 q1 q2 q3 q4 q5 q6 q7 q8 q9 q10 q11 q12 q13 q14 q15 q16 q17 q18 q19 q20 q21 q22 q23 q24 q25 q26 q27 q28 q29 q30 q31 u0 u1 u2 u3 u4 u5 u6 u7 u8 u9 u10 u11 u12 u13 u14 u15 0 i_status i_law i_broken i_value i_sum i_refusals i_row i_set i_rest a3 a4)[i]?) = (wd_HM_carrying cA q0 q1 q2 q3 q4 q5 q6 q7 q8 q9 q10 q11 q12 q13 q14 q15 q16 q17 q18 q19 q20 q21 q22 q23 q24 q25 q26 q27 q28 q29 q30 q31 0 i_status u0 u1 u2 u3 u4 u5 u6 u7 u8 u9 u10 u11 u12 u13 u14 u15 i_row a3 a4 i_law i_broken i_value i_sum i_set i_rest).map some := rfl
      refine xv_afterI (ws' := (wd_HM_exchange cA q0 q1 q2 q3 q4 q5 q6 q7 q8 q9 q10 q11 q12 q13 q14 q15 q16 q17 q18 q19 q20 q21 q22 q23 q24 q25 q26 q27 q28 q29 q30 q31 u0 u1 u2 u3 u4 u5 u6 u7 u8 u9 u10 u11 u12 u13 u14 u15 0 i_status v6 v7 v8 v9 i_refusals i_row a10 a11 a3 a4)) (isC := [0, 2, 3, 4, 5, 6]) (ps := [some 0, none, some 1, some 2, some 3, some 4, some 5]) (va_runV (As := [.int (Int32.ofInt x1), .int (Int32.ofInt x2), .int (Int32.ofInt x3)]) (rest := []) ⟨hx, hb, hml, hown, hts⟩ (c_HM_carrying l ev dC dI cA q0 q1 q2 q3 q4 q5 q6 q7 q8 q9 q10 q11 q12 q13 q14 q15 q16 q17 q18 q19 q20 q21 q22 q23 q24 q25 q26 q27 q28 q29 q30 q31 0 i_status u0 u1 u2 u3 u4 u5 u6 u7 u8 u9 u10 u11 u12 u13 u14 u15 hg H.size) (cwV 3 hts (zgV zw_1553 zw_1555 zw_67 zw_115 zw_1556) rfl rfl rfl hd_HM_carrying ⟨Nat.le_of_ble_eq_true rfl, Nat.le_of_ble_eq_true rfl⟩) (xv_preV (T := TX11) (N := 53) hE hA hS hK hP hD (isC := [0, 2, 3, 4, 5, 6]) (by decide +kernel) hC (q0 := 0) (ci := 11) rfl rfl) rfl rfl hl.1 rfl (lv_room (Nat.le_of_ble_eq_true rfl)) dX11_exchange_39 ⟨Nat.le_refl _, Nat.le_refl _⟩) hP hD hS hA (by decide +kernel) rfl hC rfl rfl (fun H locs hP hD hS => ?_)
      refine lv_iconst (v := Int32.ofInt (-1)) hx hb dX11_exchange_42 rfl ?_
      refine xi_icmp_ne (tgt := 53) hx hb dX11_exchange_43 (by decide) hf (fun hf => ?_) (fun hf => ?_)
      · refine lv_aload_n hx hb dX11_exchange_53 rfl (lv_at hl 0 rfl) ?_
        refine lv_iload_n hx hb dX11_exchange_54 rfl (lv_at hl 2 rfl) ?_
        refine xe_d1 hf (fun v12 hg hf => ?_)
        have hC : ([0, 5, 6] : List Nat).map (fun i => (wd_HM_exchange cA q0 q1 q2 q3 q4 q5 q6 q7 q8 q9 q10 q11 q12 q13 q14 q15 q16 q17 q18 q19 q20 q21 q22 q23 q24 q25 q26 q27 q28 q29 q30 q31 u0 u1 u2 u3 u4 u5 u6 u7 u8 u9 u10 u11 u12 u13 u14 u15 0 i_status v6 v7 v8 v9 i_refusals i_row a10 a11 a3 a4)[i]?) = (wd_HM_top cA q0 q1 q2 q3 q4 q5 q6 q7 q8 q9 q10 q11 q12 q13 q14 q15 q16 q17 q18 q19 q20 q21 q22 q23 q24 q25 q26 q27 q28 q29 q30 q31 0 i_status u0 u1 u2 u3 u4 u5 u6 u7 u8 u9 u10 u11 u12 v6 v7 v8 v9 u13 u14 u15 a3 a4).map some := rfl
        refine xv_afterI (ws' := (wd_HM_exchange cA q0 q1 q2 q3 q4 q5 q6 q7 q8 q9 q10 q11 q12 q13 q14 q15 q16 q17 q18 q19 q20 q21 q22 q23 q24 q25 q26 q27 q28 q29 q30 q31 u0 u1 u2 u3 u4 u5 u6 u7 u8 u9 u10 u11 u12 u13 u14 u15 0 i_status v6 v7 v8 v9 i_refusals i_row a10 a11 a3 a4)) (isC := [0, 5, 6]) (ps := [some 0, none, none, none, none, some 1, some 2]) (va_runV (As := [.int (Int32.ofInt x2)]) (rest := []) ⟨hx, hb, hml, hown, hts⟩ (c_HM_top l ev dC dI cA q0 q1 q2 q3 q4 q5 q6 q7 q8 q9 q10 q11 q12 q13 q14 q15 q16 q17 q18 q19 q20 q21 q22 q23 q24 q25 q26 q27 q28 q29 q30 q31 0 i_status u0 u1 u2 u3 u4 u5 u6 u7 u8 u9 u10 u11 u12 v6 v7 v8 v9 u13 u14 u15 hg H.size) (cwV 1 hts (zgV zw_1557 zw_1559 zw_68 zw_115 zw_1560) rfl rfl rfl hd_HM_top ⟨Nat.le_of_ble_eq_true rfl, Nat.le_of_ble_eq_true rfl⟩) (xv_preV (T := TX11) (N := 53) hE hA hS hK hP hD (isC := [0, 5, 6]) (by decide +kernel) hC (q0 := 0) (ci := 11) rfl rfl) rfl rfl hl.1 rfl (lv_room (Nat.le_of_ble_eq_true rfl)) dX11_exchange_55 ⟨Nat.le_refl _, Nat.le_refl _⟩) hP hD hS hA (by decide +kernel) rfl hC rfl rfl (fun H locs hP hD hS => ?_)
        refine lv_istore (lv' := [(5, .int (Int32.ofInt v12)), (0, .ref q0), (1, .int (Int32.ofInt x1)), (2, .int (Int32.ofInt x2)), (3, .int (Int32.ofInt x3)), (4, .int (Int32.ofInt x4))]) hx hb dX11_exchange_58 hl (by decide) rfl (fun ls hl => ?_)
        refine lv_aload_n hx hb dX11_exchange_60 rfl (lv_at hl 1 rfl) ?_
        refine lv_iload_n hx hb dX11_exchange_61 rfl (lv_at hl 3 rfl) ?_
        refine lv_iload_n hx hb dX11_exchange_62 rfl (lv_at hl 4 rfl) ?_
        refine xe_d2 hf (fun a13 a14 hg hf => ?_)
        have hC : ([0, 5, 6] : List Nat).map (fun i => (wd_HM_exchange cA q0 q1 q2 q3 q4 q5 q6 q7 q8 q9 q10 q11 q12 q13 q14 q15 q16 q17 q18 q19 q20 q21 q22 q23 q24 q25 q26 q27 q28 q29 q30 q31 u0 u1 u2 u3 u4 u5 u6 u7 u8 u9 u10 u11 u12 u13 u14 u15 0 i_status v6 v7 v8 v9 i_refusals i_row a10 a11 a3 a4)[i]?) = (wd_HM_shift cA q0 q1 q2 q3 q4 q5 q6 q7 q8 q9 q10 q11 q12 q13 q14 q15 q16 q17 q18 q19 q20 q21 q22 q23 q24 q25 q26 q27 q28 q29 q30 q31 0 i_status u0 u1 u2 u3 u4 u5 u6 u7 u8 u9 u10 u11 u12 v6 v7 v8 v9 u13 u14 u15 a3 a4).map some := rfl
        refine xv_afterV (ws' := (wd_HM_exchange cA q0 q1 q2 q3 q4 q5 q6 q7 q8 q9 q10 q11 q12 q13 q14 q15 q16 q17 q18 q19 q20 q21 q22 q23 q24 q25 q26 q27 q28 q29 q30 q31 u0 u1 u2 u3 u4 u5 u6 u7 u8 u9 u10 u11 u12 u13 u14 u15 0 i_status v6 v7 v8 v9 i_refusals i_row a10 a11 a13 a14)) (isC := [0, 5, 6]) (ps := [some 0, none, none, none, none, some 1, some 2]) (va_runV (As := [.int (Int32.ofInt x2), .int (Int32.ofInt x3)]) (rest := []) ⟨hx, hb, hml, hown, hts⟩ (c_HM_shift l ev dC dI cA q0 q1 q2 q3 q4 q5 q6 q7 q8 q9 q10 q11 q12 q13 q14 q15 q16 q17 q18 q19 q20 q21 q22 q23 q24 q25 q26 q27 q28 q29 q30 q31 0 i_status u0 u1 u2 u3 u4 u5 u6 u7 u8 u9 u10 u11 u12 v6 v7 v8 v9 u13 u14 u15 hg H.size) (cwV 2 hts (zgV zw_1590 zw_1592 zw_73 zw_115 zw_1593) rfl rfl rfl hd_HM_shift ⟨Nat.le_of_ble_eq_true rfl, Nat.le_of_ble_eq_true rfl⟩) (xv_preV (T := TX11) (N := 53) hE hA hS hK hP hD (isC := [0, 5, 6]) (by decide +kernel) hC (q0 := 0) (ci := 11) rfl rfl) rfl rfl hl.1 rfl (lv_room (Nat.le_of_ble_eq_true rfl)) dX11_exchange_63 ⟨Nat.le_refl _, Nat.le_refl _⟩) hP hD hS hA (by decide +kernel) rfl hC rfl rfl (fun H locs hP hD hS => ?_)
        refine lv_aload_n hx hb dX11_exchange_66 rfl (lv_at hl 1 rfl) ?_
        refine lv_iload_n hx hb dX11_exchange_67 rfl (lv_at hl 2 rfl) ?_
        refine lv_iload hx hb dX11_exchange_68 (lv_at hl 5 rfl) ?_
        refine lv_iload_n hx hb dX11_exchange_70 rfl (lv_at hl 3 rfl) ?_
        refine xe_d7 hf (fun v15 v16 v17 v18 v19 a20 a21 hg hf => ?_)
        have hC : ([0, 2, 3, 4, 5, 6] : List Nat).map (fun i => (wd_HM_exchange cA q0 q1 q2 q3 q4 q5 q6 q7 q8 q9 q10 q11 q12 q13 q14 q15 q16 q17 q18 q19 q20 q21 q22 q23 q24 q25 q26 q27 q28 q29 q30 q31 u0 u1 u2 u3 u4 u5 u6 u7 u8 u9 u10 u11 u12 u13 u14 u15 0 i_status v6 v7 v8 v9 i_refusals i_row a10 a11 a13 a14)[i]?) = (wd_HM_carrying cA q0 q1 q2 q3 q4 q5 q6 q7 q8 q9 q10 q11 q12 q13 q14 q15 q16 q17 q18 q19 q20 q21 q22 q23 q24 q25 q26 q27 q28 q29 q30 q31 0 i_status u0 u1 u2 u3 u4 u5 u6 u7 u8 u9 u10 u11 u12 u13 u14 u15 i_row a13 a14 v6 v7 v8 v9 a10 a11).map some := rfl
        refine xv_afterI (ws' := (wd_HM_exchange cA q0 q1 q2 q3 q4 q5 q6 q7 q8 q9 q10 q11 q12 q13 q14 q15 q16 q17 q18 q19 q20 q21 q22 q23 q24 q25 q26 q27 q28 q29 q30 q31 u0 u1 u2 u3 u4 u5 u6 u7 u8 u9 u10 u11 u12 u13 u14 u15 0 i_status v16 v17 v18 v19 i_refusals i_row a20 a21 a13 a14)) (isC := [0, 2, 3, 4, 5, 6]) (ps := [some 0, none, some 1, some 2, some 3, some 4, some 5]) (va_runV (As := [.int (Int32.ofInt x1), .int (Int32.ofInt x4), .int (Int32.ofInt x2)]) (rest := []) ⟨hx, hb, hml, hown, hts⟩ (c_HM_carrying l ev dC dI cA q0 q1 q2 q3 q4 q5 q6 q7 q8 q9 q10 q11 q12 q13 q14 q15 q16 q17 q18 q19 q20 q21 q22 q23 q24 q25 q26 q27 q28 q29 q30 q31 0 i_status u0 u1 u2 u3 u4 u5 u6 u7 u8 u9 u10 u11 u12 u13 u14 u15 hg H.size) (cwV 3 hts (zgV zw_1553 zw_1555 zw_67 zw_115 zw_1556) rfl rfl rfl hd_HM_carrying ⟨Nat.le_of_ble_eq_true rfl, Nat.le_of_ble_eq_true rfl⟩) (xv_preV (T := TX11) (N := 53) hE hA hS hK hP hD (isC := [0, 2, 3, 4, 5, 6]) (by decide +kernel) hC (q0 := 0) (ci := 11) rfl rfl) rfl rfl hl.1 rfl (lv_room (Nat.le_of_ble_eq_true rfl)) dX11_exchange_71 ⟨Nat.le_refl _, Nat.le_refl _⟩) hP hD hS hA (by decide +kernel) rfl hC rfl rfl (fun H locs hP hD hS => ?_)
        refine lv_iconst (v := Int32.ofInt (-1)) hx hb dX11_exchange_74 rfl ?_
        refine xi_icmp_ne (tgt := 85) hx hb dX11_exchange_75 (by decide) hf (fun hf => ?_) (fun hf => ?_)
        · refine lv_iload hx hb dX11_exchange_85 (lv_at hl 0 rfl) ?_
          refine lv_aload_n hx hb dX11_exchange_87 rfl (lv_at hl 1 rfl) ?_
          refine lv_iload hx hb dX11_exchange_88 (lv_at hl 5 rfl) ?_
          refine xe_d1 hf (fun v22 hg hf => ?_)
          have hC : ([0, 5, 6] : List Nat).map (fun i => (wd_HM_exchange cA q0 q1 q2 q3 q4 q5 q6 q7 q8 q9 q10 q11 q12 q13 q14 q15 q16 q17 q18 q19 q20 q21 q22 q23 q24 q25 q26 q27 q28 q29 q30 q31 u0 u1 u2 u3 u4 u5 u6 u7 u8 u9 u10 u11 u12 u13 u14 u15 0 i_status v16 v17 v18 v19 i_refusals i_row a20 a21 a13 a14)[i]?) = (wd_HM_top cA q0 q1 q2 q3 q4 q5 q6 q7 q8 q9 q10 q11 q12 q13 q14 q15 q16 q17 q18 q19 q20 q21 q22 q23 q24 q25 q26 q27 q28 q29 q30 q31 0 i_status u0 u1 u2 u3 u4 u5 u6 u7 u8 u9 u10 u11 u12 v16 v17 v18 v19 u13 u14 u15 a13 a14).map some := rfl
          refine xv_afterI (ws' := (wd_HM_exchange cA q0 q1 q2 q3 q4 q5 q6 q7 q8 q9 q10 q11 q12 q13 q14 q15 q16 q17 q18 q19 q20 q21 q22 q23 q24 q25 q26 q27 q28 q29 q30 q31 u0 u1 u2 u3 u4 u5 u6 u7 u8 u9 u10 u11 u12 u13 u14 u15 0 i_status v16 v17 v18 v19 i_refusals i_row a20 a21 a13 a14)) (isC := [0, 5, 6]) (ps := [some 0, none, none, none, none, some 1, some 2]) (va_runV (As := [.int (Int32.ofInt x4)]) (rest := [.int (Int32.ofInt v12)]) ⟨hx, hb, hml, hown, hts⟩ (c_HM_top l ev dC dI cA q0 q1 q2 q3 q4 q5 q6 q7 q8 q9 q10 q11 q12 q13 q14 q15 q16 q17 q18 q19 q20 q21 q22 q23 q24 q25 q26 q27 q28 q29 q30 q31 0 i_status u0 u1 u2 u3 u4 u5 u6 u7 u8 u9 u10 u11 u12 v16 v17 v18 v19 u13 u14 u15 hg H.size) (cwV 1 hts (zgV zw_1557 zw_1559 zw_68 zw_115 zw_1560) rfl rfl rfl hd_HM_top ⟨Nat.le_of_ble_eq_true rfl, Nat.le_of_ble_eq_true rfl⟩) (xv_preV (T := TX11) (N := 53) hE hA hS hK hP hD (isC := [0, 5, 6]) (by decide +kernel) hC (q0 := 0) (ci := 11) rfl rfl) rfl rfl hl.1 rfl (lv_room (Nat.le_of_ble_eq_true rfl)) dX11_exchange_90 ⟨Nat.le_refl _, Nat.le_refl _⟩) hP hD hS hA (by decide +kernel) rfl hC rfl rfl (fun H locs hP hD hS => ?_)
          refine xi_isub hx hb dX11_exchange_93 hf (fun v23 hf => ?_)
          refine xe_d1 hf (fun v24 hg hf => ?_)
          have hC : ([] : List Nat).map (fun i => (wd_HM_exchange cA q0 q1 q2 q3 q4 q5 q6 q7 q8 q9 q10 q11 q12 q13 q14 q15 q16 q17 q18 q19 q20 q21 q22 q23 q24 q25 q26 q27 q28 q29 q30 q31 u0 u1 u2 u3 u4 u5 u6 u7 u8 u9 u10 u11 u12 u13 u14 u15 0 i_status v16 v17 v18 v19 i_refusals i_row a20 a21 a13 a14)[i]?) = (wd_HM_size cA).map some := rfl
          refine xv_afterI (ws' := (wd_HM_exchange cA q0 q1 q2 q3 q4 q5 q6 q7 q8 q9 q10 q11 q12 q13 q14 q15 q16 q17 q18 q19 q20 q21 q22 q23 q24 q25 q26 q27 q28 q29 q30 q31 u0 u1 u2 u3 u4 u5 u6 u7 u8 u9 u10 u11 u12 u13 u14 u15 0 i_status v16 v17 v18 v19 i_refusals i_row a20 a21 a13 a14)) (isC := []) (ps := [none, none, none, none, none, none, none]) (va_runS (As := [.int (Int32.ofInt v23)]) (rest := []) ⟨hx, hb, hml, hown, hts⟩ (c_HM_size l ev dC dI cA hg H.size) (va_cwS 1 hts (zgS zw_1565 zw_1566 zw_115 zw_1567) rfl rfl rfl hd_HM_size.2 ⟨Nat.le_of_ble_eq_true rfl, Nat.le_of_ble_eq_true rfl⟩) (xv_preS hE hA hS hK hP hD (isC := []) (by decide +kernel) hC) rfl rfl hl.1 rfl (lv_room (Nat.le_of_ble_eq_true rfl)) dX11_exchange_94 ⟨Nat.le_refl _, Nat.le_refl _⟩) hP hD hS hA (by decide +kernel) rfl hC rfl rfl (fun H locs hP hD hS => ?_)
          refine lv_istore (lv' := [(6, .int (Int32.ofInt v24)), (5, .int (Int32.ofInt v12)), (0, .ref q0), (1, .int (Int32.ofInt x1)), (2, .int (Int32.ofInt x2)), (3, .int (Int32.ofInt x3)), (4, .int (Int32.ofInt x4))]) hx hb dX11_exchange_97 hl (by decide) rfl (fun ls hl => ?_)
          refine lv_iload hx hb dX11_exchange_99 (lv_at hl 0 rfl) ?_
          refine lv_aload_n hx hb dX11_exchange_101 rfl (lv_at hl 2 rfl) ?_
          refine va_get (D := (dC, dI)) (ci := 11) (v := .ref q2) (C := RX11) (T := TX11) (N := 53) hx hb hz zi_X11 hown hK hP 0 rfl rfl 3 (by decide) (hz _ zw_1168) (fun _ h9 => h9) rfl dX11_exchange_102 ?_
          refine lv_bipush (v := Int32.ofInt 8) hx hb dX11_exchange_105 (by decide) ?_
          refine xi_iald hx hb hK hP 2 0 rfl rfl dX11_exchange_107 hf (fun v25 hf => ?_)
          refine xi_icmp_ge (tgt := 118) hx hb dX11_exchange_108 (by decide) hf (fun hf => ?_) (fun hf => ?_)
          · refine lv_aload_n hx hb dX11_exchange_118 rfl (lv_at hl 2 rfl) ?_
            refine lv_iload hx hb dX11_exchange_119 (lv_at hl 6 rfl) ?_
            refine lv_iload_n hx hb dX11_exchange_121 rfl (lv_at hl 4 rfl) ?_
            refine xe_d2 hf (fun a26 a27 hg hf => ?_)
            have hC : ([0, 5, 6] : List Nat).map (fun i => (wd_HM_exchange cA q0 q1 q2 q3 q4 q5 q6 q7 q8 q9 q10 q11 q12 q13 q14 q15 q16 q17 q18 q19 q20 q21 q22 q23 q24 q25 q26 q27 q28 q29 q30 q31 u0 u1 u2 u3 u4 u5 u6 u7 u8 u9 u10 u11 u12 u13 u14 u15 0 i_status v16 v17 v18 v19 i_refusals i_row a20 a21 a13 a14)[i]?) = (wd_HM_shift cA q0 q1 q2 q3 q4 q5 q6 q7 q8 q9 q10 q11 q12 q13 q14 q15 q16 q17 q18 q19 q20 q21 q22 q23 q24 q25 q26 q27 q28 q29 q30 q31 0 i_status u0 u1 u2 u3 u4 u5 u6 u7 u8 u9 u10 u11 u12 v16 v17 v18 v19 u13 u14 u15 a13 a14).map some := rfl
            refine xv_afterV (ws' := (wd_HM_exchange cA q0 q1 q2 q3 q4 q5 q6 q7 q8 q9 q10 q11 q12 q13 q14 q15 q16 q17 q18 q19 q20 q21 q22 q23 q24 q25 q26 q27 q28 q29 q30 q31 u0 u1 u2 u3 u4 u5 u6 u7 u8 u9 u10 u11 u12 u13 u14 u15 0 i_status v16 v17 v18 v19 i_refusals i_row a20 a21 a26 a27)) (isC := [0, 5, 6]) (ps := [some 0, none, none, none, none, some 1, some 2]) (va_runV (As := [.int (Int32.ofInt x4), .int (Int32.ofInt x2)]) (rest := []) ⟨hx, hb, hml, hown, hts⟩ (c_HM_shift l ev dC dI cA q0 q1 q2 q3 q4 q5 q6 q7 q8 q9 q10 q11 q12 q13 q14 q15 q16 q17 q18 q19 q20 q21 q22 q23 q24 q25 q26 q27 q28 q29 q30 q31 0 i_status u0 u1 u2 u3 u4 u5 u6 u7 u8 u9 u10 u11 u12 v16 v17 v18 v19 u13 u14 u15 hg H.size) (cwV 2 hts (zgV zw_1590 zw_1592 zw_73 zw_115 zw_1593) rfl rfl rfl hd_HM_shift ⟨Nat.le_of_ble_eq_true rfl, Nat.le_of_ble_eq_true rfl⟩) (xv_preV (T := TX11) (N := 53) hE hA hS hK hP hD (isC := [0, 5, 6]) (by decide +kernel) hC (q0 := 0) (ci := 11) rfl rfl) rfl rfl hl.1 rfl (lv_room (Nat.le_of_ble_eq_true rfl)) dX11_exchange_122 ⟨Nat.le_refl _, Nat.le_refl _⟩) hP hD hS hA (by decide +kernel) rfl hC rfl rfl (fun H locs hP hD hS => ?_)
            refine lv_aload_n hx hb dX11_exchange_125 rfl (lv_at hl 2 rfl) ?_
            refine xe_d1 hf (fun a28 hg hf => ?_)
            have hC : ([0, 2, 5, 6] : List Nat).map (fun i => (wd_HM_exchange cA q0 q1 q2 q3 q4 q5 q6 q7 q8 q9 q10 q11 q12 q13 q14 q15 q16 q17 q18 q19 q20 q21 q22 q23 q24 q25 q26 q27 q28 q29 q30 q31 u0 u1 u2 u3 u4 u5 u6 u7 u8 u9 u10 u11 u12 u13 u14 u15 0 i_status v16 v17 v18 v19 i_refusals i_row a20 a21 a26 a27)[i]?) = (wd_HM_store cA q0 q1 q2 q3 q4 q5 q6 q7 q8 q9 q10 q11 q12 q13 q14 q15 q16 q17 q18 q19 q20 q21 q22 q23 q24 q25 q26 q27 q28 q29 q30 q31 0 i_status u0 u1 u2 u3 u4 u5 u6 u7 u8 u9 u10 u11 u12 v16 v17 v18 v19 u13 u14 u15 a26 a27 i_row).map some := rfl
            refine xv_afterV (ws' := (wd_HM_exchange cA q0 q1 q2 q3 q4 q5 q6 q7 q8 q9 q10 q11 q12 q13 q14 q15 q16 q17 q18 q19 q20 q21 q22 q23 q24 q25 q26 q27 q28 q29 q30 q31 u0 u1 u2 u3 u4 u5 u6 u7 u8 u9 u10 u11 u12 u13 u14 u15 0 i_status v16 v17 v18 v19 i_refusals a28 a20 a21 a26 a27)) (isC := [0, 2, 5, 6]) (ps := [some 0, none, some 1, none, none, some 2, some 3]) (va_runV (As := []) (rest := []) ⟨hx, hb, hml, hown, hts⟩ (c_HM_store l ev dC dI cA q0 q1 q2 q3 q4 q5 q6 q7 q8 q9 q10 q11 q12 q13 q14 q15 q16 q17 q18 q19 q20 q21 q22 q23 q24 q25 q26 q27 q28 q29 q30 q31 0 i_status u0 u1 u2 u3 u4 u5 u6 u7 u8 u9 u10 u11 u12 v16 v17 v18 v19 u13 u14 u15 hg H.size) (cwV 0 hts (zgV zw_1594 zw_1596 zw_74 zw_115 zw_1597) rfl rfl rfl hd_HM_store ⟨Nat.le_of_ble_eq_true rfl, Nat.le_of_ble_eq_true rfl⟩) (xv_preV (T := TX11) (N := 53) hE hA hS hK hP hD (isC := [0, 2, 5, 6]) (by decide +kernel) hC (q0 := 0) (ci := 11) rfl rfl) rfl rfl hl.1 rfl (lv_room (Nat.le_of_ble_eq_true rfl)) dX11_exchange_126 ⟨Nat.le_refl _, Nat.le_refl _⟩) hP hD hS hA (by decide +kernel) rfl hC rfl rfl (fun H locs hP hD hS => ?_)
            refine lv_aload_n hx hb dX11_exchange_129 rfl (lv_at hl 2 rfl) ?_
            refine lv_iload hx hb dX11_exchange_130 (lv_at hl 0 rfl) ?_
            refine xe_d3 hf (fun v29 v30 a31 hg hf => ?_)
            have hC : ([0, 1] : List Nat).map (fun i => (wd_HM_exchange cA q0 q1 q2 q3 q4 q5 q6 q7 q8 q9 q10 q11 q12 q13 q14 q15 q16 q17 q18 q19 q20 q21 q22 q23 q24 q25 q26 q27 q28 q29 q30 q31 u0 u1 u2 u3 u4 u5 u6 u7 u8 u9 u10 u11 u12 u13 u14 u15 0 i_status v16 v17 v18 v19 i_refusals a28 a20 a21 a26 a27)[i]?) = (wd_HM_tell cA q0 q1 q2 q3 q4 q5 q6 q7 q8 q9 q10 q11 q12 q13 q14 q15 q16 q17 q18 q19 q20 q21 q22 q23 q24 q25 q26 q27 q28 q29 q30 q31 0 u0 u1 u2 u3 u4 u5 u6 u7 u8 u9 u10 u11 u12 v16 v17 v18 v19 u13 u14 u15 i_status i_refusals).map some := rfl
            refine xv_afterI (ws' := (wd_HM_exchange cA q0 q1 q2 q3 q4 q5 q6 q7 q8 q9 q10 q11 q12 q13 q14 q15 q16 q17 q18 q19 q20 q21 q22 q23 q24 q25 q26 q27 q28 q29 q30 q31 u0 u1 u2 u3 u4 u5 u6 u7 u8 u9 u10 u11 u12 u13 u14 u15 0 v30 v16 v17 v18 v19 a31 a28 a20 a21 a26 a27)) (isC := [0, 1]) (ps := [some 0, some 1, none, none, none, none, none]) (va_runV (As := [.int (Int32.ofInt v24)]) (rest := []) ⟨hx, hb, hml, hown, hts⟩ (c_HM_tell l ev dC dI cA q0 q1 q2 q3 q4 q5 q6 q7 q8 q9 q10 q11 q12 q13 q14 q15 q16 q17 q18 q19 q20 q21 q22 q23 q24 q25 q26 q27 q28 q29 q30 q31 0 u0 u1 u2 u3 u4 u5 u6 u7 u8 u9 u10 u11 u12 v16 v17 v18 v19 u13 u14 u15 hg H.size) (cwV 1 hts (zgV zw_1332 zw_1334 zw_40 zw_115 zw_1335) rfl rfl rfl hd_HM_tell ⟨Nat.le_of_ble_eq_true rfl, Nat.le_of_ble_eq_true rfl⟩) (xv_preV (T := TX11) (N := 53) hE hA hS hK hP hD (isC := [0, 1]) (by decide +kernel) hC (q0 := 0) (ci := 11) rfl rfl) rfl rfl hl.1 rfl (lv_room (Nat.le_of_ble_eq_true rfl)) dX11_exchange_132 ⟨Nat.le_refl _, Nat.le_refl _⟩) hP hD hS hA (by decide +kernel) rfl hC rfl rfl (fun H locs hP hD hS => ?_)
            obtain rfl := Option.some.inj hf
            exact hret _ _ _ _ rfl dX11_exchange_135 hP hD hS
          · refine lv_aload_n hx hb dX11_exchange_111 rfl (lv_at hl 2 rfl) ?_
            refine lv_bipush (v := Int32.ofInt (-3)) hx hb dX11_exchange_112 (by decide) ?_
            refine xe_d3 hf (fun v32 v33 a34 hg hf => ?_)
            have hC : ([0, 1] : List Nat).map (fun i => (wd_HM_exchange cA q0 q1 q2 q3 q4 q5 q6 q7 q8 q9 q10 q11 q12 q13 q14 q15 q16 q17 q18 q19 q20 q21 q22 q23 q24 q25 q26 q27 q28 q29 q30 q31 u0 u1 u2 u3 u4 u5 u6 u7 u8 u9 u10 u11 u12 u13 u14 u15 0 i_status v16 v17 v18 v19 i_refusals i_row a20 a21 a13 a14)[i]?) = (wd_HM_tell cA q0 q1 q2 q3 q4 q5 q6 q7 q8 q9 q10 q11 q12 q13 q14 q15 q16 q17 q18 q19 q20 q21 q22 q23 q24 q25 q26 q27 q28 q29 q30 q31 0 u0 u1 u2 u3 u4 u5 u6 u7 u8 u9 u10 u11 u12 v16 v17 v18 v19 u13 u14 u15 i_status i_refusals).map some := rfl
            refine xv_afterI (ws' := (wd_HM_exchange cA q0 q1 q2 q3 q4 q5 q6 q7 q8 q9 q10 q11 q12 q13 q14 q15 q16 q17 q18 q19 q20 q21 q22 q23 q24 q25 q26 q27 q28 q29 q30 q31 u0 u1 u2 u3 u4 u5 u6 u7 u8 u9 u10 u11 u12 u13 u14 u15 0 v33 v16 v17 v18 v19 a34 i_row a20 a21 a13 a14)) (isC := [0, 1]) (ps := [some 0, some 1, none, none, none, none, none]) (va_runV (As := [.int (Int32.ofInt (-3))]) (rest := []) ⟨hx, hb, hml, hown, hts⟩ (c_HM_tell l ev dC dI cA q0 q1 q2 q3 q4 q5 q6 q7 q8 q9 q10 q11 q12 q13 q14 q15 q16 q17 q18 q19 q20 q21 q22 q23 q24 q25 q26 q27 q28 q29 q30 q31 0 u0 u1 u2 u3 u4 u5 u6 u7 u8 u9 u10 u11 u12 v16 v17 v18 v19 u13 u14 u15 hg H.size) (cwV 1 hts (zgV zw_1332 zw_1334 zw_40 zw_115 zw_1335) rfl rfl rfl hd_HM_tell ⟨Nat.le_of_ble_eq_true rfl, Nat.le_of_ble_eq_true rfl⟩) (xv_preV (T := TX11) (N := 53) hE hA hS hK hP hD (isC := [0, 1]) (by decide +kernel) hC (q0 := 0) (ci := 11) rfl rfl) rfl rfl hl.1 rfl (lv_room (Nat.le_of_ble_eq_true rfl)) dX11_exchange_114 ⟨Nat.le_refl _, Nat.le_refl _⟩) hP hD hS hA (by decide +kernel) rfl hC rfl rfl (fun H locs hP hD hS => ?_)
            obtain rfl := Option.some.inj hf
            exact hret _ _ _ _ rfl dX11_exchange_117 hP hD hS
        · refine lv_aload_n hx hb dX11_exchange_78 rfl (lv_at hl 1 rfl) ?_
          refine lv_bipush (v := Int32.ofInt (-3)) hx hb dX11_exchange_79 (by decide) ?_
          refine xe_d3 hf (fun v35 v36 a37 hg hf => ?_)
          have hC : ([0, 1] : List Nat).map (fun i => (wd_HM_exchange cA q0 q1 q2 q3 q4 q5 q6 q7 q8 q9 q10 q11 q12 q13 q14 q15 q16 q17 q18 q19 q20 q21 q22 q23 q24 q25 q26 q27 q28 q29 q30 q31 u0 u1 u2 u3 u4 u5 u6 u7 u8 u9 u10 u11 u12 u13 u14 u15 0 i_status v16 v17 v18 v19 i_refusals i_row a20 a21 a13 a14)[i]?) = (wd_HM_tell cA q0 q1 q2 q3 q4 q5 q6 q7 q8 q9 q10 q11 q12 q13 q14 q15 q16 q17 q18 q19 q20 q21 q22 q23 q24 q25 q26 q27 q28 q29 q30 q31 0 u0 u1 u2 u3 u4 u5 u6 u7 u8 u9 u10 u11 u12 v16 v17 v18 v19 u13 u14 u15 i_status i_refusals).map some := rfl
          refine xv_afterI (ws' := (wd_HM_exchange cA q0 q1 q2 q3 q4 q5 q6 q7 q8 q9 q10 q11 q12 q13 q14 q15 q16 q17 q18 q19 q20 q21 q22 q23 q24 q25 q26 q27 q28 q29 q30 q31 u0 u1 u2 u3 u4 u5 u6 u7 u8 u9 u10 u11 u12 u13 u14 u15 0 v36 v16 v17 v18 v19 a37 i_row a20 a21 a13 a14)) (isC := [0, 1]) (ps := [some 0, some 1, none, none, none, none, none]) (va_runV (As := [.int (Int32.ofInt (-3))]) (rest := []) ⟨hx, hb, hml, hown, hts⟩ (c_HM_tell l ev dC dI cA q0 q1 q2 q3 q4 q5 q6 q7 q8 q9 q10 q11 q12 q13 q14 q15 q16 q17 q18 q19 q20 q21 q22 q23 q24 q25 q26 q27 q28 q29 q30 q31 0 u0 u1 u2 u3 u4 u5 u6 u7 u8 u9 u10 u11 u12 v16 v17 v18 v19 u13 u14 u15 hg H.size) (cwV 1 hts (zgV zw_1332 zw_1334 zw_40 zw_115 zw_1335) rfl rfl rfl hd_HM_tell ⟨Nat.le_of_ble_eq_true rfl, Nat.le_of_ble_eq_true rfl⟩) (xv_preV (T := TX11) (N := 53) hE hA hS hK hP hD (isC := [0, 1]) (by decide +kernel) hC (q0 := 0) (ci := 11) rfl rfl) rfl rfl hl.1 rfl (lv_room (Nat.le_of_ble_eq_true rfl)) dX11_exchange_81 ⟨Nat.le_refl _, Nat.le_refl _⟩) hP hD hS hA (by decide +kernel) rfl hC rfl rfl (fun H locs hP hD hS => ?_)
          obtain rfl := Option.some.inj hf
          exact hret _ _ _ _ rfl dX11_exchange_84 hP hD hS
      · refine lv_aload_n hx hb dX11_exchange_46 rfl (lv_at hl 0 rfl) ?_
        refine lv_bipush (v := Int32.ofInt (-3)) hx hb dX11_exchange_47 (by decide) ?_
        refine xe_d3 hf (fun v38 v39 a40 hg hf => ?_)
        have hC : ([0, 1] : List Nat).map (fun i => (wd_HM_exchange cA q0 q1 q2 q3 q4 q5 q6 q7 q8 q9 q10 q11 q12 q13 q14 q15 q16 q17 q18 q19 q20 q21 q22 q23 q24 q25 q26 q27 q28 q29 q30 q31 u0 u1 u2 u3 u4 u5 u6 u7 u8 u9 u10 u11 u12 u13 u14 u15 0 i_status v6 v7 v8 v9 i_refusals i_row a10 a11 a3 a4)[i]?) = (wd_HM_tell cA q0 q1 q2 q3 q4 q5 q6 q7 q8 q9 q10 q11 q12 q13 q14 q15 q16 q17 q18 q19 q20 q21 q22 q23 q24 q25 q26 q27 q28 q29 q30 q31 0 u0 u1 u2 u3 u4 u5 u6 u7 u8 u9 u10 u11 u12 v6 v7 v8 v9 u13 u14 u15 i_status i_refusals).map some := rfl
        refine xv_afterI (ws' := (wd_HM_exchange cA q0 q1 q2 q3 q4 q5 q6 q7 q8 q9 q10 q11 q12 q13 q14 q15 q16 q17 q18 q19 q20 q21 q22 q23 q24 q25 q26 q27 q28 q29 q30 q31 u0 u1 u2 u3 u4 u5 u6 u7 u8 u9 u10 u11 u12 u13 u14 u15 0 v39 v6 v7 v8 v9 a40 i_row a10 a11 a3 a4)) (isC := [0, 1]) (ps := [some 0, some 1, none, none, none, none, none]) (va_runV (As := [.int (Int32.ofInt (-3))]) (rest := []) ⟨hx, hb, hml, hown, hts⟩ (c_HM_tell l ev dC dI cA q0 q1 q2 q3 q4 q5 q6 q7 q8 q9 q10 q11 q12 q13 q14 q15 q16 q17 q18 q19 q20 q21 q22 q23 q24 q25 q26 q27 q28 q29 q30 q31 0 u0 u1 u2 u3 u4 u5 u6 u7 u8 u9 u10 u11 u12 v6 v7 v8 v9 u13 u14 u15 hg H.size) (cwV 1 hts (zgV zw_1332 zw_1334 zw_40 zw_115 zw_1335) rfl rfl rfl hd_HM_tell ⟨Nat.le_of_ble_eq_true rfl, Nat.le_of_ble_eq_true rfl⟩) (xv_preV (T := TX11) (N := 53) hE hA hS hK hP hD (isC := [0, 1]) (by decide +kernel) hC (q0 := 0) (ci := 11) rfl rfl) rfl rfl hl.1 rfl (lv_room (Nat.le_of_ble_eq_true rfl)) dX11_exchange_49 ⟨Nat.le_refl _, Nat.le_refl _⟩) hP hD hS hA (by decide +kernel) rfl hC rfl rfl (fun H locs hP hD hS => ?_)
        obtain rfl := Option.some.inj hf
        exact hret _ _ _ _ rfl dX11_exchange_52 hP hD hS
    · exact b_24  _ _ _ _ _ _ _ _ _ _ _ _ _ _ _ hf hP hD hS (lv_sub hl [0] rfl)
theorem dX11_isSteep_0 : decode cX11_isSteep 0 = .ok (.aload_n 0, 1) := by decide +kernel
theorem dX11_isSteep_1 : decode cX11_isSteep 1 = .ok (.iload_n 2, 1) := by decide +kernel
theorem dX11_isSteep_2 : decode cX11_isSteep 2 = .ok (.invokevirtual 150, 3) := by decide +kernel
theorem dX11_isSteep_5 : decode cX11_isSteep 5 = .ok (.ifCond .eq 30, 3) := by decide +kernel
theorem dX11_isSteep_8 : decode cX11_isSteep 8 = .ok (.aload_n 0, 1) := by decide +kernel
theorem dX11_isSteep_9 : decode cX11_isSteep 9 = .ok (.getfield 71, 3) := by decide +kernel
theorem dX11_isSteep_12 : decode cX11_isSteep 12 = .ok (.iload_n 1, 1) := by decide +kernel
theorem dX11_isSteep_13 : decode cX11_isSteep 13 = .ok (.iaload, 1) := by decide +kernel
theorem dX11_isSteep_14 : decode cX11_isSteep 14 = .ok (.aload_n 0, 1) := by decide +kernel
theorem dX11_isSteep_15 : decode cX11_isSteep 15 = .ok (.getfield 71, 3) := by decide +kernel
theorem dX11_isSteep_18 : decode cX11_isSteep 18 = .ok (.iload_n 2, 1) := by decide +kernel
theorem dX11_isSteep_19 : decode cX11_isSteep 19 = .ok (.iaload, 1) := by decide +kernel
theorem dX11_isSteep_20 : decode cX11_isSteep 20 = .ok (.aload_n 0, 1) := by decide +kernel
theorem dX11_isSteep_21 : decode cX11_isSteep 21 = .ok (.getfield 13, 3) := by decide +kernel
theorem dX11_isSteep_24 : decode cX11_isSteep 24 = .ok (.bipush 7, 2) := by decide +kernel
theorem dX11_isSteep_26 : decode cX11_isSteep 26 = .ok (.iaload, 1) := by decide +kernel
theorem dX11_isSteep_27 : decode cX11_isSteep 27 = .ok (.iadd, 1) := by decide +kernel
theorem dX11_isSteep_28 : decode cX11_isSteep 28 = .ok (.if_icmp .le 7, 3) := by decide +kernel
theorem dX11_isSteep_31 : decode cX11_isSteep 31 = .ok (.iconst 1, 1) := by decide +kernel
theorem dX11_isSteep_32 : decode cX11_isSteep 32 = .ok (.goto 4, 3) := by decide +kernel
theorem dX11_isSteep_35 : decode cX11_isSteep 35 = .ok (.iconst 0, 1) := by decide +kernel
theorem dX11_isSteep_36 : decode cX11_isSteep 36 = .ok (.ireturn, 1) := by decide +kernel
theorem zw_1613 : (Jvm.Cond.code ({ cls := "HillSchoolModel", name := "isSteep", desc := "(II)Z" } : Jvm.MethodName) prog_13_method_70_code (3 : Nat) (Option.some Jvm.ClassFile.FieldType.boolean)) ∈ zall := zmemG (zmj_7 70 rfl) rfl
abbrev w_HM_isSteep : List Cond := .code yX11_isSteep cX11_isSteep 3 (some .boolean) :: zall
abbrev rm_HM_isSteep : Room := { frames := 2, cells := 0, slots := 0, locals := 46 }
theorem hd_HM_isSteep : yX11_isSteep.cls = "HillSchoolModel" ∧ yX11_isSteep.cls ≠ "java/lang/invoke/MethodHandle" ∧ yX11_isSteep.cls ≠ "java/lang/invoke/VarHandle" ∧ (parseMethodDescriptor yX11_isSteep.desc).map (fun d => d.parameters.length) = some 2 := by decide +kernel
def wd_HM_isSteep (cA : Nat → ClassId) (q0 q1 q2 q3 q4 q5 q6 q7 q8 q9 q10 q11 q12 q13 q14 q15 q16 q17 q18 q19 q20 q21 q22 q23 q24 q25 q26 q27 q28 q29 q30 q31 : Nat) (u0 u1 u2 u3 u4 u5 u6 u7 u8 u9 u10 u11 u12 u13 u14 u15 u16 u17 u18 u19 u20 u21 : Int) (i_row : Nat → Int) (i_high : Nat → Int)  : va_W := [(q0, .inr (11, [.int (Int32.ofInt u0), .int (Int32.ofInt u1), .ref q1, .ref q2, .ref q3, .ref q4, .int (Int32.ofInt u2), .ref q5, .int (Int32.ofInt u3), .int (Int32.ofInt u4), .int (Int32.ofInt u5), .int (Int32.ofInt u6), .long (Int64.ofInt u7), .int (Int32.ofInt u8), .int (Int32.ofInt u9), .int (Int32.ofInt u10), .ref q6, .int (Int32.ofInt u11), .ref q7, .ref q8, .int (Int32.ofInt u12), .ref q9, .ref q10, .int (Int32.ofInt u13), .int (Int32.ofInt u14), .ref q11, .int (Int32.ofInt u15), .ref q12, .ref q13, .int (Int32.ofInt u16), .long (Int64.ofInt u17), .long (Int64.ofInt u18), .ref q14, .ref q15, .ref q16, .ref q17, .ref q18, .int (Int32.ofInt u19), .ref q19, .ref q20, .ref q21, .ref q22, .ref q23, .ref q24, .ref q25, .ref q26, .ref q27, .ref q28, .ref q29, .ref q30, .long (Int64.ofInt u20), .ref q31, .int (Int32.ofInt u21)])), (q2, .inl (cA 0, 5580, .inl (za i_row))), (q14, .inl (cA 0, 12, .inl (za i_high)))]
def wf_HM_isSteep (cA : Nat → ClassId) (q0 q1 q2 q3 q4 q5 q6 q7 q8 q9 q10 q11 q12 q13 q14 q15 q16 q17 q18 q19 q20 q21 q22 q23 q24 q25 q26 q27 q28 q29 q30 q31 : Nat) (u0 u1 u2 u3 u4 u5 u6 u7 u8 u9 u10 u11 u12 u13 u14 u15 u16 u17 u18 u19 u20 u21 : Int) (i_row : Nat → Int) (i_high : Nat → Int) (o : Int) : va_W := wd_HM_isSteep cA q0 q1 q2 q3 q4 q5 q6 q7 q8 q9 q10 q11 q12 q13 q14 q15 q16 q17 q18 q19 q20 q21 q22 q23 q24 q25 q26 q27 q28 q29 q30 q31 u0 u1 u2 u3 u4 u5 u6 u7 u8 u9 u10 u11 u12 u13 u14 u15 u16 u17 u18 u19 u20 u21 i_row i_high
def f_HM_isSteep (x1 : Int) (x2 : Int) (i_row : Nat → Int) (i_high : Nat → Int) : Option (Int) :=
  zd1 (f_HM_isColumn x2 i_row) fun v1 =>
  if zi_w v1 = 0 then
    some 0
  else
    zg 12 i_high x1 fun v2 =>
    zg 12 i_high x2 fun v3 =>
    zg 5580 i_row 7 fun v4 =>
    zn (v3 + v4) fun v5 =>
    if zi_w v2 ≤ zi_w v5 then
      some 0
    else
      some 1
set_option maxHeartbeats 4000000 in
set_option maxRecDepth 100000 in
theorem c_HM_isSteep (l : Launch) (ev : zEv) (dC : Nat → ClassId) (dI : Nat → Nat → Nat) (cA : Nat → ClassId) (q0 q1 q2 q3 q4 q5 q6 q7 q8 q9 q10 q11 q12 q13 q14 q15 q16 q17 q18 q19 q20 q21 q22 q23 q24 q25 q26 q27 q28 q29 q30 q31 : Nat) (u0 u1 u2 u3 u4 u5 u6 u7 u8 u9 u10 u11 u12 u13 u14 u15 u16 u17 u18 u19 u20 u21 : Int) {x1 x2 : Int} {i_row : Nat → Int} {i_high : Nat → Int} {out : Int} (hf : f_HM_isSteep x1 x2 i_row i_high = some out) : xc_I l ev (dC, dI) vwCl (tyl cA) yX11_isSteep w_HM_isSteep rm_HM_isSteep [.ref q0, .int (Int32.ofInt x1), .int (Int32.ofInt x2)] (wd_HM_isSteep cA q0 q1 q2 q3 q4 q5 q6 q7 q8 q9 q10 q11 q12 q13 q14 q15 q16 q17 q18 q19 q20 q21 q22 q23 q24 q25 q26 q27 q28 q29 q30 q31 u0 u1 u2 u3 u4 u5 u6 u7 u8 u9 u10 u11 u12 u13 u14 u15 u16 u17 u18 u19 u20 u21 i_row i_high) (wf_HM_isSteep cA q0 q1 q2 q3 q4 q5 q6 q7 q8 q9 q10 q11 q12 q13 q14 q15 q16 q17 q18 q19 q20 q21 q22 q23 q24 q25 q26 q27 q28 q29 q30 q31 u0 u1 u2 u3 u4 u5 u6 u7 u8 u9 u10 u11 u12 u13 u14 u15 u16 u17 u18 u19 u20 u21 i_row i_high out) out := by
  refine xv_startI (cc := cX11_isSteep) (maxL := 3) (rt := .boolean) (by decide +kernel) rfl (Nat.le_of_ble_eq_true rfl) ?_
  intro p e s m args below meth c A Q H ls hx hb hml hts hown hK hA hP hD hS hl hE hret
  have hown : s.vm.findClass "HillSchoolModel" = some m.cls := hown
  have hz : ∀ w ∈ zall, w.before args s = true := fun w h => hts w (List.mem_cons_of_mem _ h)
  have hl : lv_has ls 3 [(0, .ref q0), (1, .int (Int32.ofInt x1)), (2, .int (Int32.ofInt x2))] := hl
  unfold f_HM_isSteep at hf
  refine lv_aload_n hx hb dX11_isSteep_0 rfl (lv_at hl 0 rfl) ?_
  refine lv_iload_n hx hb dX11_isSteep_1 rfl (lv_at hl 2 rfl) ?_
  refine xe_d1 hf (fun v1 hg hf => ?_)
  have hC : ([0, 1] : List Nat).map (fun i => (wd_HM_isSteep cA q0 q1 q2 q3 q4 q5 q6 q7 q8 q9 q10 q11 q12 q13 q14 q15 q16 q17 q18 q19 q20 q21 q22 q23 q24 q25 q26 q27 q28 q29 q30 q31 u0 u1 u2 u3 u4 u5 u6 u7 u8 u9 u10 u11 u12 u13 u14 u15 u16 u17 u18 u19 u20 u21 i_row i_high)[i]?) = (wd_HM_isColumn cA q0 q1 q2 q3 q4 q5 q6 q7 q8 q9 q10 q11 q12 q13 q14 q15 q16 q17 q18 q19 q20 q21 q22 q23 q24 q25 q26 q27 q28 q29 q30 q31 u0 u1 u2 u3 u4 u5 u6 u7 u8 u9 u10 u11 u12 u13 u14 u15 u16 u17 u18 u19 u20 u21 i_row).map some := rfl
  refine xv_afterI (ws' := (wd_HM_isSteep cA q0 q1 q2 q3 q4 q5 q6 q7 q8 q9 q10 q11 q12 q13 q14 q15 q16 q17 q18 q19 q20 q21 q22 q23 q24 q25 q26 q27 q28 q29 q30 q31 u0 u1 u2 u3 u4 u5 u6 u7 u8 u9 u10 u11 u12 u13 u14 u15 u16 u17 u18 u19 u20 u21 i_row i_high)) (isC := [0, 1]) (ps := [some 0, some 1, none]) (va_runV (As := [.int (Int32.ofInt x2)]) (rest := []) ⟨hx, hb, hml, hown, hts⟩ (c_HM_isColumn l ev dC dI cA q0 q1 q2 q3 q4 q5 q6 q7 q8 q9 q10 q11 q12 q13 q14 q15 q16 q17 q18 q19 q20 q21 q22 q23 q24 q25 q26 q27 q28 q29 q30 q31 u0 u1 u2 u3 u4 u5 u6 u7 u8 u9 u10 u11 u12 u13 u14 u15 u16 u17 u18 u19 u20 u21 hg H.size) (cwV 1 hts (zgV zw_1356 zw_1358 zw_42 zw_115 zw_1359) rfl rfl rfl hd_HM_isColumn ⟨Nat.le_of_ble_eq_true rfl, Nat.le_of_ble_eq_true rfl⟩) (xv_preV (T := TX11) (N := 53) hE hA hS hK hP hD (isC := [0, 1]) (by decide +kernel) hC (q0 := 0) (ci := 11) rfl rfl) rfl rfl hl.1 rfl (lv_room (Nat.le_of_ble_eq_true rfl)) dX11_isSteep_2 ⟨Nat.le_refl _, Nat.le_refl _⟩) hP hD hS hA (by decide +kernel) rfl hC rfl rfl (fun H locs hP hD hS => ?_)
  refine xi_if_eq (tgt := 35) hx hb dX11_isSteep_5 (by decide) hf (fun hf => ?_) (fun hf => ?_)
  · refine lv_iconst (v := Int32.ofInt 0) hx hb dX11_isSteep_35 rfl ?_
    obtain rfl := Option.some.inj hf
    exact hret _ _ _ _ zz_b0 dX11_isSteep_36 hP hD hS
  · refine lv_aload_n hx hb dX11_isSteep_8 rfl (lv_at hl 0 rfl) ?_
    refine va_get (D := (dC, dI)) (ci := 11) (v := .ref q14) (C := RX11) (T := TX11) (N := 53) hx hb hz zi_X11 hown hK hP 0 rfl rfl 32 (by decide) (hz _ zw_1197) (fun _ h9 => h9) rfl dX11_isSteep_9 ?_
    refine lv_iload_n hx hb dX11_isSteep_12 rfl (lv_at hl 1 rfl) ?_
    refine xi_iald hx hb hK hP 2 0 rfl rfl dX11_isSteep_13 hf (fun v2 hf => ?_)
    refine lv_aload_n hx hb dX11_isSteep_14 rfl (lv_at hl 0 rfl) ?_
    refine va_get (D := (dC, dI)) (ci := 11) (v := .ref q14) (C := RX11) (T := TX11) (N := 53) hx hb hz zi_X11 hown hK hP 0 rfl rfl 32 (by decide) (hz _ zw_1197) (fun _ h9 => h9) rfl dX11_isSteep_15 ?_
    refine lv_iload_n hx hb dX11_isSteep_18 rfl (lv_at hl 2 rfl) ?_
    refine xi_iald hx hb hK hP 2 0 rfl rfl dX11_isSteep_19 hf (fun v3 hf => ?_)
    refine lv_aload_n hx hb dX11_isSteep_20 rfl (lv_at hl 0 rfl) ?_
    refine va_get (D := (dC, dI)) (ci := 11) (v := .ref q2) (C := RX11) (T := TX11) (N := 53) hx hb hz zi_X11 hown hK hP 0 rfl rfl 3 (by decide) (hz _ zw_1168) (fun _ h9 => h9) rfl dX11_isSteep_21 ?_
    refine lv_bipush (v := Int32.ofInt 7) hx hb dX11_isSteep_24 (by decide) ?_
    refine xi_iald hx hb hK hP 1 0 rfl rfl dX11_isSteep_26 hf (fun v4 hf => ?_)
    refine xi_iadd hx hb dX11_isSteep_27 hf (fun v5 hf => ?_)
    refine xi_icmp_le (tgt := 35) hx hb dX11_isSteep_28 (by decide) hf (fun hf => ?_) (fun hf => ?_)
    · refine lv_iconst (v := Int32.ofInt 0) hx hb dX11_isSteep_35 rfl ?_
      obtain rfl := Option.some.inj hf
      exact hret _ _ _ _ zz_b0 dX11_isSteep_36 hP hD hS
    · refine lv_iconst (v := Int32.ofInt 1) hx hb dX11_isSteep_31 rfl ?_
      refine lv_goto (tgt := 36) hx hb dX11_isSteep_32 (by decide) ?_
      obtain rfl := Option.some.inj hf
      exact hret _ _ _ _ zz_b1 dX11_isSteep_36 hP hD hS
theorem dX11_steepest_0 : decode cX11_steepest 0 = .ok (.iconst 0, 1) := by decide +kernel
theorem dX11_steepest_1 : decode cX11_steepest 1 = .ok (.istore_n 1, 1) := by decide +kernel
theorem dX11_steepest_2 : decode cX11_steepest 2 = .ok (.iload_n 1, 1) := by decide +kernel
theorem dX11_steepest_3 : decode cX11_steepest 3 = .ok (.aload_n 0, 1) := by decide +kernel
theorem dX11_steepest_4 : decode cX11_steepest 4 = .ok (.invokevirtual 140, 3) := by decide +kernel
theorem dX11_steepest_7 : decode cX11_steepest 7 = .ok (.if_icmp .ge 33, 3) := by decide +kernel
theorem dX11_steepest_10 : decode cX11_steepest 10 = .ok (.aload_n 0, 1) := by decide +kernel
theorem dX11_steepest_11 : decode cX11_steepest 11 = .ok (.iload_n 1, 1) := by decide +kernel
theorem dX11_steepest_12 : decode cX11_steepest 12 = .ok (.iload_n 1, 1) := by decide +kernel
theorem dX11_steepest_13 : decode cX11_steepest 13 = .ok (.iconst 1, 1) := by decide +kernel
theorem dX11_steepest_14 : decode cX11_steepest 14 = .ok (.isub, 1) := by decide +kernel
theorem dX11_steepest_15 : decode cX11_steepest 15 = .ok (.invokevirtual 373, 3) := by decide +kernel
theorem dX11_steepest_18 : decode cX11_steepest 18 = .ok (.ifCond .ne 14, 3) := by decide +kernel
theorem dX11_steepest_21 : decode cX11_steepest 21 = .ok (.aload_n 0, 1) := by decide +kernel
theorem dX11_steepest_22 : decode cX11_steepest 22 = .ok (.iload_n 1, 1) := by decide +kernel
theorem dX11_steepest_23 : decode cX11_steepest 23 = .ok (.iload_n 1, 1) := by decide +kernel
theorem dX11_steepest_24 : decode cX11_steepest 24 = .ok (.iconst 1, 1) := by decide +kernel
theorem dX11_steepest_25 : decode cX11_steepest 25 = .ok (.iadd, 1) := by decide +kernel
theorem dX11_steepest_26 : decode cX11_steepest 26 = .ok (.invokevirtual 373, 3) := by decide +kernel
theorem dX11_steepest_29 : decode cX11_steepest 29 = .ok (.ifCond .eq 5, 3) := by decide +kernel
theorem dX11_steepest_32 : decode cX11_steepest 32 = .ok (.iload_n 1, 1) := by decide +kernel
theorem dX11_steepest_33 : decode cX11_steepest 33 = .ok (.ireturn, 1) := by decide +kernel
theorem dX11_steepest_34 : decode cX11_steepest 34 = .ok (.iinc 1 1, 3) := by decide +kernel
theorem dX11_steepest_37 : decode cX11_steepest 37 = .ok (.goto (-35), 3) := by decide +kernel
theorem dX11_steepest_40 : decode cX11_steepest 40 = .ok (.iconst (-1), 1) := by decide +kernel
theorem dX11_steepest_41 : decode cX11_steepest 41 = .ok (.ireturn, 1) := by decide +kernel
theorem zw_76 : (Jvm.Cond.selects "HillSchoolModel" ({ cls := "HillSchoolModel", name := "isSteep", desc := "(II)Z" } : Jvm.MethodName) ({ cls := "HillSchoolModel", name := "isSteep", desc := "(II)Z" } : Jvm.MethodName)) ∈ zall := zmemG (zmj_0 76 rfl) rfl
theorem zw_1609 : (Jvm.Cond.code ({ cls := "HillSchoolModel", name := "steepest", desc := "()I" } : Jvm.MethodName) prog_13_method_71_code (2 : Nat) (Option.some Jvm.ClassFile.FieldType.int)) ∈ zall := zmemG (zmj_7 66 rfl) rfl
theorem zw_1610 : (Jvm.Cond.methodLink "HillSchoolModel" (373 : Nat) ({ cls := "HillSchoolModel", name := "isSteep", desc := "(II)Z" } : Jvm.MethodName)) ∈ zall := zmemG (zmj_7 67 rfl) rfl
theorem zw_1612 : (Jvm.Cond.instanceMethod ({ cls := "HillSchoolModel", name := "isSteep", desc := "(II)Z" } : Jvm.MethodName)) ∈ zall := zmemG (zmj_7 69 rfl) rfl
abbrev w_HM_steepest : List Cond := .code yX11_steepest cX11_steepest 2 (some .int) :: zall
abbrev rm_HM_steepest : Room := { frames := 3, cells := 0, slots := 0, locals := 68 }
theorem hd_HM_steepest : yX11_steepest.cls = "HillSchoolModel" ∧ yX11_steepest.cls ≠ "java/lang/invoke/MethodHandle" ∧ yX11_steepest.cls ≠ "java/lang/invoke/VarHandle" ∧ (parseMethodDescriptor yX11_steepest.desc).map (fun d => d.parameters.length) = some 0 := by decide +kernel
def wd_HM_steepest (cA : Nat → ClassId) (q0 q1 q2 q3 q4 q5 q6 q7 q8 q9 q10 q11 q12 q13 q14 q15 q16 q17 q18 q19 q20 q21 q22 q23 q24 q25 q26 q27 q28 q29 q30 q31 : Nat) (u0 u1 u2 u3 u4 u5 u6 u7 u8 u9 u10 u11 u12 u13 u14 u15 u16 u17 u18 u19 u20 u21 : Int) (i_row : Nat → Int) (i_high : Nat → Int)  : va_W := [(q0, .inr (11, [.int (Int32.ofInt u0), .int (Int32.ofInt u1), .ref q1, .ref q2, .ref q3, .ref q4, .int (Int32.ofInt u2), .ref q5, .int (Int32.ofInt u3), .int (Int32.ofInt u4), .int (Int32.ofInt u5), .int (Int32.ofInt u6), .long (Int64.ofInt u7), .int (Int32.ofInt u8), .int (Int32.ofInt u9), .int (Int32.ofInt u10), .ref q6, .int (Int32.ofInt u11), .ref q7, .ref q8, .int (Int32.ofInt u12), .ref q9, .ref q10, .int (Int32.ofInt u13), .int (Int32.ofInt u14), .ref q11, .int (Int32.ofInt u15), .ref q12, .ref q13, .int (Int32.ofInt u16), .long (Int64.ofInt u17), .long (Int64.ofInt u18), .ref q14, .ref q15, .ref q16, .ref q17, .ref q18, .int (Int32.ofInt u19), .ref q19, .ref q20, .ref q21, .ref q22, .ref q23, .ref q24, .ref q25, .ref q26, .ref q27, .ref q28, .ref q29, .ref q30, .long (Int64.ofInt u20), .ref q31, .int (Int32.ofInt u21)])), (q2, .inl (cA 0, 5580, .inl (za i_row))), (q14, .inl (cA 0, 12, .inl (za i_high)))]
def wf_HM_steepest (cA : Nat → ClassId) (q0 q1 q2 q3 q4 q5 q6 q7 q8 q9 q10 q11 q12 q13 q14 q15 q16 q17 q18 q19 q20 q21 q22 q23 q24 q25 q26 q27 q28 q29 q30 q31 : Nat) (u0 u1 u2 u3 u4 u5 u6 u7 u8 u9 u10 u11 u12 u13 u14 u15 u16 u17 u18 u19 u20 u21 : Int) (i_row : Nat → Int) (i_high : Nat → Int) (o : Int) : va_W := wd_HM_steepest cA q0 q1 q2 q3 q4 q5 q6 q7 q8 q9 q10 q11 q12 q13 q14 q15 q16 q17 q18 q19 q20 q21 q22 q23 q24 q25 q26 q27 q28 q29 q30 q31 u0 u1 u2 u3 u4 u5 u6 u7 u8 u9 u10 u11 u12 u13 u14 u15 u16 u17 u18 u19 u20 u21 i_row i_high
def f_HM_steepest_2_b (i_row : Nat → Int) (i_high : Nat → Int) (k2 : Int → Option (Int)) (x1 : Int) : Option (Int) :=
  zd1 (f_HM_columns i_row) fun v1 =>
  if zi_w v1 ≤ zi_w x1 then
    some (-1)
  else
    zn (x1 - 1) fun v2 =>
    zd1 (f_HM_isSteep x1 v2 i_row i_high) fun v3 =>
    if zi_w v3 ≠ 0 then
      some x1
    else
      zn (x1 + 1) fun v4 =>
      zd1 (f_HM_isSteep x1 v4 i_row i_high) fun v5 =>
      if zi_w v5 = 0 then
        zn (x1 + 1) fun v6 =>
        k2 v6
      else
        some x1
def f_HM_steepest_2 (i_row : Nat → Int) (i_high : Nat → Int) : Nat → Int → Option (Int)
  | 0 => fun _ => none
  | n + 1 => fun y0 => f_HM_steepest_2_b i_row i_high (f_HM_steepest_2 i_row i_high n) y0
def f_HM_steepest (i_row : Nat → Int) (i_high : Nat → Int) : Option (Int) :=
  f_HM_steepest_2 i_row i_high zfu 0
set_option maxHeartbeats 4000000 in
set_option maxRecDepth 100000 in
theorem c_HM_steepest (l : Launch) (ev : zEv) (dC : Nat → ClassId) (dI : Nat → Nat → Nat) (cA : Nat → ClassId) (q0 q1 q2 q3 q4 q5 q6 q7 q8 q9 q10 q11 q12 q13 q14 q15 q16 q17 q18 q19 q20 q21 q22 q23 q24 q25 q26 q27 q28 q29 q30 q31 : Nat) (u0 u1 u2 u3 u4 u5 u6 u7 u8 u9 u10 u11 u12 u13 u14 u15 u16 u17 u18 u19 u20 u21 : Int) {i_row : Nat → Int} {i_high : Nat → Int} {out : Int} (hf : f_HM_steepest i_row i_high = some out) : xc_I l ev (dC, dI) vwCl (tyl cA) yX11_steepest w_HM_steepest rm_HM_steepest [.ref q0] (wd_HM_steepest cA q0 q1 q2 q3 q4 q5 q6 q7 q8 q9 q10 q11 q12 q13 q14 q15 q16 q17 q18 q19 q20 q21 q22 q23 q24 q25 q26 q27 q28 q29 q30 q31 u0 u1 u2 u3 u4 u5 u6 u7 u8 u9 u10 u11 u12 u13 u14 u15 u16 u17 u18 u19 u20 u21 i_row i_high) (wf_HM_steepest cA q0 q1 q2 q3 q4 q5 q6 q7 q8 q9 q10 q11 q12 q13 q14 q15 q16 q17 q18 q19 q20 q21 q22 q23 q24 q25 q26 q27 q28 q29 q30 q31 u0 u1 u2 u3 u4 u5 u6 u7 u8 u9 u10 u11 u12 u13 u14 u15 u16 u17 u18 u19 u20 u21 i_row i_high out) out := by
  refine xv_startI (cc := cX11_steepest) (maxL := 2) (rt := .int) (by decide +kernel) rfl (Nat.le_of_ble_eq_true rfl) ?_
  intro p e s m args below meth c A Q H ls hx hb hml hts hown hK hA hP hD hS hl hE hret
  have hown : s.vm.findClass "HillSchoolModel" = some m.cls := hown
  have hz : ∀ w ∈ zall, w.before args s = true := fun w h => hts w (List.mem_cons_of_mem _ h)
  have hl : lv_has ls 2 [(0, .ref q0)] := hl
  have b_2 : ∀ (k2 : Int → Option (Int)) (_ : ∀ (x1 : Int) (H : Heap) (locs : List Loc) (ls : Array Slot), k2 x1 = some out → va_P (dC, dI) vwCl (wd_HM_steepest cA q0 q1 q2 q3 q4 q5 q6 q7 q8 q9 q10 q11 q12 q13 q14 q15 q16 q17 q18 q19 q20 q21 q22 q23 q24 q25 q26 q27 q28 q29 q30 q31 u0 u1 u2 u3 u4 u5 u6 u7 u8 u9 u10 u11 u12 u13 u14 u15 u16 u17 u18 u19 u20 u21 i_row i_high) H → va_D A (wd_HM_steepest cA q0 q1 q2 q3 q4 q5 q6 q7 q8 q9 q10 q11 q12 q13 q14 q15 q16 q17 q18 q19 q20 q21 q22 q23 q24 q25 q26 q27 q28 q29 q30 q31 u0 u1 u2 u3 u4 u5 u6 u7 u8 u9 u10 u11 u12 u13 u14 u15 u16 u17 u18 u19 u20 u21 i_row i_high) → va_S A s.heap H locs → lv_has ls 2 [(0, .ref q0), (1, .int (Int32.ofInt x1))] → W p l e rm_HM_steepest s m args below meth c H locs 0 0 Q (F0 m 2 ls [])), ∀ (x1 : Int) (H : Heap) (locs : List Loc) (ls : Array Slot), f_HM_steepest_2_b i_row i_high k2 x1 = some out → va_P (dC, dI) vwCl (wd_HM_steepest cA q0 q1 q2 q3 q4 q5 q6 q7 q8 q9 q10 q11 q12 q13 q14 q15 q16 q17 q18 q19 q20 q21 q22 q23 q24 q25 q26 q27 q28 q29 q30 q31 u0 u1 u2 u3 u4 u5 u6 u7 u8 u9 u10 u11 u12 u13 u14 u15 u16 u17 u18 u19 u20 u21 i_row i_high) H → va_D A (wd_HM_steepest cA q0 q1 q2 q3 q4 q5 q6 q7 q8 q9 q10 q11 q12 q13 q14 q15 q16 q17 q18 q19 q20 q21 q22 q23 q24 q25 q26 q27 q28 q29 q30 q31 u0 u1 u2 u3 u4 u5 u6 u7 u8 u9 u10 u11 u12 u13 u14 u15 u16 u17 u18 u19 u20 u21 i_row i_high) → va_S A s.heap H locs → lv_has ls 2 [(0, .ref q0), (1, .int (Int32.ofInt x1))] → W p l e rm_HM_steepest s m args below meth c H locs 0 0 Q (F0 m 2 ls []) := by
    intro k2 ih2 x1 H locs ls hf hP hD hS hl
    unfold f_HM_steepest_2_b at hf
    refine lv_iload_n hx hb dX11_steepest_2 rfl (lv_at hl 1 rfl) ?_
    refine lv_aload_n hx hb dX11_steepest_3 rfl (lv_at hl 0 rfl) ?_
    refine xe_d1 hf (fun v1 hg hf => ?_)
    have hC : ([0, 1] : List Nat).map (fun i => (wd_HM_steepest cA q0 q1 q2 q3 q4 q5 q6 q7 q8 q9 q10 q11 q12 q13 q14 q15 q16 q17 q18 q19 q20 q21 q22 q23 q24 q25 q26 q27 q28 q29 q30 q31 u0 u1 u2 u3 u4 u5 u6 u7 u8 u9 u10 u11 u12 u13 u14 u15 u16 u17 u18 u19 u20 u21 i_row i_high)[i]?) = (wd_HM_columns cA q0 q1 q2 q3 q4 q5 q6 q7 q8 q9 q10 q11 q12 q13 q14 q15 q16 q17 q18 q19 q20 q21 q22 q23 q24 q25 q26 q27 q28 q29 q30 q31 u0 u1 u2 u3 u4 u5 u6 u7 u8 u9 u10 u11 u12 u13 u14 u15 u16 u17 u18 u19 u20 u21 i_row).map some := rfl
    refine xv_afterI (ws' := (wd_HM_steepest cA q0 q1 q2 q3 q4 q5 q6 q7 q8 q9 q10 q11 q12 q13 q14 q15 q16 q17 q18 q19 q20 q21 q22 q23 q24 q25 q26 q27 q28 q29 q30 q31 u0 u1 u2 u3 u4 u5 u6 u7 u8 u9 u10 u11 u12 u13 u14 u15 u16 u17 u18 u19 u20 u21 i_row i_high)) (isC := [0, 1]) (ps := [some 0, some 1, none]) (va_runV (As := []) (rest := [.int (Int32.ofInt x1)]) ⟨hx, hb, hml, hown, hts⟩ (c_HM_columns l ev dC dI cA q0 q1 q2 q3 q4 q5 q6 q7 q8 q9 q10 q11 q12 q13 q14 q15 q16 q17 q18 q19 q20 q21 q22 q23 q24 q25 q26 q27 q28 q29 q30 q31 u0 u1 u2 u3 u4 u5 u6 u7 u8 u9 u10 u11 u12 u13 u14 u15 u16 u17 u18 u19 u20 u21 hg H.size) (cwV 0 hts (zgV zw_1344 zw_1346 zw_41 zw_115 zw_1347) rfl rfl rfl hd_HM_columns ⟨Nat.le_of_ble_eq_true rfl, Nat.le_of_ble_eq_true rfl⟩) (xv_preV (T := TX11) (N := 53) hE hA hS hK hP hD (isC := [0, 1]) (by decide +kernel) hC (q0 := 0) (ci := 11) rfl rfl) rfl rfl hl.1 rfl (lv_room (Nat.le_of_ble_eq_true rfl)) dX11_steepest_4 ⟨Nat.le_refl _, Nat.le_refl _⟩) hP hD hS hA (by decide +kernel) rfl hC rfl rfl (fun H locs hP hD hS => ?_)
    refine xi_icmp_ge (tgt := 40) hx hb dX11_steepest_7 (by decide) hf (fun hf => ?_) (fun hf => ?_)
    · refine lv_iconst (v := Int32.ofInt (-1)) hx hb dX11_steepest_40 rfl ?_
      obtain rfl := Option.some.inj hf
      exact hret _ _ _ _ rfl dX11_steepest_41 hP hD hS
    · refine lv_aload_n hx hb dX11_steepest_10 rfl (lv_at hl 0 rfl) ?_
      refine lv_iload_n hx hb dX11_steepest_11 rfl (lv_at hl 1 rfl) ?_
      refine lv_iload_n hx hb dX11_steepest_12 rfl (lv_at hl 1 rfl) ?_
      refine lv_iconst (v := Int32.ofInt 1) hx hb dX11_steepest_13 rfl ?_
      refine xi_isub hx hb dX11_steepest_14 hf (fun v2 hf => ?_)
      refine xe_d1 hf (fun v3 hg hf => ?_)
      have hC : ([0, 1, 2] : List Nat).map (fun i => (wd_HM_steepest cA q0 q1 q2 q3 q4 q5 q6 q7 q8 q9 q10 q11 q12 q13 q14 q15 q16 q17 q18 q19 q20 q21 q22 q23 q24 q25 q26 q27 q28 q29 q30 q31 u0 u1 u2 u3 u4 u5 u6 u7 u8 u9 u10 u11 u12 u13 u14 u15 u16 u17 u18 u19 u20 u21 i_row i_high)[i]?) = (wd_HM_isSteep cA q0 q1 q2 q3 q4 q5 q6 q7 q8 q9 q10 q11 q12 q13 q14 q15 q16 q17 q18 q19 q20 q21 q22 q23 q24 q25 q26 q27 q28 q29 q30 q31 u0 u1 u2 u3 u4 u5 u6 u7 u8 u9 u10 u11 u12 u13 u14 u15 u16 u17 u18 u19 u20 u21 i_row i_high).map some := rfl
      refine xv_afterI (ws' := (wd_HM_steepest cA q0 q1 q2 q3 q4 q5 q6 q7 q8 q9 q10 q11 q12 q13 q14 q15 q16 q17 q18 q19 q20 q21 q22 q23 q24 q25 q26 q27 q28 q29 q30 q31 u0 u1 u2 u3 u4 u5 u6 u7 u8 u9 u10 u11 u12 u13 u14 u15 u16 u17 u18 u19 u20 u21 i_row i_high)) (isC := [0, 1, 2]) (ps := [some 0, some 1, some 2]) (va_runV (As := [.int (Int32.ofInt x1), .int (Int32.ofInt v2)]) (rest := []) ⟨hx, hb, hml, hown, hts⟩ (c_HM_isSteep l ev dC dI cA q0 q1 q2 q3 q4 q5 q6 q7 q8 q9 q10 q11 q12 q13 q14 q15 q16 q17 q18 q19 q20 q21 q22 q23 q24 q25 q26 q27 q28 q29 q30 q31 u0 u1 u2 u3 u4 u5 u6 u7 u8 u9 u10 u11 u12 u13 u14 u15 u16 u17 u18 u19 u20 u21 hg H.size) (cwV 2 hts (zgV zw_1610 zw_1612 zw_76 zw_115 zw_1613) rfl rfl rfl hd_HM_isSteep ⟨Nat.le_of_ble_eq_true rfl, Nat.le_of_ble_eq_true rfl⟩) (xv_preV (T := TX11) (N := 53) hE hA hS hK hP hD (isC := [0, 1, 2]) (by decide +kernel) hC (q0 := 0) (ci := 11) rfl rfl) rfl rfl hl.1 rfl (lv_room (Nat.le_of_ble_eq_true rfl)) dX11_steepest_15 ⟨Nat.le_refl _, Nat.le_refl _⟩) hP hD hS hA (by decide +kernel) rfl hC rfl rfl (fun H locs hP hD hS => ?_)
      refine xi_if_ne (tgt := 32) hx hb dX11_steepest_18 (by decide) hf (fun hf => ?_) (fun hf => ?_)
      · refine lv_iload_n hx hb dX11_steepest_32 rfl (lv_at hl 1 rfl) ?_
        obtain rfl := Option.some.inj hf
        exact hret _ _ _ _ rfl dX11_steepest_33 hP hD hS
      · refine lv_aload_n hx hb dX11_steepest_21 rfl (lv_at hl 0 rfl) ?_
        refine lv_iload_n hx hb dX11_steepest_22 rfl (lv_at hl 1 rfl) ?_
        refine lv_iload_n hx hb dX11_steepest_23 rfl (lv_at hl 1 rfl) ?_
        refine lv_iconst (v := Int32.ofInt 1) hx hb dX11_steepest_24 rfl ?_
        refine xi_iadd hx hb dX11_steepest_25 hf (fun v4 hf => ?_)
        refine xe_d1 hf (fun v5 hg hf => ?_)
        have hC : ([0, 1, 2] : List Nat).map (fun i => (wd_HM_steepest cA q0 q1 q2 q3 q4 q5 q6 q7 q8 q9 q10 q11 q12 q13 q14 q15 q16 q17 q18 q19 q20 q21 q22 q23 q24 q25 q26 q27 q28 q29 q30 q31 u0 u1 u2 u3 u4 u5 u6 u7 u8 u9 u10 u11 u12 u13 u14 u15 u16 u17 u18 u19 u20 u21 i_row i_high)[i]?) = (wd_HM_isSteep cA q0 q1 q2 q3 q4 q5 q6 q7 q8 q9 q10 q11 q12 q13 q14 q15 q16 q17 q18 q19 q20 q21 q22 q23 q24 q25 q26 q27 q28 q29 q30 q31 u0 u1 u2 u3 u4 u5 u6 u7 u8 u9 u10 u11 u12 u13 u14 u15 u16 u17 u18 u19 u20 u21 i_row i_high).map some := rfl
        refine xv_afterI (ws' := (wd_HM_steepest cA q0 q1 q2 q3 q4 q5 q6 q7 q8 q9 q10 q11 q12 q13 q14 q15 q16 q17 q18 q19 q20 q21 q22 q23 q24 q25 q26 q27 q28 q29 q30 q31 u0 u1 u2 u3 u4 u5 u6 u7 u8 u9 u10 u11 u12 u13 u14 u15 u16 u17 u18 u19 u20 u21 i_row i_high)) (isC := [0, 1, 2]) (ps := [some 0, some 1, some 2]) (va_runV (As := [.int (Int32.ofInt x1), .int (Int32.ofInt v4)]) (rest := []) ⟨hx, hb, hml, hown, hts⟩ (c_HM_isSteep l ev dC dI cA q0 q1 q2 q3 q4 q5 q6 q7 q8 q9 q10 q11 q12 q13 q14 q15 q16 q17 q18 q19 q20 q21 q22 q23 q24 q25 q26 q27 q28 q29 q30 q31 u0 u1 u2 u3 u4 u5 u6 u7 u8 u9 u10 u11 u12 u13 u14 u15 u16 u17 u18 u19 u20 u21 hg H.size) (cwV 2 hts (zgV zw_1610 zw_1612 zw_76 zw_115 zw_1613) rfl rfl rfl hd_HM_isSteep ⟨Nat.le_of_ble_eq_true rfl, Nat.le_of_ble_eq_true rfl⟩) (xv_preV (T := TX11) (N := 53) hE hA hS hK hP hD (isC := [0, 1, 2]) (by decide +kernel) hC (q0 := 0) (ci := 11) rfl rfl) rfl rfl hl.1 rfl (lv_room (Nat.le_of_ble_eq_true rfl)) dX11_steepest_26 ⟨Nat.le_refl _, Nat.le_refl _⟩) hP hD hS hA (by decide +kernel) rfl hC rfl rfl (fun H locs hP hD hS => ?_)
        refine xi_if_eq (tgt := 34) hx hb dX11_steepest_29 (by decide) hf (fun hf => ?_) (fun hf => ?_)
        · refine xi_iinc hx hb dX11_steepest_34 hl (k := 1) rfl (by decide) hf (fun v6 ls hl hf => ?_)
          have hl : lv_has ls 2 [(1, .int (Int32.ofInt v6)), (0, .ref q0)] := hl
          refine lv_goto (tgt := 2) hx hb dX11_steepest_37 (by decide) ?_
          exact ih2 _ _ _ _ hf hP hD hS (lv_sub hl [1, 0] rfl)
        · refine lv_iload_n hx hb dX11_steepest_32 rfl (lv_at hl 1 rfl) ?_
          obtain rfl := Option.some.inj hf
          exact hret _ _ _ _ rfl dX11_steepest_33 hP hD hS
  have l_2 : ∀ (n : Nat), ∀ (x1 : Int) (H : Heap) (locs : List Loc) (ls : Array Slot), f_HM_steepest_2 i_row i_high n x1 = some out → va_P (dC, dI) vwCl (wd_HM_steepest cA q0 q1 q2 q3 q4 q5 q6 q7 q8 q9 q10 q11 q12 q13 q14 q15 q16 q17 q18 q19 q20 q21 q22 q23 q24 q25 q26 q27 q28 q29 q30 q31 u0 u1 u2 u3 u4 u5 u6 u7 u8 u9 u10 u11 u12 u13 u14 u15 u16 u17 u18 u19 u20 u21 i_row i_high) H → va_D A (wd_HM_steepest cA q0 q1 q2 q3 q4 q5 q6 q7 q8 q9 q10 q11 q12 q13 q14 q15 q16 q17 q18 q19 q20 q21 q22 q23 q24 q25 q26 q27 q28 q29 q30 q31 u0 u1 u2 u3 u4 u5 u6 u7 u8 u9 u10 u11 u12 u13 u14 u15 u16 u17 u18 u19 u20 u21 i_row i_high) → va_S A s.heap H locs → lv_has ls 2 [(0, .ref q0), (1, .int (Int32.ofInt x1))] → W p l e rm_HM_steepest s m args below meth c H locs 0 0 Q (F0 m 2 ls []) := by
    intro n
    induction n with
    | zero => intro x1 H locs ls hf hP hD hS hl; exact nomatch hf
    | succ n ih => intro x1 H locs ls hf hP hD hS hl; exact b_2 (f_HM_steepest_2 i_row i_high n) ih x1 H locs ls hf hP hD hS hl
  unfold f_HM_steepest at hf
  refine lv_iconst (v := Int32.ofInt 0) hx hb dX11_steepest_0 rfl ?_
  refine lv_istore_n (lv' := [(1, .int (Int32.ofInt 0)), (0, .ref q0)]) hx hb dX11_steepest_1 rfl hl (by decide) rfl (fun ls hl => ?_)
  exact l_2  _ _ _ _ _ hf hP hD hS (lv_sub hl [1, 0] rfl)
theorem dX11_steep_0 : decode cX11_steep 0 = .ok (.aload_n 0, 1) := by decide +kernel
theorem dX11_steep_1 : decode cX11_steep 1 = .ok (.iconst 0, 1) := by decide +kernel
theorem dX11_steep_2 : decode cX11_steep 2 = .ok (.putfield 126, 3) := by decide +kernel
theorem dX11_steep_5 : decode cX11_steep 5 = .ok (.aload_n 0, 1) := by decide +kernel
theorem dX11_steep_6 : decode cX11_steep 6 = .ok (.invokevirtual 360, 3) := by decide +kernel
theorem dX11_steep_9 : decode cX11_steep 9 = .ok (.aload_n 0, 1) := by decide +kernel
theorem dX11_steep_10 : decode cX11_steep 10 = .ok (.invokevirtual 376, 3) := by decide +kernel
theorem dX11_steep_13 : decode cX11_steep 13 = .ok (.ireturn, 1) := by decide +kernel
theorem zw_75 : (Jvm.Cond.selects "HillSchoolModel" ({ cls := "HillSchoolModel", name := "steepest", desc := "()I" } : Jvm.MethodName) ({ cls := "HillSchoolModel", name := "steepest", desc := "()I" } : Jvm.MethodName)) ∈ zall := zmemG (zmj_0 75 rfl) rfl
theorem zw_1605 : (Jvm.Cond.code ({ cls := "HillSchoolModel", name := "steep", desc := "()I" } : Jvm.MethodName) prog_13_method_73_code (1 : Nat) (Option.some Jvm.ClassFile.FieldType.int)) ∈ zall := zmemG (zmj_7 62 rfl) rfl
theorem zw_1606 : (Jvm.Cond.methodLink "HillSchoolModel" (376 : Nat) ({ cls := "HillSchoolModel", name := "steepest", desc := "()I" } : Jvm.MethodName)) ∈ zall := zmemG (zmj_7 63 rfl) rfl
theorem zw_1608 : (Jvm.Cond.instanceMethod ({ cls := "HillSchoolModel", name := "steepest", desc := "()I" } : Jvm.MethodName)) ∈ zall := zmemG (zmj_7 65 rfl) rfl
abbrev w_HM_steep : List Cond := .code yX11_steep cX11_steep 1 (some .int) :: zall
abbrev rm_HM_steep : Room := { frames := 4, cells := 0, slots := 0, locals := 89 }
theorem hd_HM_steep : yX11_steep.cls = "HillSchoolModel" ∧ yX11_steep.cls ≠ "java/lang/invoke/MethodHandle" ∧ yX11_steep.cls ≠ "java/lang/invoke/VarHandle" ∧ (parseMethodDescriptor yX11_steep.desc).map (fun d => d.parameters.length) = some 0 := by decide +kernel
def wd_HM_steep (cA : Nat → ClassId) (q0 q1 q2 q3 q4 q5 q6 q7 q8 q9 q10 q11 q12 q13 q14 q15 q16 q17 q18 q19 q20 q21 q22 q23 q24 q25 q26 q27 q28 q29 q30 q31 : Nat) (u0 u1 u2 u3 u4 u5 u6 u7 u8 u9 u10 u11 u12 u13 u14 u15 u16 u17 u18 u19 u20 : Int) (i_row : Nat → Int) (i_thrown : Int) (i_high : Nat → Int) (i_heaps : Nat → Int) : va_W := [(q0, .inr (11, [.int (Int32.ofInt i_thrown), .int (Int32.ofInt u0), .ref q1, .ref q2, .ref q3, .ref q4, .int (Int32.ofInt u1), .ref q5, .int (Int32.ofInt u2), .int (Int32.ofInt u3), .int (Int32.ofInt u4), .int (Int32.ofInt u5), .long (Int64.ofInt u6), .int (Int32.ofInt u7), .int (Int32.ofInt u8), .int (Int32.ofInt u9), .ref q6, .int (Int32.ofInt u10), .ref q7, .ref q8, .int (Int32.ofInt u11), .ref q9, .ref q10, .int (Int32.ofInt u12), .int (Int32.ofInt u13), .ref q11, .int (Int32.ofInt u14), .ref q12, .ref q13, .int (Int32.ofInt u15), .long (Int64.ofInt u16), .long (Int64.ofInt u17), .ref q14, .ref q15, .ref q16, .ref q17, .ref q18, .int (Int32.ofInt u18), .ref q19, .ref q20, .ref q21, .ref q22, .ref q23, .ref q24, .ref q25, .ref q26, .ref q27, .ref q28, .ref q29, .ref q30, .long (Int64.ofInt u19), .ref q31, .int (Int32.ofInt u20)])), (q2, .inl (cA 0, 5580, .inl (za i_row))), (q14, .inl (cA 0, 12, .inl (za i_high))), (q15, .inl (cA 0, 120, .inl (za i_heaps)))]
def wf_HM_steep (cA : Nat → ClassId) (q0 q1 q2 q3 q4 q5 q6 q7 q8 q9 q10 q11 q12 q13 q14 q15 q16 q17 q18 q19 q20 q21 q22 q23 q24 q25 q26 q27 q28 q29 q30 q31 : Nat) (u0 u1 u2 u3 u4 u5 u6 u7 u8 u9 u10 u11 u12 u13 u14 u15 u16 u17 u18 u19 u20 : Int) (i_row : Nat → Int) (o : Int × Int × (Nat → Int) × (Nat → Int)) : va_W := wd_HM_steep cA q0 q1 q2 q3 q4 q5 q6 q7 q8 q9 q10 q11 q12 q13 q14 q15 q16 q17 q18 q19 q20 q21 q22 q23 q24 q25 q26 q27 q28 q29 q30 q31 u0 u1 u2 u3 u4 u5 u6 u7 u8 u9 u10 u11 u12 u13 u14 u15 u16 u17 u18 u19 u20 i_row o.2.1 o.2.2.1 o.2.2.2
def f_HM_steep (i_row : Nat → Int) (i_thrown : Int) (i_high : Nat → Int) (i_heaps : Nat → Int) : Option (Int × Int × (Nat → Int) × (Nat → Int)) :=
  zd2 (f_HM_load i_row i_high i_heaps) fun a1 a2 =>
  zd1 (f_HM_steepest i_row a1) fun v3 =>
  some (v3, 0, a1, a2)
set_option maxHeartbeats 4000000 in
set_option maxRecDepth 100000 in
theorem c_HM_steep (l : Launch) (ev : zEv) (dC : Nat → ClassId) (dI : Nat → Nat → Nat) (cA : Nat → ClassId) (q0 q1 q2 q3 q4 q5 q6 q7 q8 q9 q10 q11 q12 q13 q14 q15 q16 q17 q18 q19 q20 q21 q22 q23 q24 q25 q26 q27 q28 q29 q30 q31 : Nat) (u0 u1 u2 u3 u4 u5 u6 u7 u8 u9 u10 u11 u12 u13 u14 u15 u16 u17 u18 u19 u20 : Int) {i_row : Nat → Int} {i_thrown : Int} {i_high : Nat → Int} {i_heaps : Nat → Int} {out : Int × Int × (Nat → Int) × (Nat → Int)} (hf : f_HM_steep i_row i_thrown i_high i_heaps = some out) : xc_I l ev (dC, dI) vwCl (tyl cA) yX11_steep w_HM_steep rm_HM_steep [.ref q0] (wd_HM_steep cA q0 q1 q2 q3 q4 q5 q6 q7 q8 q9 q10 q11 q12 q13 q14 q15 q16 q17 q18 q19 q20 q21 q22 q23 q24 q25 q26 q27 q28 q29 q30 q31 u0 u1 u2 u3 u4 u5 u6 u7 u8 u9 u10 u11 u12 u13 u14 u15 u16 u17 u18 u19 u20 i_row i_thrown i_high i_heaps) (wf_HM_steep cA q0 q1 q2 q3 q4 q5 q6 q7 q8 q9 q10 q11 q12 q13 q14 q15 q16 q17 q18 q19 q20 q21 q22 q23 q24 q25 q26 q27 q28 q29 q30 q31 u0 u1 u2 u3 u4 u5 u6 u7 u8 u9 u10 u11 u12 u13 u14 u15 u16 u17 u18 u19 u20 i_row out) out.1 := by
  refine xv_startI (cc := cX11_steep) (maxL := 1) (rt := .int) (by decide +kernel) rfl (Nat.le_of_ble_eq_true rfl) ?_
  intro p e s m args below meth c A Q H ls hx hb hml hts hown hK hA hP hD hS hl hE hret
  have hown : s.vm.findClass "HillSchoolModel" = some m.cls := hown
  have hz : ∀ w ∈ zall, w.before args s = true := fun w h => hts w (List.mem_cons_of_mem _ h)
  have hl : lv_has ls 1 [(0, .ref q0)] := hl
  unfold f_HM_steep at hf
  refine lv_aload_n hx hb dX11_steep_0 rfl (lv_at hl 0 rfl) ?_
  refine lv_iconst (v := Int32.ofInt 0) hx hb dX11_steep_1 rfl ?_
  refine va_put (D := (dC, dI)) (ci := 11) (v := .int (Int32.ofInt 0)) (ty := .int) (C := RX11) (T := TX11) (N := 53) hx hb hz zi_X11 tyX11 tyX11_ok nmX11 hown hK hP hD hS 0 rfl rfl 0 (by decide) (hz _ zw_1165) (fun _ h9 => h9) rfl (by decide +kernel) rfl rfl (Nat.le_of_ble_eq_true rfl) dX11_steep_2 (fun H locs hP hD hS => ?_)
  have hP : va_P (dC, dI) vwCl (wd_HM_steep cA q0 q1 q2 q3 q4 q5 q6 q7 q8 q9 q10 q11 q12 q13 q14 q15 q16 q17 q18 q19 q20 q21 q22 q23 q24 q25 q26 q27 q28 q29 q30 q31 u0 u1 u2 u3 u4 u5 u6 u7 u8 u9 u10 u11 u12 u13 u14 u15 u16 u17 u18 u19 u20 i_row 0 i_high i_heaps) H := hP
  have hD : va_D A (wd_HM_steep cA q0 q1 q2 q3 q4 q5 q6 q7 q8 q9 q10 q11 q12 q13 q14 q15 q16 q17 q18 q19 q20 q21 q22 q23 q24 q25 q26 q27 q28 q29 q30 q31 u0 u1 u2 u3 u4 u5 u6 u7 u8 u9 u10 u11 u12 u13 u14 u15 u16 u17 u18 u19 u20 i_row 0 i_high i_heaps) := hD
  refine lv_aload_n hx hb dX11_steep_5 rfl (lv_at hl 0 rfl) ?_
  refine xe_d2 hf (fun a1 a2 hg hf => ?_)
  have hC : ([0, 1, 2, 3] : List Nat).map (fun i => (wd_HM_steep cA q0 q1 q2 q3 q4 q5 q6 q7 q8 q9 q10 q11 q12 q13 q14 q15 q16 q17 q18 q19 q20 q21 q22 q23 q24 q25 q26 q27 q28 q29 q30 q31 u0 u1 u2 u3 u4 u5 u6 u7 u8 u9 u10 u11 u12 u13 u14 u15 u16 u17 u18 u19 u20 i_row 0 i_high i_heaps)[i]?) = (wd_HM_load cA q0 q1 q2 q3 q4 q5 q6 q7 q8 q9 q10 q11 q12 q13 q14 q15 q16 q17 q18 q19 q20 q21 q22 q23 q24 q25 q26 q27 q28 q29 q30 q31 0 u0 u1 u2 u3 u4 u5 u6 u7 u8 u9 u10 u11 u12 u13 u14 u15 u16 u17 u18 u19 u20 i_row i_high i_heaps).map some := rfl
  refine xv_afterV (ws' := (wd_HM_steep cA q0 q1 q2 q3 q4 q5 q6 q7 q8 q9 q10 q11 q12 q13 q14 q15 q16 q17 q18 q19 q20 q21 q22 q23 q24 q25 q26 q27 q28 q29 q30 q31 u0 u1 u2 u3 u4 u5 u6 u7 u8 u9 u10 u11 u12 u13 u14 u15 u16 u17 u18 u19 u20 i_row 0 a1 a2)) (isC := [0, 1, 2, 3]) (ps := [some 0, some 1, some 2, some 3]) (va_runV (As := []) (rest := []) ⟨hx, hb, hml, hown, hts⟩ (c_HM_load l ev dC dI cA q0 q1 q2 q3 q4 q5 q6 q7 q8 q9 q10 q11 q12 q13 q14 q15 q16 q17 q18 q19 q20 q21 q22 q23 q24 q25 q26 q27 q28 q29 q30 q31 0 u0 u1 u2 u3 u4 u5 u6 u7 u8 u9 u10 u11 u12 u13 u14 u15 u16 u17 u18 u19 u20 hg H.size) (cwV 0 hts (zgV zw_1549 zw_1551 zw_66 zw_115 zw_1552) rfl rfl rfl hd_HM_load ⟨Nat.le_of_ble_eq_true rfl, Nat.le_of_ble_eq_true rfl⟩) (xv_preV (T := TX11) (N := 53) hE hA hS hK hP hD (isC := [0, 1, 2, 3]) (by decide +kernel) hC (q0 := 0) (ci := 11) rfl rfl) rfl rfl hl.1 rfl (lv_room (Nat.le_of_ble_eq_true rfl)) dX11_steep_6 ⟨Nat.le_refl _, Nat.le_refl _⟩) hP hD hS hA (by decide +kernel) rfl hC rfl rfl (fun H locs hP hD hS => ?_)
  refine lv_aload_n hx hb dX11_steep_9 rfl (lv_at hl 0 rfl) ?_
  refine xe_d1 hf (fun v3 hg hf => ?_)
  have hC : ([0, 1, 2] : List Nat).map (fun i => (wd_HM_steep cA q0 q1 q2 q3 q4 q5 q6 q7 q8 q9 q10 q11 q12 q13 q14 q15 q16 q17 q18 q19 q20 q21 q22 q23 q24 q25 q26 q27 q28 q29 q30 q31 u0 u1 u2 u3 u4 u5 u6 u7 u8 u9 u10 u11 u12 u13 u14 u15 u16 u17 u18 u19 u20 i_row 0 a1 a2)[i]?) = (wd_HM_steepest cA q0 q1 q2 q3 q4 q5 q6 q7 q8 q9 q10 q11 q12 q13 q14 q15 q16 q17 q18 q19 q20 q21 q22 q23 q24 q25 q26 q27 q28 q29 q30 q31 0 u0 u1 u2 u3 u4 u5 u6 u7 u8 u9 u10 u11 u12 u13 u14 u15 u16 u17 u18 u19 u20 i_row a1).map some := rfl
  refine xv_afterI (ws' := (wd_HM_steep cA q0 q1 q2 q3 q4 q5 q6 q7 q8 q9 q10 q11 q12 q13 q14 q15 q16 q17 q18 q19 q20 q21 q22 q23 q24 q25 q26 q27 q28 q29 q30 q31 u0 u1 u2 u3 u4 u5 u6 u7 u8 u9 u10 u11 u12 u13 u14 u15 u16 u17 u18 u19 u20 i_row 0 a1 a2)) (isC := [0, 1, 2]) (ps := [some 0, some 1, some 2, none]) (va_runV (As := []) (rest := []) ⟨hx, hb, hml, hown, hts⟩ (c_HM_steepest l ev dC dI cA q0 q1 q2 q3 q4 q5 q6 q7 q8 q9 q10 q11 q12 q13 q14 q15 q16 q17 q18 q19 q20 q21 q22 q23 q24 q25 q26 q27 q28 q29 q30 q31 0 u0 u1 u2 u3 u4 u5 u6 u7 u8 u9 u10 u11 u12 u13 u14 u15 u16 u17 u18 u19 u20 hg H.size) (cwV 0 hts (zgV zw_1606 zw_1608 zw_75 zw_115 zw_1609) rfl rfl rfl hd_HM_steepest ⟨Nat.le_of_ble_eq_true rfl, Nat.le_of_ble_eq_true rfl⟩) (xv_preV (T := TX11) (N := 53) hE hA hS hK hP hD (isC := [0, 1, 2]) (by decide +kernel) hC (q0 := 0) (ci := 11) rfl rfl) rfl rfl hl.1 rfl (lv_room (Nat.le_of_ble_eq_true rfl)) dX11_steep_10 ⟨Nat.le_refl _, Nat.le_refl _⟩) hP hD hS hA (by decide +kernel) rfl hC rfl rfl (fun H locs hP hD hS => ?_)
  obtain rfl := Option.some.inj hf
  exact hret _ _ _ _ rfl dX11_steep_13 hP hD hS
theorem dX11_slideAll_0 : decode cX11_slideAll 0 = .ok (.iconst 0, 1) := by decide +kernel
theorem dX11_slideAll_1 : decode cX11_slideAll 1 = .ok (.istore_n 1, 1) := by decide +kernel
theorem dX11_slideAll_2 : decode cX11_slideAll 2 = .ok (.aload_n 0, 1) := by decide +kernel
theorem dX11_slideAll_3 : decode cX11_slideAll 3 = .ok (.invokevirtual 376, 3) := by decide +kernel
theorem dX11_slideAll_6 : decode cX11_slideAll 6 = .ok (.istore_n 2, 1) := by decide +kernel
theorem dX11_slideAll_7 : decode cX11_slideAll 7 = .ok (.iload_n 2, 1) := by decide +kernel
theorem dX11_slideAll_8 : decode cX11_slideAll 8 = .ok (.iconst (-1), 1) := by decide +kernel
theorem dX11_slideAll_9 : decode cX11_slideAll 9 = .ok (.if_icmp .eq 39, 3) := by decide +kernel
theorem dX11_slideAll_12 : decode cX11_slideAll 12 = .ok (.aload_n 0, 1) := by decide +kernel
theorem dX11_slideAll_13 : decode cX11_slideAll 13 = .ok (.iload_n 2, 1) := by decide +kernel
theorem dX11_slideAll_14 : decode cX11_slideAll 14 = .ok (.aload_n 0, 1) := by decide +kernel
theorem dX11_slideAll_15 : decode cX11_slideAll 15 = .ok (.iload_n 2, 1) := by decide +kernel
theorem dX11_slideAll_16 : decode cX11_slideAll 16 = .ok (.iload_n 2, 1) := by decide +kernel
theorem dX11_slideAll_17 : decode cX11_slideAll 17 = .ok (.iconst 1, 1) := by decide +kernel
theorem dX11_slideAll_18 : decode cX11_slideAll 18 = .ok (.isub, 1) := by decide +kernel
theorem dX11_slideAll_19 : decode cX11_slideAll 19 = .ok (.invokevirtual 373, 3) := by decide +kernel
theorem dX11_slideAll_22 : decode cX11_slideAll 22 = .ok (.ifCond .eq 9, 3) := by decide +kernel
theorem dX11_slideAll_25 : decode cX11_slideAll 25 = .ok (.iload_n 2, 1) := by decide +kernel
theorem dX11_slideAll_26 : decode cX11_slideAll 26 = .ok (.iconst 1, 1) := by decide +kernel
theorem dX11_slideAll_27 : decode cX11_slideAll 27 = .ok (.isub, 1) := by decide +kernel
theorem dX11_slideAll_28 : decode cX11_slideAll 28 = .ok (.goto 6, 3) := by decide +kernel
theorem dX11_slideAll_31 : decode cX11_slideAll 31 = .ok (.iload_n 2, 1) := by decide +kernel
theorem dX11_slideAll_32 : decode cX11_slideAll 32 = .ok (.iconst 1, 1) := by decide +kernel
theorem dX11_slideAll_33 : decode cX11_slideAll 33 = .ok (.iadd, 1) := by decide +kernel
theorem dX11_slideAll_34 : decode cX11_slideAll 34 = .ok (.invokevirtual 367, 3) := by decide +kernel
theorem dX11_slideAll_37 : decode cX11_slideAll 37 = .ok (.iinc 1 1, 3) := by decide +kernel
theorem dX11_slideAll_40 : decode cX11_slideAll 40 = .ok (.aload_n 0, 1) := by decide +kernel
theorem dX11_slideAll_41 : decode cX11_slideAll 41 = .ok (.invokevirtual 376, 3) := by decide +kernel
theorem dX11_slideAll_44 : decode cX11_slideAll 44 = .ok (.istore_n 2, 1) := by decide +kernel
theorem dX11_slideAll_45 : decode cX11_slideAll 45 = .ok (.goto (-38), 3) := by decide +kernel
theorem dX11_slideAll_48 : decode cX11_slideAll 48 = .ok (.iload_n 1, 1) := by decide +kernel
theorem dX11_slideAll_49 : decode cX11_slideAll 49 = .ok (.ireturn, 1) := by decide +kernel
theorem zw_1621 : (Jvm.Cond.code ({ cls := "HillSchoolModel", name := "slideAll", desc := "()I" } : Jvm.MethodName) prog_13_method_72_code (3 : Nat) (Option.some Jvm.ClassFile.FieldType.int)) ∈ zall := zmemG (zmj_7 78 rfl) rfl
abbrev w_HM_slideAll : List Cond := .code yX11_slideAll cX11_slideAll 3 (some .int) :: zall
abbrev rm_HM_slideAll : Room := { frames := 4, cells := 0, slots := 0, locals := 89 }
theorem hd_HM_slideAll : yX11_slideAll.cls = "HillSchoolModel" ∧ yX11_slideAll.cls ≠ "java/lang/invoke/MethodHandle" ∧ yX11_slideAll.cls ≠ "java/lang/invoke/VarHandle" ∧ (parseMethodDescriptor yX11_slideAll.desc).map (fun d => d.parameters.length) = some 0 := by decide +kernel
def wd_HM_slideAll (cA : Nat → ClassId) (q0 q1 q2 q3 q4 q5 q6 q7 q8 q9 q10 q11 q12 q13 q14 q15 q16 q17 q18 q19 q20 q21 q22 q23 q24 q25 q26 q27 q28 q29 q30 q31 : Nat) (u0 u1 u2 u3 u4 u5 u6 u7 u8 u9 u10 u11 u12 u13 u14 u15 u16 u17 u18 u19 u20 u21 : Int) (i_row : Nat → Int) (i_high : Nat → Int) (i_heaps : Nat → Int) : va_W := [(q0, .inr (11, [.int (Int32.ofInt u0), .int (Int32.ofInt u1), .ref q1, .ref q2, .ref q3, .ref q4, .int (Int32.ofInt u2), .ref q5, .int (Int32.ofInt u3), .int (Int32.ofInt u4), .int (Int32.ofInt u5), .int (Int32.ofInt u6), .long (Int64.ofInt u7), .int (Int32.ofInt u8), .int (Int32.ofInt u9), .int (Int32.ofInt u10), .ref q6, .int (Int32.ofInt u11), .ref q7, .ref q8, .int (Int32.ofInt u12), .ref q9, .ref q10, .int (Int32.ofInt u13), .int (Int32.ofInt u14), .ref q11, .int (Int32.ofInt u15), .ref q12, .ref q13, .int (Int32.ofInt u16), .long (Int64.ofInt u17), .long (Int64.ofInt u18), .ref q14, .ref q15, .ref q16, .ref q17, .ref q18, .int (Int32.ofInt u19), .ref q19, .ref q20, .ref q21, .ref q22, .ref q23, .ref q24, .ref q25, .ref q26, .ref q27, .ref q28, .ref q29, .ref q30, .long (Int64.ofInt u20), .ref q31, .int (Int32.ofInt u21)])), (q2, .inl (cA 0, 5580, .inl (za i_row))), (q14, .inl (cA 0, 12, .inl (za i_high))), (q15, .inl (cA 0, 120, .inl (za i_heaps)))]
def wf_HM_slideAll (cA : Nat → ClassId) (q0 q1 q2 q3 q4 q5 q6 q7 q8 q9 q10 q11 q12 q13 q14 q15 q16 q17 q18 q19 q20 q21 q22 q23 q24 q25 q26 q27 q28 q29 q30 q31 : Nat) (u0 u1 u2 u3 u4 u5 u6 u7 u8 u9 u10 u11 u12 u13 u14 u15 u16 u17 u18 u19 u20 u21 : Int) (i_row : Nat → Int) (o : Int × (Nat → Int) × (Nat → Int)) : va_W := wd_HM_slideAll cA q0 q1 q2 q3 q4 q5 q6 q7 q8 q9 q10 q11 q12 q13 q14 q15 q16 q17 q18 q19 q20 q21 q22 q23 q24 q25 q26 q27 q28 q29 q30 q31 u0 u1 u2 u3 u4 u5 u6 u7 u8 u9 u10 u11 u12 u13 u14 u15 u16 u17 u18 u19 u20 u21 i_row o.2.1 o.2.2
def f_HM_slideAll_34 (i_row : Nat → Int) (k7 : Int → Int → (Nat → Int) → (Nat → Int) → Option (Int × (Nat → Int) × (Nat → Int))) (x1 : Int) (s1 : Int) (s2 : Int) (i_high : Nat → Int) (i_heaps : Nat → Int) : Option (Int × (Nat → Int) × (Nat → Int)) :=
  zd2 (f_HM_shift s1 s2 i_high i_heaps) fun a1 a2 =>
  zn (x1 + 1) fun v3 =>
  zd1 (f_HM_steepest i_row a1) fun v4 =>
  k7 v3 v4 a1 a2
def f_HM_slideAll_7_b (i_row : Nat → Int) (k7 : Int → Int → (Nat → Int) → (Nat → Int) → Option (Int × (Nat → Int) × (Nat → Int))) (x1 : Int) (x2 : Int) (i_high : Nat → Int) (i_heaps : Nat → Int) : Option (Int × (Nat → Int) × (Nat → Int)) :=
  if zi_w x2 = zi_w (-1) then
    some (x1, i_high, i_heaps)
  else
    zn (x2 - 1) fun v1 =>
    zd1 (f_HM_isSteep x2 v1 i_row i_high) fun v2 =>
    if zi_w v2 = 0 then
      zn (x2 + 1) fun v3 =>
      f_HM_slideAll_34 i_row k7 x1 x2 v3 i_high i_heaps
    else
      zn (x2 - 1) fun v4 =>
      f_HM_slideAll_34 i_row k7 x1 x2 v4 i_high i_heaps
def f_HM_slideAll_7 (i_row : Nat → Int) : Nat → Int → Int → (Nat → Int) → (Nat → Int) → Option (Int × (Nat → Int) × (Nat → Int))
  | 0 => fun _ _ _ _ => none
  | n + 1 => fun y0 y1 y2 y3 => f_HM_slideAll_7_b i_row (f_HM_slideAll_7 i_row n) y0 y1 y2 y3
def f_HM_slideAll (i_row : Nat → Int) (i_high : Nat → Int) (i_heaps : Nat → Int) : Option (Int × (Nat → Int) × (Nat → Int)) :=
  zd1 (f_HM_steepest i_row i_high) fun v1 =>
  f_HM_slideAll_7 i_row zfu 0 v1 i_high i_heaps
set_option maxHeartbeats 4000000 in
set_option maxRecDepth 100000 in
theorem c_HM_slideAll (l : Launch) (ev : zEv) (dC : Nat → ClassId) (dI : Nat → Nat → Nat) (cA : Nat → ClassId) (q0 q1 q2 q3 q4 q5 q6 q7 q8 q9 q10 q11 q12 q13 q14 q15 q16 q17 q18 q19 q20 q21 q22 q23 q24 q25 q26 q27 q28 q29 q30 q31 : Nat) (u0 u1 u2 u3 u4 u5 u6 u7 u8 u9 u10 u11 u12 u13 u14 u15 u16 u17 u18 u19 u20 u21 : Int) {i_row : Nat → Int} {i_high : Nat → Int} {i_heaps : Nat → Int} {out : Int × (Nat → Int) × (Nat → Int)} (hf : f_HM_slideAll i_row i_high i_heaps = some out) : xc_I l ev (dC, dI) vwCl (tyl cA) yX11_slideAll w_HM_slideAll rm_HM_slideAll [.ref q0] (wd_HM_slideAll cA q0 q1 q2 q3 q4 q5 q6 q7 q8 q9 q10 q11 q12 q13 q14 q15 q16 q17 q18 q19 q20 q21 q22 q23 q24 q25 q26 q27 q28 q29 q30 q31 u0 u1 u2 u3 u4 u5 u6 u7 u8 u9 u10 u11 u12 u13 u14 u15 u16 u17 u18 u19 u20 u21 i_row i_high i_heaps) (wf_HM_slideAll cA q0 q1 q2 q3 q4 q5 q6 q7 q8 q9 q10 q11 q12 q13 q14 q15 q16 q17 q18 q19 q20 q21 q22 q23 q24 q25 q26 q27 q28 q29 q30 q31 u0 u1 u2 u3 u4 u5 u6 u7 u8 u9 u10 u11 u12 u13 u14 u15 u16 u17 u18 u19 u20 u21 i_row out) out.1 := by
  refine xv_startI (cc := cX11_slideAll) (maxL := 3) (rt := .int) (by decide +kernel) rfl (Nat.le_of_ble_eq_true rfl) ?_
  intro p e s m args below meth c A Q H ls hx hb hml hts hown hK hA hP hD hS hl hE hret
  have hown : s.vm.findClass "HillSchoolModel" = some m.cls := hown
  have hz : ∀ w ∈ zall, w.before args s = true := fun w h => hts w (List.mem_cons_of_mem _ h)
  have hl : lv_has ls 3 [(0, .ref q0)] := hl
  have b_34 : ∀ (k7 : Int → Int → (Nat → Int) → (Nat → Int) → Option (Int × (Nat → Int) × (Nat → Int))) (_ : ∀ (x1 : Int) (x2 : Int) (i_high : Nat → Int) (i_heaps : Nat → Int) (H : Heap) (locs : List Loc) (ls : Array Slot), k7 x1 x2 i_high i_heaps = some out → va_P (dC, dI) vwCl (wd_HM_slideAll cA q0 q1 q2 q3 q4 q5 q6 q7 q8 q9 q10 q11 q12 q13 q14 q15 q16 q17 q18 q19 q20 q21 q22 q23 q24 q25 q26 q27 q28 q29 q30 q31 u0 u1 u2 u3 u4 u5 u6 u7 u8 u9 u10 u11 u12 u13 u14 u15 u16 u17 u18 u19 u20 u21 i_row i_high i_heaps) H → va_D A (wd_HM_slideAll cA q0 q1 q2 q3 q4 q5 q6 q7 q8 q9 q10 q11 q12 q13 q14 q15 q16 q17 q18 q19 q20 q21 q22 q23 q24 q25 q26 q27 q28 q29 q30 q31 u0 u1 u2 u3 u4 u5 u6 u7 u8 u9 u10 u11 u12 u13 u14 u15 u16 u17 u18 u19 u20 u21 i_row i_high i_heaps) → va_S A s.heap H locs → lv_has ls 3 [(0, .ref q0), (1, .int (Int32.ofInt x1)), (2, .int (Int32.ofInt x2))] → W p l e rm_HM_slideAll s m args below meth c H locs 0 0 Q (F0 m 7 ls [])), ∀ (x1 : Int) (s1 : Int) (s2 : Int) (i_high : Nat → Int) (i_heaps : Nat → Int) (H : Heap) (locs : List Loc) (ls : Array Slot), f_HM_slideAll_34 i_row k7 x1 s1 s2 i_high i_heaps = some out → va_P (dC, dI) vwCl (wd_HM_slideAll cA q0 q1 q2 q3 q4 q5 q6 q7 q8 q9 q10 q11 q12 q13 q14 q15 q16 q17 q18 q19 q20 q21 q22 q23 q24 q25 q26 q27 q28 q29 q30 q31 u0 u1 u2 u3 u4 u5 u6 u7 u8 u9 u10 u11 u12 u13 u14 u15 u16 u17 u18 u19 u20 u21 i_row i_high i_heaps) H → va_D A (wd_HM_slideAll cA q0 q1 q2 q3 q4 q5 q6 q7 q8 q9 q10 q11 q12 q13 q14 q15 q16 q17 q18 q19 q20 q21 q22 q23 q24 q25 q26 q27 q28 q29 q30 q31 u0 u1 u2 u3 u4 u5 u6 u7 u8 u9 u10 u11 u12 u13 u14 u15 u16 u17 u18 u19 u20 u21 i_row i_high i_heaps) → va_S A s.heap H locs → lv_has ls 3 [(0, .ref q0), (1, .int (Int32.ofInt x1))] → W p l e rm_HM_slideAll s m args below meth c H locs 0 0 Q (F0 m 34 ls [.int (Int32.ofInt s2), .int (Int32.ofInt s1), .ref q0]) := by
    intro k7 ih7 x1 s1 s2 i_high i_heaps H locs ls hf hP hD hS hl
    unfold f_HM_slideAll_34 at hf
    refine xe_d2 hf (fun a1 a2 hg hf => ?_)
    have hC : ([0, 2, 3] : List Nat).map (fun i => (wd_HM_slideAll cA q0 q1 q2 q3 q4 q5 q6 q7 q8 q9 q10 q11 q12 q13 q14 q15 q16 q17 q18 q19 q20 q21 q22 q23 q24 q25 q26 q27 q28 q29 q30 q31 u0 u1 u2 u3 u4 u5 u6 u7 u8 u9 u10 u11 u12 u13 u14 u15 u16 u17 u18 u19 u20 u21 i_row i_high i_heaps)[i]?) = (wd_HM_shift cA q0 q1 q2 q3 q4 q5 q6 q7 q8 q9 q10 q11 q12 q13 q14 q15 q16 q17 q18 q19 q20 q21 q22 q23 q24 q25 q26 q27 q28 q29 q30 q31 u0 u1 u2 u3 u4 u5 u6 u7 u8 u9 u10 u11 u12 u13 u14 u15 u16 u17 u18 u19 u20 u21 i_high i_heaps).map some := rfl
    refine xv_afterV (ws' := (wd_HM_slideAll cA q0 q1 q2 q3 q4 q5 q6 q7 q8 q9 q10 q11 q12 q13 q14 q15 q16 q17 q18 q19 q20 q21 q22 q23 q24 q25 q26 q27 q28 q29 q30 q31 u0 u1 u2 u3 u4 u5 u6 u7 u8 u9 u10 u11 u12 u13 u14 u15 u16 u17 u18 u19 u20 u21 i_row a1 a2)) (isC := [0, 2, 3]) (ps := [some 0, none, some 1, some 2]) (va_runV (As := [.int (Int32.ofInt s1), .int (Int32.ofInt s2)]) (rest := []) ⟨hx, hb, hml, hown, hts⟩ (c_HM_shift l ev dC dI cA q0 q1 q2 q3 q4 q5 q6 q7 q8 q9 q10 q11 q12 q13 q14 q15 q16 q17 q18 q19 q20 q21 q22 q23 q24 q25 q26 q27 q28 q29 q30 q31 u0 u1 u2 u3 u4 u5 u6 u7 u8 u9 u10 u11 u12 u13 u14 u15 u16 u17 u18 u19 u20 u21 hg H.size) (cwV 2 hts (zgV zw_1590 zw_1592 zw_73 zw_115 zw_1593) rfl rfl rfl hd_HM_shift ⟨Nat.le_of_ble_eq_true rfl, Nat.le_of_ble_eq_true rfl⟩) (xv_preV (T := TX11) (N := 53) hE hA hS hK hP hD (isC := [0, 2, 3]) (by decide +kernel) hC (q0 := 0) (ci := 11) rfl rfl) rfl rfl hl.1 rfl (lv_room (Nat.le_of_ble_eq_true rfl)) dX11_slideAll_34 ⟨Nat.le_refl _, Nat.le_refl _⟩) hP hD hS hA (by decide +kernel) rfl hC rfl rfl (fun H locs hP hD hS => ?_)
    refine xi_iinc hx hb dX11_slideAll_37 hl (k := 1) rfl (by decide) hf (fun v3 ls hl hf => ?_)
    have hl : lv_has ls 3 [(1, .int (Int32.ofInt v3)), (0, .ref q0)] := hl
    refine lv_aload_n hx hb dX11_slideAll_40 rfl (lv_at hl 1 rfl) ?_
    refine xe_d1 hf (fun v4 hg hf => ?_)
    have hC : ([0, 1, 2] : List Nat).map (fun i => (wd_HM_slideAll cA q0 q1 q2 q3 q4 q5 q6 q7 q8 q9 q10 q11 q12 q13 q14 q15 q16 q17 q18 q19 q20 q21 q22 q23 q24 q25 q26 q27 q28 q29 q30 q31 u0 u1 u2 u3 u4 u5 u6 u7 u8 u9 u10 u11 u12 u13 u14 u15 u16 u17 u18 u19 u20 u21 i_row a1 a2)[i]?) = (wd_HM_steepest cA q0 q1 q2 q3 q4 q5 q6 q7 q8 q9 q10 q11 q12 q13 q14 q15 q16 q17 q18 q19 q20 q21 q22 q23 q24 q25 q26 q27 q28 q29 q30 q31 u0 u1 u2 u3 u4 u5 u6 u7 u8 u9 u10 u11 u12 u13 u14 u15 u16 u17 u18 u19 u20 u21 i_row a1).map some := rfl
    refine xv_afterI (ws' := (wd_HM_slideAll cA q0 q1 q2 q3 q4 q5 q6 q7 q8 q9 q10 q11 q12 q13 q14 q15 q16 q17 q18 q19 q20 q21 q22 q23 q24 q25 q26 q27 q28 q29 q30 q31 u0 u1 u2 u3 u4 u5 u6 u7 u8 u9 u10 u11 u12 u13 u14 u15 u16 u17 u18 u19 u20 u21 i_row a1 a2)) (isC := [0, 1, 2]) (ps := [some 0, some 1, some 2, none]) (va_runV (As := []) (rest := []) ⟨hx, hb, hml, hown, hts⟩ (c_HM_steepest l ev dC dI cA q0 q1 q2 q3 q4 q5 q6 q7 q8 q9 q10 q11 q12 q13 q14 q15 q16 q17 q18 q19 q20 q21 q22 q23 q24 q25 q26 q27 q28 q29 q30 q31 u0 u1 u2 u3 u4 u5 u6 u7 u8 u9 u10 u11 u12 u13 u14 u15 u16 u17 u18 u19 u20 u21 hg H.size) (cwV 0 hts (zgV zw_1606 zw_1608 zw_75 zw_115 zw_1609) rfl rfl rfl hd_HM_steepest ⟨Nat.le_of_ble_eq_true rfl, Nat.le_of_ble_eq_true rfl⟩) (xv_preV (T := TX11) (N := 53) hE hA hS hK hP hD (isC := [0, 1, 2]) (by decide +kernel) hC (q0 := 0) (ci := 11) rfl rfl) rfl rfl hl.1 rfl (lv_room (Nat.le_of_ble_eq_true rfl)) dX11_slideAll_41 ⟨Nat.le_refl _, Nat.le_refl _⟩) hP hD hS hA (by decide +kernel) rfl hC rfl rfl (fun H locs hP hD hS => ?_)
    refine lv_istore_n (lv' := [(2, .int (Int32.ofInt v4)), (1, .int (Int32.ofInt v3)), (0, .ref q0)]) hx hb dX11_slideAll_44 rfl hl (by decide) rfl (fun ls hl => ?_)
    refine lv_goto (tgt := 7) hx hb dX11_slideAll_45 (by decide) ?_
    exact ih7 _ _ _ _ _ _ _ hf hP hD hS (lv_sub hl [2, 1, 0] rfl)
  have b_7 : ∀ (k7 : Int → Int → (Nat → Int) → (Nat → Int) → Option (Int × (Nat → Int) × (Nat → Int))) (_ : ∀ (x1 : Int) (x2 : Int) (i_high : Nat → Int) (i_heaps : Nat → Int) (H : Heap) (locs : List Loc) (ls : Array Slot), k7 x1 x2 i_high i_heaps = some out → va_P (dC, dI) vwCl (wd_HM_slideAll cA q0 q1 q2 q3 q4 q5 q6 q7 q8 q9 q10 q11 q12 q13 q14 q15 q16 q17 q18 q19 q20 q21 q22 q23 q24 q25 q26 q27 q28 q29 q30 q31 u0 u1 u2 u3 u4 u5 u6 u7 u8 u9 u10 u11 u12 u13 u14 u15 u16 u17 u18 u19 u20 u21 i_row i_high i_heaps) H → va_D A (wd_HM_slideAll cA q0 q1 q2 q3 q4 q5 q6 q7 q8 q9 q10 q11 q12 q13 q14 q15 q16 q17 q18 q19 q20 q21 q22 q23 q24 q25 q26 q27 q28 q29 q30 q31 u0 u1 u2 u3 u4 u5 u6 u7 u8 u9 u10 u11 u12 u13 u14 u15 u16 u17 u18 u19 u20 u21 i_row i_high i_heaps) → va_S A s.heap H locs → lv_has ls 3 [(0, .ref q0), (1, .int (Int32.ofInt x1)), (2, .int (Int32.ofInt x2))] → W p l e rm_HM_slideAll s m args below meth c H locs 0 0 Q (F0 m 7 ls [])), ∀ (x1 : Int) (x2 : Int) (i_high : Nat → Int) (i_heaps : Nat → Int) (H : Heap) (locs : List Loc) (ls : Array Slot), f_HM_slideAll_7_b i_row k7 x1 x2 i_high i_heaps = some out → va_P (dC, dI) vwCl (wd_HM_slideAll cA q0 q1 q2 q3 q4 q5 q6 q7 q8 q9 q10 q11 q12 q13 q14 q15 q16 q17 q18 q19 q20 q21 q22 q23 q24 q25 q26 q27 q28 q29 q30 q31 u0 u1 u2 u3 u4 u5 u6 u7 u8 u9 u10 u11 u12 u13 u14 u15 u16 u17 u18 u19 u20 u21 i_row i_high i_heaps) H → va_D A (wd_HM_slideAll cA q0 q1 q2 q3 q4 q5 q6 q7 q8 q9 q10 q11 q12 q13 q14 q15 q16 q17 q18 q19 q20 q21 q22 q23 q24 q25 q26 q27 q28 q29 q30 q31 u0 u1 u2 u3 u4 u5 u6 u7 u8 u9 u10 u11 u12 u13 u14 u15 u16 u17 u18 u19 u20 u21 i_row i_high i_heaps) → va_S A s.heap H locs → lv_has ls 3 [(0, .ref q0), (1, .int (Int32.ofInt x1)), (2, .int (Int32.ofInt x2))] → W p l e rm_HM_slideAll s m args below meth c H locs 0 0 Q (F0 m 7 ls []) := by
    intro k7 ih7 x1 x2 i_high i_heaps H locs ls hf hP hD hS hl
    unfold f_HM_slideAll_7_b at hf
    refine lv_iload_n hx hb dX11_slideAll_7 rfl (lv_at hl 2 rfl) ?_
    refine lv_iconst (v := Int32.ofInt (-1)) hx hb dX11_slideAll_8 rfl ?_
    refine xi_icmp_eq (tgt := 48) hx hb dX11_slideAll_9 (by decide) hf (fun hf => ?_) (fun hf => ?_)
    · refine lv_iload_n hx hb dX11_slideAll_48 rfl (lv_at hl 1 rfl) ?_
      obtain rfl := Option.some.inj hf
      exact hret _ _ _ _ rfl dX11_slideAll_49 hP hD hS
    · refine lv_aload_n hx hb dX11_slideAll_12 rfl (lv_at hl 0 rfl) ?_
      refine lv_iload_n hx hb dX11_slideAll_13 rfl (lv_at hl 2 rfl) ?_
      refine lv_aload_n hx hb dX11_slideAll_14 rfl (lv_at hl 0 rfl) ?_
      refine lv_iload_n hx hb dX11_slideAll_15 rfl (lv_at hl 2 rfl) ?_
      refine lv_iload_n hx hb dX11_slideAll_16 rfl (lv_at hl 2 rfl) ?_
      refine lv_iconst (v := Int32.ofInt 1) hx hb dX11_slideAll_17 rfl ?_
      refine xi_isub hx hb dX11_slideAll_18 hf (fun v1 hf => ?_)
      refine xe_d1 hf (fun v2 hg hf => ?_)
      have hC : ([0, 1, 2] : List Nat).map (fun i => (wd_HM_slideAll cA q0 q1 q2 q3 q4 q5 q6 q7 q8 q9 q10 q11 q12 q13 q14 q15 q16 q17 q18 q19 q20 q21 q22 q23 q24 q25 q26 q27 q28 q29 q30 q31 u0 u1 u2 u3 u4 u5 u6 u7 u8 u9 u10 u11 u12 u13 u14 u15 u16 u17 u18 u19 u20 u21 i_row i_high i_heaps)[i]?) = (wd_HM_isSteep cA q0 q1 q2 q3 q4 q5 q6 q7 q8 q9 q10 q11 q12 q13 q14 q15 q16 q17 q18 q19 q20 q21 q22 q23 q24 q25 q26 q27 q28 q29 q30 q31 u0 u1 u2 u3 u4 u5 u6 u7 u8 u9 u10 u11 u12 u13 u14 u15 u16 u17 u18 u19 u20 u21 i_row i_high).map some := rfl
      refine xv_afterI (ws' := (wd_HM_slideAll cA q0 q1 q2 q3 q4 q5 q6 q7 q8 q9 q10 q11 q12 q13 q14 q15 q16 q17 q18 q19 q20 q21 q22 q23 q24 q25 q26 q27 q28 q29 q30 q31 u0 u1 u2 u3 u4 u5 u6 u7 u8 u9 u10 u11 u12 u13 u14 u15 u16 u17 u18 u19 u20 u21 i_row i_high i_heaps)) (isC := [0, 1, 2]) (ps := [some 0, some 1, some 2, none]) (va_runV (As := [.int (Int32.ofInt x2), .int (Int32.ofInt v1)]) (rest := [.int (Int32.ofInt x2), .ref q0]) ⟨hx, hb, hml, hown, hts⟩ (c_HM_isSteep l ev dC dI cA q0 q1 q2 q3 q4 q5 q6 q7 q8 q9 q10 q11 q12 q13 q14 q15 q16 q17 q18 q19 q20 q21 q22 q23 q24 q25 q26 q27 q28 q29 q30 q31 u0 u1 u2 u3 u4 u5 u6 u7 u8 u9 u10 u11 u12 u13 u14 u15 u16 u17 u18 u19 u20 u21 hg H.size) (cwV 2 hts (zgV zw_1610 zw_1612 zw_76 zw_115 zw_1613) rfl rfl rfl hd_HM_isSteep ⟨Nat.le_of_ble_eq_true rfl, Nat.le_of_ble_eq_true rfl⟩) (xv_preV (T := TX11) (N := 53) hE hA hS hK hP hD (isC := [0, 1, 2]) (by decide +kernel) hC (q0 := 0) (ci := 11) rfl rfl) rfl rfl hl.1 rfl (lv_room (Nat.le_of_ble_eq_true rfl)) dX11_slideAll_19 ⟨Nat.le_refl _, Nat.le_refl _⟩) hP hD hS hA (by decide +kernel) rfl hC rfl rfl (fun H locs hP hD hS => ?_)
      refine xi_if_eq (tgt := 31) hx hb dX11_slideAll_22 (by decide) hf (fun hf => ?_) (fun hf => ?_)
      · refine lv_iload_n hx hb dX11_slideAll_31 rfl (lv_at hl 2 rfl) ?_
        refine lv_iconst (v := Int32.ofInt 1) hx hb dX11_slideAll_32 rfl ?_
        refine xi_iadd hx hb dX11_slideAll_33 hf (fun v3 hf => ?_)
        exact b_34 _ ih7 _ _ _ _ _ _ _ _ hf hP hD hS (lv_sub hl [0, 1] rfl)
      · refine lv_iload_n hx hb dX11_slideAll_25 rfl (lv_at hl 2 rfl) ?_
        refine lv_iconst (v := Int32.ofInt 1) hx hb dX11_slideAll_26 rfl ?_
        refine xi_isub hx hb dX11_slideAll_27 hf (fun v4 hf => ?_)
        refine lv_goto (tgt := 34) hx hb dX11_slideAll_28 (by decide) ?_
        exact b_34 _ ih7 _ _ _ _ _ _ _ _ hf hP hD hS (lv_sub hl [0, 1] rfl)
  have l_7 : ∀ (n : Nat), ∀ (x1 : Int) (x2 : Int) (i_high : Nat → Int) (i_heaps : Nat → Int) (H : Heap) (locs : List Loc) (ls : Array Slot), f_HM_slideAll_7 i_row n x1 x2 i_high i_heaps = some out → va_P (dC, dI) vwCl (wd_HM_slideAll cA q0 q1 q2 q3 q4 q5 q6 q7 q8 q9 q10 q11 q12 q13 q14 q15 q16 q17 q18 q19 q20 q21 q22 q23 q24 q25 q26 q27 q28 q29 q30 q31 u0 u1 u2 u3 u4 u5 u6 u7 u8 u9 u10 u11 u12 u13 u14 u15 u16 u17 u18 u19 u20 u21 i_row i_high i_heaps) H → va_D A (wd_HM_slideAll cA q0 q1 q2 q3 q4 q5 q6 q7 q8 q9 q10 q11 q12 q13 q14 q15 q16 q17 q18 q19 q20 q21 q22 q23 q24 q25 q26 q27 q28 q29 q30 q31 u0 u1 u2 u3 u4 u5 u6 u7 u8 u9 u10 u11 u12 u13 u14 u15 u16 u17 u18 u19 u20 u21 i_row i_high i_heaps) → va_S A s.heap H locs → lv_has ls 3 [(0, .ref q0), (1, .int (Int32.ofInt x1)), (2, .int (Int32.ofInt x2))] → W p l e rm_HM_slideAll s m args below meth c H locs 0 0 Q (F0 m 7 ls []) := by
    intro n
    induction n with
    | zero => intro x1 x2 i_high i_heaps H locs ls hf hP hD hS hl; exact nomatch hf
    | succ n ih => intro x1 x2 i_high i_heaps H locs ls hf hP hD hS hl; exact b_7 (f_HM_slideAll_7 i_row n) ih x1 x2 i_high i_heaps H locs ls hf hP hD hS hl
  unfold f_HM_slideAll at hf
  refine lv_iconst (v := Int32.ofInt 0) hx hb dX11_slideAll_0 rfl ?_
  refine lv_istore_n (lv' := [(1, .int (Int32.ofInt 0)), (0, .ref q0)]) hx hb dX11_slideAll_1 rfl hl (by decide) rfl (fun ls hl => ?_)
  refine lv_aload_n hx hb dX11_slideAll_2 rfl (lv_at hl 1 rfl) ?_
  refine xe_d1 hf (fun v1 hg hf => ?_)
  have hC : ([0, 1, 2] : List Nat).map (fun i => (wd_HM_slideAll cA q0 q1 q2 q3 q4 q5 q6 q7 q8 q9 q10 q11 q12 q13 q14 q15 q16 q17 q18 q19 q20 q21 q22 q23 q24 q25 q26 q27 q28 q29 q30 q31 u0 u1 u2 u3 u4 u5 u6 u7 u8 u9 u10 u11 u12 u13 u14 u15 u16 u17 u18 u19 u20 u21 i_row i_high i_heaps)[i]?) = (wd_HM_steepest cA q0 q1 q2 q3 q4 q5 q6 q7 q8 q9 q10 q11 q12 q13 q14 q15 q16 q17 q18 q19 q20 q21 q22 q23 q24 q25 q26 q27 q28 q29 q30 q31 u0 u1 u2 u3 u4 u5 u6 u7 u8 u9 u10 u11 u12 u13 u14 u15 u16 u17 u18 u19 u20 u21 i_row i_high).map some := rfl
  refine xv_afterI (ws' := (wd_HM_slideAll cA q0 q1 q2 q3 q4 q5 q6 q7 q8 q9 q10 q11 q12 q13 q14 q15 q16 q17 q18 q19 q20 q21 q22 q23 q24 q25 q26 q27 q28 q29 q30 q31 u0 u1 u2 u3 u4 u5 u6 u7 u8 u9 u10 u11 u12 u13 u14 u15 u16 u17 u18 u19 u20 u21 i_row i_high i_heaps)) (isC := [0, 1, 2]) (ps := [some 0, some 1, some 2, none]) (va_runV (As := []) (rest := []) ⟨hx, hb, hml, hown, hts⟩ (c_HM_steepest l ev dC dI cA q0 q1 q2 q3 q4 q5 q6 q7 q8 q9 q10 q11 q12 q13 q14 q15 q16 q17 q18 q19 q20 q21 q22 q23 q24 q25 q26 q27 q28 q29 q30 q31 u0 u1 u2 u3 u4 u5 u6 u7 u8 u9 u10 u11 u12 u13 u14 u15 u16 u17 u18 u19 u20 u21 hg H.size) (cwV 0 hts (zgV zw_1606 zw_1608 zw_75 zw_115 zw_1609) rfl rfl rfl hd_HM_steepest ⟨Nat.le_of_ble_eq_true rfl, Nat.le_of_ble_eq_true rfl⟩) (xv_preV (T := TX11) (N := 53) hE hA hS hK hP hD (isC := [0, 1, 2]) (by decide +kernel) hC (q0 := 0) (ci := 11) rfl rfl) rfl rfl hl.1 rfl (lv_room (Nat.le_of_ble_eq_true rfl)) dX11_slideAll_3 ⟨Nat.le_refl _, Nat.le_refl _⟩) hP hD hS hA (by decide +kernel) rfl hC rfl rfl (fun H locs hP hD hS => ?_)
  refine lv_istore_n (lv' := [(2, .int (Int32.ofInt v1)), (1, .int (Int32.ofInt 0)), (0, .ref q0)]) hx hb dX11_slideAll_6 rfl hl (by decide) rfl (fun ls hl => ?_)
  exact l_7  _ _ _ _ _ _ _ _ hf hP hD hS (lv_sub hl [2, 1, 0] rfl)
theorem dX11_slide_0 : decode cX11_slide 0 = .ok (.aload_n 0, 1) := by decide +kernel
theorem dX11_slide_1 : decode cX11_slide 1 = .ok (.iconst 0, 1) := by decide +kernel
theorem dX11_slide_2 : decode cX11_slide 2 = .ok (.putfield 126, 3) := by decide +kernel
theorem dX11_slide_5 : decode cX11_slide 5 = .ok (.aload_n 0, 1) := by decide +kernel
theorem dX11_slide_6 : decode cX11_slide 6 = .ok (.invokevirtual 360, 3) := by decide +kernel
theorem dX11_slide_9 : decode cX11_slide 9 = .ok (.aload_n 0, 1) := by decide +kernel
theorem dX11_slide_10 : decode cX11_slide 10 = .ok (.invokevirtual 379, 3) := by decide +kernel
theorem dX11_slide_13 : decode cX11_slide 13 = .ok (.istore_n 1, 1) := by decide +kernel
theorem dX11_slide_14 : decode cX11_slide 14 = .ok (.aload_n 0, 1) := by decide +kernel
theorem dX11_slide_15 : decode cX11_slide 15 = .ok (.invokevirtual 370, 3) := by decide +kernel
theorem dX11_slide_18 : decode cX11_slide 18 = .ok (.iload_n 1, 1) := by decide +kernel
theorem dX11_slide_19 : decode cX11_slide 19 = .ok (.ireturn, 1) := by decide +kernel
theorem zw_77 : (Jvm.Cond.selects "HillSchoolModel" ({ cls := "HillSchoolModel", name := "slideAll", desc := "()I" } : Jvm.MethodName) ({ cls := "HillSchoolModel", name := "slideAll", desc := "()I" } : Jvm.MethodName)) ∈ zall := zmemG (zmj_0 77 rfl) rfl
theorem zw_1617 : (Jvm.Cond.code ({ cls := "HillSchoolModel", name := "slide", desc := "()I" } : Jvm.MethodName) prog_13_method_74_code (2 : Nat) (Option.some Jvm.ClassFile.FieldType.int)) ∈ zall := zmemG (zmj_7 74 rfl) rfl
theorem zw_1618 : (Jvm.Cond.methodLink "HillSchoolModel" (379 : Nat) ({ cls := "HillSchoolModel", name := "slideAll", desc := "()I" } : Jvm.MethodName)) ∈ zall := zmemG (zmj_7 75 rfl) rfl
theorem zw_1620 : (Jvm.Cond.instanceMethod ({ cls := "HillSchoolModel", name := "slideAll", desc := "()I" } : Jvm.MethodName)) ∈ zall := zmemG (zmj_7 77 rfl) rfl
abbrev w_HM_slide : List Cond := .code yX11_slide cX11_slide 2 (some .int) :: zall
abbrev rm_HM_slide : Room := { frames := 5, cells := 0, slots := 0, locals := 111 }
theorem hd_HM_slide : yX11_slide.cls = "HillSchoolModel" ∧ yX11_slide.cls ≠ "java/lang/invoke/MethodHandle" ∧ yX11_slide.cls ≠ "java/lang/invoke/VarHandle" ∧ (parseMethodDescriptor yX11_slide.desc).map (fun d => d.parameters.length) = some 0 := by decide +kernel
def wd_HM_slide (cA : Nat → ClassId) (q0 q1 q2 q3 q4 q5 q6 q7 q8 q9 q10 q11 q12 q13 q14 q15 q16 q17 q18 q19 q20 q21 q22 q23 q24 q25 q26 q27 q28 q29 q30 q31 : Nat) (u0 u1 u2 u3 u4 u5 u6 u7 u8 u9 u10 u11 u12 u13 u14 u15 u16 u17 u18 u19 u20 : Int)  (i_thrown : Int) (i_row : Nat → Int) (i_high : Nat → Int) (i_heaps : Nat → Int) : va_W := [(q0, .inr (11, [.int (Int32.ofInt i_thrown), .int (Int32.ofInt u0), .ref q1, .ref q2, .ref q3, .ref q4, .int (Int32.ofInt u1), .ref q5, .int (Int32.ofInt u2), .int (Int32.ofInt u3), .int (Int32.ofInt u4), .int (Int32.ofInt u5), .long (Int64.ofInt u6), .int (Int32.ofInt u7), .int (Int32.ofInt u8), .int (Int32.ofInt u9), .ref q6, .int (Int32.ofInt u10), .ref q7, .ref q8, .int (Int32.ofInt u11), .ref q9, .ref q10, .int (Int32.ofInt u12), .int (Int32.ofInt u13), .ref q11, .int (Int32.ofInt u14), .ref q12, .ref q13, .int (Int32.ofInt u15), .long (Int64.ofInt u16), .long (Int64.ofInt u17), .ref q14, .ref q15, .ref q16, .ref q17, .ref q18, .int (Int32.ofInt u18), .ref q19, .ref q20, .ref q21, .ref q22, .ref q23, .ref q24, .ref q25, .ref q26, .ref q27, .ref q28, .ref q29, .ref q30, .long (Int64.ofInt u19), .ref q31, .int (Int32.ofInt u20)])), (q2, .inl (cA 0, 5580, .inl (za i_row))), (q14, .inl (cA 0, 12, .inl (za i_high))), (q15, .inl (cA 0, 120, .inl (za i_heaps)))]
def wf_HM_slide (cA : Nat → ClassId) (q0 q1 q2 q3 q4 q5 q6 q7 q8 q9 q10 q11 q12 q13 q14 q15 q16 q17 q18 q19 q20 q21 q22 q23 q24 q25 q26 q27 q28 q29 q30 q31 : Nat) (u0 u1 u2 u3 u4 u5 u6 u7 u8 u9 u10 u11 u12 u13 u14 u15 u16 u17 u18 u19 u20 : Int)  (o : Int × Int × (Nat → Int) × (Nat → Int) × (Nat → Int)) : va_W := wd_HM_slide cA q0 q1 q2 q3 q4 q5 q6 q7 q8 q9 q10 q11 q12 q13 q14 q15 q16 q17 q18 q19 q20 q21 q22 q23 q24 q25 q26 q27 q28 q29 q30 q31 u0 u1 u2 u3 u4 u5 u6 u7 u8 u9 u10 u11 u12 u13 u14 u15 u16 u17 u18 u19 u20 o.2.1 o.2.2.1 o.2.2.2.1 o.2.2.2.2
def f_HM_slide (i_thrown : Int) (i_row : Nat → Int) (i_high : Nat → Int) (i_heaps : Nat → Int) : Option (Int × Int × (Nat → Int) × (Nat → Int) × (Nat → Int)) :=
  zd2 (f_HM_load i_row i_high i_heaps) fun a1 a2 =>
  zd3 (f_HM_slideAll i_row a1 a2) fun v3 a4 a5 =>
  zd1 (f_HM_store a4 a5 i_row) fun a6 =>
  some (v3, 0, a6, a4, a5)
set_option maxHeartbeats 4000000 in
set_option maxRecDepth 100000 in
theorem c_HM_slide (l : Launch) (ev : zEv) (dC : Nat → ClassId) (dI : Nat → Nat → Nat) (cA : Nat → ClassId) (q0 q1 q2 q3 q4 q5 q6 q7 q8 q9 q10 q11 q12 q13 q14 q15 q16 q17 q18 q19 q20 q21 q22 q23 q24 q25 q26 q27 q28 q29 q30 q31 : Nat) (u0 u1 u2 u3 u4 u5 u6 u7 u8 u9 u10 u11 u12 u13 u14 u15 u16 u17 u18 u19 u20 : Int) {i_thrown : Int} {i_row : Nat → Int} {i_high : Nat → Int} {i_heaps : Nat → Int} {out : Int × Int × (Nat → Int) × (Nat → Int) × (Nat → Int)} (hf : f_HM_slide i_thrown i_row i_high i_heaps = some out) : xc_I l ev (dC, dI) vwCl (tyl cA) yX11_slide w_HM_slide rm_HM_slide [.ref q0] (wd_HM_slide cA q0 q1 q2 q3 q4 q5 q6 q7 q8 q9 q10 q11 q12 q13 q14 q15 q16 q17 q18 q19 q20 q21 q22 q23 q24 q25 q26 q27 q28 q29 q30 q31 u0 u1 u2 u3 u4 u5 u6 u7 u8 u9 u10 u11 u12 u13 u14 u15 u16 u17 u18 u19 u20 i_thrown i_row i_high i_heaps) (wf_HM_slide cA q0 q1 q2 q3 q4 q5 q6 q7 q8 q9 q10 q11 q12 q13 q14 q15 q16 q17 q18 q19 q20 q21 q22 q23 q24 q25 q26 q27 q28 q29 q30 q31 u0 u1 u2 u3 u4 u5 u6 u7 u8 u9 u10 u11 u12 u13 u14 u15 u16 u17 u18 u19 u20 out) out.1 := by
  refine xv_startI (cc := cX11_slide) (maxL := 2) (rt := .int) (by decide +kernel) rfl (Nat.le_of_ble_eq_true rfl) ?_
  intro p e s m args below meth c A Q H ls hx hb hml hts hown hK hA hP hD hS hl hE hret
  have hown : s.vm.findClass "HillSchoolModel" = some m.cls := hown
  have hz : ∀ w ∈ zall, w.before args s = true := fun w h => hts w (List.mem_cons_of_mem _ h)
  have hl : lv_has ls 2 [(0, .ref q0)] := hl
  unfold f_HM_slide at hf
  refine lv_aload_n hx hb dX11_slide_0 rfl (lv_at hl 0 rfl) ?_
  refine lv_iconst (v := Int32.ofInt 0) hx hb dX11_slide_1 rfl ?_
  refine va_put (D := (dC, dI)) (ci := 11) (v := .int (Int32.ofInt 0)) (ty := .int) (C := RX11) (T := TX11) (N := 53) hx hb hz zi_X11 tyX11 tyX11_ok nmX11 hown hK hP hD hS 0 rfl rfl 0 (by decide) (hz _ zw_1165) (fun _ h9 => h9) rfl (by decide +kernel) rfl rfl (Nat.le_of_ble_eq_true rfl) dX11_slide_2 (fun H locs hP hD hS => ?_)
  have hP : va_P (dC, dI) vwCl (wd_HM_slide cA q0 q1 q2 q3 q4 q5 q6 q7 q8 q9 q10 q11 q12 q13 q14 q15 q16 q17 q18 q19 q20 q21 q22 q23 q24 q25 q26 q27 q28 q29 q30 q31 u0 u1 u2 u3 u4 u5 u6 u7 u8 u9 u10 u11 u12 u13 u14 u15 u16 u17 u18 u19 u20 0 i_row i_high i_heaps) H := hP
  have hD : va_D A (wd_HM_slide cA q0 q1 q2 q3 q4 q5 q6 q7 q8 q9 q10 q11 q12 q13 q14 q15 q16 q17 q18 q19 q20 q21 q22 q23 q24 q25 q26 q27 q28 q29 q30 q31 u0 u1 u2 u3 u4 u5 u6 u7 u8 u9 u10 u11 u12 u13 u14 u15 u16 u17 u18 u19 u20 0 i_row i_high i_heaps) := hD
  refine lv_aload_n hx hb dX11_slide_5 rfl (lv_at hl 0 rfl) ?_
  refine xe_d2 hf (fun a1 a2 hg hf => ?_)
  have hC : ([0, 1, 2, 3] : List Nat).map (fun i => (wd_HM_slide cA q0 q1 q2 q3 q4 q5 q6 q7 q8 q9 q10 q11 q12 q13 q14 q15 q16 q17 q18 q19 q20 q21 q22 q23 q24 q25 q26 q27 q28 q29 q30 q31 u0 u1 u2 u3 u4 u5 u6 u7 u8 u9 u10 u11 u12 u13 u14 u15 u16 u17 u18 u19 u20 0 i_row i_high i_heaps)[i]?) = (wd_HM_load cA q0 q1 q2 q3 q4 q5 q6 q7 q8 q9 q10 q11 q12 q13 q14 q15 q16 q17 q18 q19 q20 q21 q22 q23 q24 q25 q26 q27 q28 q29 q30 q31 0 u0 u1 u2 u3 u4 u5 u6 u7 u8 u9 u10 u11 u12 u13 u14 u15 u16 u17 u18 u19 u20 i_row i_high i_heaps).map some := rfl
  refine xv_afterV (ws' := (wd_HM_slide cA q0 q1 q2 q3 q4 q5 q6 q7 q8 q9 q10 q11 q12 q13 q14 q15 q16 q17 q18 q19 q20 q21 q22 q23 q24 q25 q26 q27 q28 q29 q30 q31 u0 u1 u2 u3 u4 u5 u6 u7 u8 u9 u10 u11 u12 u13 u14 u15 u16 u17 u18 u19 u20 0 i_row a1 a2)) (isC := [0, 1, 2, 3]) (ps := [some 0, some 1, some 2, some 3]) (va_runV (As := []) (rest := []) ⟨hx, hb, hml, hown, hts⟩ (c_HM_load l ev dC dI cA q0 q1 q2 q3 q4 q5 q6 q7 q8 q9 q10 q11 q12 q13 q14 q15 q16 q17 q18 q19 q20 q21 q22 q23 q24 q25 q26 q27 q28 q29 q30 q31 0 u0 u1 u2 u3 u4 u5 u6 u7 u8 u9 u10 u11 u12 u13 u14 u15 u16 u17 u18 u19 u20 hg H.size) (cwV 0 hts (zgV zw_1549 zw_1551 zw_66 zw_115 zw_1552) rfl rfl rfl hd_HM_load ⟨Nat.le_of_ble_eq_true rfl, Nat.le_of_ble_eq_true rfl⟩) (xv_preV (T := TX11) (N := 53) hE hA hS hK hP hD (isC := [0, 1, 2, 3]) (by decide +kernel) hC (q0 := 0) (ci := 11) rfl rfl) rfl rfl hl.1 rfl (lv_room (Nat.le_of_ble_eq_true rfl)) dX11_slide_6 ⟨Nat.le_refl _, Nat.le_refl _⟩) hP hD hS hA (by decide +kernel) rfl hC rfl rfl (fun H locs hP hD hS => ?_)
  refine lv_aload_n hx hb dX11_slide_9 rfl (lv_at hl 0 rfl) ?_
  refine xe_d3 hf (fun v3 a4 a5 hg hf => ?_)
  have hC : ([0, 1, 2, 3] : List Nat).map (fun i => (wd_HM_slide cA q0 q1 q2 q3 q4 q5 q6 q7 q8 q9 q10 q11 q12 q13 q14 q15 q16 q17 q18 q19 q20 q21 q22 q23 q24 q25 q26 q27 q28 q29 q30 q31 u0 u1 u2 u3 u4 u5 u6 u7 u8 u9 u10 u11 u12 u13 u14 u15 u16 u17 u18 u19 u20 0 i_row a1 a2)[i]?) = (wd_HM_slideAll cA q0 q1 q2 q3 q4 q5 q6 q7 q8 q9 q10 q11 q12 q13 q14 q15 q16 q17 q18 q19 q20 q21 q22 q23 q24 q25 q26 q27 q28 q29 q30 q31 0 u0 u1 u2 u3 u4 u5 u6 u7 u8 u9 u10 u11 u12 u13 u14 u15 u16 u17 u18 u19 u20 i_row a1 a2).map some := rfl
  refine xv_afterI (ws' := (wd_HM_slide cA q0 q1 q2 q3 q4 q5 q6 q7 q8 q9 q10 q11 q12 q13 q14 q15 q16 q17 q18 q19 q20 q21 q22 q23 q24 q25 q26 q27 q28 q29 q30 q31 u0 u1 u2 u3 u4 u5 u6 u7 u8 u9 u10 u11 u12 u13 u14 u15 u16 u17 u18 u19 u20 0 i_row a4 a5)) (isC := [0, 1, 2, 3]) (ps := [some 0, some 1, some 2, some 3]) (va_runV (As := []) (rest := []) ⟨hx, hb, hml, hown, hts⟩ (c_HM_slideAll l ev dC dI cA q0 q1 q2 q3 q4 q5 q6 q7 q8 q9 q10 q11 q12 q13 q14 q15 q16 q17 q18 q19 q20 q21 q22 q23 q24 q25 q26 q27 q28 q29 q30 q31 0 u0 u1 u2 u3 u4 u5 u6 u7 u8 u9 u10 u11 u12 u13 u14 u15 u16 u17 u18 u19 u20 hg H.size) (cwV 0 hts (zgV zw_1618 zw_1620 zw_77 zw_115 zw_1621) rfl rfl rfl hd_HM_slideAll ⟨Nat.le_of_ble_eq_true rfl, Nat.le_of_ble_eq_true rfl⟩) (xv_preV (T := TX11) (N := 53) hE hA hS hK hP hD (isC := [0, 1, 2, 3]) (by decide +kernel) hC (q0 := 0) (ci := 11) rfl rfl) rfl rfl hl.1 rfl (lv_room (Nat.le_of_ble_eq_true rfl)) dX11_slide_10 ⟨Nat.le_refl _, Nat.le_refl _⟩) hP hD hS hA (by decide +kernel) rfl hC rfl rfl (fun H locs hP hD hS => ?_)
  refine lv_istore_n (lv' := [(1, .int (Int32.ofInt v3)), (0, .ref q0)]) hx hb dX11_slide_13 rfl hl (by decide) rfl (fun ls hl => ?_)
  refine lv_aload_n hx hb dX11_slide_14 rfl (lv_at hl 1 rfl) ?_
  refine xe_d1 hf (fun a6 hg hf => ?_)
  have hC : ([0, 1, 2, 3] : List Nat).map (fun i => (wd_HM_slide cA q0 q1 q2 q3 q4 q5 q6 q7 q8 q9 q10 q11 q12 q13 q14 q15 q16 q17 q18 q19 q20 q21 q22 q23 q24 q25 q26 q27 q28 q29 q30 q31 u0 u1 u2 u3 u4 u5 u6 u7 u8 u9 u10 u11 u12 u13 u14 u15 u16 u17 u18 u19 u20 0 i_row a4 a5)[i]?) = (wd_HM_store cA q0 q1 q2 q3 q4 q5 q6 q7 q8 q9 q10 q11 q12 q13 q14 q15 q16 q17 q18 q19 q20 q21 q22 q23 q24 q25 q26 q27 q28 q29 q30 q31 0 u0 u1 u2 u3 u4 u5 u6 u7 u8 u9 u10 u11 u12 u13 u14 u15 u16 u17 u18 u19 u20 a4 a5 i_row).map some := rfl
  refine xv_afterV (ws' := (wd_HM_slide cA q0 q1 q2 q3 q4 q5 q6 q7 q8 q9 q10 q11 q12 q13 q14 q15 q16 q17 q18 q19 q20 q21 q22 q23 q24 q25 q26 q27 q28 q29 q30 q31 u0 u1 u2 u3 u4 u5 u6 u7 u8 u9 u10 u11 u12 u13 u14 u15 u16 u17 u18 u19 u20 0 a6 a4 a5)) (isC := [0, 1, 2, 3]) (ps := [some 0, some 1, some 2, some 3]) (va_runV (As := []) (rest := []) ⟨hx, hb, hml, hown, hts⟩ (c_HM_store l ev dC dI cA q0 q1 q2 q3 q4 q5 q6 q7 q8 q9 q10 q11 q12 q13 q14 q15 q16 q17 q18 q19 q20 q21 q22 q23 q24 q25 q26 q27 q28 q29 q30 q31 0 u0 u1 u2 u3 u4 u5 u6 u7 u8 u9 u10 u11 u12 u13 u14 u15 u16 u17 u18 u19 u20 hg H.size) (cwV 0 hts (zgV zw_1594 zw_1596 zw_74 zw_115 zw_1597) rfl rfl rfl hd_HM_store ⟨Nat.le_of_ble_eq_true rfl, Nat.le_of_ble_eq_true rfl⟩) (xv_preV (T := TX11) (N := 53) hE hA hS hK hP hD (isC := [0, 1, 2, 3]) (by decide +kernel) hC (q0 := 0) (ci := 11) rfl rfl) rfl rfl hl.1 rfl (lv_room (Nat.le_of_ble_eq_true rfl)) dX11_slide_15 ⟨Nat.le_refl _, Nat.le_refl _⟩) hP hD hS hA (by decide +kernel) rfl hC rfl rfl (fun H locs hP hD hS => ?_)
  refine lv_iload_n hx hb dX11_slide_18 rfl (lv_at hl 0 rfl) ?_
  obtain rfl := Option.some.inj hf
  exact hret _ _ _ _ rfl dX11_slide_19 hP hD hS
theorem dX11_shadeAt_0 : decode cX11_shadeAt 0 = .ok (.iconst 0, 1) := by decide +kernel
theorem dX11_shadeAt_1 : decode cX11_shadeAt 1 = .ok (.istore_n 2, 1) := by decide +kernel
theorem dX11_shadeAt_2 : decode cX11_shadeAt 2 = .ok (.iconst 0, 1) := by decide +kernel
theorem dX11_shadeAt_3 : decode cX11_shadeAt 3 = .ok (.istore_n 3, 1) := by decide +kernel
theorem dX11_shadeAt_4 : decode cX11_shadeAt 4 = .ok (.iload_n 3, 1) := by decide +kernel
theorem dX11_shadeAt_5 : decode cX11_shadeAt 5 = .ok (.aload_n 0, 1) := by decide +kernel
theorem dX11_shadeAt_6 : decode cX11_shadeAt 6 = .ok (.invokevirtual 140, 3) := by decide +kernel
theorem dX11_shadeAt_9 : decode cX11_shadeAt 9 = .ok (.if_icmp .ge 45, 3) := by decide +kernel
theorem dX11_shadeAt_12 : decode cX11_shadeAt 12 = .ok (.aload_n 0, 1) := by decide +kernel
theorem dX11_shadeAt_13 : decode cX11_shadeAt 13 = .ok (.getfield 71, 3) := by decide +kernel
theorem dX11_shadeAt_16 : decode cX11_shadeAt 16 = .ok (.iload_n 3, 1) := by decide +kernel
theorem dX11_shadeAt_17 : decode cX11_shadeAt 17 = .ok (.iaload, 1) := by decide +kernel
theorem dX11_shadeAt_18 : decode cX11_shadeAt 18 = .ok (.aload_n 0, 1) := by decide +kernel
theorem dX11_shadeAt_19 : decode cX11_shadeAt 19 = .ok (.getfield 13, 3) := by decide +kernel
theorem dX11_shadeAt_22 : decode cX11_shadeAt 22 = .ok (.bipush 6, 2) := by decide +kernel
theorem dX11_shadeAt_24 : decode cX11_shadeAt 24 = .ok (.iaload, 1) := by decide +kernel
theorem dX11_shadeAt_25 : decode cX11_shadeAt 25 = .ok (.iload_n 3, 1) := by decide +kernel
theorem dX11_shadeAt_26 : decode cX11_shadeAt 26 = .ok (.iload_n 1, 1) := by decide +kernel
theorem dX11_shadeAt_27 : decode cX11_shadeAt 27 = .ok (.isub, 1) := by decide +kernel
theorem dX11_shadeAt_28 : decode cX11_shadeAt 28 = .ok (.invokestatic 343, 3) := by decide +kernel
theorem dX11_shadeAt_31 : decode cX11_shadeAt 31 = .ok (.imul, 1) := by decide +kernel
theorem dX11_shadeAt_32 : decode cX11_shadeAt 32 = .ok (.isub, 1) := by decide +kernel
theorem dX11_shadeAt_33 : decode cX11_shadeAt 33 = .ok (.istore 4, 2) := by decide +kernel
theorem dX11_shadeAt_35 : decode cX11_shadeAt 35 = .ok (.iload 4, 2) := by decide +kernel
theorem dX11_shadeAt_37 : decode cX11_shadeAt 37 = .ok (.iload_n 2, 1) := by decide +kernel
theorem dX11_shadeAt_38 : decode cX11_shadeAt 38 = .ok (.if_icmp .le 8, 3) := by decide +kernel
theorem dX11_shadeAt_41 : decode cX11_shadeAt 41 = .ok (.iload 4, 2) := by decide +kernel
theorem dX11_shadeAt_43 : decode cX11_shadeAt 43 = .ok (.goto 4, 3) := by decide +kernel
theorem dX11_shadeAt_46 : decode cX11_shadeAt 46 = .ok (.iload_n 2, 1) := by decide +kernel
theorem dX11_shadeAt_47 : decode cX11_shadeAt 47 = .ok (.istore_n 2, 1) := by decide +kernel
theorem dX11_shadeAt_48 : decode cX11_shadeAt 48 = .ok (.iinc 3 1, 3) := by decide +kernel
theorem dX11_shadeAt_51 : decode cX11_shadeAt 51 = .ok (.goto (-47), 3) := by decide +kernel
theorem dX11_shadeAt_54 : decode cX11_shadeAt 54 = .ok (.iload_n 2, 1) := by decide +kernel
theorem dX11_shadeAt_55 : decode cX11_shadeAt 55 = .ok (.ireturn, 1) := by decide +kernel
theorem zw_1633 : (Jvm.Cond.code ({ cls := "HillSchoolModel", name := "shadeAt", desc := "(I)I" } : Jvm.MethodName) prog_13_method_75_code (5 : Nat) (Option.some Jvm.ClassFile.FieldType.int)) ∈ zall := zmemG (zmj_7 90 rfl) rfl
abbrev w_HM_shadeAt : List Cond := .code yX11_shadeAt cX11_shadeAt 5 (some .int) :: zall
abbrev rm_HM_shadeAt : Room := { frames := 1, cells := 0, slots := 0, locals := 20 }
theorem hd_HM_shadeAt : yX11_shadeAt.cls = "HillSchoolModel" ∧ yX11_shadeAt.cls ≠ "java/lang/invoke/MethodHandle" ∧ yX11_shadeAt.cls ≠ "java/lang/invoke/VarHandle" ∧ (parseMethodDescriptor yX11_shadeAt.desc).map (fun d => d.parameters.length) = some 1 := by decide +kernel
def wd_HM_shadeAt (cA : Nat → ClassId) (q0 q1 q2 q3 q4 q5 q6 q7 q8 q9 q10 q11 q12 q13 q14 q15 q16 q17 q18 q19 q20 q21 q22 q23 q24 q25 q26 q27 q28 q29 q30 q31 : Nat) (u0 u1 u2 u3 u4 u5 u6 u7 u8 u9 u10 u11 u12 u13 u14 u15 u16 u17 u18 u19 u20 u21 : Int) (i_row : Nat → Int) (i_high : Nat → Int)  : va_W := [(q0, .inr (11, [.int (Int32.ofInt u0), .int (Int32.ofInt u1), .ref q1, .ref q2, .ref q3, .ref q4, .int (Int32.ofInt u2), .ref q5, .int (Int32.ofInt u3), .int (Int32.ofInt u4), .int (Int32.ofInt u5), .int (Int32.ofInt u6), .long (Int64.ofInt u7), .int (Int32.ofInt u8), .int (Int32.ofInt u9), .int (Int32.ofInt u10), .ref q6, .int (Int32.ofInt u11), .ref q7, .ref q8, .int (Int32.ofInt u12), .ref q9, .ref q10, .int (Int32.ofInt u13), .int (Int32.ofInt u14), .ref q11, .int (Int32.ofInt u15), .ref q12, .ref q13, .int (Int32.ofInt u16), .long (Int64.ofInt u17), .long (Int64.ofInt u18), .ref q14, .ref q15, .ref q16, .ref q17, .ref q18, .int (Int32.ofInt u19), .ref q19, .ref q20, .ref q21, .ref q22, .ref q23, .ref q24, .ref q25, .ref q26, .ref q27, .ref q28, .ref q29, .ref q30, .long (Int64.ofInt u20), .ref q31, .int (Int32.ofInt u21)])), (q2, .inl (cA 0, 5580, .inl (za i_row))), (q14, .inl (cA 0, 12, .inl (za i_high)))]
def wf_HM_shadeAt (cA : Nat → ClassId) (q0 q1 q2 q3 q4 q5 q6 q7 q8 q9 q10 q11 q12 q13 q14 q15 q16 q17 q18 q19 q20 q21 q22 q23 q24 q25 q26 q27 q28 q29 q30 q31 : Nat) (u0 u1 u2 u3 u4 u5 u6 u7 u8 u9 u10 u11 u12 u13 u14 u15 u16 u17 u18 u19 u20 u21 : Int) (i_row : Nat → Int) (i_high : Nat → Int) (o : Int) : va_W := wd_HM_shadeAt cA q0 q1 q2 q3 q4 q5 q6 q7 q8 q9 q10 q11 q12 q13 q14 q15 q16 q17 q18 q19 q20 q21 q22 q23 q24 q25 q26 q27 q28 q29 q30 q31 u0 u1 u2 u3 u4 u5 u6 u7 u8 u9 u10 u11 u12 u13 u14 u15 u16 u17 u18 u19 u20 u21 i_row i_high
def f_HM_shadeAt_47 (i_row : Nat → Int) (i_high : Nat → Int) (k4 : Int → Int → Int → Option (Int)) (x1 : Int) (x3 : Int) (s0 : Int) : Option (Int) :=
  zn (x3 + 1) fun v1 =>
  k4 x1 s0 v1
def f_HM_shadeAt_4_b (i_row : Nat → Int) (i_high : Nat → Int) (k4 : Int → Int → Int → Option (Int)) (x1 : Int) (x2 : Int) (x3 : Int) : Option (Int) :=
  zd1 (f_HM_columns i_row) fun v1 =>
  if zi_w v1 ≤ zi_w x3 then
    some x2
  else
    zg 12 i_high x3 fun v2 =>
    zg 5580 i_row 6 fun v3 =>
    zn (x3 - x1) fun v4 =>
    zd1 (f_HM_size v4) fun v5 =>
    zn (v3 * v5) fun v6 =>
    zn (v2 - v6) fun v7 =>
    if zi_w v7 ≤ zi_w x2 then
      f_HM_shadeAt_47 i_row i_high k4 x1 x3 x2
    else
      f_HM_shadeAt_47 i_row i_high k4 x1 x3 v7
def f_HM_shadeAt_4 (i_row : Nat → Int) (i_high : Nat → Int) : Nat → Int → Int → Int → Option (Int)
  | 0 => fun _ _ _ => none
  | n + 1 => fun y0 y1 y2 => f_HM_shadeAt_4_b i_row i_high (f_HM_shadeAt_4 i_row i_high n) y0 y1 y2
def f_HM_shadeAt (x1 : Int) (i_row : Nat → Int) (i_high : Nat → Int) : Option (Int) :=
  f_HM_shadeAt_4 i_row i_high zfu x1 0 0
set_option maxHeartbeats 4000000 in
set_option maxRecDepth 100000 in
theorem c_HM_shadeAt (l : Launch) (ev : zEv) (dC : Nat → ClassId) (dI : Nat → Nat → Nat) (cA : Nat → ClassId) (q0 q1 q2 q3 q4 q5 q6 q7 q8 q9 q10 q11 q12 q13 q14 q15 q16 q17 q18 q19 q20 q21 q22 q23 q24 q25 q26 q27 q28 q29 q30 q31 : Nat) (u0 u1 u2 u3 u4 u5 u6 u7 u8 u9 u10 u11 u12 u13 u14 u15 u16 u17 u18 u19 u20 u21 : Int) {x1 : Int} {i_row : Nat → Int} {i_high : Nat → Int} {out : Int} (hf : f_HM_shadeAt x1 i_row i_high = some out) : xc_I l ev (dC, dI) vwCl (tyl cA) yX11_shadeAt w_HM_shadeAt rm_HM_shadeAt [.ref q0, .int (Int32.ofInt x1)] (wd_HM_shadeAt cA q0 q1 q2 q3 q4 q5 q6 q7 q8 q9 q10 q11 q12 q13 q14 q15 q16 q17 q18 q19 q20 q21 q22 q23 q24 q25 q26 q27 q28 q29 q30 q31 u0 u1 u2 u3 u4 u5 u6 u7 u8 u9 u10 u11 u12 u13 u14 u15 u16 u17 u18 u19 u20 u21 i_row i_high) (wf_HM_shadeAt cA q0 q1 q2 q3 q4 q5 q6 q7 q8 q9 q10 q11 q12 q13 q14 q15 q16 q17 q18 q19 q20 q21 q22 q23 q24 q25 q26 q27 q28 q29 q30 q31 u0 u1 u2 u3 u4 u5 u6 u7 u8 u9 u10 u11 u12 u13 u14 u15 u16 u17 u18 u19 u20 u21 i_row i_high out) out := by
  refine xv_startI (cc := cX11_shadeAt) (maxL := 5) (rt := .int) (by decide +kernel) rfl (Nat.le_of_ble_eq_true rfl) ?_
  intro p e s m args below meth c A Q H ls hx hb hml hts hown hK hA hP hD hS hl hE hret
  have hown : s.vm.findClass "HillSchoolModel" = some m.cls := hown
  have hz : ∀ w ∈ zall, w.before args s = true := fun w h => hts w (List.mem_cons_of_mem _ h)
  have hl : lv_has ls 5 [(0, .ref q0), (1, .int (Int32.ofInt x1))] := hl
  have b_47 : ∀ (k4 : Int → Int → Int → Option (Int)) (_ : ∀ (x1 : Int) (x2 : Int) (x3 : Int) (H : Heap) (locs : List Loc) (ls : Array Slot), k4 x1 x2 x3 = some out → va_P (dC, dI) vwCl (wd_HM_shadeAt cA q0 q1 q2 q3 q4 q5 q6 q7 q8 q9 q10 q11 q12 q13 q14 q15 q16 q17 q18 q19 q20 q21 q22 q23 q24 q25 q26 q27 q28 q29 q30 q31 u0 u1 u2 u3 u4 u5 u6 u7 u8 u9 u10 u11 u12 u13 u14 u15 u16 u17 u18 u19 u20 u21 i_row i_high) H → va_D A (wd_HM_shadeAt cA q0 q1 q2 q3 q4 q5 q6 q7 q8 q9 q10 q11 q12 q13 q14 q15 q16 q17 q18 q19 q20 q21 q22 q23 q24 q25 q26 q27 q28 q29 q30 q31 u0 u1 u2 u3 u4 u5 u6 u7 u8 u9 u10 u11 u12 u13 u14 u15 u16 u17 u18 u19 u20 u21 i_row i_high) → va_S A s.heap H locs → lv_has ls 5 [(0, .ref q0), (1, .int (Int32.ofInt x1)), (2, .int (Int32.ofInt x2)), (3, .int (Int32.ofInt x3))] → W p l e rm_HM_shadeAt s m args below meth c H locs 0 0 Q (F0 m 4 ls [])), ∀ (x1 : Int) (x3 : Int) (s0 : Int) (H : Heap) (locs : List Loc) (ls : Array Slot), f_HM_shadeAt_47 i_row i_high k4 x1 x3 s0 = some out → va_P (dC, dI) vwCl (wd_HM_shadeAt cA q0 q1 q2 q3 q4 q5 q6 q7 q8 q9 q10 q11 q12 q13 q14 q15 q16 q17 q18 q19 q20 q21 q22 q23 q24 q25 q26 q27 q28 q29 q30 q31 u0 u1 u2 u3 u4 u5 u6 u7 u8 u9 u10 u11 u12 u13 u14 u15 u16 u17 u18 u19 u20 u21 i_row i_high) H → va_D A (wd_HM_shadeAt cA q0 q1 q2 q3 q4 q5 q6 q7 q8 q9 q10 q11 q12 q13 q14 q15 q16 q17 q18 q19 q20 q21 q22 q23 q24 q25 q26 q27 q28 q29 q30 q31 u0 u1 u2 u3 u4 u5 u6 u7 u8 u9 u10 u11 u12 u13 u14 u15 u16 u17 u18 u19 u20 u21 i_row i_high) → va_S A s.heap H locs → lv_has ls 5 [(0, .ref q0), (1, .int (Int32.ofInt x1)), (3, .int (Int32.ofInt x3))] → W p l e rm_HM_shadeAt s m args below meth c H locs 0 0 Q (F0 m 47 ls [.int (Int32.ofInt s0)]) := by
    intro k4 ih4 x1 x3 s0 H locs ls hf hP hD hS hl
    unfold f_HM_shadeAt_47 at hf
    refine lv_istore_n (lv' := [(2, .int (Int32.ofInt s0)), (0, .ref q0), (1, .int (Int32.ofInt x1)), (3, .int (Int32.ofInt x3))]) hx hb dX11_shadeAt_47 rfl hl (by decide) rfl (fun ls hl => ?_)
    refine xi_iinc hx hb dX11_shadeAt_48 hl (k := 3) rfl (by decide) hf (fun v1 ls hl hf => ?_)
    have hl : lv_has ls 5 [(3, .int (Int32.ofInt v1)), (2, .int (Int32.ofInt s0)), (0, .ref q0), (1, .int (Int32.ofInt x1))] := hl
    refine lv_goto (tgt := 4) hx hb dX11_shadeAt_51 (by decide) ?_
    exact ih4 _ _ _ _ _ _ hf hP hD hS (lv_sub hl [2, 3, 1, 0] rfl)
  have b_4 : ∀ (k4 : Int → Int → Int → Option (Int)) (_ : ∀ (x1 : Int) (x2 : Int) (x3 : Int) (H : Heap) (locs : List Loc) (ls : Array Slot), k4 x1 x2 x3 = some out → va_P (dC, dI) vwCl (wd_HM_shadeAt cA q0 q1 q2 q3 q4 q5 q6 q7 q8 q9 q10 q11 q12 q13 q14 q15 q16 q17 q18 q19 q20 q21 q22 q23 q24 q25 q26 q27 q28 q29 q30 q31 u0 u1 u2 u3 u4 u5 u6 u7 u8 u9 u10 u11 u12 u13 u14 u15 u16 u17 u18 u19 u20 u21 i_row i_high) H → va_D A (wd_HM_shadeAt cA q0 q1 q2 q3 q4 q5 q6 q7 q8 q9 q10 q11 q12 q13 q14 q15 q16 q17 q18 q19 q20 q21 q22 q23 q24 q25 q26 q27 q28 q29 q30 q31 u0 u1 u2 u3 u4 u5 u6 u7 u8 u9 u10 u11 u12 u13 u14 u15 u16 u17 u18 u19 u20 u21 i_row i_high) → va_S A s.heap H locs → lv_has ls 5 [(0, .ref q0), (1, .int (Int32.ofInt x1)), (2, .int (Int32.ofInt x2)), (3, .int (Int32.ofInt x3))] → W p l e rm_HM_shadeAt s m args below meth c H locs 0 0 Q (F0 m 4 ls [])), ∀ (x1 : Int) (x2 : Int) (x3 : Int) (H : Heap) (locs : List Loc) (ls : Array Slot), f_HM_shadeAt_4_b i_row i_high k4 x1 x2 x3 = some out → va_P (dC, dI) vwCl (wd_HM_shadeAt cA q0 q1 q2 q3 q4 q5 q6 q7 q8 q9 q10 q11 q12 q13 q14 q15 q16 q17 q18 q19 q20 q21 q22 q23 q24 q25 q26 q27 q28 q29 q30 q31 u0 u1 u2 u3 u4 u5 u6 u7 u8 u9 u10 u11 u12 u13 u14 u15 u16 u17 u18 u19 u20 u21 i_row i_high) H → va_D A (wd_HM_shadeAt cA q0 q1 q2 q3 q4 q5 q6 q7 q8 q9 q10 q11 q12 q13 q14 q15 q16 q17 q18 q19 q20 q21 q22 q23 q24 q25 q26 q27 q28 q29 q30 q31 u0 u1 u2 u3 u4 u5 u6 u7 u8 u9 u10 u11 u12 u13 u14 u15 u16 u17 u18 u19 u20 u21 i_row i_high) → va_S A s.heap H locs → lv_has ls 5 [(0, .ref q0), (1, .int (Int32.ofInt x1)), (2, .int (Int32.ofInt x2)), (3, .int (Int32.ofInt x3))] → W p l e rm_HM_shadeAt s m args below meth c H locs 0 0 Q (F0 m 4 ls []) := by
    intro k4 ih4 x1 x2 x3 H locs ls hf hP hD hS hl
    unfold f_HM_shadeAt_4_b at hf
    refine lv_iload_n hx hb dX11_shadeAt_4 rfl (lv_at hl 3 rfl) ?_
    refine lv_aload_n hx hb dX11_shadeAt_5 rfl (lv_at hl 0 rfl) ?_
    refine xe_d1 hf (fun v1 hg hf => ?_)
    have hC : ([0, 1] : List Nat).map (fun i => (wd_HM_shadeAt cA q0 q1 q2 q3 q4 q5 q6 q7 q8 q9 q10 q11 q12 q13 q14 q15 q16 q17 q18 q19 q20 q21 q22 q23 q24 q25 q26 q27 q28 q29 q30 q31 u0 u1 u2 u3 u4 u5 u6 u7 u8 u9 u10 u11 u12 u13 u14 u15 u16 u17 u18 u19 u20 u21 i_row i_high)[i]?) = (wd_HM_columns cA q0 q1 q2 q3 q4 q5 q6 q7 q8 q9 q10 q11 q12 q13 q14 q15 q16 q17 q18 q19 q20 q21 q22 q23 q24 q25 q26 q27 q28 q29 q30 q31 u0 u1 u2 u3 u4 u5 u6 u7 u8 u9 u10 u11 u12 u13 u14 u15 u16 u17 u18 u19 u20 u21 i_row).map some := rfl
    refine xv_afterI (ws' := (wd_HM_shadeAt cA q0 q1 q2 q3 q4 q5 q6 q7 q8 q9 q10 q11 q12 q13 q14 q15 q16 q17 q18 q19 q20 q21 q22 q23 q24 q25 q26 q27 q28 q29 q30 q31 u0 u1 u2 u3 u4 u5 u6 u7 u8 u9 u10 u11 u12 u13 u14 u15 u16 u17 u18 u19 u20 u21 i_row i_high)) (isC := [0, 1]) (ps := [some 0, some 1, none]) (va_runV (As := []) (rest := [.int (Int32.ofInt x3)]) ⟨hx, hb, hml, hown, hts⟩ (c_HM_columns l ev dC dI cA q0 q1 q2 q3 q4 q5 q6 q7 q8 q9 q10 q11 q12 q13 q14 q15 q16 q17 q18 q19 q20 q21 q22 q23 q24 q25 q26 q27 q28 q29 q30 q31 u0 u1 u2 u3 u4 u5 u6 u7 u8 u9 u10 u11 u12 u13 u14 u15 u16 u17 u18 u19 u20 u21 hg H.size) (cwV 0 hts (zgV zw_1344 zw_1346 zw_41 zw_115 zw_1347) rfl rfl rfl hd_HM_columns ⟨Nat.le_of_ble_eq_true rfl, Nat.le_of_ble_eq_true rfl⟩) (xv_preV (T := TX11) (N := 53) hE hA hS hK hP hD (isC := [0, 1]) (by decide +kernel) hC (q0 := 0) (ci := 11) rfl rfl) rfl rfl hl.1 rfl (lv_room (Nat.le_of_ble_eq_true rfl)) dX11_shadeAt_6 ⟨Nat.le_refl _, Nat.le_refl _⟩) hP hD hS hA (by decide +kernel) rfl hC rfl rfl (fun H locs hP hD hS => ?_)
    refine xi_icmp_ge (tgt := 54) hx hb dX11_shadeAt_9 (by decide) hf (fun hf => ?_) (fun hf => ?_)
    · refine lv_iload_n hx hb dX11_shadeAt_54 rfl (lv_at hl 2 rfl) ?_
      obtain rfl := Option.some.inj hf
      exact hret _ _ _ _ rfl dX11_shadeAt_55 hP hD hS
    · refine lv_aload_n hx hb dX11_shadeAt_12 rfl (lv_at hl 0 rfl) ?_
      refine va_get (D := (dC, dI)) (ci := 11) (v := .ref q14) (C := RX11) (T := TX11) (N := 53) hx hb hz zi_X11 hown hK hP 0 rfl rfl 32 (by decide) (hz _ zw_1197) (fun _ h9 => h9) rfl dX11_shadeAt_13 ?_
      refine lv_iload_n hx hb dX11_shadeAt_16 rfl (lv_at hl 3 rfl) ?_
      refine xi_iald hx hb hK hP 2 0 rfl rfl dX11_shadeAt_17 hf (fun v2 hf => ?_)
      refine lv_aload_n hx hb dX11_shadeAt_18 rfl (lv_at hl 0 rfl) ?_
      refine va_get (D := (dC, dI)) (ci := 11) (v := .ref q2) (C := RX11) (T := TX11) (N := 53) hx hb hz zi_X11 hown hK hP 0 rfl rfl 3 (by decide) (hz _ zw_1168) (fun _ h9 => h9) rfl dX11_shadeAt_19 ?_
      refine lv_bipush (v := Int32.ofInt 6) hx hb dX11_shadeAt_22 (by decide) ?_
      refine xi_iald hx hb hK hP 1 0 rfl rfl dX11_shadeAt_24 hf (fun v3 hf => ?_)
      refine lv_iload_n hx hb dX11_shadeAt_25 rfl (lv_at hl 3 rfl) ?_
      refine lv_iload_n hx hb dX11_shadeAt_26 rfl (lv_at hl 1 rfl) ?_
      refine xi_isub hx hb dX11_shadeAt_27 hf (fun v4 hf => ?_)
      refine xe_d1 hf (fun v5 hg hf => ?_)
      have hC : ([] : List Nat).map (fun i => (wd_HM_shadeAt cA q0 q1 q2 q3 q4 q5 q6 q7 q8 q9 q10 q11 q12 q13 q14 q15 q16 q17 q18 q19 q20 q21 q22 q23 q24 q25 q26 q27 q28 q29 q30 q31 u0 u1 u2 u3 u4 u5 u6 u7 u8 u9 u10 u11 u12 u13 u14 u15 u16 u17 u18 u19 u20 u21 i_row i_high)[i]?) = (wd_HM_size cA).map some := rfl
      refine xv_afterI (ws' := (wd_HM_shadeAt cA q0 q1 q2 q3 q4 q5 q6 q7 q8 q9 q10 q11 q12 q13 q14 q15 q16 q17 q18 q19 q20 q21 q22 q23 q24 q25 q26 q27 q28 q29 q30 q31 u0 u1 u2 u3 u4 u5 u6 u7 u8 u9 u10 u11 u12 u13 u14 u15 u16 u17 u18 u19 u20 u21 i_row i_high)) (isC := []) (ps := [none, none, none]) (va_runS (As := [.int (Int32.ofInt v4)]) (rest := [.int (Int32.ofInt v3), .int (Int32.ofInt v2)]) ⟨hx, hb, hml, hown, hts⟩ (c_HM_size l ev dC dI cA hg H.size) (va_cwS 1 hts (zgS zw_1565 zw_1566 zw_115 zw_1567) rfl rfl rfl hd_HM_size.2 ⟨Nat.le_of_ble_eq_true rfl, Nat.le_of_ble_eq_true rfl⟩) (xv_preS hE hA hS hK hP hD (isC := []) (by decide +kernel) hC) rfl rfl hl.1 rfl (lv_room (Nat.le_of_ble_eq_true rfl)) dX11_shadeAt_28 ⟨Nat.le_refl _, Nat.le_refl _⟩) hP hD hS hA (by decide +kernel) rfl hC rfl rfl (fun H locs hP hD hS => ?_)
      refine xi_imul hx hb dX11_shadeAt_31 hf (fun v6 hf => ?_)
      refine xi_isub hx hb dX11_shadeAt_32 hf (fun v7 hf => ?_)
      refine lv_istore (lv' := [(4, .int (Int32.ofInt v7)), (0, .ref q0), (1, .int (Int32.ofInt x1)), (2, .int (Int32.ofInt x2)), (3, .int (Int32.ofInt x3))]) hx hb dX11_shadeAt_33 hl (by decide) rfl (fun ls hl => ?_)
      refine lv_iload hx hb dX11_shadeAt_35 (lv_at hl 0 rfl) ?_
      refine lv_iload_n hx hb dX11_shadeAt_37 rfl (lv_at hl 3 rfl) ?_
      refine xi_icmp_le (tgt := 46) hx hb dX11_shadeAt_38 (by decide) hf (fun hf => ?_) (fun hf => ?_)
      · refine lv_iload_n hx hb dX11_shadeAt_46 rfl (lv_at hl 3 rfl) ?_
        exact b_47 _ ih4 _ _ _ _ _ _ hf hP hD hS (lv_sub hl [1, 2, 4] rfl)
      · refine lv_iload hx hb dX11_shadeAt_41 (lv_at hl 0 rfl) ?_
        refine lv_goto (tgt := 47) hx hb dX11_shadeAt_43 (by decide) ?_
        exact b_47 _ ih4 _ _ _ _ _ _ hf hP hD hS (lv_sub hl [1, 2, 4] rfl)
  have l_4 : ∀ (n : Nat), ∀ (x1 : Int) (x2 : Int) (x3 : Int) (H : Heap) (locs : List Loc) (ls : Array Slot), f_HM_shadeAt_4 i_row i_high n x1 x2 x3 = some out → va_P (dC, dI) vwCl (wd_HM_shadeAt cA q0 q1 q2 q3 q4 q5 q6 q7 q8 q9 q10 q11 q12 q13 q14 q15 q16 q17 q18 q19 q20 q21 q22 q23 q24 q25 q26 q27 q28 q29 q30 q31 u0 u1 u2 u3 u4 u5 u6 u7 u8 u9 u10 u11 u12 u13 u14 u15 u16 u17 u18 u19 u20 u21 i_row i_high) H → va_D A (wd_HM_shadeAt cA q0 q1 q2 q3 q4 q5 q6 q7 q8 q9 q10 q11 q12 q13 q14 q15 q16 q17 q18 q19 q20 q21 q22 q23 q24 q25 q26 q27 q28 q29 q30 q31 u0 u1 u2 u3 u4 u5 u6 u7 u8 u9 u10 u11 u12 u13 u14 u15 u16 u17 u18 u19 u20 u21 i_row i_high) → va_S A s.heap H locs → lv_has ls 5 [(0, .ref q0), (1, .int (Int32.ofInt x1)), (2, .int (Int32.ofInt x2)), (3, .int (Int32.ofInt x3))] → W p l e rm_HM_shadeAt s m args below meth c H locs 0 0 Q (F0 m 4 ls []) := by
    intro n
    induction n with
    | zero => intro x1 x2 x3 H locs ls hf hP hD hS hl; exact nomatch hf
    | succ n ih => intro x1 x2 x3 H locs ls hf hP hD hS hl; exact b_4 (f_HM_shadeAt_4 i_row i_high n) ih x1 x2 x3 H locs ls hf hP hD hS hl
  unfold f_HM_shadeAt at hf
  refine lv_iconst (v := Int32.ofInt 0) hx hb dX11_shadeAt_0 rfl ?_
  refine lv_istore_n (lv' := [(2, .int (Int32.ofInt 0)), (0, .ref q0), (1, .int (Int32.ofInt x1))]) hx hb dX11_shadeAt_1 rfl hl (by decide) rfl (fun ls hl => ?_)
  refine lv_iconst (v := Int32.ofInt 0) hx hb dX11_shadeAt_2 rfl ?_
  refine lv_istore_n (lv' := [(3, .int (Int32.ofInt 0)), (2, .int (Int32.ofInt 0)), (0, .ref q0), (1, .int (Int32.ofInt x1))]) hx hb dX11_shadeAt_3 rfl hl (by decide) rfl (fun ls hl => ?_)
  exact l_4  _ _ _ _ _ _ _ hf hP hD hS (lv_sub hl [2, 3, 1, 0] rfl)
