theorem dX10_slide_0 : decode cX10_slide 0 = .ok (.aload_n 0, 1) := by decide +kernel
theorem dX10_slide_1 : decode cX10_slide 1 = .ok (.getfield 10, 3) := by decide +kernel
theorem dX10_slide_4 : decode cX10_slide 4 = .ok (.dup, 1) := by decide +kernel
theorem dX10_slide_5 : decode cX10_slide 5 = .ok (.getfield 220, 3) := by decide +kernel
theorem dX10_slide_8 : decode cX10_slide 8 = .ok (.iconst 1, 1) := by decide +kernel
theorem dX10_slide_9 : decode cX10_slide 9 = .ok (.iadd, 1) := by decide +kernel
theorem dX10_slide_10 : decode cX10_slide 10 = .ok (.putfield 220, 3) := by decide +kernel
theorem dX10_slide_13 : decode cX10_slide 13 = .ok (.aload_n 0, 1) := by decide +kernel
theorem dX10_slide_14 : decode cX10_slide 14 = .ok (.getfield 10, 3) := by decide +kernel
theorem dX10_slide_17 : decode cX10_slide 17 = .ok (.getfield 99, 3) := by decide +kernel
theorem dX10_slide_20 : decode cX10_slide 20 = .ok (.aload_n 0, 1) := by decide +kernel
theorem dX10_slide_21 : decode cX10_slide 21 = .ok (.getfield 10, 3) := by decide +kernel
theorem dX10_slide_24 : decode cX10_slide 24 = .ok (.getfield 176, 3) := by decide +kernel
theorem dX10_slide_27 : decode cX10_slide 27 = .ok (.iconst 2, 1) := by decide +kernel
theorem dX10_slide_28 : decode cX10_slide 28 = .ok (.iaload, 1) := by decide +kernel
theorem dX10_slide_29 : decode cX10_slide 29 = .ok (.invokevirtual 223, 3) := by decide +kernel
theorem dX10_slide_32 : decode cX10_slide 32 = .ok (.ireturn, 1) := by decide +kernel
theorem zw_875 : (Jvm.Cond.code ({ cls := "HillSchool", name := "slide", desc := "()I" } : Jvm.MethodName) prog_1_method_24_code (1 : Nat) (Option.some Jvm.ClassFile.FieldType.int)) ∈ zall := zmemG (zmj_4 52 rfl) rfl
theorem zw_876 : (Jvm.Cond.methodLink "HillSchool" (223 : Nat) ({ cls := "HillSchool$Columns", name := "settle", desc := "(I)I" } : Jvm.MethodName)) ∈ zall := zmemG (zmj_4 53 rfl) rfl
theorem zw_877 : (Jvm.Cond.instanceMethod ({ cls := "HillSchool$Columns", name := "settle", desc := "(I)I" } : Jvm.MethodName)) ∈ zall := zmemG (zmj_4 54 rfl) rfl
theorem zw_878 : (Jvm.Cond.selects "HillSchool$Columns" ({ cls := "HillSchool$Columns", name := "settle", desc := "(I)I" } : Jvm.MethodName) ({ cls := "HillSchool$Columns", name := "settle", desc := "(I)I" } : Jvm.MethodName)) ∈ zall := zmemG (zmj_4 55 rfl) rfl
abbrev w_HS_slide : List Cond := .code yX10_slide cX10_slide 1 (some .int) :: zall
abbrev rm_HS_slide : Room := { frames := 5, cells := 0, slots := 0, locals := 109 }
theorem hd_HS_slide : yX10_slide.cls = "HillSchool" ∧ yX10_slide.cls ≠ "java/lang/invoke/MethodHandle" ∧ yX10_slide.cls ≠ "java/lang/invoke/VarHandle" ∧ (parseMethodDescriptor yX10_slide.desc).map (fun d => d.parameters.length) = some 0 := by decide +kernel
def wd_HS_slide (cA : Nat → ClassId) (q0 q1 q2 q3 q4 q5 q6 q7 q8 q9 q10 q11 q12 q13 q14 q15 q16 q17 q18 q19 q20 q21 q22 q23 : Nat) (u0 u1 u2 u3 u4 u5 u6 u7 : Int) (i_hill_columns_many : Int) (i_hill_terms : Nat → Int) (i_hill_changes : Int) (i_hill_columns_heights : Nat → Int) (i_hill_columns_weights : Nat → Int) : va_W := [(q0, .inr (10, [.ref q1, .ref q2, .ref q3, .ref q4, .int (Int32.ofInt u0), .int (Int32.ofInt u1), .int (Int32.ofInt u2), .ref q5, .int (Int32.ofInt u3), .ref q6, .ref q7, .ref q8, .ref q9, .ref q10, .ref q11, .ref q12])), (q1, .inr (2, [.ref q13, .int (Int32.ofInt u4), .ref q14, .ref q15, .ref q16, .int (Int32.ofInt u5), .ref q17, .ref q18, .ref q19, .int (Int32.ofInt u6), .ref q20, .ref q21, .int (Int32.ofInt u7), .int (Int32.ofInt i_hill_changes)])), (q13, .inr (1, [.int (Int32.ofInt i_hill_columns_many), .ref q22, .ref q23])), (q18, .inl (cA 0, 4, .inl (za i_hill_terms))), (q22, .inl (cA 0, 12, .inl (za i_hill_columns_heights))), (q23, .inl (cA 0, 120, .inl (za i_hill_columns_weights)))]
def wf_HS_slide (cA : Nat → ClassId) (q0 q1 q2 q3 q4 q5 q6 q7 q8 q9 q10 q11 q12 q13 q14 q15 q16 q17 q18 q19 q20 q21 q22 q23 : Nat) (u0 u1 u2 u3 u4 u5 u6 u7 : Int) (i_hill_columns_many : Int) (i_hill_terms : Nat → Int) (o : Int × Int × (Nat → Int) × (Nat → Int)) : va_W := wd_HS_slide cA q0 q1 q2 q3 q4 q5 q6 q7 q8 q9 q10 q11 q12 q13 q14 q15 q16 q17 q18 q19 q20 q21 q22 q23 u0 u1 u2 u3 u4 u5 u6 u7 i_hill_columns_many i_hill_terms o.2.1 o.2.2.1 o.2.2.2
def f_HS_slide (i_hill_columns_many : Int) (i_hill_terms : Nat → Int) (i_hill_changes : Int) (i_hill_columns_heights : Nat → Int) (i_hill_columns_weights : Nat → Int) : Option (Int × Int × (Nat → Int) × (Nat → Int)) :=
  zn (i_hill_changes + 1) fun v1 =>
  zg 4 i_hill_terms 2 fun v2 =>
  zd3 (f_Columns_settle v2 i_hill_columns_many i_hill_columns_heights i_hill_columns_weights) fun v3 a4 a5 =>
  some (v3, v1, a4, a5)
set_option maxHeartbeats 4000000 in
set_option maxRecDepth 100000 in
theorem c_HS_slide (l : Launch) (ev : zEv) (dC : Nat → ClassId) (dI : Nat → Nat → Nat) (cA : Nat → ClassId) (q0 q1 q2 q3 q4 q5 q6 q7 q8 q9 q10 q11 q12 q13 q14 q15 q16 q17 q18 q19 q20 q21 q22 q23 : Nat) (u0 u1 u2 u3 u4 u5 u6 u7 : Int) {i_hill_columns_many : Int} {i_hill_terms : Nat → Int} {i_hill_changes : Int} {i_hill_columns_heights : Nat → Int} {i_hill_columns_weights : Nat → Int} {out : Int × Int × (Nat → Int) × (Nat → Int)} (hf : f_HS_slide i_hill_columns_many i_hill_terms i_hill_changes i_hill_columns_heights i_hill_columns_weights = some out) : xc_I l ev (dC, dI) vwCl (tyl cA) yX10_slide w_HS_slide rm_HS_slide [.ref q0] (wd_HS_slide cA q0 q1 q2 q3 q4 q5 q6 q7 q8 q9 q10 q11 q12 q13 q14 q15 q16 q17 q18 q19 q20 q21 q22 q23 u0 u1 u2 u3 u4 u5 u6 u7 i_hill_columns_many i_hill_terms i_hill_changes i_hill_columns_heights i_hill_columns_weights) (wf_HS_slide cA q0 q1 q2 q3 q4 q5 q6 q7 q8 q9 q10 q11 q12 q13 q14 q15 q16 q17 q18 q19 q20 q21 q22 q23 u0 u1 u2 u3 u4 u5 u6 u7 i_hill_columns_many i_hill_terms out) out.1 := by
  refine xv_startI (cc := cX10_slide) (maxL := 1) (rt := .int) (by decide +kernel) rfl (Nat.le_of_ble_eq_true rfl) ?_
  intro p e s m args below meth c A Q H ls hx hb hml hts hown hK hA hP hD hS hl hE hret
  have hown : s.vm.findClass "HillSchool" = some m.cls := hown
  have hz : ∀ w ∈ zall, w.before args s = true := fun w h => hts w (List.mem_cons_of_mem _ h)
  have hl : lv_has ls 1 [(0, .ref q0)] := hl
  unfold f_HS_slide at hf
  refine lv_aload_n hx hb dX10_slide_0 rfl (lv_at hl 0 rfl) ?_
  refine va_get (D := (dC, dI)) (ci := 10) (v := .ref q1) (C := RX10) (T := TX10) (N := 16) hx hb hz zi_X10 hown hK hP 0 rfl rfl 0 (by decide) (hz _ zw_477) (fun _ h9 => h9) rfl dX10_slide_1 ?_
  refine lv_dup hx hb dX10_slide_4 rfl ?_
  refine va_getN (D := (dC, dI)) (ci := 2) (v := .int (Int32.ofInt i_hill_changes)) (C := RX2) (T := TX2) (N := 14) hx hb hz zi_X2 hown hK hP 1 rfl rfl 13 (by decide) (va_Nw.use rfl (hE.1.1 _ zw_211)) (fun _ h9 => h9) rfl dX10_slide_5 ?_
  refine lv_iconst (v := Int32.ofInt 1) hx hb dX10_slide_8 rfl ?_
  refine xi_iadd hx hb dX10_slide_9 hf (fun v1 hf => ?_)
  refine va_putN (D := (dC, dI)) (ci := 2) (v := .int (Int32.ofInt v1)) (ty := .int) (C := RX2) (T := TX2) (N := 14) hx hb hz zi_X2 tyX2 tyX2_ok nmX2 hown hK hP hD hS 1 rfl rfl 13 (by decide) (va_Nw.use rfl (hE.1.1 _ zw_211)) (fun _ h9 => h9) rfl (by decide +kernel) rfl rfl (Nat.le_of_ble_eq_true rfl) dX10_slide_10 (fun H locs hP hD hS => ?_)
  have hP : va_P (dC, dI) vwCl (wd_HS_slide cA q0 q1 q2 q3 q4 q5 q6 q7 q8 q9 q10 q11 q12 q13 q14 q15 q16 q17 q18 q19 q20 q21 q22 q23 u0 u1 u2 u3 u4 u5 u6 u7 i_hill_columns_many i_hill_terms v1 i_hill_columns_heights i_hill_columns_weights) H := hP
  have hD : va_D A (wd_HS_slide cA q0 q1 q2 q3 q4 q5 q6 q7 q8 q9 q10 q11 q12 q13 q14 q15 q16 q17 q18 q19 q20 q21 q22 q23 u0 u1 u2 u3 u4 u5 u6 u7 i_hill_columns_many i_hill_terms v1 i_hill_columns_heights i_hill_columns_weights) := hD
  refine lv_aload_n hx hb dX10_slide_13 rfl (lv_at hl 0 rfl) ?_
  refine va_get (D := (dC, dI)) (ci := 10) (v := .ref q1) (C := RX10) (T := TX10) (N := 16) hx hb hz zi_X10 hown hK hP 0 rfl rfl 0 (by decide) (hz _ zw_477) (fun _ h9 => h9) rfl dX10_slide_14 ?_
  refine va_getN (D := (dC, dI)) (ci := 2) (v := .ref q13) (C := RX2) (T := TX2) (N := 14) hx hb hz zi_X2 hown hK hP 1 rfl rfl 0 (by decide) (va_Nw.use rfl (hE.1.1 _ zw_169)) (fun _ h9 => h9) rfl dX10_slide_17 ?_
  refine lv_aload_n hx hb dX10_slide_20 rfl (lv_at hl 0 rfl) ?_
  refine va_get (D := (dC, dI)) (ci := 10) (v := .ref q1) (C := RX10) (T := TX10) (N := 16) hx hb hz zi_X10 hown hK hP 0 rfl rfl 0 (by decide) (hz _ zw_477) (fun _ h9 => h9) rfl dX10_slide_21 ?_
  refine va_getN (D := (dC, dI)) (ci := 2) (v := .ref q18) (C := RX2) (T := TX2) (N := 14) hx hb hz zi_X2 hown hK hP 1 rfl rfl 7 (by decide) (va_Nw.use rfl (hE.1.1 _ zw_191)) (fun _ h9 => h9) rfl dX10_slide_24 ?_
  refine lv_iconst (v := Int32.ofInt 2) hx hb dX10_slide_27 rfl ?_
  refine xi_iald hx hb hK hP 3 0 rfl rfl dX10_slide_28 hf (fun v2 hf => ?_)
  refine xe_d3 hf (fun v3 a4 a5 hg hf => ?_)
  have hC : ([2, 4, 5] : List Nat).map (fun i => (wd_HS_slide cA q0 q1 q2 q3 q4 q5 q6 q7 q8 q9 q10 q11 q12 q13 q14 q15 q16 q17 q18 q19 q20 q21 q22 q23 u0 u1 u2 u3 u4 u5 u6 u7 i_hill_columns_many i_hill_terms v1 i_hill_columns_heights i_hill_columns_weights)[i]?) = (wd_Columns_settle cA q13 q22 q23 i_hill_columns_many i_hill_columns_heights i_hill_columns_weights).map some := rfl
  refine xv_afterI (ws' := (wd_HS_slide cA q0 q1 q2 q3 q4 q5 q6 q7 q8 q9 q10 q11 q12 q13 q14 q15 q16 q17 q18 q19 q20 q21 q22 q23 u0 u1 u2 u3 u4 u5 u6 u7 i_hill_columns_many i_hill_terms v1 a4 a5)) (isC := [2, 4, 5]) (ps := [none, none, some 0, none, some 1, some 2]) (va_runV (As := [.int (Int32.ofInt v2)]) (rest := []) ⟨hx, hb, hml, hown, hts⟩ (c_Columns_settle l ev dC dI cA q13 q22 q23 hg H.size) (cwV 1 hts (zgV zw_876 zw_877 zw_878 zw_106 zw_879) rfl rfl rfl hd_Columns_settle ⟨Nat.le_of_ble_eq_true rfl, Nat.le_of_ble_eq_true rfl⟩) (xv_preV (T := TX1) (N := 3) hE hA hS hK hP hD (isC := [2, 4, 5]) (by decide +kernel) hC (q0 := 2) (ci := 1) rfl rfl) rfl rfl hl.1 rfl (lv_room (Nat.le_of_ble_eq_true rfl)) dX10_slide_29 ⟨Nat.le_refl _, Nat.le_refl _⟩) hP hD hS hA (by decide +kernel) rfl hC rfl rfl (fun H locs hP hD hS => ?_)
  obtain rfl := Option.some.inj hf
  exact hret _ _ _ _ rfl dX10_slide_32 hP hD hS
theorem dX2_hasParish_0 : decode cX2_hasParish 0 = .ok (.iload_n 1, 1) := by decide +kernel
theorem dX2_hasParish_1 : decode cX2_hasParish 1 = .ok (.ifCond .lt 15, 3) := by decide +kernel
theorem dX2_hasParish_4 : decode cX2_hasParish 4 = .ok (.iload_n 1, 1) := by decide +kernel
theorem dX2_hasParish_5 : decode cX2_hasParish 5 = .ok (.aload_n 0, 1) := by decide +kernel
theorem dX2_hasParish_6 : decode cX2_hasParish 6 = .ok (.getfield 32, 3) := by decide +kernel
theorem dX2_hasParish_9 : decode cX2_hasParish 9 = .ok (.if_icmp .ge 7, 3) := by decide +kernel
theorem dX2_hasParish_12 : decode cX2_hasParish 12 = .ok (.iconst 1, 1) := by decide +kernel
theorem dX2_hasParish_13 : decode cX2_hasParish 13 = .ok (.goto 4, 3) := by decide +kernel
theorem dX2_hasParish_16 : decode cX2_hasParish 16 = .ok (.iconst 0, 1) := by decide +kernel
theorem dX2_hasParish_17 : decode cX2_hasParish 17 = .ok (.ireturn, 1) := by decide +kernel
theorem zw_185 : (Jvm.Cond.fieldLink "HillSchool$Hill" (32 : Nat) "HillSchool$Hill" "parishes" "I") ∈ zall := zmemG (zmj_1 82 rfl) rfl
theorem zw_897 : (Jvm.Cond.code ({ cls := "HillSchool$Hill", name := "hasParish", desc := "(I)Z" } : Jvm.MethodName) prog_4_method_3_code (2 : Nat) (Option.some Jvm.ClassFile.FieldType.boolean)) ∈ zall := zmemG (zmj_4 74 rfl) rfl
abbrev w_Hill_hasParish : List Cond := .code yX2_hasParish cX2_hasParish 2 (some .boolean) :: zall
abbrev rm_Hill_hasParish : Room := { frames := 0, cells := 0, slots := 0, locals := 0 }
theorem hd_Hill_hasParish : yX2_hasParish.cls = "HillSchool$Hill" ∧ yX2_hasParish.cls ≠ "java/lang/invoke/MethodHandle" ∧ yX2_hasParish.cls ≠ "java/lang/invoke/VarHandle" ∧ (parseMethodDescriptor yX2_hasParish.desc).map (fun d => d.parameters.length) = some 1 := by decide +kernel
def wd_Hill_hasParish (cA : Nat → ClassId) (q0 q1 q2 q3 q4 q5 q6 q7 q8 q9 : Nat) (u0 u1 u2 u3 : Int) (i_parishes : Int)  : va_W := [(q0, .inr (2, [.ref q1, .int (Int32.ofInt u0), .ref q2, .ref q3, .ref q4, .int (Int32.ofInt i_parishes), .ref q5, .ref q6, .ref q7, .int (Int32.ofInt u1), .ref q8, .ref q9, .int (Int32.ofInt u2), .int (Int32.ofInt u3)]))]
def wf_Hill_hasParish (cA : Nat → ClassId) (q0 q1 q2 q3 q4 q5 q6 q7 q8 q9 : Nat) (u0 u1 u2 u3 : Int) (i_parishes : Int) (o : Int) : va_W := wd_Hill_hasParish cA q0 q1 q2 q3 q4 q5 q6 q7 q8 q9 u0 u1 u2 u3 i_parishes
def f_Hill_hasParish (x1 : Int) (i_parishes : Int) : Option (Int) :=
  if zi_w x1 < 0 then
    some 0
  else
    if zi_w i_parishes ≤ zi_w x1 then
      some 0
    else
      some 1
set_option maxHeartbeats 4000000 in
set_option maxRecDepth 100000 in
theorem c_Hill_hasParish (l : Launch) (ev : zEv) (dC : Nat → ClassId) (dI : Nat → Nat → Nat) (cA : Nat → ClassId) (q0 q1 q2 q3 q4 q5 q6 q7 q8 q9 : Nat) (u0 u1 u2 u3 : Int) {x1 : Int} {i_parishes : Int} {out : Int} (hf : f_Hill_hasParish x1 i_parishes = some out) : xc_I l ev (dC, dI) vwCl (tyl cA) yX2_hasParish w_Hill_hasParish rm_Hill_hasParish [.ref q0, .int (Int32.ofInt x1)] (wd_Hill_hasParish cA q0 q1 q2 q3 q4 q5 q6 q7 q8 q9 u0 u1 u2 u3 i_parishes) (wf_Hill_hasParish cA q0 q1 q2 q3 q4 q5 q6 q7 q8 q9 u0 u1 u2 u3 i_parishes out) out := by
  refine xv_startI (cc := cX2_hasParish) (maxL := 2) (rt := .boolean) (by decide +kernel) rfl (Nat.le_of_ble_eq_true rfl) ?_
  intro p e s m args below meth c A Q H ls hx hb hml hts hown hK hA hP hD hS hl hE hret
  have hown : s.vm.findClass "HillSchool$Hill" = some m.cls := hown
  have hz : ∀ w ∈ zall, w.before args s = true := fun w h => hts w (List.mem_cons_of_mem _ h)
  have hl : lv_has ls 2 [(0, .ref q0), (1, .int (Int32.ofInt x1))] := hl
  unfold f_Hill_hasParish at hf
  refine lv_iload_n hx hb dX2_hasParish_0 rfl (lv_at hl 1 rfl) ?_
  refine xi_if_lt (tgt := 16) hx hb dX2_hasParish_1 (by decide) hf (fun hf => ?_) (fun hf => ?_)
  · refine lv_iconst (v := Int32.ofInt 0) hx hb dX2_hasParish_16 rfl ?_
    obtain rfl := Option.some.inj hf
    exact hret _ _ _ _ zz_b0 dX2_hasParish_17 hP hD hS
  · refine lv_iload_n hx hb dX2_hasParish_4 rfl (lv_at hl 1 rfl) ?_
    refine lv_aload_n hx hb dX2_hasParish_5 rfl (lv_at hl 0 rfl) ?_
    refine va_get (D := (dC, dI)) (ci := 2) (v := .int (Int32.ofInt i_parishes)) (C := RX2) (T := TX2) (N := 14) hx hb hz zi_X2 hown hK hP 0 rfl rfl 5 (by decide) (hz _ zw_185) (fun _ h9 => h9) rfl dX2_hasParish_6 ?_
    refine xi_icmp_ge (tgt := 16) hx hb dX2_hasParish_9 (by decide) hf (fun hf => ?_) (fun hf => ?_)
    · refine lv_iconst (v := Int32.ofInt 0) hx hb dX2_hasParish_16 rfl ?_
      obtain rfl := Option.some.inj hf
      exact hret _ _ _ _ zz_b0 dX2_hasParish_17 hP hD hS
    · refine lv_iconst (v := Int32.ofInt 1) hx hb dX2_hasParish_12 rfl ?_
      refine lv_goto (tgt := 17) hx hb dX2_hasParish_13 (by decide) ?_
      obtain rfl := Option.some.inj hf
      exact hret _ _ _ _ zz_b1 dX2_hasParish_17 hP hD hS
theorem dX1_shadeAt_0 : decode cX1_shadeAt 0 = .ok (.iconst 0, 1) := by decide +kernel
theorem dX1_shadeAt_1 : decode cX1_shadeAt 1 = .ok (.istore_n 3, 1) := by decide +kernel
theorem dX1_shadeAt_2 : decode cX1_shadeAt 2 = .ok (.iconst 0, 1) := by decide +kernel
theorem dX1_shadeAt_3 : decode cX1_shadeAt 3 = .ok (.istore 4, 2) := by decide +kernel
theorem dX1_shadeAt_5 : decode cX1_shadeAt 5 = .ok (.iload 4, 2) := by decide +kernel
theorem dX1_shadeAt_7 : decode cX1_shadeAt 7 = .ok (.aload_n 0, 1) := by decide +kernel
theorem dX1_shadeAt_8 : decode cX1_shadeAt 8 = .ok (.getfield 9, 3) := by decide +kernel
theorem dX1_shadeAt_11 : decode cX1_shadeAt 11 = .ok (.if_icmp .ge 31, 3) := by decide +kernel
theorem dX1_shadeAt_14 : decode cX1_shadeAt 14 = .ok (.iload_n 3, 1) := by decide +kernel
theorem dX1_shadeAt_15 : decode cX1_shadeAt 15 = .ok (.aload_n 0, 1) := by decide +kernel
theorem dX1_shadeAt_16 : decode cX1_shadeAt 16 = .ok (.getfield 15, 3) := by decide +kernel
theorem dX1_shadeAt_19 : decode cX1_shadeAt 19 = .ok (.iload 4, 2) := by decide +kernel
theorem dX1_shadeAt_21 : decode cX1_shadeAt 21 = .ok (.iaload, 1) := by decide +kernel
theorem dX1_shadeAt_22 : decode cX1_shadeAt 22 = .ok (.iload_n 2, 1) := by decide +kernel
theorem dX1_shadeAt_23 : decode cX1_shadeAt 23 = .ok (.iload 4, 2) := by decide +kernel
theorem dX1_shadeAt_25 : decode cX1_shadeAt 25 = .ok (.iload_n 1, 1) := by decide +kernel
theorem dX1_shadeAt_26 : decode cX1_shadeAt 26 = .ok (.isub, 1) := by decide +kernel
theorem dX1_shadeAt_27 : decode cX1_shadeAt 27 = .ok (.invokestatic 52, 3) := by decide +kernel
theorem dX1_shadeAt_30 : decode cX1_shadeAt 30 = .ok (.imul, 1) := by decide +kernel
theorem dX1_shadeAt_31 : decode cX1_shadeAt 31 = .ok (.isub, 1) := by decide +kernel
theorem dX1_shadeAt_32 : decode cX1_shadeAt 32 = .ok (.invokestatic 57, 3) := by decide +kernel
theorem dX1_shadeAt_35 : decode cX1_shadeAt 35 = .ok (.istore_n 3, 1) := by decide +kernel
theorem dX1_shadeAt_36 : decode cX1_shadeAt 36 = .ok (.iinc 4 1, 3) := by decide +kernel
theorem dX1_shadeAt_39 : decode cX1_shadeAt 39 = .ok (.goto (-34), 3) := by decide +kernel
theorem dX1_shadeAt_42 : decode cX1_shadeAt 42 = .ok (.iload_n 3, 1) := by decide +kernel
theorem dX1_shadeAt_43 : decode cX1_shadeAt 43 = .ok (.ireturn, 1) := by decide +kernel
theorem zw_901 : (Jvm.Cond.code ({ cls := "HillSchool$Columns", name := "shadeAt", desc := "(II)I" } : Jvm.MethodName) prog_3_method_15_code (5 : Nat) (Option.some Jvm.ClassFile.FieldType.int)) ∈ zall := zmemG (zmj_4 78 rfl) rfl
theorem zw_902 : (Jvm.Cond.methodLink "HillSchool$Columns" (52 : Nat) ({ cls := "java/lang/Math", name := "abs", desc := "(I)I" } : Jvm.MethodName)) ∈ zall := zmemG (zmj_4 79 rfl) rfl
theorem zw_903 : (Jvm.Cond.methodLink "HillSchool$Columns" (57 : Nat) ({ cls := "java/lang/Math", name := "max", desc := "(II)I" } : Jvm.MethodName)) ∈ zall := zmemG (zmj_4 80 rfl) rfl
abbrev w_Columns_shadeAt : List Cond := .code yX1_shadeAt cX1_shadeAt 5 (some .int) :: zall
abbrev rm_Columns_shadeAt : Room := { frames := 2, cells := 0, slots := 0, locals := 60 }
theorem hd_Columns_shadeAt : yX1_shadeAt.cls = "HillSchool$Columns" ∧ yX1_shadeAt.cls ≠ "java/lang/invoke/MethodHandle" ∧ yX1_shadeAt.cls ≠ "java/lang/invoke/VarHandle" ∧ (parseMethodDescriptor yX1_shadeAt.desc).map (fun d => d.parameters.length) = some 2 := by decide +kernel
def wd_Columns_shadeAt (cA : Nat → ClassId) (q0 q1 q2 : Nat) (i_many : Int) (i_heights : Nat → Int)  : va_W := [(q0, .inr (1, [.int (Int32.ofInt i_many), .ref q1, .ref q2])), (q1, .inl (cA 0, 12, .inl (za i_heights)))]
def wf_Columns_shadeAt (cA : Nat → ClassId) (q0 q1 q2 : Nat) (i_many : Int) (i_heights : Nat → Int) (o : Int) : va_W := wd_Columns_shadeAt cA q0 q1 q2 i_many i_heights
def f_Columns_shadeAt_5_b (i_many : Int) (i_heights : Nat → Int) (k5 : Int → Int → Int → Int → Option (Int)) (x1 : Int) (x2 : Int) (x3 : Int) (x4 : Int) : Option (Int) :=
  if zi_w i_many ≤ zi_w x4 then
    some x3
  else
    zg 12 i_heights x4 fun v1 =>
    zn (x4 - x1) fun v2 =>
    zn (zi_abs v2) fun v3 =>
    zn (x2 * v3) fun v4 =>
    zn (v1 - v4) fun v5 =>
    zn (zi_max x3 v5) fun v6 =>
    zn (x4 + 1) fun v7 =>
    k5 x1 x2 v6 v7
def f_Columns_shadeAt_5 (i_many : Int) (i_heights : Nat → Int) : Nat → Int → Int → Int → Int → Option (Int)
  | 0 => fun _ _ _ _ => none
  | n + 1 => fun y0 y1 y2 y3 => f_Columns_shadeAt_5_b i_many i_heights (f_Columns_shadeAt_5 i_many i_heights n) y0 y1 y2 y3
def f_Columns_shadeAt (x1 : Int) (x2 : Int) (i_many : Int) (i_heights : Nat → Int) : Option (Int) :=
  f_Columns_shadeAt_5 i_many i_heights zfu x1 x2 0 0
set_option maxHeartbeats 4000000 in
set_option maxRecDepth 100000 in
theorem c_Columns_shadeAt (l : Launch) (ev : zEv) (dC : Nat → ClassId) (dI : Nat → Nat → Nat) (cA : Nat → ClassId) (q0 q1 q2 : Nat) {x1 x2 : Int} {i_many : Int} {i_heights : Nat → Int} {out : Int} (hf : f_Columns_shadeAt x1 x2 i_many i_heights = some out) : xc_I l ev (dC, dI) vwCl (tyl cA) yX1_shadeAt w_Columns_shadeAt rm_Columns_shadeAt [.ref q0, .int (Int32.ofInt x1), .int (Int32.ofInt x2)] (wd_Columns_shadeAt cA q0 q1 q2 i_many i_heights) (wf_Columns_shadeAt cA q0 q1 q2 i_many i_heights out) out := by
  refine xv_startI (cc := cX1_shadeAt) (maxL := 5) (rt := .int) (by decide +kernel) rfl (Nat.le_of_ble_eq_true rfl) ?_
  intro p e s m args below meth c A Q H ls hx hb hml hts hown hK hA hP hD hS hl hE hret
  have hown : s.vm.findClass "HillSchool$Columns" = some m.cls := hown
  have hz : ∀ w ∈ zall, w.before args s = true := fun w h => hts w (List.mem_cons_of_mem _ h)
  have hl : lv_has ls 5 [(0, .ref q0), (1, .int (Int32.ofInt x1)), (2, .int (Int32.ofInt x2))] := hl
  have b_5 : ∀ (k5 : Int → Int → Int → Int → Option (Int)) (_ : ∀ (x1 : Int) (x2 : Int) (x3 : Int) (x4 : Int) (H : Heap) (locs : List Loc) (ls : Array Slot), k5 x1 x2 x3 x4 = some out → va_P (dC, dI) vwCl (wd_Columns_shadeAt cA q0 q1 q2 i_many i_heights) H → va_D A (wd_Columns_shadeAt cA q0 q1 q2 i_many i_heights) → va_S A s.heap H locs → lv_has ls 5 [(0, .ref q0), (1, .int (Int32.ofInt x1)), (2, .int (Int32.ofInt x2)), (3, .int (Int32.ofInt x3)), (4, .int (Int32.ofInt x4))] → W p l e rm_Columns_shadeAt s m args below meth c H locs 0 0 Q (F0 m 5 ls [])), ∀ (x1 : Int) (x2 : Int) (x3 : Int) (x4 : Int) (H : Heap) (locs : List Loc) (ls : Array Slot), f_Columns_shadeAt_5_b i_many i_heights k5 x1 x2 x3 x4 = some out → va_P (dC, dI) vwCl (wd_Columns_shadeAt cA q0 q1 q2 i_many i_heights) H → va_D A (wd_Columns_shadeAt cA q0 q1 q2 i_many i_heights) → va_S A s.heap H locs → lv_has ls 5 [(0, .ref q0), (1, .int (Int32.ofInt x1)), (2, .int (Int32.ofInt x2)), (3, .int (Int32.ofInt x3)), (4, .int (Int32.ofInt x4))] → W p l e rm_Columns_shadeAt s m args below meth c H locs 0 0 Q (F0 m 5 ls []) := by
    intro k5 ih5 x1 x2 x3 x4 H locs ls hf hP hD hS hl
    unfold f_Columns_shadeAt_5_b at hf
    refine lv_iload hx hb dX1_shadeAt_5 (lv_at hl 4 rfl) ?_
    refine lv_aload_n hx hb dX1_shadeAt_7 rfl (lv_at hl 0 rfl) ?_
    refine va_get (D := (dC, dI)) (ci := 1) (v := .int (Int32.ofInt i_many)) (C := RX1) (T := TX1) (N := 3) hx hb hz zi_X1 hown hK hP 0 rfl rfl 0 (by decide) (hz _ zw_143) (fun _ h9 => h9) rfl dX1_shadeAt_8 ?_
    refine xi_icmp_ge (tgt := 42) hx hb dX1_shadeAt_11 (by decide) hf (fun hf => ?_) (fun hf => ?_)
    · refine lv_iload_n hx hb dX1_shadeAt_42 rfl (lv_at hl 3 rfl) ?_
      obtain rfl := Option.some.inj hf
      exact hret _ _ _ _ rfl dX1_shadeAt_43 hP hD hS
    · refine lv_iload_n hx hb dX1_shadeAt_14 rfl (lv_at hl 3 rfl) ?_
      refine lv_aload_n hx hb dX1_shadeAt_15 rfl (lv_at hl 0 rfl) ?_
      refine va_get (D := (dC, dI)) (ci := 1) (v := .ref q1) (C := RX1) (T := TX1) (N := 3) hx hb hz zi_X1 hown hK hP 0 rfl rfl 1 (by decide) (hz _ zw_149) (fun _ h9 => h9) rfl dX1_shadeAt_16 ?_
      refine lv_iload hx hb dX1_shadeAt_19 (lv_at hl 4 rfl) ?_
      refine xi_iald hx hb hK hP 1 0 rfl rfl dX1_shadeAt_21 hf (fun v1 hf => ?_)
      refine lv_iload_n hx hb dX1_shadeAt_22 rfl (lv_at hl 2 rfl) ?_
      refine lv_iload hx hb dX1_shadeAt_23 (lv_at hl 4 rfl) ?_
      refine lv_iload_n hx hb dX1_shadeAt_25 rfl (lv_at hl 1 rfl) ?_
      refine xi_isub hx hb dX1_shadeAt_26 hf (fun v2 hf => ?_)
      refine xi_mabs hx hb (hml.trans hl.1.symm) hown (hz _ zw_902) (hz _ zw_819) (hz _ zw_116) (hz _ zw_820) (Nat.le_of_ble_eq_true rfl) (Nat.le_of_ble_eq_true rfl) (Nat.zero_le _) (Nat.zero_le _) dX1_shadeAt_27 hf (fun v3 hf => ?_)
      refine xi_imul hx hb dX1_shadeAt_30 hf (fun v4 hf => ?_)
      refine xi_isub hx hb dX1_shadeAt_31 hf (fun v5 hf => ?_)
      refine xi_mmax hx hb (hml.trans hl.1.symm) hown (hz _ zw_903) (hz _ zw_654) (hz _ zw_116) (hz _ zw_655) (Nat.le_of_ble_eq_true rfl) (Nat.le_of_ble_eq_true rfl) (Nat.zero_le _) (Nat.zero_le _) dX1_shadeAt_32 hf (fun v6 hf => ?_)
      refine lv_istore_n (lv' := [(3, .int (Int32.ofInt v6)), (0, .ref q0), (1, .int (Int32.ofInt x1)), (2, .int (Int32.ofInt x2)), (4, .int (Int32.ofInt x4))]) hx hb dX1_shadeAt_35 rfl hl (by decide) rfl (fun ls hl => ?_)
      refine xi_iinc hx hb dX1_shadeAt_36 hl (k := 4) rfl (by decide) hf (fun v7 ls hl hf => ?_)
      have hl : lv_has ls 5 [(4, .int (Int32.ofInt v7)), (3, .int (Int32.ofInt v6)), (0, .ref q0), (1, .int (Int32.ofInt x1)), (2, .int (Int32.ofInt x2))] := hl
      refine lv_goto (tgt := 5) hx hb dX1_shadeAt_39 (by decide) ?_
      exact ih5 _ _ _ _ _ _ _ hf hP hD hS (lv_sub hl [2, 3, 4, 1, 0] rfl)
  have l_5 : ∀ (n : Nat), ∀ (x1 : Int) (x2 : Int) (x3 : Int) (x4 : Int) (H : Heap) (locs : List Loc) (ls : Array Slot), f_Columns_shadeAt_5 i_many i_heights n x1 x2 x3 x4 = some out → va_P (dC, dI) vwCl (wd_Columns_shadeAt cA q0 q1 q2 i_many i_heights) H → va_D A (wd_Columns_shadeAt cA q0 q1 q2 i_many i_heights) → va_S A s.heap H locs → lv_has ls 5 [(0, .ref q0), (1, .int (Int32.ofInt x1)), (2, .int (Int32.ofInt x2)), (3, .int (Int32.ofInt x3)), (4, .int (Int32.ofInt x4))] → W p l e rm_Columns_shadeAt s m args below meth c H locs 0 0 Q (F0 m 5 ls []) := by
    intro n
    induction n with
    | zero => intro x1 x2 x3 x4 H locs ls hf hP hD hS hl; exact nomatch hf
    | succ n ih => intro x1 x2 x3 x4 H locs ls hf hP hD hS hl; exact b_5 (f_Columns_shadeAt_5 i_many i_heights n) ih x1 x2 x3 x4 H locs ls hf hP hD hS hl
  unfold f_Columns_shadeAt at hf
  refine lv_iconst (v := Int32.ofInt 0) hx hb dX1_shadeAt_0 rfl ?_
  refine lv_istore_n (lv' := [(3, .int (Int32.ofInt 0)), (0, .ref q0), (1, .int (Int32.ofInt x1)), (2, .int (Int32.ofInt x2))]) hx hb dX1_shadeAt_1 rfl hl (by decide) rfl (fun ls hl => ?_)
  refine lv_iconst (v := Int32.ofInt 0) hx hb dX1_shadeAt_2 rfl ?_
  refine lv_istore (lv' := [(4, .int (Int32.ofInt 0)), (3, .int (Int32.ofInt 0)), (0, .ref q0), (1, .int (Int32.ofInt x1)), (2, .int (Int32.ofInt x2))]) hx hb dX1_shadeAt_3 hl (by decide) rfl (fun ls hl => ?_)
  exact l_5  _ _ _ _ _ _ _ _ hf hP hD hS (lv_sub hl [2, 3, 4, 1, 0] rfl)
theorem dX2_shadeOf_0 : decode cX2_shadeOf 0 = .ok (.aload_n 0, 1) := by decide +kernel
theorem dX2_shadeOf_1 : decode cX2_shadeOf 1 = .ok (.iload_n 2, 1) := by decide +kernel
theorem dX2_shadeOf_2 : decode cX2_shadeOf 2 = .ok (.invokevirtual 82, 3) := by decide +kernel
theorem dX2_shadeOf_5 : decode cX2_shadeOf 5 = .ok (.ifCond .eq 22, 3) := by decide +kernel
theorem dX2_shadeOf_8 : decode cX2_shadeOf 8 = .ok (.aload_n 1, 1) := by decide +kernel
theorem dX2_shadeOf_9 : decode cX2_shadeOf 9 = .ok (.aload_n 0, 1) := by decide +kernel
theorem dX2_shadeOf_10 : decode cX2_shadeOf 10 = .ok (.getfield 35, 3) := by decide +kernel
theorem dX2_shadeOf_13 : decode cX2_shadeOf 13 = .ok (.iload_n 2, 1) := by decide +kernel
theorem dX2_shadeOf_14 : decode cX2_shadeOf 14 = .ok (.iaload, 1) := by decide +kernel
theorem dX2_shadeOf_15 : decode cX2_shadeOf 15 = .ok (.aload_n 0, 1) := by decide +kernel
theorem dX2_shadeOf_16 : decode cX2_shadeOf 16 = .ok (.getfield 46, 3) := by decide +kernel
theorem dX2_shadeOf_19 : decode cX2_shadeOf 19 = .ok (.iconst 1, 1) := by decide +kernel
theorem dX2_shadeOf_20 : decode cX2_shadeOf 20 = .ok (.iaload, 1) := by decide +kernel
theorem dX2_shadeOf_21 : decode cX2_shadeOf 21 = .ok (.invokevirtual 85, 3) := by decide +kernel
theorem dX2_shadeOf_24 : decode cX2_shadeOf 24 = .ok (.goto 4, 3) := by decide +kernel
theorem dX2_shadeOf_27 : decode cX2_shadeOf 27 = .ok (.iconst 0, 1) := by decide +kernel
theorem dX2_shadeOf_28 : decode cX2_shadeOf 28 = .ok (.ireturn, 1) := by decide +kernel
theorem zw_187 : (Jvm.Cond.fieldLink "HillSchool$Hill" (35 : Nat) "HillSchool$Hill" "places" "[I") ∈ zall := zmemG (zmj_1 84 rfl) rfl
theorem zw_189 : (Jvm.Cond.fieldLink "HillSchool$Hill" (46 : Nat) "HillSchool$Hill" "terms" "[I") ∈ zall := zmemG (zmj_1 86 rfl) rfl
theorem zw_893 : (Jvm.Cond.code ({ cls := "HillSchool$Hill", name := "shadeOf", desc := "(LHillSchool$Columns;I)I" } : Jvm.MethodName) prog_4_method_7_code (3 : Nat) (Option.some Jvm.ClassFile.FieldType.int)) ∈ zall := zmemG (zmj_4 70 rfl) rfl
theorem zw_894 : (Jvm.Cond.methodLink "HillSchool$Hill" (82 : Nat) ({ cls := "HillSchool$Hill", name := "hasParish", desc := "(I)Z" } : Jvm.MethodName)) ∈ zall := zmemG (zmj_4 71 rfl) rfl
theorem zw_895 : (Jvm.Cond.instanceMethod ({ cls := "HillSchool$Hill", name := "hasParish", desc := "(I)Z" } : Jvm.MethodName)) ∈ zall := zmemG (zmj_4 72 rfl) rfl
theorem zw_896 : (Jvm.Cond.selects "HillSchool$Hill" ({ cls := "HillSchool$Hill", name := "hasParish", desc := "(I)Z" } : Jvm.MethodName) ({ cls := "HillSchool$Hill", name := "hasParish", desc := "(I)Z" } : Jvm.MethodName)) ∈ zall := zmemG (zmj_4 73 rfl) rfl
theorem zw_898 : (Jvm.Cond.methodLink "HillSchool$Hill" (85 : Nat) ({ cls := "HillSchool$Columns", name := "shadeAt", desc := "(II)I" } : Jvm.MethodName)) ∈ zall := zmemG (zmj_4 75 rfl) rfl
theorem zw_899 : (Jvm.Cond.instanceMethod ({ cls := "HillSchool$Columns", name := "shadeAt", desc := "(II)I" } : Jvm.MethodName)) ∈ zall := zmemG (zmj_4 76 rfl) rfl
theorem zw_900 : (Jvm.Cond.selects "HillSchool$Columns" ({ cls := "HillSchool$Columns", name := "shadeAt", desc := "(II)I" } : Jvm.MethodName) ({ cls := "HillSchool$Columns", name := "shadeAt", desc := "(II)I" } : Jvm.MethodName)) ∈ zall := zmemG (zmj_4 77 rfl) rfl
abbrev w_Hill_shadeOf : List Cond := .code yX2_shadeOf cX2_shadeOf 3 (some .int) :: zall
abbrev rm_Hill_shadeOf : Room := { frames := 3, cells := 0, slots := 0, locals := 84 }
theorem hd_Hill_shadeOf : yX2_shadeOf.cls = "HillSchool$Hill" ∧ yX2_shadeOf.cls ≠ "java/lang/invoke/MethodHandle" ∧ yX2_shadeOf.cls ≠ "java/lang/invoke/VarHandle" ∧ (parseMethodDescriptor yX2_shadeOf.desc).map (fun d => d.parameters.length) = some 2 := by decide +kernel
def wd_Hill_shadeOf (cA : Nat → ClassId) (q0 q1 q2 q3 q4 q5 q6 q7 q8 q9 q10 q11 q12 : Nat) (u0 u1 u2 u3 : Int) (i_parishes : Int) (i_a1_many : Int) (i_places : Nat → Int) (i_terms : Nat → Int) (i_a1_heights : Nat → Int)  : va_W := [(q0, .inr (2, [.ref q1, .int (Int32.ofInt u0), .ref q2, .ref q3, .ref q4, .int (Int32.ofInt i_parishes), .ref q5, .ref q6, .ref q7, .int (Int32.ofInt u1), .ref q8, .ref q9, .int (Int32.ofInt u2), .int (Int32.ofInt u3)])), (q10, .inr (1, [.int (Int32.ofInt i_a1_many), .ref q11, .ref q12])), (q5, .inl (cA 0, 6, .inl (za i_places))), (q6, .inl (cA 0, 4, .inl (za i_terms))), (q11, .inl (cA 0, 12, .inl (za i_a1_heights)))]
def wf_Hill_shadeOf (cA : Nat → ClassId) (q0 q1 q2 q3 q4 q5 q6 q7 q8 q9 q10 q11 q12 : Nat) (u0 u1 u2 u3 : Int) (i_parishes : Int) (i_a1_many : Int) (i_places : Nat → Int) (i_terms : Nat → Int) (i_a1_heights : Nat → Int) (o : Int) : va_W := wd_Hill_shadeOf cA q0 q1 q2 q3 q4 q5 q6 q7 q8 q9 q10 q11 q12 u0 u1 u2 u3 i_parishes i_a1_many i_places i_terms i_a1_heights
def f_Hill_shadeOf (x2 : Int) (i_parishes : Int) (i_a1_many : Int) (i_places : Nat → Int) (i_terms : Nat → Int) (i_a1_heights : Nat → Int) : Option (Int) :=
  zd1 (f_Hill_hasParish x2 i_parishes) fun v1 =>
  if zi_w v1 = 0 then
    some 0
  else
    zg 6 i_places x2 fun v2 =>
    zg 4 i_terms 1 fun v3 =>
    zd1 (f_Columns_shadeAt v2 v3 i_a1_many i_a1_heights) fun v4 =>
    some v4
set_option maxHeartbeats 4000000 in
set_option maxRecDepth 100000 in
theorem c_Hill_shadeOf (l : Launch) (ev : zEv) (dC : Nat → ClassId) (dI : Nat → Nat → Nat) (cA : Nat → ClassId) (q0 q1 q2 q3 q4 q5 q6 q7 q8 q9 q10 q11 q12 : Nat) (u0 u1 u2 u3 : Int) {x2 : Int} {i_parishes : Int} {i_a1_many : Int} {i_places : Nat → Int} {i_terms : Nat → Int} {i_a1_heights : Nat → Int} {out : Int} (hf : f_Hill_shadeOf x2 i_parishes i_a1_many i_places i_terms i_a1_heights = some out) : xc_I l ev (dC, dI) vwCl (tyl cA) yX2_shadeOf w_Hill_shadeOf rm_Hill_shadeOf [.ref q0, .ref q10, .int (Int32.ofInt x2)] (wd_Hill_shadeOf cA q0 q1 q2 q3 q4 q5 q6 q7 q8 q9 q10 q11 q12 u0 u1 u2 u3 i_parishes i_a1_many i_places i_terms i_a1_heights) (wf_Hill_shadeOf cA q0 q1 q2 q3 q4 q5 q6 q7 q8 q9 q10 q11 q12 u0 u1 u2 u3 i_parishes i_a1_many i_places i_terms i_a1_heights out) out := by
  refine xv_startI (cc := cX2_shadeOf) (maxL := 3) (rt := .int) (by decide +kernel) rfl (Nat.le_of_ble_eq_true rfl) ?_
  intro p e s m args below meth c A Q H ls hx hb hml hts hown hK hA hP hD hS hl hE hret
  have hown : s.vm.findClass "HillSchool$Hill" = some m.cls := hown
  have hz : ∀ w ∈ zall, w.before args s = true := fun w h => hts w (List.mem_cons_of_mem _ h)
  have hl : lv_has ls 3 [(0, .ref q0), (1, .ref q10), (2, .int (Int32.ofInt x2))] := hl
  unfold f_Hill_shadeOf at hf
  refine lv_aload_n hx hb dX2_shadeOf_0 rfl (lv_at hl 0 rfl) ?_
  refine lv_iload_n hx hb dX2_shadeOf_1 rfl (lv_at hl 2 rfl) ?_
  refine xe_d1 hf (fun v1 hg hf => ?_)
  have hC : ([0] : List Nat).map (fun i => (wd_Hill_shadeOf cA q0 q1 q2 q3 q4 q5 q6 q7 q8 q9 q10 q11 q12 u0 u1 u2 u3 i_parishes i_a1_many i_places i_terms i_a1_heights)[i]?) = (wd_Hill_hasParish cA q0 q1 q2 q3 q4 q5 q6 q7 q8 q9 u0 u1 u2 u3 i_parishes).map some := rfl
  refine xv_afterI (ws' := (wd_Hill_shadeOf cA q0 q1 q2 q3 q4 q5 q6 q7 q8 q9 q10 q11 q12 u0 u1 u2 u3 i_parishes i_a1_many i_places i_terms i_a1_heights)) (isC := [0]) (ps := [some 0, none, none, none, none]) (va_runV (As := [.int (Int32.ofInt x2)]) (rest := []) ⟨hx, hb, hml, hown, hts⟩ (c_Hill_hasParish l ev dC dI cA q0 q1 q2 q3 q4 q5 q6 q7 q8 q9 u0 u1 u2 u3 hg H.size) (cwV 1 hts (zgV zw_894 zw_895 zw_896 zw_105 zw_897) rfl rfl rfl hd_Hill_hasParish ⟨Nat.le_of_ble_eq_true rfl, Nat.le_of_ble_eq_true rfl⟩) (xv_preV (T := TX2) (N := 14) hE hA hS hK hP hD (isC := [0]) (by decide +kernel) hC (q0 := 0) (ci := 2) rfl rfl) rfl rfl hl.1 rfl (lv_room (Nat.le_of_ble_eq_true rfl)) dX2_shadeOf_2 ⟨Nat.le_refl _, Nat.le_refl _⟩) hP hD hS hA (by decide +kernel) rfl hC rfl rfl (fun H locs hP hD hS => ?_)
  refine xi_if_eq (tgt := 27) hx hb dX2_shadeOf_5 (by decide) hf (fun hf => ?_) (fun hf => ?_)
  · refine lv_iconst (v := Int32.ofInt 0) hx hb dX2_shadeOf_27 rfl ?_
    obtain rfl := Option.some.inj hf
    exact hret _ _ _ _ rfl dX2_shadeOf_28 hP hD hS
  · refine lv_aload_n hx hb dX2_shadeOf_8 rfl (lv_at hl 1 rfl) ?_
    refine lv_aload_n hx hb dX2_shadeOf_9 rfl (lv_at hl 0 rfl) ?_
    refine va_get (D := (dC, dI)) (ci := 2) (v := .ref q5) (C := RX2) (T := TX2) (N := 14) hx hb hz zi_X2 hown hK hP 0 rfl rfl 6 (by decide) (hz _ zw_187) (fun _ h9 => h9) rfl dX2_shadeOf_10 ?_
    refine lv_iload_n hx hb dX2_shadeOf_13 rfl (lv_at hl 2 rfl) ?_
    refine xi_iald hx hb hK hP 2 0 rfl rfl dX2_shadeOf_14 hf (fun v2 hf => ?_)
    refine lv_aload_n hx hb dX2_shadeOf_15 rfl (lv_at hl 0 rfl) ?_
    refine va_get (D := (dC, dI)) (ci := 2) (v := .ref q6) (C := RX2) (T := TX2) (N := 14) hx hb hz zi_X2 hown hK hP 0 rfl rfl 7 (by decide) (hz _ zw_189) (fun _ h9 => h9) rfl dX2_shadeOf_16 ?_
    refine lv_iconst (v := Int32.ofInt 1) hx hb dX2_shadeOf_19 rfl ?_
    refine xi_iald hx hb hK hP 3 0 rfl rfl dX2_shadeOf_20 hf (fun v3 hf => ?_)
    refine xe_d1 hf (fun v4 hg hf => ?_)
    have hC : ([1, 4] : List Nat).map (fun i => (wd_Hill_shadeOf cA q0 q1 q2 q3 q4 q5 q6 q7 q8 q9 q10 q11 q12 u0 u1 u2 u3 i_parishes i_a1_many i_places i_terms i_a1_heights)[i]?) = (wd_Columns_shadeAt cA q10 q11 q12 i_a1_many i_a1_heights).map some := rfl
    refine xv_afterI (ws' := (wd_Hill_shadeOf cA q0 q1 q2 q3 q4 q5 q6 q7 q8 q9 q10 q11 q12 u0 u1 u2 u3 i_parishes i_a1_many i_places i_terms i_a1_heights)) (isC := [1, 4]) (ps := [none, some 0, none, none, some 1]) (va_runV (As := [.int (Int32.ofInt v2), .int (Int32.ofInt v3)]) (rest := []) ⟨hx, hb, hml, hown, hts⟩ (c_Columns_shadeAt l ev dC dI cA q10 q11 q12 hg H.size) (cwV 2 hts (zgV zw_898 zw_899 zw_900 zw_106 zw_901) rfl rfl rfl hd_Columns_shadeAt ⟨Nat.le_of_ble_eq_true rfl, Nat.le_of_ble_eq_true rfl⟩) (xv_preV (T := TX1) (N := 3) hE hA hS hK hP hD (isC := [1, 4]) (by decide +kernel) hC (q0 := 1) (ci := 1) rfl rfl) rfl rfl hl.1 rfl (lv_room (Nat.le_of_ble_eq_true rfl)) dX2_shadeOf_21 ⟨Nat.le_refl _, Nat.le_refl _⟩) hP hD hS hA (by decide +kernel) rfl hC rfl rfl (fun H locs hP hD hS => ?_)
    refine lv_goto (tgt := 28) hx hb dX2_shadeOf_24 (by decide) ?_
    obtain rfl := Option.some.inj hf
    exact hret _ _ _ _ rfl dX2_shadeOf_28 hP hD hS
theorem dX2_shades_0 : decode cX2_shades 0 = .ok (.iconst 0, 1) := by decide +kernel
theorem dX2_shades_1 : decode cX2_shades 1 = .ok (.istore_n 2, 1) := by decide +kernel
theorem dX2_shades_2 : decode cX2_shades 2 = .ok (.iconst 0, 1) := by decide +kernel
theorem dX2_shades_3 : decode cX2_shades 3 = .ok (.istore_n 3, 1) := by decide +kernel
theorem dX2_shades_4 : decode cX2_shades 4 = .ok (.iload_n 3, 1) := by decide +kernel
theorem dX2_shades_5 : decode cX2_shades 5 = .ok (.aload_n 0, 1) := by decide +kernel
theorem dX2_shades_6 : decode cX2_shades 6 = .ok (.getfield 32, 3) := by decide +kernel
theorem dX2_shades_9 : decode cX2_shades 9 = .ok (.if_icmp .ge 18, 3) := by decide +kernel
theorem dX2_shades_12 : decode cX2_shades 12 = .ok (.iload_n 2, 1) := by decide +kernel
theorem dX2_shades_13 : decode cX2_shades 13 = .ok (.aload_n 0, 1) := by decide +kernel
theorem dX2_shades_14 : decode cX2_shades 14 = .ok (.aload_n 1, 1) := by decide +kernel
theorem dX2_shades_15 : decode cX2_shades 15 = .ok (.iload_n 3, 1) := by decide +kernel
theorem dX2_shades_16 : decode cX2_shades 16 = .ok (.invokevirtual 89, 3) := by decide +kernel
theorem dX2_shades_19 : decode cX2_shades 19 = .ok (.iadd, 1) := by decide +kernel
theorem dX2_shades_20 : decode cX2_shades 20 = .ok (.istore_n 2, 1) := by decide +kernel
theorem dX2_shades_21 : decode cX2_shades 21 = .ok (.iinc 3 1, 3) := by decide +kernel
theorem dX2_shades_24 : decode cX2_shades 24 = .ok (.goto (-20), 3) := by decide +kernel
theorem dX2_shades_27 : decode cX2_shades 27 = .ok (.iload_n 2, 1) := by decide +kernel
theorem dX2_shades_28 : decode cX2_shades 28 = .ok (.ireturn, 1) := by decide +kernel
theorem zw_889 : (Jvm.Cond.code ({ cls := "HillSchool$Hill", name := "shades", desc := "(LHillSchool$Columns;)I" } : Jvm.MethodName) prog_4_method_8_code (4 : Nat) (Option.some Jvm.ClassFile.FieldType.int)) ∈ zall := zmemG (zmj_4 66 rfl) rfl
theorem zw_890 : (Jvm.Cond.methodLink "HillSchool$Hill" (89 : Nat) ({ cls := "HillSchool$Hill", name := "shadeOf", desc := "(LHillSchool$Columns;I)I" } : Jvm.MethodName)) ∈ zall := zmemG (zmj_4 67 rfl) rfl
theorem zw_891 : (Jvm.Cond.instanceMethod ({ cls := "HillSchool$Hill", name := "shadeOf", desc := "(LHillSchool$Columns;I)I" } : Jvm.MethodName)) ∈ zall := zmemG (zmj_4 68 rfl) rfl
theorem zw_892 : (Jvm.Cond.selects "HillSchool$Hill" ({ cls := "HillSchool$Hill", name := "shadeOf", desc := "(LHillSchool$Columns;I)I" } : Jvm.MethodName) ({ cls := "HillSchool$Hill", name := "shadeOf", desc := "(LHillSchool$Columns;I)I" } : Jvm.MethodName)) ∈ zall := zmemG (zmj_4 69 rfl) rfl
abbrev w_Hill_shades : List Cond := .code yX2_shades cX2_shades 4 (some .int) :: zall
abbrev rm_Hill_shades : Room := { frames := 4, cells := 0, slots := 0, locals := 106 }
theorem hd_Hill_shades : yX2_shades.cls = "HillSchool$Hill" ∧ yX2_shades.cls ≠ "java/lang/invoke/MethodHandle" ∧ yX2_shades.cls ≠ "java/lang/invoke/VarHandle" ∧ (parseMethodDescriptor yX2_shades.desc).map (fun d => d.parameters.length) = some 1 := by decide +kernel
def wd_Hill_shades (cA : Nat → ClassId) (q0 q1 q2 q3 q4 q5 q6 q7 q8 q9 q10 q11 q12 : Nat) (u0 u1 u2 u3 : Int) (i_parishes : Int) (i_a1_many : Int) (i_places : Nat → Int) (i_terms : Nat → Int) (i_a1_heights : Nat → Int)  : va_W := [(q0, .inr (2, [.ref q1, .int (Int32.ofInt u0), .ref q2, .ref q3, .ref q4, .int (Int32.ofInt i_parishes), .ref q5, .ref q6, .ref q7, .int (Int32.ofInt u1), .ref q8, .ref q9, .int (Int32.ofInt u2), .int (Int32.ofInt u3)])), (q10, .inr (1, [.int (Int32.ofInt i_a1_many), .ref q11, .ref q12])), (q5, .inl (cA 0, 6, .inl (za i_places))), (q6, .inl (cA 0, 4, .inl (za i_terms))), (q11, .inl (cA 0, 12, .inl (za i_a1_heights)))]
def wf_Hill_shades (cA : Nat → ClassId) (q0 q1 q2 q3 q4 q5 q6 q7 q8 q9 q10 q11 q12 : Nat) (u0 u1 u2 u3 : Int) (i_parishes : Int) (i_a1_many : Int) (i_places : Nat → Int) (i_terms : Nat → Int) (i_a1_heights : Nat → Int) (o : Int) : va_W := wd_Hill_shades cA q0 q1 q2 q3 q4 q5 q6 q7 q8 q9 q10 q11 q12 u0 u1 u2 u3 i_parishes i_a1_many i_places i_terms i_a1_heights
def f_Hill_shades_4_b (i_parishes : Int) (i_a1_many : Int) (i_places : Nat → Int) (i_terms : Nat → Int) (i_a1_heights : Nat → Int) (k4 : Int → Int → Option (Int)) (x2 : Int) (x3 : Int) : Option (Int) :=
  if zi_w i_parishes ≤ zi_w x3 then
    some x2
  else
    zd1 (f_Hill_shadeOf x3 i_parishes i_a1_many i_places i_terms i_a1_heights) fun v1 =>
    zn (x2 + v1) fun v2 =>
    zn (x3 + 1) fun v3 =>
    k4 v2 v3
def f_Hill_shades_4 (i_parishes : Int) (i_a1_many : Int) (i_places : Nat → Int) (i_terms : Nat → Int) (i_a1_heights : Nat → Int) : Nat → Int → Int → Option (Int)
  | 0 => fun _ _ => none
  | n + 1 => fun y0 y1 => f_Hill_shades_4_b i_parishes i_a1_many i_places i_terms i_a1_heights (f_Hill_shades_4 i_parishes i_a1_many i_places i_terms i_a1_heights n) y0 y1
def f_Hill_shades (i_parishes : Int) (i_a1_many : Int) (i_places : Nat → Int) (i_terms : Nat → Int) (i_a1_heights : Nat → Int) : Option (Int) :=
  f_Hill_shades_4 i_parishes i_a1_many i_places i_terms i_a1_heights zfu 0 0
set_option maxHeartbeats 4000000 in
set_option maxRecDepth 100000 in
theorem c_Hill_shades (l : Launch) (ev : zEv) (dC : Nat → ClassId) (dI : Nat → Nat → Nat) (cA : Nat → ClassId) (q0 q1 q2 q3 q4 q5 q6 q7 q8 q9 q10 q11 q12 : Nat) (u0 u1 u2 u3 : Int) {i_parishes : Int} {i_a1_many : Int} {i_places : Nat → Int} {i_terms : Nat → Int} {i_a1_heights : Nat → Int} {out : Int} (hf : f_Hill_shades i_parishes i_a1_many i_places i_terms i_a1_heights = some out) : xc_I l ev (dC, dI) vwCl (tyl cA) yX2_shades w_Hill_shades rm_Hill_shades [.ref q0, .ref q10] (wd_Hill_shades cA q0 q1 q2 q3 q4 q5 q6 q7 q8 q9 q10 q11 q12 u0 u1 u2 u3 i_parishes i_a1_many i_places i_terms i_a1_heights) (wf_Hill_shades cA q0 q1 q2 q3 q4 q5 q6 q7 q8 q9 q10 q11 q12 u0 u1 u2 u3 i_parishes i_a1_many i_places i_terms i_a1_heights out) out := by
  refine xv_startI (cc := cX2_shades) (maxL := 4) (rt := .int) (by decide +kernel) rfl (Nat.le_of_ble_eq_true rfl) ?_
  intro p e s m args below meth c A Q H ls hx hb hml hts hown hK hA hP hD hS hl hE hret
  have hown : s.vm.findClass "HillSchool$Hill" = some m.cls := hown
  have hz : ∀ w ∈ zall, w.before args s = true := fun w h => hts w (List.mem_cons_of_mem _ h)
  have hl : lv_has ls 4 [(0, .ref q0), (1, .ref q10)] := hl
  have b_4 : ∀ (k4 : Int → Int → Option (Int)) (_ : ∀ (x2 : Int) (x3 : Int) (H : Heap) (locs : List Loc) (ls : Array Slot), k4 x2 x3 = some out → va_P (dC, dI) vwCl (wd_Hill_shades cA q0 q1 q2 q3 q4 q5 q6 q7 q8 q9 q10 q11 q12 u0 u1 u2 u3 i_parishes i_a1_many i_places i_terms i_a1_heights) H → va_D A (wd_Hill_shades cA q0 q1 q2 q3 q4 q5 q6 q7 q8 q9 q10 q11 q12 u0 u1 u2 u3 i_parishes i_a1_many i_places i_terms i_a1_heights) → va_S A s.heap H locs → lv_has ls 4 [(0, .ref q0), (1, .ref q10), (2, .int (Int32.ofInt x2)), (3, .int (Int32.ofInt x3))] → W p l e rm_Hill_shades s m args below meth c H locs 0 0 Q (F0 m 4 ls [])), ∀ (x2 : Int) (x3 : Int) (H : Heap) (locs : List Loc) (ls : Array Slot), f_Hill_shades_4_b i_parishes i_a1_many i_places i_terms i_a1_heights k4 x2 x3 = some out → va_P (dC, dI) vwCl (wd_Hill_shades cA q0 q1 q2 q3 q4 q5 q6 q7 q8 q9 q10 q11 q12 u0 u1 u2 u3 i_parishes i_a1_many i_places i_terms i_a1_heights) H → va_D A (wd_Hill_shades cA q0 q1 q2 q3 q4 q5 q6 q7 q8 q9 q10 q11 q12 u0 u1 u2 u3 i_parishes i_a1_many i_places i_terms i_a1_heights) → va_S A s.heap H locs → lv_has ls 4 [(0, .ref q0), (1, .ref q10), (2, .int (Int32.ofInt x2)), (3, .int (Int32.ofInt x3))] → W p l e rm_Hill_shades s m args below meth c H locs 0 0 Q (F0 m 4 ls []) := by
    intro k4 ih4 x2 x3 H locs ls hf hP hD hS hl
    unfold f_Hill_shades_4_b at hf
    refine lv_iload_n hx hb dX2_shades_4 rfl (lv_at hl 3 rfl) ?_
    refine lv_aload_n hx hb dX2_shades_5 rfl (lv_at hl 0 rfl) ?_
    refine va_get (D := (dC, dI)) (ci := 2) (v := .int (Int32.ofInt i_parishes)) (C := RX2) (T := TX2) (N := 14) hx hb hz zi_X2 hown hK hP 0 rfl rfl 5 (by decide) (hz _ zw_185) (fun _ h9 => h9) rfl dX2_shades_6 ?_
    refine xi_icmp_ge (tgt := 27) hx hb dX2_shades_9 (by decide) hf (fun hf => ?_) (fun hf => ?_)
    · refine lv_iload_n hx hb dX2_shades_27 rfl (lv_at hl 2 rfl) ?_
      obtain rfl := Option.some.inj hf
      exact hret _ _ _ _ rfl dX2_shades_28 hP hD hS
    · refine lv_iload_n hx hb dX2_shades_12 rfl (lv_at hl 2 rfl) ?_
      refine lv_aload_n hx hb dX2_shades_13 rfl (lv_at hl 0 rfl) ?_
      refine lv_aload_n hx hb dX2_shades_14 rfl (lv_at hl 1 rfl) ?_
      refine lv_iload_n hx hb dX2_shades_15 rfl (lv_at hl 3 rfl) ?_
      refine xe_d1 hf (fun v1 hg hf => ?_)
      have hC : ([0, 1, 2, 3, 4] : List Nat).map (fun i => (wd_Hill_shades cA q0 q1 q2 q3 q4 q5 q6 q7 q8 q9 q10 q11 q12 u0 u1 u2 u3 i_parishes i_a1_many i_places i_terms i_a1_heights)[i]?) = (wd_Hill_shadeOf cA q0 q1 q2 q3 q4 q5 q6 q7 q8 q9 q10 q11 q12 u0 u1 u2 u3 i_parishes i_a1_many i_places i_terms i_a1_heights).map some := rfl
      refine xv_afterI (ws' := (wd_Hill_shades cA q0 q1 q2 q3 q4 q5 q6 q7 q8 q9 q10 q11 q12 u0 u1 u2 u3 i_parishes i_a1_many i_places i_terms i_a1_heights)) (isC := [0, 1, 2, 3, 4]) (ps := [some 0, some 1, some 2, some 3, some 4]) (va_runV (As := [.ref q10, .int (Int32.ofInt x3)]) (rest := [.int (Int32.ofInt x2)]) ⟨hx, hb, hml, hown, hts⟩ (c_Hill_shadeOf l ev dC dI cA q0 q1 q2 q3 q4 q5 q6 q7 q8 q9 q10 q11 q12 u0 u1 u2 u3 hg H.size) (cwV 2 hts (zgV zw_890 zw_891 zw_892 zw_105 zw_893) rfl rfl rfl hd_Hill_shadeOf ⟨Nat.le_of_ble_eq_true rfl, Nat.le_of_ble_eq_true rfl⟩) (xv_preV (T := TX2) (N := 14) hE hA hS hK hP hD (isC := [0, 1, 2, 3, 4]) (by decide +kernel) hC (q0 := 0) (ci := 2) rfl rfl) rfl rfl hl.1 rfl (lv_room (Nat.le_of_ble_eq_true rfl)) dX2_shades_16 ⟨Nat.le_refl _, Nat.le_refl _⟩) hP hD hS hA (by decide +kernel) rfl hC rfl rfl (fun H locs hP hD hS => ?_)
      refine xi_iadd hx hb dX2_shades_19 hf (fun v2 hf => ?_)
      refine lv_istore_n (lv' := [(2, .int (Int32.ofInt v2)), (0, .ref q0), (1, .ref q10), (3, .int (Int32.ofInt x3))]) hx hb dX2_shades_20 rfl hl (by decide) rfl (fun ls hl => ?_)
      refine xi_iinc hx hb dX2_shades_21 hl (k := 3) rfl (by decide) hf (fun v3 ls hl hf => ?_)
      have hl : lv_has ls 4 [(3, .int (Int32.ofInt v3)), (2, .int (Int32.ofInt v2)), (0, .ref q0), (1, .ref q10)] := hl
      refine lv_goto (tgt := 4) hx hb dX2_shades_24 (by decide) ?_
      exact ih4 _ _ _ _ _ hf hP hD hS (lv_sub hl [2, 3, 1, 0] rfl)
  have l_4 : ∀ (n : Nat), ∀ (x2 : Int) (x3 : Int) (H : Heap) (locs : List Loc) (ls : Array Slot), f_Hill_shades_4 i_parishes i_a1_many i_places i_terms i_a1_heights n x2 x3 = some out → va_P (dC, dI) vwCl (wd_Hill_shades cA q0 q1 q2 q3 q4 q5 q6 q7 q8 q9 q10 q11 q12 u0 u1 u2 u3 i_parishes i_a1_many i_places i_terms i_a1_heights) H → va_D A (wd_Hill_shades cA q0 q1 q2 q3 q4 q5 q6 q7 q8 q9 q10 q11 q12 u0 u1 u2 u3 i_parishes i_a1_many i_places i_terms i_a1_heights) → va_S A s.heap H locs → lv_has ls 4 [(0, .ref q0), (1, .ref q10), (2, .int (Int32.ofInt x2)), (3, .int (Int32.ofInt x3))] → W p l e rm_Hill_shades s m args below meth c H locs 0 0 Q (F0 m 4 ls []) := by
    intro n
    induction n with
    | zero => intro x2 x3 H locs ls hf hP hD hS hl; exact nomatch hf
    | succ n ih => intro x2 x3 H locs ls hf hP hD hS hl; exact b_4 (f_Hill_shades_4 i_parishes i_a1_many i_places i_terms i_a1_heights n) ih x2 x3 H locs ls hf hP hD hS hl
  unfold f_Hill_shades at hf
  refine lv_iconst (v := Int32.ofInt 0) hx hb dX2_shades_0 rfl ?_
  refine lv_istore_n (lv' := [(2, .int (Int32.ofInt 0)), (0, .ref q0), (1, .ref q10)]) hx hb dX2_shades_1 rfl hl (by decide) rfl (fun ls hl => ?_)
  refine lv_iconst (v := Int32.ofInt 0) hx hb dX2_shades_2 rfl ?_
  refine lv_istore_n (lv' := [(3, .int (Int32.ofInt 0)), (2, .int (Int32.ofInt 0)), (0, .ref q0), (1, .ref q10)]) hx hb dX2_shades_3 rfl hl (by decide) rfl (fun ls hl => ?_)
  exact l_4  _ _ _ _ _ _ hf hP hD hS (lv_sub hl [2, 3, 1, 0] rfl)
theorem dX10_shade_0 : decode cX10_shade 0 = .ok (.iload_n 1, 1) := by decide +kernel
theorem dX10_shade_1 : decode cX10_shade 1 = .ok (.iconst (-1), 1) := by decide +kernel
theorem dX10_shade_2 : decode cX10_shade 2 = .ok (.if_icmp .ne 18, 3) := by decide +kernel
theorem dX10_shade_5 : decode cX10_shade 5 = .ok (.aload_n 0, 1) := by decide +kernel
theorem dX10_shade_6 : decode cX10_shade 6 = .ok (.getfield 10, 3) := by decide +kernel
theorem dX10_shade_9 : decode cX10_shade 9 = .ok (.aload_n 0, 1) := by decide +kernel
theorem dX10_shade_10 : decode cX10_shade 10 = .ok (.getfield 10, 3) := by decide +kernel
theorem dX10_shade_13 : decode cX10_shade 13 = .ok (.getfield 99, 3) := by decide +kernel
theorem dX10_shade_16 : decode cX10_shade 16 = .ok (.invokevirtual 226, 3) := by decide +kernel
theorem dX10_shade_19 : decode cX10_shade 19 = .ok (.ireturn, 1) := by decide +kernel
theorem dX10_shade_20 : decode cX10_shade 20 = .ok (.aload_n 0, 1) := by decide +kernel
theorem dX10_shade_21 : decode cX10_shade 21 = .ok (.getfield 10, 3) := by decide +kernel
theorem dX10_shade_24 : decode cX10_shade 24 = .ok (.iload_n 1, 1) := by decide +kernel
theorem dX10_shade_25 : decode cX10_shade 25 = .ok (.invokevirtual 230, 3) := by decide +kernel
theorem dX10_shade_28 : decode cX10_shade 28 = .ok (.ifCond .eq 21, 3) := by decide +kernel
theorem dX10_shade_31 : decode cX10_shade 31 = .ok (.aload_n 0, 1) := by decide +kernel
theorem dX10_shade_32 : decode cX10_shade 32 = .ok (.getfield 10, 3) := by decide +kernel
theorem dX10_shade_35 : decode cX10_shade 35 = .ok (.aload_n 0, 1) := by decide +kernel
theorem dX10_shade_36 : decode cX10_shade 36 = .ok (.getfield 10, 3) := by decide +kernel
theorem dX10_shade_39 : decode cX10_shade 39 = .ok (.getfield 99, 3) := by decide +kernel
theorem dX10_shade_42 : decode cX10_shade 42 = .ok (.iload_n 1, 1) := by decide +kernel
theorem dX10_shade_43 : decode cX10_shade 43 = .ok (.invokevirtual 233, 3) := by decide +kernel
theorem dX10_shade_46 : decode cX10_shade 46 = .ok (.goto 4, 3) := by decide +kernel
theorem dX10_shade_49 : decode cX10_shade 49 = .ok (.iconst (-1), 1) := by decide +kernel
theorem dX10_shade_50 : decode cX10_shade 50 = .ok (.ireturn, 1) := by decide +kernel
theorem zw_885 : (Jvm.Cond.code ({ cls := "HillSchool", name := "shade", desc := "(I)I" } : Jvm.MethodName) prog_1_method_25_code (2 : Nat) (Option.some Jvm.ClassFile.FieldType.int)) ∈ zall := zmemG (zmj_4 62 rfl) rfl
theorem zw_886 : (Jvm.Cond.methodLink "HillSchool" (226 : Nat) ({ cls := "HillSchool$Hill", name := "shades", desc := "(LHillSchool$Columns;)I" } : Jvm.MethodName)) ∈ zall := zmemG (zmj_4 63 rfl) rfl
theorem zw_887 : (Jvm.Cond.instanceMethod ({ cls := "HillSchool$Hill", name := "shades", desc := "(LHillSchool$Columns;)I" } : Jvm.MethodName)) ∈ zall := zmemG (zmj_4 64 rfl) rfl
theorem zw_888 : (Jvm.Cond.selects "HillSchool$Hill" ({ cls := "HillSchool$Hill", name := "shades", desc := "(LHillSchool$Columns;)I" } : Jvm.MethodName) ({ cls := "HillSchool$Hill", name := "shades", desc := "(LHillSchool$Columns;)I" } : Jvm.MethodName)) ∈ zall := zmemG (zmj_4 65 rfl) rfl
theorem zw_904 : (Jvm.Cond.methodLink "HillSchool" (230 : Nat) ({ cls := "HillSchool$Hill", name := "hasParish", desc := "(I)Z" } : Jvm.MethodName)) ∈ zall := zmemG (zmj_4 81 rfl) rfl
theorem zw_905 : (Jvm.Cond.methodLink "HillSchool" (233 : Nat) ({ cls := "HillSchool$Hill", name := "shadeOf", desc := "(LHillSchool$Columns;I)I" } : Jvm.MethodName)) ∈ zall := zmemG (zmj_4 82 rfl) rfl
abbrev w_HS_shade : List Cond := .code yX10_shade cX10_shade 2 (some .int) :: zall
abbrev rm_HS_shade : Room := { frames := 5, cells := 0, slots := 0, locals := 129 }
theorem hd_HS_shade : yX10_shade.cls = "HillSchool" ∧ yX10_shade.cls ≠ "java/lang/invoke/MethodHandle" ∧ yX10_shade.cls ≠ "java/lang/invoke/VarHandle" ∧ (parseMethodDescriptor yX10_shade.desc).map (fun d => d.parameters.length) = some 1 := by decide +kernel
def wd_HS_shade (cA : Nat → ClassId) (q0 q1 q2 q3 q4 q5 q6 q7 q8 q9 q10 q11 q12 q13 q14 q15 q16 q17 q18 q19 q20 q21 q22 q23 : Nat) (u0 u1 u2 u3 u4 u5 u6 u7 : Int) (i_hill_parishes : Int) (i_hill_columns_many : Int) (i_hill_places : Nat → Int) (i_hill_terms : Nat → Int) (i_hill_columns_heights : Nat → Int)  : va_W := [(q0, .inr (10, [.ref q1, .ref q2, .ref q3, .ref q4, .int (Int32.ofInt u0), .int (Int32.ofInt u1), .int (Int32.ofInt u2), .ref q5, .int (Int32.ofInt u3), .ref q6, .ref q7, .ref q8, .ref q9, .ref q10, .ref q11, .ref q12])), (q1, .inr (2, [.ref q13, .int (Int32.ofInt u4), .ref q14, .ref q15, .ref q16, .int (Int32.ofInt i_hill_parishes), .ref q17, .ref q18, .ref q19, .int (Int32.ofInt u5), .ref q20, .ref q21, .int (Int32.ofInt u6), .int (Int32.ofInt u7)])), (q13, .inr (1, [.int (Int32.ofInt i_hill_columns_many), .ref q22, .ref q23])), (q17, .inl (cA 0, 6, .inl (za i_hill_places))), (q18, .inl (cA 0, 4, .inl (za i_hill_terms))), (q22, .inl (cA 0, 12, .inl (za i_hill_columns_heights)))]
def wf_HS_shade (cA : Nat → ClassId) (q0 q1 q2 q3 q4 q5 q6 q7 q8 q9 q10 q11 q12 q13 q14 q15 q16 q17 q18 q19 q20 q21 q22 q23 : Nat) (u0 u1 u2 u3 u4 u5 u6 u7 : Int) (i_hill_parishes : Int) (i_hill_columns_many : Int) (i_hill_places : Nat → Int) (i_hill_terms : Nat → Int) (i_hill_columns_heights : Nat → Int) (o : Int) : va_W := wd_HS_shade cA q0 q1 q2 q3 q4 q5 q6 q7 q8 q9 q10 q11 q12 q13 q14 q15 q16 q17 q18 q19 q20 q21 q22 q23 u0 u1 u2 u3 u4 u5 u6 u7 i_hill_parishes i_hill_columns_many i_hill_places i_hill_terms i_hill_columns_heights
def f_HS_shade (x1 : Int) (i_hill_parishes : Int) (i_hill_columns_many : Int) (i_hill_places : Nat → Int) (i_hill_terms : Nat → Int) (i_hill_columns_heights : Nat → Int) : Option (Int) :=
  if zi_w x1 ≠ zi_w (-1) then
    zd1 (f_Hill_hasParish x1 i_hill_parishes) fun v1 =>
    if zi_w v1 = 0 then
      some (-1)
    else
      zd1 (f_Hill_shadeOf x1 i_hill_parishes i_hill_columns_many i_hill_places i_hill_terms i_hill_columns_heights) fun v2 =>
      some v2
  else
    zd1 (f_Hill_shades i_hill_parishes i_hill_columns_many i_hill_places i_hill_terms i_hill_columns_heights) fun v3 =>
    some v3
set_option maxHeartbeats 4000000 in
set_option maxRecDepth 100000 in
theorem c_HS_shade (l : Launch) (ev : zEv) (dC : Nat → ClassId) (dI : Nat → Nat → Nat) (cA : Nat → ClassId) (q0 q1 q2 q3 q4 q5 q6 q7 q8 q9 q10 q11 q12 q13 q14 q15 q16 q17 q18 q19 q20 q21 q22 q23 : Nat) (u0 u1 u2 u3 u4 u5 u6 u7 : Int) {x1 : Int} {i_hill_parishes : Int} {i_hill_columns_many : Int} {i_hill_places : Nat → Int} {i_hill_terms : Nat → Int} {i_hill_columns_heights : Nat → Int} {out : Int} (hf : f_HS_shade x1 i_hill_parishes i_hill_columns_many i_hill_places i_hill_terms i_hill_columns_heights = some out) : xc_I l ev (dC, dI) vwCl (tyl cA) yX10_shade w_HS_shade rm_HS_shade [.ref q0, .int (Int32.ofInt x1)] (wd_HS_shade cA q0 q1 q2 q3 q4 q5 q6 q7 q8 q9 q10 q11 q12 q13 q14 q15 q16 q17 q18 q19 q20 q21 q22 q23 u0 u1 u2 u3 u4 u5 u6 u7 i_hill_parishes i_hill_columns_many i_hill_places i_hill_terms i_hill_columns_heights) (wf_HS_shade cA q0 q1 q2 q3 q4 q5 q6 q7 q8 q9 q10 q11 q12 q13 q14 q15 q16 q17 q18 q19 q20 q21 q22 q23 u0 u1 u2 u3 u4 u5 u6 u7 i_hill_parishes i_hill_columns_many i_hill_places i_hill_terms i_hill_columns_heights out) out := by
  refine xv_startI (cc := cX10_shade) (maxL := 2) (rt := .int) (by decide +kernel) rfl (Nat.le_of_ble_eq_true rfl) ?_
  intro p e s m args below meth c A Q H ls hx hb hml hts hown hK hA hP hD hS hl hE hret
  have hown : s.vm.findClass "HillSchool" = some m.cls := hown
  have hz : ∀ w ∈ zall, w.before args s = true := fun w h => hts w (List.mem_cons_of_mem _ h)
  have hl : lv_has ls 2 [(0, .ref q0), (1, .int (Int32.ofInt x1))] := hl
  unfold f_HS_shade at hf
  refine lv_iload_n hx hb dX10_shade_0 rfl (lv_at hl 1 rfl) ?_
  refine lv_iconst (v := Int32.ofInt (-1)) hx hb dX10_shade_1 rfl ?_
  refine xi_icmp_ne (tgt := 20) hx hb dX10_shade_2 (by decide) hf (fun hf => ?_) (fun hf => ?_)
  · refine lv_aload_n hx hb dX10_shade_20 rfl (lv_at hl 0 rfl) ?_
    refine va_get (D := (dC, dI)) (ci := 10) (v := .ref q1) (C := RX10) (T := TX10) (N := 16) hx hb hz zi_X10 hown hK hP 0 rfl rfl 0 (by decide) (hz _ zw_477) (fun _ h9 => h9) rfl dX10_shade_21 ?_
    refine lv_iload_n hx hb dX10_shade_24 rfl (lv_at hl 1 rfl) ?_
    refine xe_d1 hf (fun v1 hg hf => ?_)
    have hC : ([1] : List Nat).map (fun i => (wd_HS_shade cA q0 q1 q2 q3 q4 q5 q6 q7 q8 q9 q10 q11 q12 q13 q14 q15 q16 q17 q18 q19 q20 q21 q22 q23 u0 u1 u2 u3 u4 u5 u6 u7 i_hill_parishes i_hill_columns_many i_hill_places i_hill_terms i_hill_columns_heights)[i]?) = (wd_Hill_hasParish cA q1 q13 q14 q15 q16 q17 q18 q19 q20 q21 u4 u5 u6 u7 i_hill_parishes).map some := rfl
    refine xv_afterI (ws' := (wd_HS_shade cA q0 q1 q2 q3 q4 q5 q6 q7 q8 q9 q10 q11 q12 q13 q14 q15 q16 q17 q18 q19 q20 q21 q22 q23 u0 u1 u2 u3 u4 u5 u6 u7 i_hill_parishes i_hill_columns_many i_hill_places i_hill_terms i_hill_columns_heights)) (isC := [1]) (ps := [none, some 0, none, none, none, none]) (va_runV (As := [.int (Int32.ofInt x1)]) (rest := []) ⟨hx, hb, hml, hown, hts⟩ (c_Hill_hasParish l ev dC dI cA q1 q13 q14 q15 q16 q17 q18 q19 q20 q21 u4 u5 u6 u7 hg H.size) (cwV 1 hts (zgV zw_904 zw_895 zw_896 zw_105 zw_897) rfl rfl rfl hd_Hill_hasParish ⟨Nat.le_of_ble_eq_true rfl, Nat.le_of_ble_eq_true rfl⟩) (xv_preV (T := TX2) (N := 14) hE hA hS hK hP hD (isC := [1]) (by decide +kernel) hC (q0 := 1) (ci := 2) rfl rfl) rfl rfl hl.1 rfl (lv_room (Nat.le_of_ble_eq_true rfl)) dX10_shade_25 ⟨Nat.le_refl _, Nat.le_refl _⟩) hP hD hS hA (by decide +kernel) rfl hC rfl rfl (fun H locs hP hD hS => ?_)
    refine xi_if_eq (tgt := 49) hx hb dX10_shade_28 (by decide) hf (fun hf => ?_) (fun hf => ?_)
    · refine lv_iconst (v := Int32.ofInt (-1)) hx hb dX10_shade_49 rfl ?_
      obtain rfl := Option.some.inj hf
      exact hret _ _ _ _ rfl dX10_shade_50 hP hD hS
    · refine lv_aload_n hx hb dX10_shade_31 rfl (lv_at hl 0 rfl) ?_
      refine va_get (D := (dC, dI)) (ci := 10) (v := .ref q1) (C := RX10) (T := TX10) (N := 16) hx hb hz zi_X10 hown hK hP 0 rfl rfl 0 (by decide) (hz _ zw_477) (fun _ h9 => h9) rfl dX10_shade_32 ?_
      refine lv_aload_n hx hb dX10_shade_35 rfl (lv_at hl 0 rfl) ?_
      refine va_get (D := (dC, dI)) (ci := 10) (v := .ref q1) (C := RX10) (T := TX10) (N := 16) hx hb hz zi_X10 hown hK hP 0 rfl rfl 0 (by decide) (hz _ zw_477) (fun _ h9 => h9) rfl dX10_shade_36 ?_
      refine va_getN (D := (dC, dI)) (ci := 2) (v := .ref q13) (C := RX2) (T := TX2) (N := 14) hx hb hz zi_X2 hown hK hP 1 rfl rfl 0 (by decide) (va_Nw.use rfl (hE.1.1 _ zw_169)) (fun _ h9 => h9) rfl dX10_shade_39 ?_
      refine lv_iload_n hx hb dX10_shade_42 rfl (lv_at hl 1 rfl) ?_
      refine xe_d1 hf (fun v2 hg hf => ?_)
      have hC : ([1, 2, 3, 4, 5] : List Nat).map (fun i => (wd_HS_shade cA q0 q1 q2 q3 q4 q5 q6 q7 q8 q9 q10 q11 q12 q13 q14 q15 q16 q17 q18 q19 q20 q21 q22 q23 u0 u1 u2 u3 u4 u5 u6 u7 i_hill_parishes i_hill_columns_many i_hill_places i_hill_terms i_hill_columns_heights)[i]?) = (wd_Hill_shadeOf cA q1 q13 q14 q15 q16 q17 q18 q19 q20 q21 q13 q22 q23 u4 u5 u6 u7 i_hill_parishes i_hill_columns_many i_hill_places i_hill_terms i_hill_columns_heights).map some := rfl
      refine xv_afterI (ws' := (wd_HS_shade cA q0 q1 q2 q3 q4 q5 q6 q7 q8 q9 q10 q11 q12 q13 q14 q15 q16 q17 q18 q19 q20 q21 q22 q23 u0 u1 u2 u3 u4 u5 u6 u7 i_hill_parishes i_hill_columns_many i_hill_places i_hill_terms i_hill_columns_heights)) (isC := [1, 2, 3, 4, 5]) (ps := [none, some 0, some 1, some 2, some 3, some 4]) (va_runV (As := [.ref q13, .int (Int32.ofInt x1)]) (rest := []) ⟨hx, hb, hml, hown, hts⟩ (c_Hill_shadeOf l ev dC dI cA q1 q13 q14 q15 q16 q17 q18 q19 q20 q21 q13 q22 q23 u4 u5 u6 u7 hg H.size) (cwV 2 hts (zgV zw_905 zw_891 zw_892 zw_105 zw_893) rfl rfl rfl hd_Hill_shadeOf ⟨Nat.le_of_ble_eq_true rfl, Nat.le_of_ble_eq_true rfl⟩) (xv_preV (T := TX2) (N := 14) hE hA hS hK hP hD (isC := [1, 2, 3, 4, 5]) (by decide +kernel) hC (q0 := 1) (ci := 2) rfl rfl) rfl rfl hl.1 rfl (lv_room (Nat.le_of_ble_eq_true rfl)) dX10_shade_43 ⟨Nat.le_refl _, Nat.le_refl _⟩) hP hD hS hA (by decide +kernel) rfl hC rfl rfl (fun H locs hP hD hS => ?_)
      refine lv_goto (tgt := 50) hx hb dX10_shade_46 (by decide) ?_
      obtain rfl := Option.some.inj hf
      exact hret _ _ _ _ rfl dX10_shade_50 hP hD hS
  · refine lv_aload_n hx hb dX10_shade_5 rfl (lv_at hl 0 rfl) ?_
    refine va_get (D := (dC, dI)) (ci := 10) (v := .ref q1) (C := RX10) (T := TX10) (N := 16) hx hb hz zi_X10 hown hK hP 0 rfl rfl 0 (by decide) (hz _ zw_477) (fun _ h9 => h9) rfl dX10_shade_6 ?_
    refine lv_aload_n hx hb dX10_shade_9 rfl (lv_at hl 0 rfl) ?_
    refine va_get (D := (dC, dI)) (ci := 10) (v := .ref q1) (C := RX10) (T := TX10) (N := 16) hx hb hz zi_X10 hown hK hP 0 rfl rfl 0 (by decide) (hz _ zw_477) (fun _ h9 => h9) rfl dX10_shade_10 ?_
    refine va_getN (D := (dC, dI)) (ci := 2) (v := .ref q13) (C := RX2) (T := TX2) (N := 14) hx hb hz zi_X2 hown hK hP 1 rfl rfl 0 (by decide) (va_Nw.use rfl (hE.1.1 _ zw_169)) (fun _ h9 => h9) rfl dX10_shade_13 ?_
    refine xe_d1 hf (fun v3 hg hf => ?_)
    have hC : ([1, 2, 3, 4, 5] : List Nat).map (fun i => (wd_HS_shade cA q0 q1 q2 q3 q4 q5 q6 q7 q8 q9 q10 q11 q12 q13 q14 q15 q16 q17 q18 q19 q20 q21 q22 q23 u0 u1 u2 u3 u4 u5 u6 u7 i_hill_parishes i_hill_columns_many i_hill_places i_hill_terms i_hill_columns_heights)[i]?) = (wd_Hill_shades cA q1 q13 q14 q15 q16 q17 q18 q19 q20 q21 q13 q22 q23 u4 u5 u6 u7 i_hill_parishes i_hill_columns_many i_hill_places i_hill_terms i_hill_columns_heights).map some := rfl
    refine xv_afterI (ws' := (wd_HS_shade cA q0 q1 q2 q3 q4 q5 q6 q7 q8 q9 q10 q11 q12 q13 q14 q15 q16 q17 q18 q19 q20 q21 q22 q23 u0 u1 u2 u3 u4 u5 u6 u7 i_hill_parishes i_hill_columns_many i_hill_places i_hill_terms i_hill_columns_heights)) (isC := [1, 2, 3, 4, 5]) (ps := [none, some 0, some 1, some 2, some 3, some 4]) (va_runV (As := [.ref q13]) (rest := []) ⟨hx, hb, hml, hown, hts⟩ (c_Hill_shades l ev dC dI cA q1 q13 q14 q15 q16 q17 q18 q19 q20 q21 q13 q22 q23 u4 u5 u6 u7 hg H.size) (cwV 1 hts (zgV zw_886 zw_887 zw_888 zw_105 zw_889) rfl rfl rfl hd_Hill_shades ⟨Nat.le_of_ble_eq_true rfl, Nat.le_of_ble_eq_true rfl⟩) (xv_preV (T := TX2) (N := 14) hE hA hS hK hP hD (isC := [1, 2, 3, 4, 5]) (by decide +kernel) hC (q0 := 1) (ci := 2) rfl rfl) rfl rfl hl.1 rfl (lv_room (Nat.le_of_ble_eq_true rfl)) dX10_shade_16 ⟨Nat.le_refl _, Nat.le_refl _⟩) hP hD hS hA (by decide +kernel) rfl hC rfl rfl (fun H locs hP hD hS => ?_)
    obtain rfl := Option.some.inj hf
    exact hret _ _ _ _ rfl dX10_shade_19 hP hD hS
theorem dX10_gains_0 : decode cX10_gains 0 = .ok (.aload_n 0, 1) := by decide +kernel
theorem dX10_gains_1 : decode cX10_gains 1 = .ok (.getfield 10, 3) := by decide +kernel
theorem dX10_gains_4 : decode cX10_gains 4 = .ok (.iload_n 1, 1) := by decide +kernel
theorem dX10_gains_5 : decode cX10_gains 5 = .ok (.invokevirtual 230, 3) := by decide +kernel
theorem dX10_gains_8 : decode cX10_gains 8 = .ok (.ifCond .eq 36, 3) := by decide +kernel
theorem dX10_gains_11 : decode cX10_gains 11 = .ok (.aload_n 0, 1) := by decide +kernel
theorem dX10_gains_12 : decode cX10_gains 12 = .ok (.iload_n 2, 1) := by decide +kernel
theorem dX10_gains_13 : decode cX10_gains 13 = .ok (.iload_n 3, 1) := by decide +kernel
theorem dX10_gains_14 : decode cX10_gains 14 = .ok (.iload 4, 2) := by decide +kernel
theorem dX10_gains_16 : decode cX10_gains 16 = .ok (.invokevirtual 197, 3) := by decide +kernel
theorem dX10_gains_19 : decode cX10_gains 19 = .ok (.ifCond .eq 25, 3) := by decide +kernel
theorem dX10_gains_22 : decode cX10_gains 22 = .ok (.aload_n 0, 1) := by decide +kernel
theorem dX10_gains_23 : decode cX10_gains 23 = .ok (.getfield 56, 3) := by decide +kernel
theorem dX10_gains_26 : decode cX10_gains 26 = .ok (.aload_n 0, 1) := by decide +kernel
theorem dX10_gains_27 : decode cX10_gains 27 = .ok (.getfield 10, 3) := by decide +kernel
theorem dX10_gains_30 : decode cX10_gains 30 = .ok (.getfield 99, 3) := by decide +kernel
theorem dX10_gains_33 : decode cX10_gains 33 = .ok (.iload_n 2, 1) := by decide +kernel
theorem dX10_gains_34 : decode cX10_gains 34 = .ok (.iload_n 3, 1) := by decide +kernel
theorem dX10_gains_35 : decode cX10_gains 35 = .ok (.iload 4, 2) := by decide +kernel
theorem dX10_gains_37 : decode cX10_gains 37 = .ok (.invokevirtual 201, 3) := by decide +kernel
theorem dX10_gains_40 : decode cX10_gains 40 = .ok (.iconst (-1), 1) := by decide +kernel
theorem dX10_gains_41 : decode cX10_gains 41 = .ok (.if_icmp .ne 7, 3) := by decide +kernel
theorem dX10_gains_44 : decode cX10_gains 44 = .ok (.sipush (-1000), 3) := by decide +kernel
theorem dX10_gains_47 : decode cX10_gains 47 = .ok (.ireturn, 1) := by decide +kernel
theorem dX10_gains_48 : decode cX10_gains 48 = .ok (.aload_n 0, 1) := by decide +kernel
theorem dX10_gains_49 : decode cX10_gains 49 = .ok (.getfield 10, 3) := by decide +kernel
theorem dX10_gains_52 : decode cX10_gains 52 = .ok (.aload_n 0, 1) := by decide +kernel
theorem dX10_gains_53 : decode cX10_gains 53 = .ok (.getfield 10, 3) := by decide +kernel
theorem dX10_gains_56 : decode cX10_gains 56 = .ok (.getfield 99, 3) := by decide +kernel
theorem dX10_gains_59 : decode cX10_gains 59 = .ok (.iload_n 1, 1) := by decide +kernel
theorem dX10_gains_60 : decode cX10_gains 60 = .ok (.invokevirtual 233, 3) := by decide +kernel
theorem dX10_gains_63 : decode cX10_gains 63 = .ok (.istore 5, 2) := by decide +kernel
theorem dX10_gains_65 : decode cX10_gains 65 = .ok (.aload_n 0, 1) := by decide +kernel
theorem dX10_gains_66 : decode cX10_gains 66 = .ok (.getfield 10, 3) := by decide +kernel
theorem dX10_gains_69 : decode cX10_gains 69 = .ok (.getfield 99, 3) := by decide +kernel
theorem dX10_gains_72 : decode cX10_gains 72 = .ok (.iload_n 3, 1) := by decide +kernel
theorem dX10_gains_73 : decode cX10_gains 73 = .ok (.iload 4, 2) := by decide +kernel
theorem dX10_gains_75 : decode cX10_gains 75 = .ok (.invokevirtual 208, 3) := by decide +kernel
theorem dX10_gains_78 : decode cX10_gains 78 = .ok (.aload_n 0, 1) := by decide +kernel
theorem dX10_gains_79 : decode cX10_gains 79 = .ok (.getfield 10, 3) := by decide +kernel
theorem dX10_gains_82 : decode cX10_gains 82 = .ok (.aload_n 0, 1) := by decide +kernel
theorem dX10_gains_83 : decode cX10_gains 83 = .ok (.getfield 10, 3) := by decide +kernel
theorem dX10_gains_86 : decode cX10_gains 86 = .ok (.getfield 99, 3) := by decide +kernel
theorem dX10_gains_89 : decode cX10_gains 89 = .ok (.iload_n 1, 1) := by decide +kernel
theorem dX10_gains_90 : decode cX10_gains 90 = .ok (.invokevirtual 233, 3) := by decide +kernel
theorem dX10_gains_93 : decode cX10_gains 93 = .ok (.istore 6, 2) := by decide +kernel
theorem dX10_gains_95 : decode cX10_gains 95 = .ok (.aload_n 0, 1) := by decide +kernel
theorem dX10_gains_96 : decode cX10_gains 96 = .ok (.getfield 10, 3) := by decide +kernel
theorem dX10_gains_99 : decode cX10_gains 99 = .ok (.getfield 99, 3) := by decide +kernel
theorem dX10_gains_102 : decode cX10_gains 102 = .ok (.iload 4, 2) := by decide +kernel
theorem dX10_gains_104 : decode cX10_gains 104 = .ok (.iload_n 3, 1) := by decide +kernel
theorem dX10_gains_105 : decode cX10_gains 105 = .ok (.invokevirtual 208, 3) := by decide +kernel
theorem dX10_gains_108 : decode cX10_gains 108 = .ok (.iload 5, 2) := by decide +kernel
theorem dX10_gains_110 : decode cX10_gains 110 = .ok (.iload 6, 2) := by decide +kernel
theorem dX10_gains_112 : decode cX10_gains 112 = .ok (.isub, 1) := by decide +kernel
theorem dX10_gains_113 : decode cX10_gains 113 = .ok (.ireturn, 1) := by decide +kernel
theorem zw_909 : (Jvm.Cond.code ({ cls := "HillSchool", name := "gains", desc := "(IIII)I" } : Jvm.MethodName) prog_1_method_26_code (7 : Nat) (Option.some Jvm.ClassFile.FieldType.int)) ∈ zall := zmemG (zmj_4 86 rfl) rfl
abbrev w_HS_gains : List Cond := .code yX10_gains cX10_gains 7 (some .int) :: zall
abbrev rm_HS_gains : Room := { frames := 5, cells := 0, slots := 0, locals := 138 }
theorem hd_HS_gains : yX10_gains.cls = "HillSchool" ∧ yX10_gains.cls ≠ "java/lang/invoke/MethodHandle" ∧ yX10_gains.cls ≠ "java/lang/invoke/VarHandle" ∧ (parseMethodDescriptor yX10_gains.desc).map (fun d => d.parameters.length) = some 4 := by decide +kernel
def wd_HS_gains (cA : Nat → ClassId) (q0 q1 q2 q3 q4 q5 q6 q7 q8 q9 q10 q11 q12 q13 q14 q15 q16 q17 q18 q19 q20 q21 q22 q23 q24 q25 : Nat) (u0 u1 u2 u3 u4 : Int) (i_hill_children : Int) (i_hill_parishes : Int) (i_hill_laws : Int) (i_hill_inForce : Int) (i_hill_columns_many : Int) (i_hill_strengths : Nat → Int) (i_hill_expelled : Nat → Int) (i_hill_places : Nat → Int) (i_hill_terms : Nat → Int) (i_hill_orders : Nat → Int) (i_hill_ordered : Nat → Int) (i_judge_piled : Int) (i_judge_tiring : Int) (i_judge_barred : Int) (i_judge_words : Nat → Int) (i_judge_pile : Nat → Int) (i_hill_columns_heights : Nat → Int) (i_hill_columns_weights : Nat → Int) : va_W := [(q0, .inr (10, [.ref q1, .ref q2, .ref q3, .ref q4, .int (Int32.ofInt u0), .int (Int32.ofInt u1), .int (Int32.ofInt u2), .ref q5, .int (Int32.ofInt u3), .ref q6, .ref q7, .ref q8, .ref q9, .ref q10, .ref q11, .ref q12])), (q1, .inr (2, [.ref q13, .int (Int32.ofInt i_hill_children), .ref q14, .ref q15, .ref q16, .int (Int32.ofInt i_hill_parishes), .ref q17, .ref q18, .ref q19, .int (Int32.ofInt i_hill_laws), .ref q20, .ref q21, .int (Int32.ofInt i_hill_inForce), .int (Int32.ofInt u4)])), (q7, .inr (3, [.ref q1, .ref q22, .ref q23, .int (Int32.ofInt i_judge_piled), .int (Int32.ofInt i_judge_tiring), .int (Int32.ofInt i_judge_barred)])), (q13, .inr (1, [.int (Int32.ofInt i_hill_columns_many), .ref q24, .ref q25])), (q14, .inl (cA 0, 6, .inl (za i_hill_strengths))), (q15, .inl (cA 0, 6, .inl (za i_hill_expelled))), (q17, .inl (cA 0, 6, .inl (za i_hill_places))), (q18, .inl (cA 0, 4, .inl (za i_hill_terms))), (q20, .inl (cA 0, 2544, .inl (za i_hill_orders))), (q21, .inl (cA 0, 6, .inl (za i_hill_ordered))), (q22, .inl (cA 0, 8, .inl (za i_judge_words))), (q23, .inl (cA 0, 32, .inl (za i_judge_pile))), (q24, .inl (cA 0, 12, .inl (za i_hill_columns_heights))), (q25, .inl (cA 0, 120, .inl (za i_hill_columns_weights)))]
def wf_HS_gains (cA : Nat → ClassId) (q0 q1 q2 q3 q4 q5 q6 q7 q8 q9 q10 q11 q12 q13 q14 q15 q16 q17 q18 q19 q20 q21 q22 q23 q24 q25 : Nat) (u0 u1 u2 u3 u4 : Int) (i_hill_children : Int) (i_hill_parishes : Int) (i_hill_laws : Int) (i_hill_inForce : Int) (i_hill_columns_many : Int) (i_hill_strengths : Nat → Int) (i_hill_expelled : Nat → Int) (i_hill_places : Nat → Int) (i_hill_terms : Nat → Int) (i_hill_orders : Nat → Int) (i_hill_ordered : Nat → Int) (o : Int × Int × Int × Int × (Nat → Int) × (Nat → Int) × (Nat → Int) × (Nat → Int)) : va_W := wd_HS_gains cA q0 q1 q2 q3 q4 q5 q6 q7 q8 q9 q10 q11 q12 q13 q14 q15 q16 q17 q18 q19 q20 q21 q22 q23 q24 q25 u0 u1 u2 u3 u4 i_hill_children i_hill_parishes i_hill_laws i_hill_inForce i_hill_columns_many i_hill_strengths i_hill_expelled i_hill_places i_hill_terms i_hill_orders i_hill_ordered o.2.1 o.2.2.1 o.2.2.2.1 o.2.2.2.2.1 o.2.2.2.2.2.1 o.2.2.2.2.2.2.1 o.2.2.2.2.2.2.2
def f_HS_gains (x1 : Int) (x2 : Int) (x3 : Int) (x4 : Int) (i_hill_children : Int) (i_hill_parishes : Int) (i_hill_laws : Int) (i_hill_inForce : Int) (i_hill_columns_many : Int) (i_hill_strengths : Nat → Int) (i_hill_expelled : Nat → Int) (i_hill_places : Nat → Int) (i_hill_terms : Nat → Int) (i_hill_orders : Nat → Int) (i_hill_ordered : Nat → Int) (i_judge_piled : Int) (i_judge_tiring : Int) (i_judge_barred : Int) (i_judge_words : Nat → Int) (i_judge_pile : Nat → Int) (i_hill_columns_heights : Nat → Int) (i_hill_columns_weights : Nat → Int) : Option (Int × Int × Int × Int × (Nat → Int) × (Nat → Int) × (Nat → Int) × (Nat → Int)) :=
  zd1 (f_Hill_hasParish x1 i_hill_parishes) fun v1 =>
  if zi_w v1 = 0 then
    some ((-1000), i_judge_piled, i_judge_tiring, i_judge_barred, i_judge_words, i_judge_pile, i_hill_columns_heights, i_hill_columns_weights)
  else
    zd1 (f_HS_knows x2 x3 x4 i_hill_children i_hill_columns_many) fun v2 =>
    if zi_w v2 = 0 then
      some ((-1000), i_judge_piled, i_judge_tiring, i_judge_barred, i_judge_words, i_judge_pile, i_hill_columns_heights, i_hill_columns_weights)
    else
      zd6 (f_Judge_effortOn x2 x3 x4 i_hill_columns_many i_hill_children i_hill_laws i_hill_inForce i_hill_columns_heights i_hill_columns_weights i_hill_strengths i_hill_expelled i_hill_terms i_hill_orders i_hill_ordered i_judge_piled i_judge_tiring i_judge_barred i_judge_words i_judge_pile) fun v3 v4 v5 v6 a7 a8 =>
      if zi_w v3 ≠ zi_w (-1) then
        zd1 (f_Hill_shadeOf x1 i_hill_parishes i_hill_columns_many i_hill_places i_hill_terms i_hill_columns_heights) fun v9 =>
        zd2 (f_Columns_move x3 x4 i_hill_columns_many i_hill_columns_heights i_hill_columns_weights) fun a10 a11 =>
        zd1 (f_Hill_shadeOf x1 i_hill_parishes i_hill_columns_many i_hill_places i_hill_terms a10) fun v12 =>
        zd2 (f_Columns_move x4 x3 i_hill_columns_many a10 a11) fun a13 a14 =>
        zn (v9 - v12) fun v15 =>
        some (v15, v4, v5, v6, a7, a8, a13, a14)
      else
        some ((-1000), v4, v5, v6, a7, a8, i_hill_columns_heights, i_hill_columns_weights)
set_option maxHeartbeats 4000000 in
set_option maxRecDepth 100000 in
theorem c_HS_gains (l : Launch) (ev : zEv) (dC : Nat → ClassId) (dI : Nat → Nat → Nat) (cA : Nat → ClassId) (q0 q1 q2 q3 q4 q5 q6 q7 q8 q9 q10 q11 q12 q13 q14 q15 q16 q17 q18 q19 q20 q21 q22 q23 q24 q25 : Nat) (u0 u1 u2 u3 u4 : Int) {x1 x2 x3 x4 : Int} {i_hill_children : Int} {i_hill_parishes : Int} {i_hill_laws : Int} {i_hill_inForce : Int} {i_hill_columns_many : Int} {i_hill_strengths : Nat → Int} {i_hill_expelled : Nat → Int} {i_hill_places : Nat → Int} {i_hill_terms : Nat → Int} {i_hill_orders : Nat → Int} {i_hill_ordered : Nat → Int} {i_judge_piled : Int} {i_judge_tiring : Int} {i_judge_barred : Int} {i_judge_words : Nat → Int} {i_judge_pile : Nat → Int} {i_hill_columns_heights : Nat → Int} {i_hill_columns_weights : Nat → Int} {out : Int × Int × Int × Int × (Nat → Int) × (Nat → Int) × (Nat → Int) × (Nat → Int)} (hf : f_HS_gains x1 x2 x3 x4 i_hill_children i_hill_parishes i_hill_laws i_hill_inForce i_hill_columns_many i_hill_strengths i_hill_expelled i_hill_places i_hill_terms i_hill_orders i_hill_ordered i_judge_piled i_judge_tiring i_judge_barred i_judge_words i_judge_pile i_hill_columns_heights i_hill_columns_weights = some out) : xc_I l ev (dC, dI) vwCl (tyl cA) yX10_gains w_HS_gains rm_HS_gains [.ref q0, .int (Int32.ofInt x1), .int (Int32.ofInt x2), .int (Int32.ofInt x3), .int (Int32.ofInt x4)] (wd_HS_gains cA q0 q1 q2 q3 q4 q5 q6 q7 q8 q9 q10 q11 q12 q13 q14 q15 q16 q17 q18 q19 q20 q21 q22 q23 q24 q25 u0 u1 u2 u3 u4 i_hill_children i_hill_parishes i_hill_laws i_hill_inForce i_hill_columns_many i_hill_strengths i_hill_expelled i_hill_places i_hill_terms i_hill_orders i_hill_ordered i_judge_piled i_judge_tiring i_judge_barred i_judge_words i_judge_pile i_hill_columns_heights i_hill_columns_weights) (wf_HS_gains cA q0 q1 q2 q3 q4 q5 q6 q7 q8 q9 q10 q11 q12 q13 q14 q15 q16 q17 q18 q19 q20 q21 q22 q23 q24 q25 u0 u1 u2 u3 u4 i_hill_children i_hill_parishes i_hill_laws i_hill_inForce i_hill_columns_many i_hill_strengths i_hill_expelled i_hill_places i_hill_terms i_hill_orders i_hill_ordered out) out.1 := by
  refine xv_startI (cc := cX10_gains) (maxL := 7) (rt := .int) (by decide +kernel) rfl (Nat.le_of_ble_eq_true rfl) ?_
  intro p e s m args below meth c A Q H ls hx hb hml hts hown hK hA hP hD hS hl hE hret
  have hown : s.vm.findClass "HillSchool" = some m.cls := hown
  have hz : ∀ w ∈ zall, w.before args s = true := fun w h => hts w (List.mem_cons_of_mem _ h)
  have hl : lv_has ls 7 [(0, .ref q0), (1, .int (Int32.ofInt x1)), (2, .int (Int32.ofInt x2)), (3, .int (Int32.ofInt x3)), (4, .int (Int32.ofInt x4))] := hl
  unfold f_HS_gains at hf
  refine lv_aload_n hx hb dX10_gains_0 rfl (lv_at hl 0 rfl) ?_
  refine va_get (D := (dC, dI)) (ci := 10) (v := .ref q1) (C := RX10) (T := TX10) (N := 16) hx hb hz zi_X10 hown hK hP 0 rfl rfl 0 (by decide) (hz _ zw_477) (fun _ h9 => h9) rfl dX10_gains_1 ?_
  refine lv_iload_n hx hb dX10_gains_4 rfl (lv_at hl 1 rfl) ?_
  refine xe_d1 hf (fun v1 hg hf => ?_)
  have hC : ([1] : List Nat).map (fun i => (wd_HS_gains cA q0 q1 q2 q3 q4 q5 q6 q7 q8 q9 q10 q11 q12 q13 q14 q15 q16 q17 q18 q19 q20 q21 q22 q23 q24 q25 u0 u1 u2 u3 u4 i_hill_children i_hill_parishes i_hill_laws i_hill_inForce i_hill_columns_many i_hill_strengths i_hill_expelled i_hill_places i_hill_terms i_hill_orders i_hill_ordered i_judge_piled i_judge_tiring i_judge_barred i_judge_words i_judge_pile i_hill_columns_heights i_hill_columns_weights)[i]?) = (wd_Hill_hasParish cA q1 q13 q14 q15 q16 q17 q18 q19 q20 q21 i_hill_children i_hill_laws i_hill_inForce u4 i_hill_parishes).map some := rfl
  refine xv_afterI (ws' := (wd_HS_gains cA q0 q1 q2 q3 q4 q5 q6 q7 q8 q9 q10 q11 q12 q13 q14 q15 q16 q17 q18 q19 q20 q21 q22 q23 q24 q25 u0 u1 u2 u3 u4 i_hill_children i_hill_parishes i_hill_laws i_hill_inForce i_hill_columns_many i_hill_strengths i_hill_expelled i_hill_places i_hill_terms i_hill_orders i_hill_ordered i_judge_piled i_judge_tiring i_judge_barred i_judge_words i_judge_pile i_hill_columns_heights i_hill_columns_weights)) (isC := [1]) (ps := [none, some 0, none, none, none, none, none, none, none, none, none, none, none, none]) (va_runV (As := [.int (Int32.ofInt x1)]) (rest := []) ⟨hx, hb, hml, hown, hts⟩ (c_Hill_hasParish l ev dC dI cA q1 q13 q14 q15 q16 q17 q18 q19 q20 q21 i_hill_children i_hill_laws i_hill_inForce u4 hg H.size) (cwV 1 hts (zgV zw_904 zw_895 zw_896 zw_105 zw_897) rfl rfl rfl hd_Hill_hasParish ⟨Nat.le_of_ble_eq_true rfl, Nat.le_of_ble_eq_true rfl⟩) (xv_preV (T := TX2) (N := 14) hE hA hS hK hP hD (isC := [1]) (by decide +kernel) hC (q0 := 1) (ci := 2) rfl rfl) rfl rfl hl.1 rfl (lv_room (Nat.le_of_ble_eq_true rfl)) dX10_gains_5 ⟨Nat.le_refl _, Nat.le_refl _⟩) hP hD hS hA (by decide +kernel) rfl hC rfl rfl (fun H locs hP hD hS => ?_)
  refine xi_if_eq (tgt := 44) hx hb dX10_gains_8 (by decide) hf (fun hf => ?_) (fun hf => ?_)
  · refine lv_sipush (v := Int32.ofInt (-1000)) hx hb dX10_gains_44 (by decide) ?_
    obtain rfl := Option.some.inj hf
    exact hret _ _ _ _ rfl dX10_gains_47 hP hD hS
  · refine lv_aload_n hx hb dX10_gains_11 rfl (lv_at hl 0 rfl) ?_
    refine lv_iload_n hx hb dX10_gains_12 rfl (lv_at hl 2 rfl) ?_
    refine lv_iload_n hx hb dX10_gains_13 rfl (lv_at hl 3 rfl) ?_
    refine lv_iload hx hb dX10_gains_14 (lv_at hl 4 rfl) ?_
    refine xe_d1 hf (fun v2 hg hf => ?_)
    have hC : ([0, 1, 3] : List Nat).map (fun i => (wd_HS_gains cA q0 q1 q2 q3 q4 q5 q6 q7 q8 q9 q10 q11 q12 q13 q14 q15 q16 q17 q18 q19 q20 q21 q22 q23 q24 q25 u0 u1 u2 u3 u4 i_hill_children i_hill_parishes i_hill_laws i_hill_inForce i_hill_columns_many i_hill_strengths i_hill_expelled i_hill_places i_hill_terms i_hill_orders i_hill_ordered i_judge_piled i_judge_tiring i_judge_barred i_judge_words i_judge_pile i_hill_columns_heights i_hill_columns_weights)[i]?) = (wd_HS_knows cA q0 q1 q2 q3 q4 q5 q6 q7 q8 q9 q10 q11 q12 q13 q14 q15 q16 q17 q18 q19 q20 q21 q24 q25 u0 u1 u2 u3 i_hill_parishes i_hill_laws i_hill_inForce u4 i_hill_children i_hill_columns_many).map some := rfl
    refine xv_afterI (ws' := (wd_HS_gains cA q0 q1 q2 q3 q4 q5 q6 q7 q8 q9 q10 q11 q12 q13 q14 q15 q16 q17 q18 q19 q20 q21 q22 q23 q24 q25 u0 u1 u2 u3 u4 i_hill_children i_hill_parishes i_hill_laws i_hill_inForce i_hill_columns_many i_hill_strengths i_hill_expelled i_hill_places i_hill_terms i_hill_orders i_hill_ordered i_judge_piled i_judge_tiring i_judge_barred i_judge_words i_judge_pile i_hill_columns_heights i_hill_columns_weights)) (isC := [0, 1, 3]) (ps := [some 0, some 1, none, some 2, none, none, none, none, none, none, none, none, none, none]) (va_runV (As := [.int (Int32.ofInt x2), .int (Int32.ofInt x3), .int (Int32.ofInt x4)]) (rest := []) ⟨hx, hb, hml, hown, hts⟩ (c_HS_knows l ev dC dI cA q0 q1 q2 q3 q4 q5 q6 q7 q8 q9 q10 q11 q12 q13 q14 q15 q16 q17 q18 q19 q20 q21 q24 q25 u0 u1 u2 u3 i_hill_parishes i_hill_laws i_hill_inForce u4 hg H.size) (cwV 3 hts (zgV zw_799 zw_801 zw_13 zw_104 zw_802) rfl rfl rfl hd_HS_knows ⟨Nat.le_of_ble_eq_true rfl, Nat.le_of_ble_eq_true rfl⟩) (xv_preV (T := TX10) (N := 16) hE hA hS hK hP hD (isC := [0, 1, 3]) (by decide +kernel) hC (q0 := 0) (ci := 10) rfl rfl) rfl rfl hl.1 rfl (lv_room (Nat.le_of_ble_eq_true rfl)) dX10_gains_16 ⟨Nat.le_refl _, Nat.le_refl _⟩) hP hD hS hA (by decide +kernel) rfl hC rfl rfl (fun H locs hP hD hS => ?_)
    refine xi_if_eq (tgt := 44) hx hb dX10_gains_19 (by decide) hf (fun hf => ?_) (fun hf => ?_)
    · refine lv_sipush (v := Int32.ofInt (-1000)) hx hb dX10_gains_44 (by decide) ?_
      obtain rfl := Option.some.inj hf
      exact hret _ _ _ _ rfl dX10_gains_47 hP hD hS
    · refine lv_aload_n hx hb dX10_gains_22 rfl (lv_at hl 0 rfl) ?_
      refine va_get (D := (dC, dI)) (ci := 10) (v := .ref q7) (C := RX10) (T := TX10) (N := 16) hx hb hz zi_X10 hown hK hP 0 rfl rfl 10 (by decide) (hz _ zw_487) (fun _ h9 => h9) rfl dX10_gains_23 ?_
      refine lv_aload_n hx hb dX10_gains_26 rfl (lv_at hl 0 rfl) ?_
      refine va_get (D := (dC, dI)) (ci := 10) (v := .ref q1) (C := RX10) (T := TX10) (N := 16) hx hb hz zi_X10 hown hK hP 0 rfl rfl 0 (by decide) (hz _ zw_477) (fun _ h9 => h9) rfl dX10_gains_27 ?_
      refine va_getN (D := (dC, dI)) (ci := 2) (v := .ref q13) (C := RX2) (T := TX2) (N := 14) hx hb hz zi_X2 hown hK hP 1 rfl rfl 0 (by decide) (va_Nw.use rfl (hE.1.1 _ zw_169)) (fun _ h9 => h9) rfl dX10_gains_30 ?_
      refine lv_iload_n hx hb dX10_gains_33 rfl (lv_at hl 2 rfl) ?_
      refine lv_iload_n hx hb dX10_gains_34 rfl (lv_at hl 3 rfl) ?_
      refine lv_iload hx hb dX10_gains_35 (lv_at hl 4 rfl) ?_
      refine xe_d6 hf (fun v3 v4 v5 v6 a7 a8 hg hf => ?_)
      have hC : ([2, 3, 1, 10, 11, 12, 13, 4, 5, 7, 8, 9] : List Nat).map (fun i => (wd_HS_gains cA q0 q1 q2 q3 q4 q5 q6 q7 q8 q9 q10 q11 q12 q13 q14 q15 q16 q17 q18 q19 q20 q21 q22 q23 q24 q25 u0 u1 u2 u3 u4 i_hill_children i_hill_parishes i_hill_laws i_hill_inForce i_hill_columns_many i_hill_strengths i_hill_expelled i_hill_places i_hill_terms i_hill_orders i_hill_ordered i_judge_piled i_judge_tiring i_judge_barred i_judge_words i_judge_pile i_hill_columns_heights i_hill_columns_weights)[i]?) = (wd_Judge_effortOn cA q7 q1 q22 q23 q13 q24 q25 q13 q14 q15 q16 q17 q18 q19 q20 q21 i_hill_parishes u4 i_hill_columns_many i_hill_children i_hill_laws i_hill_inForce i_hill_columns_heights i_hill_columns_weights i_hill_strengths i_hill_expelled i_hill_terms i_hill_orders i_hill_ordered i_judge_piled i_judge_tiring i_judge_barred i_judge_words i_judge_pile).map some := rfl
      refine xv_afterI (ws' := (wd_HS_gains cA q0 q1 q2 q3 q4 q5 q6 q7 q8 q9 q10 q11 q12 q13 q14 q15 q16 q17 q18 q19 q20 q21 q22 q23 q24 q25 u0 u1 u2 u3 u4 i_hill_children i_hill_parishes i_hill_laws i_hill_inForce i_hill_columns_many i_hill_strengths i_hill_expelled i_hill_places i_hill_terms i_hill_orders i_hill_ordered v4 v5 v6 a7 a8 i_hill_columns_heights i_hill_columns_weights)) (isC := [2, 3, 1, 10, 11, 12, 13, 4, 5, 7, 8, 9]) (ps := [none, some 2, some 0, some 1, some 7, some 8, none, some 9, some 10, some 11, some 3, some 4, some 5, some 6]) (va_runV (As := [.ref q13, .int (Int32.ofInt x2), .int (Int32.ofInt x3), .int (Int32.ofInt x4)]) (rest := []) ⟨hx, hb, hml, hown, hts⟩ (c_Judge_effortOn l ev dC dI cA q7 q1 q22 q23 q13 q24 q25 q13 q14 q15 q16 q17 q18 q19 q20 q21 i_hill_parishes u4 hg H.size) (cwV 4 hts (zgV zw_803 zw_804 zw_805 zw_108 zw_806) rfl rfl rfl hd_Judge_effortOn ⟨Nat.le_of_ble_eq_true rfl, Nat.le_of_ble_eq_true rfl⟩) (xv_preV (T := TX3) (N := 6) hE hA hS hK hP hD (isC := [2, 3, 1, 10, 11, 12, 13, 4, 5, 7, 8, 9]) (by decide +kernel) hC (q0 := 2) (ci := 3) rfl rfl) rfl rfl hl.1 rfl (lv_room (Nat.le_of_ble_eq_true rfl)) dX10_gains_37 ⟨Nat.le_refl _, Nat.le_refl _⟩) hP hD hS hA (by decide +kernel) rfl hC rfl rfl (fun H locs hP hD hS => ?_)
      refine lv_iconst (v := Int32.ofInt (-1)) hx hb dX10_gains_40 rfl ?_
      refine xi_icmp_ne (tgt := 48) hx hb dX10_gains_41 (by decide) hf (fun hf => ?_) (fun hf => ?_)
      · refine lv_aload_n hx hb dX10_gains_48 rfl (lv_at hl 0 rfl) ?_
        refine va_get (D := (dC, dI)) (ci := 10) (v := .ref q1) (C := RX10) (T := TX10) (N := 16) hx hb hz zi_X10 hown hK hP 0 rfl rfl 0 (by decide) (hz _ zw_477) (fun _ h9 => h9) rfl dX10_gains_49 ?_
        refine lv_aload_n hx hb dX10_gains_52 rfl (lv_at hl 0 rfl) ?_
        refine va_get (D := (dC, dI)) (ci := 10) (v := .ref q1) (C := RX10) (T := TX10) (N := 16) hx hb hz zi_X10 hown hK hP 0 rfl rfl 0 (by decide) (hz _ zw_477) (fun _ h9 => h9) rfl dX10_gains_53 ?_
        refine va_getN (D := (dC, dI)) (ci := 2) (v := .ref q13) (C := RX2) (T := TX2) (N := 14) hx hb hz zi_X2 hown hK hP 1 rfl rfl 0 (by decide) (va_Nw.use rfl (hE.1.1 _ zw_169)) (fun _ h9 => h9) rfl dX10_gains_56 ?_
        refine lv_iload_n hx hb dX10_gains_59 rfl (lv_at hl 1 rfl) ?_
        refine xe_d1 hf (fun v9 hg hf => ?_)
        have hC : ([1, 3, 6, 7, 12] : List Nat).map (fun i => (wd_HS_gains cA q0 q1 q2 q3 q4 q5 q6 q7 q8 q9 q10 q11 q12 q13 q14 q15 q16 q17 q18 q19 q20 q21 q22 q23 q24 q25 u0 u1 u2 u3 u4 i_hill_children i_hill_parishes i_hill_laws i_hill_inForce i_hill_columns_many i_hill_strengths i_hill_expelled i_hill_places i_hill_terms i_hill_orders i_hill_ordered v4 v5 v6 a7 a8 i_hill_columns_heights i_hill_columns_weights)[i]?) = (wd_Hill_shadeOf cA q1 q13 q14 q15 q16 q17 q18 q19 q20 q21 q13 q24 q25 i_hill_children i_hill_laws i_hill_inForce u4 i_hill_parishes i_hill_columns_many i_hill_places i_hill_terms i_hill_columns_heights).map some := rfl
        refine xv_afterI (ws' := (wd_HS_gains cA q0 q1 q2 q3 q4 q5 q6 q7 q8 q9 q10 q11 q12 q13 q14 q15 q16 q17 q18 q19 q20 q21 q22 q23 q24 q25 u0 u1 u2 u3 u4 i_hill_children i_hill_parishes i_hill_laws i_hill_inForce i_hill_columns_many i_hill_strengths i_hill_expelled i_hill_places i_hill_terms i_hill_orders i_hill_ordered v4 v5 v6 a7 a8 i_hill_columns_heights i_hill_columns_weights)) (isC := [1, 3, 6, 7, 12]) (ps := [none, some 0, none, some 1, none, none, some 2, some 3, none, none, none, none, some 4, none]) (va_runV (As := [.ref q13, .int (Int32.ofInt x1)]) (rest := []) ⟨hx, hb, hml, hown, hts⟩ (c_Hill_shadeOf l ev dC dI cA q1 q13 q14 q15 q16 q17 q18 q19 q20 q21 q13 q24 q25 i_hill_children i_hill_laws i_hill_inForce u4 hg H.size) (cwV 2 hts (zgV zw_905 zw_891 zw_892 zw_105 zw_893) rfl rfl rfl hd_Hill_shadeOf ⟨Nat.le_of_ble_eq_true rfl, Nat.le_of_ble_eq_true rfl⟩) (xv_preV (T := TX2) (N := 14) hE hA hS hK hP hD (isC := [1, 3, 6, 7, 12]) (by decide +kernel) hC (q0 := 1) (ci := 2) rfl rfl) rfl rfl hl.1 rfl (lv_room (Nat.le_of_ble_eq_true rfl)) dX10_gains_60 ⟨Nat.le_refl _, Nat.le_refl _⟩) hP hD hS hA (by decide +kernel) rfl hC rfl rfl (fun H locs hP hD hS => ?_)
        refine lv_istore (lv' := [(5, .int (Int32.ofInt v9)), (0, .ref q0), (1, .int (Int32.ofInt x1)), (2, .int (Int32.ofInt x2)), (3, .int (Int32.ofInt x3)), (4, .int (Int32.ofInt x4))]) hx hb dX10_gains_63 hl (by decide) rfl (fun ls hl => ?_)
        refine lv_aload_n hx hb dX10_gains_65 rfl (lv_at hl 1 rfl) ?_
        refine va_get (D := (dC, dI)) (ci := 10) (v := .ref q1) (C := RX10) (T := TX10) (N := 16) hx hb hz zi_X10 hown hK hP 0 rfl rfl 0 (by decide) (hz _ zw_477) (fun _ h9 => h9) rfl dX10_gains_66 ?_
        refine va_getN (D := (dC, dI)) (ci := 2) (v := .ref q13) (C := RX2) (T := TX2) (N := 14) hx hb hz zi_X2 hown hK hP 1 rfl rfl 0 (by decide) (va_Nw.use rfl (hE.1.1 _ zw_169)) (fun _ h9 => h9) rfl dX10_gains_69 ?_
        refine lv_iload_n hx hb dX10_gains_72 rfl (lv_at hl 4 rfl) ?_
        refine lv_iload hx hb dX10_gains_73 (lv_at hl 5 rfl) ?_
        refine xe_d2 hf (fun a10 a11 hg hf => ?_)
        have hC : ([3, 12, 13] : List Nat).map (fun i => (wd_HS_gains cA q0 q1 q2 q3 q4 q5 q6 q7 q8 q9 q10 q11 q12 q13 q14 q15 q16 q17 q18 q19 q20 q21 q22 q23 q24 q25 u0 u1 u2 u3 u4 i_hill_children i_hill_parishes i_hill_laws i_hill_inForce i_hill_columns_many i_hill_strengths i_hill_expelled i_hill_places i_hill_terms i_hill_orders i_hill_ordered v4 v5 v6 a7 a8 i_hill_columns_heights i_hill_columns_weights)[i]?) = (wd_Columns_move cA q13 q24 q25 i_hill_columns_many i_hill_columns_heights i_hill_columns_weights).map some := rfl
        refine xv_afterV (ws' := (wd_HS_gains cA q0 q1 q2 q3 q4 q5 q6 q7 q8 q9 q10 q11 q12 q13 q14 q15 q16 q17 q18 q19 q20 q21 q22 q23 q24 q25 u0 u1 u2 u3 u4 i_hill_children i_hill_parishes i_hill_laws i_hill_inForce i_hill_columns_many i_hill_strengths i_hill_expelled i_hill_places i_hill_terms i_hill_orders i_hill_ordered v4 v5 v6 a7 a8 a10 a11)) (isC := [3, 12, 13]) (ps := [none, none, none, some 0, none, none, none, none, none, none, none, none, some 1, some 2]) (va_runV (As := [.int (Int32.ofInt x3), .int (Int32.ofInt x4)]) (rest := []) ⟨hx, hb, hml, hown, hts⟩ (c_Columns_move l ev dC dI cA q13 q24 q25 hg H.size) (cwV 2 hts (zgV zw_850 zw_851 zw_852 zw_106 zw_853) rfl rfl rfl hd_Columns_move ⟨Nat.le_of_ble_eq_true rfl, Nat.le_of_ble_eq_true rfl⟩) (xv_preV (T := TX1) (N := 3) hE hA hS hK hP hD (isC := [3, 12, 13]) (by decide +kernel) hC (q0 := 3) (ci := 1) rfl rfl) rfl rfl hl.1 rfl (lv_room (Nat.le_of_ble_eq_true rfl)) dX10_gains_75 ⟨Nat.le_refl _, Nat.le_refl _⟩) hP hD hS hA (by decide +kernel) rfl hC rfl rfl (fun H locs hP hD hS => ?_)
        refine lv_aload_n hx hb dX10_gains_78 rfl (lv_at hl 1 rfl) ?_
        refine va_get (D := (dC, dI)) (ci := 10) (v := .ref q1) (C := RX10) (T := TX10) (N := 16) hx hb hz zi_X10 hown hK hP 0 rfl rfl 0 (by decide) (hz _ zw_477) (fun _ h9 => h9) rfl dX10_gains_79 ?_
        refine lv_aload_n hx hb dX10_gains_82 rfl (lv_at hl 1 rfl) ?_
        refine va_get (D := (dC, dI)) (ci := 10) (v := .ref q1) (C := RX10) (T := TX10) (N := 16) hx hb hz zi_X10 hown hK hP 0 rfl rfl 0 (by decide) (hz _ zw_477) (fun _ h9 => h9) rfl dX10_gains_83 ?_
        refine va_getN (D := (dC, dI)) (ci := 2) (v := .ref q13) (C := RX2) (T := TX2) (N := 14) hx hb hz zi_X2 hown hK hP 1 rfl rfl 0 (by decide) (va_Nw.use rfl (hE.1.1 _ zw_169)) (fun _ h9 => h9) rfl dX10_gains_86 ?_
        refine lv_iload_n hx hb dX10_gains_89 rfl (lv_at hl 2 rfl) ?_
        refine xe_d1 hf (fun v12 hg hf => ?_)
        have hC : ([1, 3, 6, 7, 12] : List Nat).map (fun i => (wd_HS_gains cA q0 q1 q2 q3 q4 q5 q6 q7 q8 q9 q10 q11 q12 q13 q14 q15 q16 q17 q18 q19 q20 q21 q22 q23 q24 q25 u0 u1 u2 u3 u4 i_hill_children i_hill_parishes i_hill_laws i_hill_inForce i_hill_columns_many i_hill_strengths i_hill_expelled i_hill_places i_hill_terms i_hill_orders i_hill_ordered v4 v5 v6 a7 a8 a10 a11)[i]?) = (wd_Hill_shadeOf cA q1 q13 q14 q15 q16 q17 q18 q19 q20 q21 q13 q24 q25 i_hill_children i_hill_laws i_hill_inForce u4 i_hill_parishes i_hill_columns_many i_hill_places i_hill_terms a10).map some := rfl
        refine xv_afterI (ws' := (wd_HS_gains cA q0 q1 q2 q3 q4 q5 q6 q7 q8 q9 q10 q11 q12 q13 q14 q15 q16 q17 q18 q19 q20 q21 q22 q23 q24 q25 u0 u1 u2 u3 u4 i_hill_children i_hill_parishes i_hill_laws i_hill_inForce i_hill_columns_many i_hill_strengths i_hill_expelled i_hill_places i_hill_terms i_hill_orders i_hill_ordered v4 v5 v6 a7 a8 a10 a11)) (isC := [1, 3, 6, 7, 12]) (ps := [none, some 0, none, some 1, none, none, some 2, some 3, none, none, none, none, some 4, none]) (va_runV (As := [.ref q13, .int (Int32.ofInt x1)]) (rest := []) ⟨hx, hb, hml, hown, hts⟩ (c_Hill_shadeOf l ev dC dI cA q1 q13 q14 q15 q16 q17 q18 q19 q20 q21 q13 q24 q25 i_hill_children i_hill_laws i_hill_inForce u4 hg H.size) (cwV 2 hts (zgV zw_905 zw_891 zw_892 zw_105 zw_893) rfl rfl rfl hd_Hill_shadeOf ⟨Nat.le_of_ble_eq_true rfl, Nat.le_of_ble_eq_true rfl⟩) (xv_preV (T := TX2) (N := 14) hE hA hS hK hP hD (isC := [1, 3, 6, 7, 12]) (by decide +kernel) hC (q0 := 1) (ci := 2) rfl rfl) rfl rfl hl.1 rfl (lv_room (Nat.le_of_ble_eq_true rfl)) dX10_gains_90 ⟨Nat.le_refl _, Nat.le_refl _⟩) hP hD hS hA (by decide +kernel) rfl hC rfl rfl (fun H locs hP hD hS => ?_)
        refine lv_istore (lv' := [(6, .int (Int32.ofInt v12)), (5, .int (Int32.ofInt v9)), (0, .ref q0), (1, .int (Int32.ofInt x1)), (2, .int (Int32.ofInt x2)), (3, .int (Int32.ofInt x3)), (4, .int (Int32.ofInt x4))]) hx hb dX10_gains_93 hl (by decide) rfl (fun ls hl => ?_)
        refine lv_aload_n hx hb dX10_gains_95 rfl (lv_at hl 2 rfl) ?_
        refine va_get (D := (dC, dI)) (ci := 10) (v := .ref q1) (C := RX10) (T := TX10) (N := 16) hx hb hz zi_X10 hown hK hP 0 rfl rfl 0 (by decide) (hz _ zw_477) (fun _ h9 => h9) rfl dX10_gains_96 ?_
        refine va_getN (D := (dC, dI)) (ci := 2) (v := .ref q13) (C := RX2) (T := TX2) (N := 14) hx hb hz zi_X2 hown hK hP 1 rfl rfl 0 (by decide) (va_Nw.use rfl (hE.1.1 _ zw_169)) (fun _ h9 => h9) rfl dX10_gains_99 ?_
        refine lv_iload hx hb dX10_gains_102 (lv_at hl 6 rfl) ?_
        refine lv_iload_n hx hb dX10_gains_104 rfl (lv_at hl 5 rfl) ?_
        refine xe_d2 hf (fun a13 a14 hg hf => ?_)
        have hC : ([3, 12, 13] : List Nat).map (fun i => (wd_HS_gains cA q0 q1 q2 q3 q4 q5 q6 q7 q8 q9 q10 q11 q12 q13 q14 q15 q16 q17 q18 q19 q20 q21 q22 q23 q24 q25 u0 u1 u2 u3 u4 i_hill_children i_hill_parishes i_hill_laws i_hill_inForce i_hill_columns_many i_hill_strengths i_hill_expelled i_hill_places i_hill_terms i_hill_orders i_hill_ordered v4 v5 v6 a7 a8 a10 a11)[i]?) = (wd_Columns_move cA q13 q24 q25 i_hill_columns_many a10 a11).map some := rfl
        refine xv_afterV (ws' := (wd_HS_gains cA q0 q1 q2 q3 q4 q5 q6 q7 q8 q9 q10 q11 q12 q13 q14 q15 q16 q17 q18 q19 q20 q21 q22 q23 q24 q25 u0 u1 u2 u3 u4 i_hill_children i_hill_parishes i_hill_laws i_hill_inForce i_hill_columns_many i_hill_strengths i_hill_expelled i_hill_places i_hill_terms i_hill_orders i_hill_ordered v4 v5 v6 a7 a8 a13 a14)) (isC := [3, 12, 13]) (ps := [none, none, none, some 0, none, none, none, none, none, none, none, none, some 1, some 2]) (va_runV (As := [.int (Int32.ofInt x4), .int (Int32.ofInt x3)]) (rest := []) ⟨hx, hb, hml, hown, hts⟩ (c_Columns_move l ev dC dI cA q13 q24 q25 hg H.size) (cwV 2 hts (zgV zw_850 zw_851 zw_852 zw_106 zw_853) rfl rfl rfl hd_Columns_move ⟨Nat.le_of_ble_eq_true rfl, Nat.le_of_ble_eq_true rfl⟩) (xv_preV (T := TX1) (N := 3) hE hA hS hK hP hD (isC := [3, 12, 13]) (by decide +kernel) hC (q0 := 3) (ci := 1) rfl rfl) rfl rfl hl.1 rfl (lv_room (Nat.le_of_ble_eq_true rfl)) dX10_gains_105 ⟨Nat.le_refl _, Nat.le_refl _⟩) hP hD hS hA (by decide +kernel) rfl hC rfl rfl (fun H locs hP hD hS => ?_)
        refine lv_iload hx hb dX10_gains_108 (lv_at hl 1 rfl) ?_
        refine lv_iload hx hb dX10_gains_110 (lv_at hl 0 rfl) ?_
        refine xi_isub hx hb dX10_gains_112 hf (fun v15 hf => ?_)
        obtain rfl := Option.some.inj hf
        exact hret _ _ _ _ rfl dX10_gains_113 hP hD hS
      · refine lv_sipush (v := Int32.ofInt (-1000)) hx hb dX10_gains_44 (by decide) ?_
        obtain rfl := Option.some.inj hf
        exact hret _ _ _ _ rfl dX10_gains_47 hP hD hS
theorem dX10_goal_0 : decode cX10_goal 0 = .ok (.iload_n 2, 1) := by decide +kernel
theorem dX10_goal_1 : decode cX10_goal 1 = .ok (.iconst (-1), 1) := by decide +kernel
theorem dX10_goal_2 : decode cX10_goal 2 = .ok (.if_icmp .lt 9, 3) := by decide +kernel
theorem dX10_goal_5 : decode cX10_goal 5 = .ok (.iload_n 2, 1) := by decide +kernel
theorem dX10_goal_6 : decode cX10_goal 6 = .ok (.bipush 10, 2) := by decide +kernel
theorem dX10_goal_8 : decode cX10_goal 8 = .ok (.if_icmp .le 13, 3) := by decide +kernel
theorem dX10_goal_11 : decode cX10_goal 11 = .ok (.aload_n 0, 1) := by decide +kernel
theorem dX10_goal_12 : decode cX10_goal 12 = .ok (.iconst (-1), 1) := by decide +kernel
theorem dX10_goal_13 : decode cX10_goal 13 = .ok (.invokevirtual 109, 3) := by decide +kernel
theorem dX10_goal_16 : decode cX10_goal 16 = .ok (.pop, 1) := by decide +kernel
theorem dX10_goal_17 : decode cX10_goal 17 = .ok (.sipush (-1000), 3) := by decide +kernel
theorem dX10_goal_20 : decode cX10_goal 20 = .ok (.ireturn, 1) := by decide +kernel
theorem dX10_goal_21 : decode cX10_goal 21 = .ok (.aload_n 0, 1) := by decide +kernel
theorem dX10_goal_22 : decode cX10_goal 22 = .ok (.getfield 10, 3) := by decide +kernel
theorem dX10_goal_25 : decode cX10_goal 25 = .ok (.getfield 99, 3) := by decide +kernel
theorem dX10_goal_28 : decode cX10_goal 28 = .ok (.iload_n 1, 1) := by decide +kernel
theorem dX10_goal_29 : decode cX10_goal 29 = .ok (.invokevirtual 122, 3) := by decide +kernel
theorem dX10_goal_32 : decode cX10_goal 32 = .ok (.ifCond .ne 14, 3) := by decide +kernel
theorem dX10_goal_35 : decode cX10_goal 35 = .ok (.aload_n 0, 1) := by decide +kernel
theorem dX10_goal_36 : decode cX10_goal 36 = .ok (.bipush (-2), 2) := by decide +kernel
theorem dX10_goal_38 : decode cX10_goal 38 = .ok (.invokevirtual 109, 3) := by decide +kernel
theorem dX10_goal_41 : decode cX10_goal 41 = .ok (.pop, 1) := by decide +kernel
theorem dX10_goal_42 : decode cX10_goal 42 = .ok (.sipush (-1000), 3) := by decide +kernel
theorem dX10_goal_45 : decode cX10_goal 45 = .ok (.ireturn, 1) := by decide +kernel
theorem dX10_goal_46 : decode cX10_goal 46 = .ok (.aload_n 0, 1) := by decide +kernel
theorem dX10_goal_47 : decode cX10_goal 47 = .ok (.getfield 10, 3) := by decide +kernel
theorem dX10_goal_50 : decode cX10_goal 50 = .ok (.getfield 116, 3) := by decide +kernel
theorem dX10_goal_53 : decode cX10_goal 53 = .ok (.iload_n 1, 1) := by decide +kernel
theorem dX10_goal_54 : decode cX10_goal 54 = .ok (.iaload, 1) := by decide +kernel
theorem dX10_goal_55 : decode cX10_goal 55 = .ok (.istore_n 3, 1) := by decide +kernel
theorem dX10_goal_56 : decode cX10_goal 56 = .ok (.aload_n 0, 1) := by decide +kernel
theorem dX10_goal_57 : decode cX10_goal 57 = .ok (.getfield 10, 3) := by decide +kernel
theorem dX10_goal_60 : decode cX10_goal 60 = .ok (.getfield 116, 3) := by decide +kernel
theorem dX10_goal_63 : decode cX10_goal 63 = .ok (.iload_n 1, 1) := by decide +kernel
theorem dX10_goal_64 : decode cX10_goal 64 = .ok (.iload_n 2, 1) := by decide +kernel
theorem dX10_goal_65 : decode cX10_goal 65 = .ok (.iastore, 1) := by decide +kernel
theorem dX10_goal_66 : decode cX10_goal 66 = .ok (.aload_n 0, 1) := by decide +kernel
theorem dX10_goal_67 : decode cX10_goal 67 = .ok (.iload_n 3, 1) := by decide +kernel
theorem dX10_goal_68 : decode cX10_goal 68 = .ok (.invokevirtual 119, 3) := by decide +kernel
theorem dX10_goal_71 : decode cX10_goal 71 = .ok (.ireturn, 1) := by decide +kernel
theorem zw_913 : (Jvm.Cond.code ({ cls := "HillSchool", name := "goal", desc := "(II)I" } : Jvm.MethodName) prog_1_method_27_code (4 : Nat) (Option.some Jvm.ClassFile.FieldType.int)) ∈ zall := zmemG (zmj_4 90 rfl) rfl
abbrev w_HS_goal : List Cond := .code yX10_goal cX10_goal 4 (some .int) :: zall
abbrev rm_HS_goal : Room := { frames := 1, cells := 0, slots := 0, locals := 21 }
theorem hd_HS_goal : yX10_goal.cls = "HillSchool" ∧ yX10_goal.cls ≠ "java/lang/invoke/MethodHandle" ∧ yX10_goal.cls ≠ "java/lang/invoke/VarHandle" ∧ (parseMethodDescriptor yX10_goal.desc).map (fun d => d.parameters.length) = some 2 := by decide +kernel
def wd_HS_goal (cA : Nat → ClassId) (q0 q1 q2 q3 q4 q5 q6 q7 q8 q9 q10 q11 q12 q13 q14 q15 q16 q17 q18 q19 q20 q21 q22 q23 : Nat) (u0 u1 u2 u3 u4 u5 u6 : Int) (i_hill_columns_many : Int) (i_latestStatus : Int) (i_hill_changes : Int) (i_refusals : Nat → Int) (i_hill_goals : Nat → Int) : va_W := [(q0, .inr (10, [.ref q1, .ref q2, .ref q3, .ref q4, .int (Int32.ofInt u0), .int (Int32.ofInt u1), .int (Int32.ofInt u2), .ref q5, .int (Int32.ofInt i_latestStatus), .ref q6, .ref q7, .ref q8, .ref q9, .ref q10, .ref q11, .ref q12])), (q1, .inr (2, [.ref q13, .int (Int32.ofInt u3), .ref q14, .ref q15, .ref q16, .int (Int32.ofInt u4), .ref q17, .ref q18, .ref q19, .int (Int32.ofInt u5), .ref q20, .ref q21, .int (Int32.ofInt u6), .int (Int32.ofInt i_hill_changes)])), (q5, .inl (cA 0, 7, .inl (za i_refusals))), (q13, .inr (1, [.int (Int32.ofInt i_hill_columns_many), .ref q22, .ref q23])), (q19, .inl (cA 0, 12, .inl (za i_hill_goals)))]
def wf_HS_goal (cA : Nat → ClassId) (q0 q1 q2 q3 q4 q5 q6 q7 q8 q9 q10 q11 q12 q13 q14 q15 q16 q17 q18 q19 q20 q21 q22 q23 : Nat) (u0 u1 u2 u3 u4 u5 u6 : Int) (i_hill_columns_many : Int) (o : Int × Int × Int × (Nat → Int) × (Nat → Int)) : va_W := wd_HS_goal cA q0 q1 q2 q3 q4 q5 q6 q7 q8 q9 q10 q11 q12 q13 q14 q15 q16 q17 q18 q19 q20 q21 q22 q23 u0 u1 u2 u3 u4 u5 u6 i_hill_columns_many o.2.1 o.2.2.1 o.2.2.2.1 o.2.2.2.2
def f_HS_goal_11 (i_hill_columns_many : Int) (i_latestStatus : Int) (i_hill_changes : Int) (i_refusals : Nat → Int) (i_hill_goals : Nat → Int) : Option (Int × Int × Int × (Nat → Int) × (Nat → Int)) :=
  zd3 (f_HS_refuse (-1) i_latestStatus i_refusals) fun v1 v2 a3 =>
  some ((-1000), v2, i_hill_changes, a3, i_hill_goals)
def f_HS_goal (x1 : Int) (x2 : Int) (i_hill_columns_many : Int) (i_latestStatus : Int) (i_hill_changes : Int) (i_refusals : Nat → Int) (i_hill_goals : Nat → Int) : Option (Int × Int × Int × (Nat → Int) × (Nat → Int)) :=
  if zi_w x2 < zi_w (-1) then
    f_HS_goal_11 i_hill_columns_many i_latestStatus i_hill_changes i_refusals i_hill_goals
  else
    if zi_w x2 ≤ zi_w 10 then
      zd1 (f_Columns_has x1 i_hill_columns_many) fun v1 =>
      if zi_w v1 ≠ 0 then
        zg 12 i_hill_goals x1 fun v2 =>
        zs 12 i_hill_goals x1 x2 fun a3 =>
        zd3 (f_HS_accept v2 i_latestStatus i_hill_changes) fun v4 v5 v6 =>
        some (v4, v5, v6, i_refusals, a3)
      else
        zd3 (f_HS_refuse (-2) i_latestStatus i_refusals) fun v7 v8 a9 =>
        some ((-1000), v8, i_hill_changes, a9, i_hill_goals)
    else
      f_HS_goal_11 i_hill_columns_many i_latestStatus i_hill_changes i_refusals i_hill_goals
set_option maxHeartbeats 4000000 in
set_option maxRecDepth 100000 in
theorem c_HS_goal (l : Launch) (ev : zEv) (dC : Nat → ClassId) (dI : Nat → Nat → Nat) (cA : Nat → ClassId) (q0 q1 q2 q3 q4 q5 q6 q7 q8 q9 q10 q11 q12 q13 q14 q15 q16 q17 q18 q19 q20 q21 q22 q23 : Nat) (u0 u1 u2 u3 u4 u5 u6 : Int) {x1 x2 : Int} {i_hill_columns_many : Int} {i_latestStatus : Int} {i_hill_changes : Int} {i_refusals : Nat → Int} {i_hill_goals : Nat → Int} {out : Int × Int × Int × (Nat → Int) × (Nat → Int)} (hf : f_HS_goal x1 x2 i_hill_columns_many i_latestStatus i_hill_changes i_refusals i_hill_goals = some out) : xc_I l ev (dC, dI) vwCl (tyl cA) yX10_goal w_HS_goal rm_HS_goal [.ref q0, .int (Int32.ofInt x1), .int (Int32.ofInt x2)] (wd_HS_goal cA q0 q1 q2 q3 q4 q5 q6 q7 q8 q9 q10 q11 q12 q13 q14 q15 q16 q17 q18 q19 q20 q21 q22 q23 u0 u1 u2 u3 u4 u5 u6 i_hill_columns_many i_latestStatus i_hill_changes i_refusals i_hill_goals) (wf_HS_goal cA q0 q1 q2 q3 q4 q5 q6 q7 q8 q9 q10 q11 q12 q13 q14 q15 q16 q17 q18 q19 q20 q21 q22 q23 u0 u1 u2 u3 u4 u5 u6 i_hill_columns_many out) out.1 := by
  refine xv_startI (cc := cX10_goal) (maxL := 4) (rt := .int) (by decide +kernel) rfl (Nat.le_of_ble_eq_true rfl) ?_
  intro p e s m args below meth c A Q H ls hx hb hml hts hown hK hA hP hD hS hl hE hret
  have hown : s.vm.findClass "HillSchool" = some m.cls := hown
  have hz : ∀ w ∈ zall, w.before args s = true := fun w h => hts w (List.mem_cons_of_mem _ h)
  have hl : lv_has ls 4 [(0, .ref q0), (1, .int (Int32.ofInt x1)), (2, .int (Int32.ofInt x2))] := hl
  have b_11 : ∀ (i_latestStatus : Int) (i_hill_changes : Int) (i_refusals : Nat → Int) (i_hill_goals : Nat → Int) (H : Heap) (locs : List Loc) (ls : Array Slot), f_HS_goal_11 i_hill_columns_many i_latestStatus i_hill_changes i_refusals i_hill_goals = some out → va_P (dC, dI) vwCl (wd_HS_goal cA q0 q1 q2 q3 q4 q5 q6 q7 q8 q9 q10 q11 q12 q13 q14 q15 q16 q17 q18 q19 q20 q21 q22 q23 u0 u1 u2 u3 u4 u5 u6 i_hill_columns_many i_latestStatus i_hill_changes i_refusals i_hill_goals) H → va_D A (wd_HS_goal cA q0 q1 q2 q3 q4 q5 q6 q7 q8 q9 q10 q11 q12 q13 q14 q15 q16 q17 q18 q19 q20 q21 q22 q23 u0 u1 u2 u3 u4 u5 u6 i_hill_columns_many i_latestStatus i_hill_changes i_refusals i_hill_goals) → va_S A s.heap H locs → lv_has ls 4 [(0, .ref q0)] → W p l e rm_HS_goal s m args below meth c H locs 0 0 Q (F0 m 11 ls []) := by
    intro i_latestStatus i_hill_changes i_refusals i_hill_goals H locs ls hf hP hD hS hl
    unfold f_HS_goal_11 at hf
    refine lv_aload_n hx hb dX10_goal_11 rfl (lv_at hl 0 rfl) ?_
    refine lv_iconst (v := Int32.ofInt (-1)) hx hb dX10_goal_12 rfl ?_
    refine xe_d3 hf (fun v1 v2 a3 hg hf => ?_)
    have hC : ([0, 2] : List Nat).map (fun i => (wd_HS_goal cA q0 q1 q2 q3 q4 q5 q6 q7 q8 q9 q10 q11 q12 q13 q14 q15 q16 q17 q18 q19 q20 q21 q22 q23 u0 u1 u2 u3 u4 u5 u6 i_hill_columns_many i_latestStatus i_hill_changes i_refusals i_hill_goals)[i]?) = (wd_HS_refuse cA q0 q1 q2 q3 q4 q5 q6 q7 q8 q9 q10 q11 q12 u0 u1 u2 i_latestStatus i_refusals).map some := rfl
    refine xv_afterI (ws' := (wd_HS_goal cA q0 q1 q2 q3 q4 q5 q6 q7 q8 q9 q10 q11 q12 q13 q14 q15 q16 q17 q18 q19 q20 q21 q22 q23 u0 u1 u2 u3 u4 u5 u6 i_hill_columns_many v2 i_hill_changes a3 i_hill_goals)) (isC := [0, 2]) (ps := [some 0, none, some 1, none, none]) (va_runV (As := [.int (Int32.ofInt (-1))]) (rest := []) ⟨hx, hb, hml, hown, hts⟩ (c_HS_refuse l ev dC dI cA q0 q1 q2 q3 q4 q5 q6 q7 q8 q9 q10 q11 q12 u0 u1 u2 hg H.size) (cwV 1 hts (zgV zw_534 zw_536 zw_0 zw_104 zw_537) rfl rfl rfl hd_HS_refuse ⟨Nat.le_of_ble_eq_true rfl, Nat.le_of_ble_eq_true rfl⟩) (xv_preV (T := TX10) (N := 16) hE hA hS hK hP hD (isC := [0, 2]) (by decide +kernel) hC (q0 := 0) (ci := 10) rfl rfl) rfl rfl hl.1 rfl (lv_room (Nat.le_of_ble_eq_true rfl)) dX10_goal_13 ⟨Nat.le_refl _, Nat.le_refl _⟩) hP hD hS hA (by decide +kernel) rfl hC rfl rfl (fun H locs hP hD hS => ?_)
    refine lv_pop hx hb dX10_goal_16 rfl ?_
    refine lv_sipush (v := Int32.ofInt (-1000)) hx hb dX10_goal_17 (by decide) ?_
    obtain rfl := Option.some.inj hf
    exact hret _ _ _ _ rfl dX10_goal_20 hP hD hS
  unfold f_HS_goal at hf
  refine lv_iload_n hx hb dX10_goal_0 rfl (lv_at hl 2 rfl) ?_
  refine lv_iconst (v := Int32.ofInt (-1)) hx hb dX10_goal_1 rfl ?_
  refine xi_icmp_lt (tgt := 11) hx hb dX10_goal_2 (by decide) hf (fun hf => ?_) (fun hf => ?_)
  · exact b_11  _ _ _ _ _ _ _ hf hP hD hS (lv_sub hl [0] rfl)
  · refine lv_iload_n hx hb dX10_goal_5 rfl (lv_at hl 2 rfl) ?_
    refine lv_bipush (v := Int32.ofInt 10) hx hb dX10_goal_6 (by decide) ?_
    refine xi_icmp_le (tgt := 21) hx hb dX10_goal_8 (by decide) hf (fun hf => ?_) (fun hf => ?_)
    · refine lv_aload_n hx hb dX10_goal_21 rfl (lv_at hl 0 rfl) ?_
      refine va_get (D := (dC, dI)) (ci := 10) (v := .ref q1) (C := RX10) (T := TX10) (N := 16) hx hb hz zi_X10 hown hK hP 0 rfl rfl 0 (by decide) (hz _ zw_477) (fun _ h9 => h9) rfl dX10_goal_22 ?_
      refine va_getN (D := (dC, dI)) (ci := 2) (v := .ref q13) (C := RX2) (T := TX2) (N := 14) hx hb hz zi_X2 hown hK hP 1 rfl rfl 0 (by decide) (va_Nw.use rfl (hE.1.1 _ zw_169)) (fun _ h9 => h9) rfl dX10_goal_25 ?_
      refine lv_iload_n hx hb dX10_goal_28 rfl (lv_at hl 1 rfl) ?_
      refine xe_d1 hf (fun v1 hg hf => ?_)
      have hC : ([3] : List Nat).map (fun i => (wd_HS_goal cA q0 q1 q2 q3 q4 q5 q6 q7 q8 q9 q10 q11 q12 q13 q14 q15 q16 q17 q18 q19 q20 q21 q22 q23 u0 u1 u2 u3 u4 u5 u6 i_hill_columns_many i_latestStatus i_hill_changes i_refusals i_hill_goals)[i]?) = (wd_Columns_has cA q13 q22 q23 i_hill_columns_many).map some := rfl
      refine xv_afterI (ws' := (wd_HS_goal cA q0 q1 q2 q3 q4 q5 q6 q7 q8 q9 q10 q11 q12 q13 q14 q15 q16 q17 q18 q19 q20 q21 q22 q23 u0 u1 u2 u3 u4 u5 u6 i_hill_columns_many i_latestStatus i_hill_changes i_refusals i_hill_goals)) (isC := [3]) (ps := [none, none, none, some 0, none]) (va_runV (As := [.int (Int32.ofInt x1)]) (rest := []) ⟨hx, hb, hml, hown, hts⟩ (c_Columns_has l ev dC dI cA q13 q22 q23 hg H.size) (cwV 1 hts (zgV zw_546 zw_547 zw_548 zw_106 zw_549) rfl rfl rfl hd_Columns_has ⟨Nat.le_of_ble_eq_true rfl, Nat.le_of_ble_eq_true rfl⟩) (xv_preV (T := TX1) (N := 3) hE hA hS hK hP hD (isC := [3]) (by decide +kernel) hC (q0 := 3) (ci := 1) rfl rfl) rfl rfl hl.1 rfl (lv_room (Nat.le_of_ble_eq_true rfl)) dX10_goal_29 ⟨Nat.le_refl _, Nat.le_refl _⟩) hP hD hS hA (by decide +kernel) rfl hC rfl rfl (fun H locs hP hD hS => ?_)
      refine xi_if_ne (tgt := 46) hx hb dX10_goal_32 (by decide) hf (fun hf => ?_) (fun hf => ?_)
      · refine lv_aload_n hx hb dX10_goal_46 rfl (lv_at hl 0 rfl) ?_
        refine va_get (D := (dC, dI)) (ci := 10) (v := .ref q1) (C := RX10) (T := TX10) (N := 16) hx hb hz zi_X10 hown hK hP 0 rfl rfl 0 (by decide) (hz _ zw_477) (fun _ h9 => h9) rfl dX10_goal_47 ?_
        refine va_getN (D := (dC, dI)) (ci := 2) (v := .ref q19) (C := RX2) (T := TX2) (N := 14) hx hb hz zi_X2 hown hK hP 1 rfl rfl 8 (by decide) (va_Nw.use rfl (hE.1.1 _ zw_194)) (fun _ h9 => h9) rfl dX10_goal_50 ?_
        refine lv_iload_n hx hb dX10_goal_53 rfl (lv_at hl 1 rfl) ?_
        refine xi_iald hx hb hK hP 4 0 rfl rfl dX10_goal_54 hf (fun v2 hf => ?_)
        refine lv_istore_n (lv' := [(3, .int (Int32.ofInt v2)), (0, .ref q0), (1, .int (Int32.ofInt x1)), (2, .int (Int32.ofInt x2))]) hx hb dX10_goal_55 rfl hl (by decide) rfl (fun ls hl => ?_)
        refine lv_aload_n hx hb dX10_goal_56 rfl (lv_at hl 1 rfl) ?_
        refine va_get (D := (dC, dI)) (ci := 10) (v := .ref q1) (C := RX10) (T := TX10) (N := 16) hx hb hz zi_X10 hown hK hP 0 rfl rfl 0 (by decide) (hz _ zw_477) (fun _ h9 => h9) rfl dX10_goal_57 ?_
        refine va_getN (D := (dC, dI)) (ci := 2) (v := .ref q19) (C := RX2) (T := TX2) (N := 14) hx hb hz zi_X2 hown hK hP 1 rfl rfl 8 (by decide) (va_Nw.use rfl (hE.1.1 _ zw_194)) (fun _ h9 => h9) rfl dX10_goal_60 ?_
        refine lv_iload_n hx hb dX10_goal_63 rfl (lv_at hl 2 rfl) ?_
        refine lv_iload_n hx hb dX10_goal_64 rfl (lv_at hl 3 rfl) ?_
        refine xi_iast hx hb hK hP hD hS 4 0 rfl rfl dX10_goal_65 hf (fun a3 H locs hP hD hS hf => ?_)
        have hP : va_P (dC, dI) vwCl (wd_HS_goal cA q0 q1 q2 q3 q4 q5 q6 q7 q8 q9 q10 q11 q12 q13 q14 q15 q16 q17 q18 q19 q20 q21 q22 q23 u0 u1 u2 u3 u4 u5 u6 i_hill_columns_many i_latestStatus i_hill_changes i_refusals a3) H := hP
        have hD : va_D A (wd_HS_goal cA q0 q1 q2 q3 q4 q5 q6 q7 q8 q9 q10 q11 q12 q13 q14 q15 q16 q17 q18 q19 q20 q21 q22 q23 u0 u1 u2 u3 u4 u5 u6 i_hill_columns_many i_latestStatus i_hill_changes i_refusals a3) := hD
        refine lv_aload_n hx hb dX10_goal_66 rfl (lv_at hl 1 rfl) ?_
        refine lv_iload_n hx hb dX10_goal_67 rfl (lv_at hl 0 rfl) ?_
        refine xe_d3 hf (fun v4 v5 v6 hg hf => ?_)
        have hC : ([0, 1] : List Nat).map (fun i => (wd_HS_goal cA q0 q1 q2 q3 q4 q5 q6 q7 q8 q9 q10 q11 q12 q13 q14 q15 q16 q17 q18 q19 q20 q21 q22 q23 u0 u1 u2 u3 u4 u5 u6 i_hill_columns_many i_latestStatus i_hill_changes i_refusals a3)[i]?) = (wd_HS_accept cA q0 q1 q2 q3 q4 q5 q6 q7 q8 q9 q10 q11 q12 q13 q14 q15 q16 q17 q18 q19 q20 q21 u0 u1 u2 u3 u4 u5 u6 i_latestStatus i_hill_changes).map some := rfl
        refine xv_afterI (ws' := (wd_HS_goal cA q0 q1 q2 q3 q4 q5 q6 q7 q8 q9 q10 q11 q12 q13 q14 q15 q16 q17 q18 q19 q20 q21 q22 q23 u0 u1 u2 u3 u4 u5 u6 i_hill_columns_many v5 v6 i_refusals a3)) (isC := [0, 1]) (ps := [some 0, some 1, none, none, none]) (va_runV (As := [.int (Int32.ofInt v2)]) (rest := []) ⟨hx, hb, hml, hown, hts⟩ (c_HS_accept l ev dC dI cA q0 q1 q2 q3 q4 q5 q6 q7 q8 q9 q10 q11 q12 q13 q14 q15 q16 q17 q18 q19 q20 q21 u0 u1 u2 u3 u4 u5 u6 hg H.size) (cwV 1 hts (zgV zw_538 zw_540 zw_1 zw_104 zw_541) rfl rfl rfl hd_HS_accept ⟨Nat.le_of_ble_eq_true rfl, Nat.le_of_ble_eq_true rfl⟩) (xv_preV (T := TX10) (N := 16) hE hA hS hK hP hD (isC := [0, 1]) (by decide +kernel) hC (q0 := 0) (ci := 10) rfl rfl) rfl rfl hl.1 rfl (lv_room (Nat.le_of_ble_eq_true rfl)) dX10_goal_68 ⟨Nat.le_refl _, Nat.le_refl _⟩) hP hD hS hA (by decide +kernel) rfl hC rfl rfl (fun H locs hP hD hS => ?_)
        obtain rfl := Option.some.inj hf
        exact hret _ _ _ _ rfl dX10_goal_71 hP hD hS
      · refine lv_aload_n hx hb dX10_goal_35 rfl (lv_at hl 0 rfl) ?_
        refine lv_bipush (v := Int32.ofInt (-2)) hx hb dX10_goal_36 (by decide) ?_
        refine xe_d3 hf (fun v7 v8 a9 hg hf => ?_)
        have hC : ([0, 2] : List Nat).map (fun i => (wd_HS_goal cA q0 q1 q2 q3 q4 q5 q6 q7 q8 q9 q10 q11 q12 q13 q14 q15 q16 q17 q18 q19 q20 q21 q22 q23 u0 u1 u2 u3 u4 u5 u6 i_hill_columns_many i_latestStatus i_hill_changes i_refusals i_hill_goals)[i]?) = (wd_HS_refuse cA q0 q1 q2 q3 q4 q5 q6 q7 q8 q9 q10 q11 q12 u0 u1 u2 i_latestStatus i_refusals).map some := rfl
        refine xv_afterI (ws' := (wd_HS_goal cA q0 q1 q2 q3 q4 q5 q6 q7 q8 q9 q10 q11 q12 q13 q14 q15 q16 q17 q18 q19 q20 q21 q22 q23 u0 u1 u2 u3 u4 u5 u6 i_hill_columns_many v8 i_hill_changes a9 i_hill_goals)) (isC := [0, 2]) (ps := [some 0, none, some 1, none, none]) (va_runV (As := [.int (Int32.ofInt (-2))]) (rest := []) ⟨hx, hb, hml, hown, hts⟩ (c_HS_refuse l ev dC dI cA q0 q1 q2 q3 q4 q5 q6 q7 q8 q9 q10 q11 q12 u0 u1 u2 hg H.size) (cwV 1 hts (zgV zw_534 zw_536 zw_0 zw_104 zw_537) rfl rfl rfl hd_HS_refuse ⟨Nat.le_of_ble_eq_true rfl, Nat.le_of_ble_eq_true rfl⟩) (xv_preV (T := TX10) (N := 16) hE hA hS hK hP hD (isC := [0, 2]) (by decide +kernel) hC (q0 := 0) (ci := 10) rfl rfl) rfl rfl hl.1 rfl (lv_room (Nat.le_of_ble_eq_true rfl)) dX10_goal_38 ⟨Nat.le_refl _, Nat.le_refl _⟩) hP hD hS hA (by decide +kernel) rfl hC rfl rfl (fun H locs hP hD hS => ?_)
        refine lv_pop hx hb dX10_goal_41 rfl ?_
        refine lv_sipush (v := Int32.ofInt (-1000)) hx hb dX10_goal_42 (by decide) ?_
        obtain rfl := Option.some.inj hf
        exact hret _ _ _ _ rfl dX10_goal_45 hP hD hS
    · exact b_11  _ _ _ _ _ _ _ hf hP hD hS (lv_sub hl [0] rfl)
theorem dX7_write_0 : decode cX7_write 0 = .ok (.aload_n 1, 1) := by decide +kernel
theorem dX7_write_1 : decode cX7_write 1 = .ok (.iconst (-1), 1) := by decide +kernel
theorem dX7_write_2 : decode cX7_write 2 = .ok (.putfield 104, 3) := by decide +kernel
theorem dX7_write_5 : decode cX7_write 5 = .ok (.aload_n 1, 1) := by decide +kernel
theorem dX7_write_6 : decode cX7_write 6 = .ok (.iconst (-1), 1) := by decide +kernel
theorem dX7_write_7 : decode cX7_write 7 = .ok (.putfield 107, 3) := by decide +kernel
theorem dX7_write_10 : decode cX7_write 10 = .ok (.iload_n 2, 1) := by decide +kernel
theorem dX7_write_11 : decode cX7_write 11 = .ok (.iconst (-1), 1) := by decide +kernel
theorem dX7_write_12 : decode cX7_write 12 = .ok (.if_icmp .ne 4, 3) := by decide +kernel
theorem dX7_write_15 : decode cX7_write 15 = .ok (.return_, 1) := by decide +kernel
theorem dX7_write_16 : decode cX7_write 16 = .ok (.aload_n 1, 1) := by decide +kernel
theorem dX7_write_17 : decode cX7_write 17 = .ok (.aload_n 0, 1) := by decide +kernel
theorem dX7_write_18 : decode cX7_write 18 = .ok (.getfield 26, 3) := by decide +kernel
theorem dX7_write_21 : decode cX7_write 21 = .ok (.iload_n 2, 1) := by decide +kernel
theorem dX7_write_22 : decode cX7_write 22 = .ok (.laload, 1) := by decide +kernel
theorem dX7_write_23 : decode cX7_write 23 = .ok (.ldc2_w 110, 3) := by decide +kernel
theorem dX7_write_26 : decode cX7_write 26 = .ok (.lrem, 1) := by decide +kernel
theorem dX7_write_27 : decode cX7_write 27 = .ok (.l2i, 1) := by decide +kernel
theorem dX7_write_28 : decode cX7_write 28 = .ok (.putfield 104, 3) := by decide +kernel
theorem dX7_write_31 : decode cX7_write 31 = .ok (.aload_n 1, 1) := by decide +kernel
theorem dX7_write_32 : decode cX7_write 32 = .ok (.aload_n 0, 1) := by decide +kernel
theorem dX7_write_33 : decode cX7_write 33 = .ok (.getfield 26, 3) := by decide +kernel
theorem dX7_write_36 : decode cX7_write 36 = .ok (.iload_n 2, 1) := by decide +kernel
theorem dX7_write_37 : decode cX7_write 37 = .ok (.laload, 1) := by decide +kernel
theorem dX7_write_38 : decode cX7_write 38 = .ok (.ldc2_w 110, 3) := by decide +kernel
theorem dX7_write_41 : decode cX7_write 41 = .ok (.ldiv, 1) := by decide +kernel
theorem dX7_write_42 : decode cX7_write 42 = .ok (.l2i, 1) := by decide +kernel
theorem dX7_write_43 : decode cX7_write 43 = .ok (.putfield 107, 3) := by decide +kernel
theorem dX7_write_46 : decode cX7_write 46 = .ok (.iload_n 2, 1) := by decide +kernel
theorem dX7_write_47 : decode cX7_write 47 = .ok (.istore_n 3, 1) := by decide +kernel
theorem dX7_write_48 : decode cX7_write 48 = .ok (.aload_n 1, 1) := by decide +kernel
theorem dX7_write_49 : decode cX7_write 49 = .ok (.getfield 104, 3) := by decide +kernel
theorem dX7_write_52 : decode cX7_write 52 = .ok (.iconst 1, 1) := by decide +kernel
theorem dX7_write_53 : decode cX7_write 53 = .ok (.isub, 1) := by decide +kernel
theorem dX7_write_54 : decode cX7_write 54 = .ok (.istore 4, 2) := by decide +kernel
theorem dX7_write_56 : decode cX7_write 56 = .ok (.iload 4, 2) := by decide +kernel
theorem dX7_write_58 : decode cX7_write 58 = .ok (.ifCond .lt 41, 3) := by decide +kernel
theorem dX7_write_61 : decode cX7_write 61 = .ok (.iload 4, 2) := by decide +kernel
theorem dX7_write_63 : decode cX7_write 63 = .ok (.sipush 6720, 3) := by decide +kernel
theorem dX7_write_66 : decode cX7_write 66 = .ok (.if_icmp .ge 33, 3) := by decide +kernel
theorem dX7_write_69 : decode cX7_write 69 = .ok (.iload_n 3, 1) := by decide +kernel
theorem dX7_write_70 : decode cX7_write 70 = .ok (.ifCond .lt 29, 3) := by decide +kernel
theorem dX7_write_73 : decode cX7_write 73 = .ok (.aload_n 1, 1) := by decide +kernel
theorem dX7_write_74 : decode cX7_write 74 = .ok (.getfield 112, 3) := by decide +kernel
theorem dX7_write_77 : decode cX7_write 77 = .ok (.iload 4, 2) := by decide +kernel
theorem dX7_write_79 : decode cX7_write 79 = .ok (.aload_n 0, 1) := by decide +kernel
theorem dX7_write_80 : decode cX7_write 80 = .ok (.getfield 32, 3) := by decide +kernel
theorem dX7_write_83 : decode cX7_write 83 = .ok (.iload_n 3, 1) := by decide +kernel
theorem dX7_write_84 : decode cX7_write 84 = .ok (.iaload, 1) := by decide +kernel
theorem dX7_write_85 : decode cX7_write 85 = .ok (.iastore, 1) := by decide +kernel
theorem dX7_write_86 : decode cX7_write 86 = .ok (.aload_n 0, 1) := by decide +kernel
theorem dX7_write_87 : decode cX7_write 87 = .ok (.getfield 29, 3) := by decide +kernel
theorem dX7_write_90 : decode cX7_write 90 = .ok (.iload_n 3, 1) := by decide +kernel
theorem dX7_write_91 : decode cX7_write 91 = .ok (.iaload, 1) := by decide +kernel
theorem dX7_write_92 : decode cX7_write 92 = .ok (.istore_n 3, 1) := by decide +kernel
theorem dX7_write_93 : decode cX7_write 93 = .ok (.iinc 4 (-1), 3) := by decide +kernel
theorem dX7_write_96 : decode cX7_write 96 = .ok (.goto (-40), 3) := by decide +kernel
theorem dX7_write_99 : decode cX7_write 99 = .ok (.return_, 1) := by decide +kernel
theorem zw_331 : (Jvm.Cond.fieldLinkNest "HillSchool$Planner" (104 : Nat) "HillSchool$Plan" "length" "I" "HillSchool") ∈ znest := zmemH (zmj_1 228 rfl) rfl
theorem zw_334 : (Jvm.Cond.fieldLinkNest "HillSchool$Planner" (107 : Nat) "HillSchool$Plan" "tiring" "I" "HillSchool") ∈ znest := zmemH (zmj_1 231 rfl) rfl
theorem zw_337 : (Jvm.Cond.fieldLinkNest "HillSchool$Planner" (112 : Nat) "HillSchool$Plan" "row" "[I" "HillSchool") ∈ znest := zmemH (zmj_1 234 rfl) rfl
theorem zw_352 : (Jvm.Cond.fieldLink "HillSchool$Planner" (26 : Nat) "HillSchool$Planner" "costs" "[J") ∈ zall := zmemG (zmj_2 9 rfl) rfl
theorem zw_353 : (Jvm.Cond.fieldLink "HillSchool$Planner" (29 : Nat) "HillSchool$Planner" "before" "[I") ∈ zall := zmemG (zmj_2 10 rfl) rfl
theorem zw_354 : (Jvm.Cond.fieldLink "HillSchool$Planner" (32 : Nat) "HillSchool$Planner" "by" "[I") ∈ zall := zmemG (zmj_2 11 rfl) rfl
theorem zw_1009 : (Jvm.Cond.constantLong "HillSchool$Planner" (110 : Nat) (8192 : Int64)) ∈ zall := zmemG (zmj_4 186 rfl) rfl
theorem zw_1020 : (Jvm.Cond.code ({ cls := "HillSchool$Planner", name := "write", desc := "(LHillSchool$Plan;I)V" } : Jvm.MethodName) prog_9_method_5_code (5 : Nat) (Option.none : Option Jvm.ClassFile.FieldType)) ∈ zall := zmemG (zmj_4 197 rfl) rfl
abbrev w_Planner_write : List Cond := .code yX7_write cX7_write 5 none :: zall
abbrev rm_Planner_write : Room := { frames := 0, cells := 0, slots := 0, locals := 0 }
theorem hd_Planner_write : yX7_write.cls = "HillSchool$Planner" ∧ yX7_write.cls ≠ "java/lang/invoke/MethodHandle" ∧ yX7_write.cls ≠ "java/lang/invoke/VarHandle" ∧ (parseMethodDescriptor yX7_write.desc).map (fun d => d.parameters.length) = some 2 := by decide +kernel
def wd_Planner_write (cA : Nat → ClassId) (q0 q1 q2 q3 q4 q5 q6 q7 q8 q9 q10 q11 q12 q13 q14 q15 : Nat) (u0 u1 u2 u3 : Int) (i_costs : Nat → Int) (i_before : Nat → Int) (i_by : Nat → Int) (i_a1_length : Int) (i_a1_tiring : Int) (i_a1_row : Nat → Int) : va_W := [(q0, .inr (7, [.ref q1, .ref q2, .ref q3, .ref q4, .ref q5, .ref q6, .ref q7, .ref q8, .ref q9, .ref q10, .ref q11, .ref q12, .ref q13, .int (Int32.ofInt u0), .int (Int32.ofInt u1), .int (Int32.ofInt u2)])), (q14, .inr (6, [.int (Int32.ofInt u3), .int (Int32.ofInt i_a1_length), .int (Int32.ofInt i_a1_tiring), .ref q15])), (q6, .inl (cA 2, 6720, .inr (.inl (zl i_costs)))), (q7, .inl (cA 0, 6720, .inl (za i_before))), (q8, .inl (cA 0, 6720, .inl (za i_by))), (q15, .inl (cA 0, 6720, .inl (za i_a1_row)))]
def wf_Planner_write (cA : Nat → ClassId) (q0 q1 q2 q3 q4 q5 q6 q7 q8 q9 q10 q11 q12 q13 q14 q15 : Nat) (u0 u1 u2 u3 : Int) (i_costs : Nat → Int) (i_before : Nat → Int) (i_by : Nat → Int) (o : Int × Int × (Nat → Int)) : va_W := wd_Planner_write cA q0 q1 q2 q3 q4 q5 q6 q7 q8 q9 q10 q11 q12 q13 q14 q15 u0 u1 u2 u3 i_costs i_before i_by o.1 o.2.1 o.2.2
def f_Planner_write_56_b (i_costs : Nat → Int) (i_before : Nat → Int) (i_by : Nat → Int) (k56 : Int → Int → Int → Int → (Nat → Int) → Option (Int × Int × (Nat → Int))) (x3 : Int) (x4 : Int) (i_a1_length : Int) (i_a1_tiring : Int) (i_a1_row : Nat → Int) : Option (Int × Int × (Nat → Int)) :=
  if zi_w x4 < 0 then
    some (i_a1_length, i_a1_tiring, i_a1_row)
  else
    if zi_w 6720 ≤ zi_w x4 then
      some (i_a1_length, i_a1_tiring, i_a1_row)
    else
      if zi_w x3 < 0 then
        some (i_a1_length, i_a1_tiring, i_a1_row)
      else
        zg 6720 i_by x3 fun v1 =>
        zs 6720 i_a1_row x4 v1 fun a2 =>
        zg 6720 i_before x3 fun v3 =>
        zn (x4 + (-1)) fun v4 =>
        k56 v3 v4 i_a1_length i_a1_tiring a2
def f_Planner_write_56 (i_costs : Nat → Int) (i_before : Nat → Int) (i_by : Nat → Int) : Nat → Int → Int → Int → Int → (Nat → Int) → Option (Int × Int × (Nat → Int))
  | 0 => fun _ _ _ _ _ => none
  | n + 1 => fun y0 y1 y2 y3 y4 => f_Planner_write_56_b i_costs i_before i_by (f_Planner_write_56 i_costs i_before i_by n) y0 y1 y2 y3 y4
def f_Planner_write (x2 : Int) (i_costs : Nat → Int) (i_before : Nat → Int) (i_by : Nat → Int) (i_a1_length : Int) (i_a1_tiring : Int) (i_a1_row : Nat → Int) : Option (Int × Int × (Nat → Int)) :=
  if zi_w x2 ≠ zi_w (-1) then
    zg 6720 i_costs x2 fun v1 =>
    if zl_w 8192 = 0 then none else zn (zl_rem v1 8192) fun v2 =>
    zg 6720 i_costs x2 fun v3 =>
    if zl_w 8192 = 0 then none else zn (zl_div v3 8192) fun v4 =>
    zn (v2 - 1) fun v5 =>
    f_Planner_write_56 i_costs i_before i_by zfu x2 v5 v2 v4 i_a1_row
  else
    some ((-1), (-1), i_a1_row)
set_option maxHeartbeats 4000000 in
set_option maxRecDepth 100000 in
theorem c_Planner_write (l : Launch) (ev : zEv) (dC : Nat → ClassId) (dI : Nat → Nat → Nat) (cA : Nat → ClassId) (q0 q1 q2 q3 q4 q5 q6 q7 q8 q9 q10 q11 q12 q13 q14 q15 : Nat) (u0 u1 u2 u3 : Int) {x2 : Int} {i_costs : Nat → Int} {i_before : Nat → Int} {i_by : Nat → Int} {i_a1_length : Int} {i_a1_tiring : Int} {i_a1_row : Nat → Int} {out : Int × Int × (Nat → Int)} (hf : f_Planner_write x2 i_costs i_before i_by i_a1_length i_a1_tiring i_a1_row = some out) : xc_V l ev (dC, dI) vwCl (tyl cA) yX7_write w_Planner_write rm_Planner_write [.ref q0, .ref q14, .int (Int32.ofInt x2)] (wd_Planner_write cA q0 q1 q2 q3 q4 q5 q6 q7 q8 q9 q10 q11 q12 q13 q14 q15 u0 u1 u2 u3 i_costs i_before i_by i_a1_length i_a1_tiring i_a1_row) (wf_Planner_write cA q0 q1 q2 q3 q4 q5 q6 q7 q8 q9 q10 q11 q12 q13 q14 q15 u0 u1 u2 u3 i_costs i_before i_by out) := by
  refine xv_startV (cc := cX7_write) (maxL := 5) (by decide +kernel) rfl (Nat.le_of_ble_eq_true rfl) ?_
  intro p e s m args below meth c A Q H ls hx hb hml hts hown hK hA hP hD hS hl hE hret
  have hown : s.vm.findClass "HillSchool$Planner" = some m.cls := hown
  have hz : ∀ w ∈ zall, w.before args s = true := fun w h => hts w (List.mem_cons_of_mem _ h)
  have hl : lv_has ls 5 [(0, .ref q0), (1, .ref q14), (2, .int (Int32.ofInt x2))] := hl
  have b_56 : ∀ (k56 : Int → Int → Int → Int → (Nat → Int) → Option (Int × Int × (Nat → Int))) (_ : ∀ (x3 : Int) (x4 : Int) (i_a1_length : Int) (i_a1_tiring : Int) (i_a1_row : Nat → Int) (H : Heap) (locs : List Loc) (ls : Array Slot), k56 x3 x4 i_a1_length i_a1_tiring i_a1_row = some out → va_P (dC, dI) vwCl (wd_Planner_write cA q0 q1 q2 q3 q4 q5 q6 q7 q8 q9 q10 q11 q12 q13 q14 q15 u0 u1 u2 u3 i_costs i_before i_by i_a1_length i_a1_tiring i_a1_row) H → va_D A (wd_Planner_write cA q0 q1 q2 q3 q4 q5 q6 q7 q8 q9 q10 q11 q12 q13 q14 q15 u0 u1 u2 u3 i_costs i_before i_by i_a1_length i_a1_tiring i_a1_row) → va_S A s.heap H locs → lv_has ls 5 [(0, .ref q0), (1, .ref q14), (3, .int (Int32.ofInt x3)), (4, .int (Int32.ofInt x4))] → W p l e rm_Planner_write s m args below meth c H locs 0 0 Q (F0 m 56 ls [])), ∀ (x3 : Int) (x4 : Int) (i_a1_length : Int) (i_a1_tiring : Int) (i_a1_row : Nat → Int) (H : Heap) (locs : List Loc) (ls : Array Slot), f_Planner_write_56_b i_costs i_before i_by k56 x3 x4 i_a1_length i_a1_tiring i_a1_row = some out → va_P (dC, dI) vwCl (wd_Planner_write cA q0 q1 q2 q3 q4 q5 q6 q7 q8 q9 q10 q11 q12 q13 q14 q15 u0 u1 u2 u3 i_costs i_before i_by i_a1_length i_a1_tiring i_a1_row) H → va_D A (wd_Planner_write cA q0 q1 q2 q3 q4 q5 q6 q7 q8 q9 q10 q11 q12 q13 q14 q15 u0 u1 u2 u3 i_costs i_before i_by i_a1_length i_a1_tiring i_a1_row) → va_S A s.heap H locs → lv_has ls 5 [(0, .ref q0), (1, .ref q14), (3, .int (Int32.ofInt x3)), (4, .int (Int32.ofInt x4))] → W p l e rm_Planner_write s m args below meth c H locs 0 0 Q (F0 m 56 ls []) := by
    intro k56 ih56 x3 x4 i_a1_length i_a1_tiring i_a1_row H locs ls hf hP hD hS hl
    unfold f_Planner_write_56_b at hf
    refine lv_iload hx hb dX7_write_56 (lv_at hl 3 rfl) ?_
    refine xi_if_lt (tgt := 99) hx hb dX7_write_58 (by decide) hf (fun hf => ?_) (fun hf => ?_)
    · obtain rfl := Option.some.inj hf
      exact hret _ _ _ _ dX7_write_99 hP hD hS
    · refine lv_iload hx hb dX7_write_61 (lv_at hl 3 rfl) ?_
      refine lv_sipush (v := Int32.ofInt 6720) hx hb dX7_write_63 (by decide) ?_
      refine xi_icmp_ge (tgt := 99) hx hb dX7_write_66 (by decide) hf (fun hf => ?_) (fun hf => ?_)
      · obtain rfl := Option.some.inj hf
        exact hret _ _ _ _ dX7_write_99 hP hD hS
      · refine lv_iload_n hx hb dX7_write_69 rfl (lv_at hl 2 rfl) ?_
        refine xi_if_lt (tgt := 99) hx hb dX7_write_70 (by decide) hf (fun hf => ?_) (fun hf => ?_)
        · obtain rfl := Option.some.inj hf
          exact hret _ _ _ _ dX7_write_99 hP hD hS
        · refine lv_aload_n hx hb dX7_write_73 rfl (lv_at hl 1 rfl) ?_
          refine va_getN (D := (dC, dI)) (ci := 6) (v := .ref q15) (C := RX6) (T := TX6) (N := 4) hx hb hz zi_X6 hown hK hP 1 rfl rfl 3 (by decide) (va_Nw.use rfl (hE.1.1 _ zw_337)) (fun _ h9 => h9) rfl dX7_write_74 ?_
          refine lv_iload hx hb dX7_write_77 (lv_at hl 3 rfl) ?_
          refine lv_aload_n hx hb dX7_write_79 rfl (lv_at hl 0 rfl) ?_
          refine va_get (D := (dC, dI)) (ci := 7) (v := .ref q8) (C := RX7) (T := TX7) (N := 16) hx hb hz zi_X7 hown hK hP 0 rfl rfl 7 (by decide) (hz _ zw_354) (fun _ h9 => h9) rfl dX7_write_80 ?_
          refine lv_iload_n hx hb dX7_write_83 rfl (lv_at hl 2 rfl) ?_
          refine xi_iald hx hb hK hP 4 0 rfl rfl dX7_write_84 hf (fun v1 hf => ?_)
          refine xi_iast hx hb hK hP hD hS 5 0 rfl rfl dX7_write_85 hf (fun a2 H locs hP hD hS hf => ?_)
          have hP : va_P (dC, dI) vwCl (wd_Planner_write cA q0 q1 q2 q3 q4 q5 q6 q7 q8 q9 q10 q11 q12 q13 q14 q15 u0 u1 u2 u3 i_costs i_before i_by i_a1_length i_a1_tiring a2) H := hP
          have hD : va_D A (wd_Planner_write cA q0 q1 q2 q3 q4 q5 q6 q7 q8 q9 q10 q11 q12 q13 q14 q15 u0 u1 u2 u3 i_costs i_before i_by i_a1_length i_a1_tiring a2) := hD
          refine lv_aload_n hx hb dX7_write_86 rfl (lv_at hl 0 rfl) ?_
          refine va_get (D := (dC, dI)) (ci := 7) (v := .ref q7) (C := RX7) (T := TX7) (N := 16) hx hb hz zi_X7 hown hK hP 0 rfl rfl 6 (by decide) (hz _ zw_353) (fun _ h9 => h9) rfl dX7_write_87 ?_
          refine lv_iload_n hx hb dX7_write_90 rfl (lv_at hl 2 rfl) ?_
          refine xi_iald hx hb hK hP 3 0 rfl rfl dX7_write_91 hf (fun v3 hf => ?_)
          refine lv_istore_n (lv' := [(3, .int (Int32.ofInt v3)), (0, .ref q0), (1, .ref q14), (4, .int (Int32.ofInt x4))]) hx hb dX7_write_92 rfl hl (by decide) rfl (fun ls hl => ?_)
          refine xi_iinc hx hb dX7_write_93 hl (k := 3) rfl (by decide) hf (fun v4 ls hl hf => ?_)
          have hl : lv_has ls 5 [(4, .int (Int32.ofInt v4)), (3, .int (Int32.ofInt v3)), (0, .ref q0), (1, .ref q14)] := hl
          refine lv_goto (tgt := 56) hx hb dX7_write_96 (by decide) ?_
          exact ih56 _ _ _ _ _ _ _ _ hf hP hD hS (lv_sub hl [2, 3, 1, 0] rfl)
  have l_56 : ∀ (n : Nat), ∀ (x3 : Int) (x4 : Int) (i_a1_length : Int) (i_a1_tiring : Int) (i_a1_row : Nat → Int) (H : Heap) (locs : List Loc) (ls : Array Slot), f_Planner_write_56 i_costs i_before i_by n x3 x4 i_a1_length i_a1_tiring i_a1_row = some out → va_P (dC, dI) vwCl (wd_Planner_write cA q0 q1 q2 q3 q4 q5 q6 q7 q8 q9 q10 q11 q12 q13 q14 q15 u0 u1 u2 u3 i_costs i_before i_by i_a1_length i_a1_tiring i_a1_row) H → va_D A (wd_Planner_write cA q0 q1 q2 q3 q4 q5 q6 q7 q8 q9 q10 q11 q12 q13 q14 q15 u0 u1 u2 u3 i_costs i_before i_by i_a1_length i_a1_tiring i_a1_row) → va_S A s.heap H locs → lv_has ls 5 [(0, .ref q0), (1, .ref q14), (3, .int (Int32.ofInt x3)), (4, .int (Int32.ofInt x4))] → W p l e rm_Planner_write s m args below meth c H locs 0 0 Q (F0 m 56 ls []) := by
    intro n
    induction n with
    | zero => intro x3 x4 i_a1_length i_a1_tiring i_a1_row H locs ls hf hP hD hS hl; exact nomatch hf
    | succ n ih => intro x3 x4 i_a1_length i_a1_tiring i_a1_row H locs ls hf hP hD hS hl; exact b_56 (f_Planner_write_56 i_costs i_before i_by n) ih x3 x4 i_a1_length i_a1_tiring i_a1_row H locs ls hf hP hD hS hl
  unfold f_Planner_write at hf
  refine lv_aload_n hx hb dX7_write_0 rfl (lv_at hl 1 rfl) ?_
  refine lv_iconst (v := Int32.ofInt (-1)) hx hb dX7_write_1 rfl ?_
  refine va_putN (D := (dC, dI)) (ci := 6) (v := .int (Int32.ofInt (-1))) (ty := .int) (C := RX6) (T := TX6) (N := 4) hx hb hz zi_X6 tyX6 tyX6_ok nmX6 hown hK hP hD hS 1 rfl rfl 1 (by decide) (va_Nw.use rfl (hE.1.1 _ zw_331)) (fun _ h9 => h9) rfl (by decide +kernel) rfl rfl (Nat.le_of_ble_eq_true rfl) dX7_write_2 (fun H locs hP hD hS => ?_)
  have hP : va_P (dC, dI) vwCl (wd_Planner_write cA q0 q1 q2 q3 q4 q5 q6 q7 q8 q9 q10 q11 q12 q13 q14 q15 u0 u1 u2 u3 i_costs i_before i_by (-1) i_a1_tiring i_a1_row) H := hP
  have hD : va_D A (wd_Planner_write cA q0 q1 q2 q3 q4 q5 q6 q7 q8 q9 q10 q11 q12 q13 q14 q15 u0 u1 u2 u3 i_costs i_before i_by (-1) i_a1_tiring i_a1_row) := hD
  refine lv_aload_n hx hb dX7_write_5 rfl (lv_at hl 1 rfl) ?_
  refine lv_iconst (v := Int32.ofInt (-1)) hx hb dX7_write_6 rfl ?_
  refine va_putN (D := (dC, dI)) (ci := 6) (v := .int (Int32.ofInt (-1))) (ty := .int) (C := RX6) (T := TX6) (N := 4) hx hb hz zi_X6 tyX6 tyX6_ok nmX6 hown hK hP hD hS 1 rfl rfl 2 (by decide) (va_Nw.use rfl (hE.1.1 _ zw_334)) (fun _ h9 => h9) rfl (by decide +kernel) rfl rfl (Nat.le_of_ble_eq_true rfl) dX7_write_7 (fun H locs hP hD hS => ?_)
  have hP : va_P (dC, dI) vwCl (wd_Planner_write cA q0 q1 q2 q3 q4 q5 q6 q7 q8 q9 q10 q11 q12 q13 q14 q15 u0 u1 u2 u3 i_costs i_before i_by (-1) (-1) i_a1_row) H := hP
  have hD : va_D A (wd_Planner_write cA q0 q1 q2 q3 q4 q5 q6 q7 q8 q9 q10 q11 q12 q13 q14 q15 u0 u1 u2 u3 i_costs i_before i_by (-1) (-1) i_a1_row) := hD
  refine lv_iload_n hx hb dX7_write_10 rfl (lv_at hl 2 rfl) ?_
  refine lv_iconst (v := Int32.ofInt (-1)) hx hb dX7_write_11 rfl ?_
  refine xi_icmp_ne (tgt := 16) hx hb dX7_write_12 (by decide) hf (fun hf => ?_) (fun hf => ?_)
  · refine lv_aload_n hx hb dX7_write_16 rfl (lv_at hl 1 rfl) ?_
    refine lv_aload_n hx hb dX7_write_17 rfl (lv_at hl 0 rfl) ?_
    refine va_get (D := (dC, dI)) (ci := 7) (v := .ref q6) (C := RX7) (T := TX7) (N := 16) hx hb hz zi_X7 hown hK hP 0 rfl rfl 5 (by decide) (hz _ zw_352) (fun _ h9 => h9) rfl dX7_write_18 ?_
    refine lv_iload_n hx hb dX7_write_21 rfl (lv_at hl 2 rfl) ?_
    refine xl_lald hx hb hK hP 2 2 rfl rfl dX7_write_22 hf (fun v1 hf => ?_)
    refine lv_ldc2 (v := Int64.ofInt 8192) hx hb hown (hz _ zw_1009) dX7_write_23 ?_
    refine xl_lrem hx hb dX7_write_26 hf (fun v2 hf => ?_)
    refine xl_l2i hx hb dX7_write_27 ?_
    refine va_putN (D := (dC, dI)) (ci := 6) (v := .int (Int32.ofInt v2)) (ty := .int) (C := RX6) (T := TX6) (N := 4) hx hb hz zi_X6 tyX6 tyX6_ok nmX6 hown hK hP hD hS 1 rfl rfl 1 (by decide) (va_Nw.use rfl (hE.1.1 _ zw_331)) (fun _ h9 => h9) rfl (by decide +kernel) rfl rfl (Nat.le_of_ble_eq_true rfl) dX7_write_28 (fun H locs hP hD hS => ?_)
    have hP : va_P (dC, dI) vwCl (wd_Planner_write cA q0 q1 q2 q3 q4 q5 q6 q7 q8 q9 q10 q11 q12 q13 q14 q15 u0 u1 u2 u3 i_costs i_before i_by v2 (-1) i_a1_row) H := hP
    have hD : va_D A (wd_Planner_write cA q0 q1 q2 q3 q4 q5 q6 q7 q8 q9 q10 q11 q12 q13 q14 q15 u0 u1 u2 u3 i_costs i_before i_by v2 (-1) i_a1_row) := hD
    refine lv_aload_n hx hb dX7_write_31 rfl (lv_at hl 1 rfl) ?_
    refine lv_aload_n hx hb dX7_write_32 rfl (lv_at hl 0 rfl) ?_
    refine va_get (D := (dC, dI)) (ci := 7) (v := .ref q6) (C := RX7) (T := TX7) (N := 16) hx hb hz zi_X7 hown hK hP 0 rfl rfl 5 (by decide) (hz _ zw_352) (fun _ h9 => h9) rfl dX7_write_33 ?_
    refine lv_iload_n hx hb dX7_write_36 rfl (lv_at hl 2 rfl) ?_
    refine xl_lald hx hb hK hP 2 2 rfl rfl dX7_write_37 hf (fun v3 hf => ?_)
    refine lv_ldc2 (v := Int64.ofInt 8192) hx hb hown (hz _ zw_1009) dX7_write_38 ?_
    refine xl_ldiv hx hb dX7_write_41 hf (fun v4 hf => ?_)
    refine xl_l2i hx hb dX7_write_42 ?_
    refine va_putN (D := (dC, dI)) (ci := 6) (v := .int (Int32.ofInt v4)) (ty := .int) (C := RX6) (T := TX6) (N := 4) hx hb hz zi_X6 tyX6 tyX6_ok nmX6 hown hK hP hD hS 1 rfl rfl 2 (by decide) (va_Nw.use rfl (hE.1.1 _ zw_334)) (fun _ h9 => h9) rfl (by decide +kernel) rfl rfl (Nat.le_of_ble_eq_true rfl) dX7_write_43 (fun H locs hP hD hS => ?_)
    have hP : va_P (dC, dI) vwCl (wd_Planner_write cA q0 q1 q2 q3 q4 q5 q6 q7 q8 q9 q10 q11 q12 q13 q14 q15 u0 u1 u2 u3 i_costs i_before i_by v2 v4 i_a1_row) H := hP
    have hD : va_D A (wd_Planner_write cA q0 q1 q2 q3 q4 q5 q6 q7 q8 q9 q10 q11 q12 q13 q14 q15 u0 u1 u2 u3 i_costs i_before i_by v2 v4 i_a1_row) := hD
    refine lv_iload_n hx hb dX7_write_46 rfl (lv_at hl 2 rfl) ?_
    refine lv_istore_n (lv' := [(3, .int (Int32.ofInt x2)), (0, .ref q0), (1, .ref q14), (2, .int (Int32.ofInt x2))]) hx hb dX7_write_47 rfl hl (by decide) rfl (fun ls hl => ?_)
    refine lv_aload_n hx hb dX7_write_48 rfl (lv_at hl 2 rfl) ?_
    refine va_getN (D := (dC, dI)) (ci := 6) (v := .int (Int32.ofInt v2)) (C := RX6) (T := TX6) (N := 4) hx hb hz zi_X6 hown hK hP 1 rfl rfl 1 (by decide) (va_Nw.use rfl (hE.1.1 _ zw_331)) (fun _ h9 => h9) rfl dX7_write_49 ?_
    refine lv_iconst (v := Int32.ofInt 1) hx hb dX7_write_52 rfl ?_
    refine xi_isub hx hb dX7_write_53 hf (fun v5 hf => ?_)
    refine lv_istore (lv' := [(4, .int (Int32.ofInt v5)), (3, .int (Int32.ofInt x2)), (0, .ref q0), (1, .ref q14), (2, .int (Int32.ofInt x2))]) hx hb dX7_write_54 hl (by decide) rfl (fun ls hl => ?_)
    exact l_56  _ _ _ _ _ _ _ _ _ hf hP hD hS (lv_sub hl [2, 3, 1, 0] rfl)
  · obtain rfl := Option.some.inj hf
    exact hret _ _ _ _ dX7_write_15 hP hD hS
theorem dX1_stones_0 : decode cX1_stones 0 = .ok (.iconst 0, 1) := by decide +kernel
theorem dX1_stones_1 : decode cX1_stones 1 = .ok (.istore_n 1, 1) := by decide +kernel
theorem dX1_stones_2 : decode cX1_stones 2 = .ok (.iconst 0, 1) := by decide +kernel
theorem dX1_stones_3 : decode cX1_stones 3 = .ok (.istore_n 2, 1) := by decide +kernel
theorem dX1_stones_4 : decode cX1_stones 4 = .ok (.iload_n 2, 1) := by decide +kernel
theorem dX1_stones_5 : decode cX1_stones 5 = .ok (.aload_n 0, 1) := by decide +kernel
theorem dX1_stones_6 : decode cX1_stones 6 = .ok (.getfield 9, 3) := by decide +kernel
theorem dX1_stones_9 : decode cX1_stones 9 = .ok (.if_icmp .ge 18, 3) := by decide +kernel
theorem dX1_stones_12 : decode cX1_stones 12 = .ok (.iload_n 1, 1) := by decide +kernel
theorem dX1_stones_13 : decode cX1_stones 13 = .ok (.aload_n 0, 1) := by decide +kernel
theorem dX1_stones_14 : decode cX1_stones 14 = .ok (.getfield 15, 3) := by decide +kernel
theorem dX1_stones_17 : decode cX1_stones 17 = .ok (.iload_n 2, 1) := by decide +kernel
theorem dX1_stones_18 : decode cX1_stones 18 = .ok (.iaload, 1) := by decide +kernel
theorem dX1_stones_19 : decode cX1_stones 19 = .ok (.iadd, 1) := by decide +kernel
theorem dX1_stones_20 : decode cX1_stones 20 = .ok (.istore_n 1, 1) := by decide +kernel
theorem dX1_stones_21 : decode cX1_stones 21 = .ok (.iinc 2 1, 3) := by decide +kernel
theorem dX1_stones_24 : decode cX1_stones 24 = .ok (.goto (-20), 3) := by decide +kernel
theorem dX1_stones_27 : decode cX1_stones 27 = .ok (.iload_n 1, 1) := by decide +kernel
theorem dX1_stones_28 : decode cX1_stones 28 = .ok (.ireturn, 1) := by decide +kernel
theorem zw_925 : (Jvm.Cond.code ({ cls := "HillSchool$Columns", name := "stones", desc := "()I" } : Jvm.MethodName) prog_3_method_8_code (3 : Nat) (Option.some Jvm.ClassFile.FieldType.int)) ∈ zall := zmemG (zmj_4 102 rfl) rfl
abbrev w_Columns_stones : List Cond := .code yX1_stones cX1_stones 3 (some .int) :: zall
abbrev rm_Columns_stones : Room := { frames := 0, cells := 0, slots := 0, locals := 0 }
theorem hd_Columns_stones : yX1_stones.cls = "HillSchool$Columns" ∧ yX1_stones.cls ≠ "java/lang/invoke/MethodHandle" ∧ yX1_stones.cls ≠ "java/lang/invoke/VarHandle" ∧ (parseMethodDescriptor yX1_stones.desc).map (fun d => d.parameters.length) = some 0 := by decide +kernel
def wd_Columns_stones (cA : Nat → ClassId) (q0 q1 q2 : Nat) (i_many : Int) (i_heights : Nat → Int)  : va_W := [(q0, .inr (1, [.int (Int32.ofInt i_many), .ref q1, .ref q2])), (q1, .inl (cA 0, 12, .inl (za i_heights)))]
def wf_Columns_stones (cA : Nat → ClassId) (q0 q1 q2 : Nat) (i_many : Int) (i_heights : Nat → Int) (o : Int) : va_W := wd_Columns_stones cA q0 q1 q2 i_many i_heights
def f_Columns_stones_4_b (i_many : Int) (i_heights : Nat → Int) (k4 : Int → Int → Option (Int)) (x1 : Int) (x2 : Int) : Option (Int) :=
  if zi_w i_many ≤ zi_w x2 then
    some x1
  else
    zg 12 i_heights x2 fun v1 =>
    zn (x1 + v1) fun v2 =>
    zn (x2 + 1) fun v3 =>
    k4 v2 v3
def f_Columns_stones_4 (i_many : Int) (i_heights : Nat → Int) : Nat → Int → Int → Option (Int)
  | 0 => fun _ _ => none
  | n + 1 => fun y0 y1 => f_Columns_stones_4_b i_many i_heights (f_Columns_stones_4 i_many i_heights n) y0 y1
def f_Columns_stones (i_many : Int) (i_heights : Nat → Int) : Option (Int) :=
  f_Columns_stones_4 i_many i_heights zfu 0 0
set_option maxHeartbeats 4000000 in
set_option maxRecDepth 100000 in
theorem c_Columns_stones (l : Launch) (ev : zEv) (dC : Nat → ClassId) (dI : Nat → Nat → Nat) (cA : Nat → ClassId) (q0 q1 q2 : Nat) {i_many : Int} {i_heights : Nat → Int} {out : Int} (hf : f_Columns_stones i_many i_heights = some out) : xc_I l ev (dC, dI) vwCl (tyl cA) yX1_stones w_Columns_stones rm_Columns_stones [.ref q0] (wd_Columns_stones cA q0 q1 q2 i_many i_heights) (wf_Columns_stones cA q0 q1 q2 i_many i_heights out) out := by
  refine xv_startI (cc := cX1_stones) (maxL := 3) (rt := .int) (by decide +kernel) rfl (Nat.le_of_ble_eq_true rfl) ?_
  intro p e s m args below meth c A Q H ls hx hb hml hts hown hK hA hP hD hS hl hE hret
  have hown : s.vm.findClass "HillSchool$Columns" = some m.cls := hown
  have hz : ∀ w ∈ zall, w.before args s = true := fun w h => hts w (List.mem_cons_of_mem _ h)
  have hl : lv_has ls 3 [(0, .ref q0)] := hl
  have b_4 : ∀ (k4 : Int → Int → Option (Int)) (_ : ∀ (x1 : Int) (x2 : Int) (H : Heap) (locs : List Loc) (ls : Array Slot), k4 x1 x2 = some out → va_P (dC, dI) vwCl (wd_Columns_stones cA q0 q1 q2 i_many i_heights) H → va_D A (wd_Columns_stones cA q0 q1 q2 i_many i_heights) → va_S A s.heap H locs → lv_has ls 3 [(0, .ref q0), (1, .int (Int32.ofInt x1)), (2, .int (Int32.ofInt x2))] → W p l e rm_Columns_stones s m args below meth c H locs 0 0 Q (F0 m 4 ls [])), ∀ (x1 : Int) (x2 : Int) (H : Heap) (locs : List Loc) (ls : Array Slot), f_Columns_stones_4_b i_many i_heights k4 x1 x2 = some out → va_P (dC, dI) vwCl (wd_Columns_stones cA q0 q1 q2 i_many i_heights) H → va_D A (wd_Columns_stones cA q0 q1 q2 i_many i_heights) → va_S A s.heap H locs → lv_has ls 3 [(0, .ref q0), (1, .int (Int32.ofInt x1)), (2, .int (Int32.ofInt x2))] → W p l e rm_Columns_stones s m args below meth c H locs 0 0 Q (F0 m 4 ls []) := by
    intro k4 ih4 x1 x2 H locs ls hf hP hD hS hl
    unfold f_Columns_stones_4_b at hf
    refine lv_iload_n hx hb dX1_stones_4 rfl (lv_at hl 2 rfl) ?_
    refine lv_aload_n hx hb dX1_stones_5 rfl (lv_at hl 0 rfl) ?_
    refine va_get (D := (dC, dI)) (ci := 1) (v := .int (Int32.ofInt i_many)) (C := RX1) (T := TX1) (N := 3) hx hb hz zi_X1 hown hK hP 0 rfl rfl 0 (by decide) (hz _ zw_143) (fun _ h9 => h9) rfl dX1_stones_6 ?_
    refine xi_icmp_ge (tgt := 27) hx hb dX1_stones_9 (by decide) hf (fun hf => ?_) (fun hf => ?_)
    · refine lv_iload_n hx hb dX1_stones_27 rfl (lv_at hl 1 rfl) ?_
      obtain rfl := Option.some.inj hf
      exact hret _ _ _ _ rfl dX1_stones_28 hP hD hS
    · refine lv_iload_n hx hb dX1_stones_12 rfl (lv_at hl 1 rfl) ?_
      refine lv_aload_n hx hb dX1_stones_13 rfl (lv_at hl 0 rfl) ?_
      refine va_get (D := (dC, dI)) (ci := 1) (v := .ref q1) (C := RX1) (T := TX1) (N := 3) hx hb hz zi_X1 hown hK hP 0 rfl rfl 1 (by decide) (hz _ zw_149) (fun _ h9 => h9) rfl dX1_stones_14 ?_
      refine lv_iload_n hx hb dX1_stones_17 rfl (lv_at hl 2 rfl) ?_
      refine xi_iald hx hb hK hP 1 0 rfl rfl dX1_stones_18 hf (fun v1 hf => ?_)
      refine xi_iadd hx hb dX1_stones_19 hf (fun v2 hf => ?_)
      refine lv_istore_n (lv' := [(1, .int (Int32.ofInt v2)), (0, .ref q0), (2, .int (Int32.ofInt x2))]) hx hb dX1_stones_20 rfl hl (by decide) rfl (fun ls hl => ?_)
      refine xi_iinc hx hb dX1_stones_21 hl (k := 2) rfl (by decide) hf (fun v3 ls hl hf => ?_)
      have hl : lv_has ls 3 [(2, .int (Int32.ofInt v3)), (1, .int (Int32.ofInt v2)), (0, .ref q0)] := hl
      refine lv_goto (tgt := 4) hx hb dX1_stones_24 (by decide) ?_
      exact ih4 _ _ _ _ _ hf hP hD hS (lv_sub hl [2, 1, 0] rfl)
  have l_4 : ∀ (n : Nat), ∀ (x1 : Int) (x2 : Int) (H : Heap) (locs : List Loc) (ls : Array Slot), f_Columns_stones_4 i_many i_heights n x1 x2 = some out → va_P (dC, dI) vwCl (wd_Columns_stones cA q0 q1 q2 i_many i_heights) H → va_D A (wd_Columns_stones cA q0 q1 q2 i_many i_heights) → va_S A s.heap H locs → lv_has ls 3 [(0, .ref q0), (1, .int (Int32.ofInt x1)), (2, .int (Int32.ofInt x2))] → W p l e rm_Columns_stones s m args below meth c H locs 0 0 Q (F0 m 4 ls []) := by
    intro n
    induction n with
    | zero => intro x1 x2 H locs ls hf hP hD hS hl; exact nomatch hf
    | succ n ih => intro x1 x2 H locs ls hf hP hD hS hl; exact b_4 (f_Columns_stones_4 i_many i_heights n) ih x1 x2 H locs ls hf hP hD hS hl
  unfold f_Columns_stones at hf
  refine lv_iconst (v := Int32.ofInt 0) hx hb dX1_stones_0 rfl ?_
  refine lv_istore_n (lv' := [(1, .int (Int32.ofInt 0)), (0, .ref q0)]) hx hb dX1_stones_1 rfl hl (by decide) rfl (fun ls hl => ?_)
  refine lv_iconst (v := Int32.ofInt 0) hx hb dX1_stones_2 rfl ?_
  refine lv_istore_n (lv' := [(2, .int (Int32.ofInt 0)), (1, .int (Int32.ofInt 0)), (0, .ref q0)]) hx hb dX1_stones_3 rfl hl (by decide) rfl (fun ls hl => ?_)
  exact l_4  _ _ _ _ _ _ hf hP hD hS (lv_sub hl [2, 1, 0] rfl)
theorem dX7_goalsFit_0 : decode cX7_goalsFit 0 = .ok (.iconst 0, 1) := by decide +kernel
theorem dX7_goalsFit_1 : decode cX7_goalsFit 1 = .ok (.istore_n 1, 1) := by decide +kernel
theorem dX7_goalsFit_2 : decode cX7_goalsFit 2 = .ok (.iconst 1, 1) := by decide +kernel
theorem dX7_goalsFit_3 : decode cX7_goalsFit 3 = .ok (.istore_n 2, 1) := by decide +kernel
theorem dX7_goalsFit_4 : decode cX7_goalsFit 4 = .ok (.iconst 0, 1) := by decide +kernel
theorem dX7_goalsFit_5 : decode cX7_goalsFit 5 = .ok (.istore_n 3, 1) := by decide +kernel
theorem dX7_goalsFit_6 : decode cX7_goalsFit 6 = .ok (.iload_n 3, 1) := by decide +kernel
theorem dX7_goalsFit_7 : decode cX7_goalsFit 7 = .ok (.aload_n 0, 1) := by decide +kernel
theorem dX7_goalsFit_8 : decode cX7_goalsFit 8 = .ok (.getfield 50, 3) := by decide +kernel
theorem dX7_goalsFit_11 : decode cX7_goalsFit 11 = .ok (.getfield 58, 3) := by decide +kernel
theorem dX7_goalsFit_14 : decode cX7_goalsFit 14 = .ok (.getfield 64, 3) := by decide +kernel
theorem dX7_goalsFit_17 : decode cX7_goalsFit 17 = .ok (.if_icmp .ge 48, 3) := by decide +kernel
theorem dX7_goalsFit_20 : decode cX7_goalsFit 20 = .ok (.iload_n 1, 1) := by decide +kernel
theorem dX7_goalsFit_21 : decode cX7_goalsFit 21 = .ok (.iconst 0, 1) := by decide +kernel
theorem dX7_goalsFit_22 : decode cX7_goalsFit 22 = .ok (.aload_n 0, 1) := by decide +kernel
theorem dX7_goalsFit_23 : decode cX7_goalsFit 23 = .ok (.getfield 50, 3) := by decide +kernel
theorem dX7_goalsFit_26 : decode cX7_goalsFit 26 = .ok (.getfield 95, 3) := by decide +kernel
theorem dX7_goalsFit_29 : decode cX7_goalsFit 29 = .ok (.iload_n 3, 1) := by decide +kernel
theorem dX7_goalsFit_30 : decode cX7_goalsFit 30 = .ok (.iaload, 1) := by decide +kernel
theorem dX7_goalsFit_31 : decode cX7_goalsFit 31 = .ok (.invokestatic 98, 3) := by decide +kernel
theorem dX7_goalsFit_34 : decode cX7_goalsFit 34 = .ok (.iadd, 1) := by decide +kernel
theorem dX7_goalsFit_35 : decode cX7_goalsFit 35 = .ok (.istore_n 1, 1) := by decide +kernel
theorem dX7_goalsFit_36 : decode cX7_goalsFit 36 = .ok (.iload_n 2, 1) := by decide +kernel
theorem dX7_goalsFit_37 : decode cX7_goalsFit 37 = .ok (.ifCond .eq 20, 3) := by decide +kernel
theorem dX7_goalsFit_40 : decode cX7_goalsFit 40 = .ok (.aload_n 0, 1) := by decide +kernel
theorem dX7_goalsFit_41 : decode cX7_goalsFit 41 = .ok (.getfield 50, 3) := by decide +kernel
theorem dX7_goalsFit_44 : decode cX7_goalsFit 44 = .ok (.getfield 95, 3) := by decide +kernel
theorem dX7_goalsFit_47 : decode cX7_goalsFit 47 = .ok (.iload_n 3, 1) := by decide +kernel
theorem dX7_goalsFit_48 : decode cX7_goalsFit 48 = .ok (.iaload, 1) := by decide +kernel
theorem dX7_goalsFit_49 : decode cX7_goalsFit 49 = .ok (.iconst (-1), 1) := by decide +kernel
theorem dX7_goalsFit_50 : decode cX7_goalsFit 50 = .ok (.if_icmp .eq 7, 3) := by decide +kernel
theorem dX7_goalsFit_53 : decode cX7_goalsFit 53 = .ok (.iconst 1, 1) := by decide +kernel
theorem dX7_goalsFit_54 : decode cX7_goalsFit 54 = .ok (.goto 4, 3) := by decide +kernel
theorem dX7_goalsFit_57 : decode cX7_goalsFit 57 = .ok (.iconst 0, 1) := by decide +kernel
theorem dX7_goalsFit_58 : decode cX7_goalsFit 58 = .ok (.istore_n 2, 1) := by decide +kernel
theorem dX7_goalsFit_59 : decode cX7_goalsFit 59 = .ok (.iinc 3 1, 3) := by decide +kernel
theorem dX7_goalsFit_62 : decode cX7_goalsFit 62 = .ok (.goto (-56), 3) := by decide +kernel
theorem dX7_goalsFit_65 : decode cX7_goalsFit 65 = .ok (.aload_n 0, 1) := by decide +kernel
theorem dX7_goalsFit_66 : decode cX7_goalsFit 66 = .ok (.getfield 50, 3) := by decide +kernel
theorem dX7_goalsFit_69 : decode cX7_goalsFit 69 = .ok (.getfield 58, 3) := by decide +kernel
theorem dX7_goalsFit_72 : decode cX7_goalsFit 72 = .ok (.invokevirtual 70, 3) := by decide +kernel
theorem dX7_goalsFit_75 : decode cX7_goalsFit 75 = .ok (.istore_n 3, 1) := by decide +kernel
theorem dX7_goalsFit_76 : decode cX7_goalsFit 76 = .ok (.iload_n 1, 1) := by decide +kernel
theorem dX7_goalsFit_77 : decode cX7_goalsFit 77 = .ok (.iload_n 3, 1) := by decide +kernel
theorem dX7_goalsFit_78 : decode cX7_goalsFit 78 = .ok (.if_icmp .eq 12, 3) := by decide +kernel
theorem dX7_goalsFit_81 : decode cX7_goalsFit 81 = .ok (.iload_n 1, 1) := by decide +kernel
theorem dX7_goalsFit_82 : decode cX7_goalsFit 82 = .ok (.iload_n 3, 1) := by decide +kernel
theorem dX7_goalsFit_83 : decode cX7_goalsFit 83 = .ok (.if_icmp .ge 11, 3) := by decide +kernel
theorem dX7_goalsFit_86 : decode cX7_goalsFit 86 = .ok (.iload_n 2, 1) := by decide +kernel
theorem dX7_goalsFit_87 : decode cX7_goalsFit 87 = .ok (.ifCond .ne 7, 3) := by decide +kernel
theorem dX7_goalsFit_90 : decode cX7_goalsFit 90 = .ok (.iconst 1, 1) := by decide +kernel
theorem dX7_goalsFit_91 : decode cX7_goalsFit 91 = .ok (.goto 4, 3) := by decide +kernel
theorem dX7_goalsFit_94 : decode cX7_goalsFit 94 = .ok (.iconst 0, 1) := by decide +kernel
theorem dX7_goalsFit_95 : decode cX7_goalsFit 95 = .ok (.ireturn, 1) := by decide +kernel
theorem zw_144 : (Jvm.Cond.fieldLinkNest "HillSchool$Planner" (64 : Nat) "HillSchool$Columns" "many" "I" "HillSchool") ∈ znest := zmemH (zmj_1 41 rfl) rfl
theorem zw_170 : (Jvm.Cond.fieldLinkNest "HillSchool$Planner" (58 : Nat) "HillSchool$Hill" "columns" "LHillSchool$Columns;" "HillSchool") ∈ znest := zmemH (zmj_1 67 rfl) rfl
theorem zw_195 : (Jvm.Cond.fieldLinkNest "HillSchool$Planner" (95 : Nat) "HillSchool$Hill" "goals" "[I" "HillSchool") ∈ znest := zmemH (zmj_1 92 rfl) rfl
theorem zw_347 : (Jvm.Cond.fieldLink "HillSchool$Planner" (50 : Nat) "HillSchool$Planner" "hill" "LHillSchool$Hill;") ∈ zall := zmemG (zmj_2 4 rfl) rfl
theorem zw_922 : (Jvm.Cond.methodLink "HillSchool$Planner" (70 : Nat) ({ cls := "HillSchool$Columns", name := "stones", desc := "()I" } : Jvm.MethodName)) ∈ zall := zmemG (zmj_4 99 rfl) rfl
theorem zw_923 : (Jvm.Cond.instanceMethod ({ cls := "HillSchool$Columns", name := "stones", desc := "()I" } : Jvm.MethodName)) ∈ zall := zmemG (zmj_4 100 rfl) rfl
theorem zw_924 : (Jvm.Cond.selects "HillSchool$Columns" ({ cls := "HillSchool$Columns", name := "stones", desc := "()I" } : Jvm.MethodName) ({ cls := "HillSchool$Columns", name := "stones", desc := "()I" } : Jvm.MethodName)) ∈ zall := zmemG (zmj_4 101 rfl) rfl
theorem zw_934 : (Jvm.Cond.code ({ cls := "HillSchool$Planner", name := "goalsFit", desc := "()Z" } : Jvm.MethodName) prog_9_method_4_code (4 : Nat) (Option.some Jvm.ClassFile.FieldType.boolean)) ∈ zall := zmemG (zmj_4 111 rfl) rfl
theorem zw_935 : (Jvm.Cond.methodLink "HillSchool$Planner" (98 : Nat) ({ cls := "java/lang/Math", name := "max", desc := "(II)I" } : Jvm.MethodName)) ∈ zall := zmemG (zmj_4 112 rfl) rfl
abbrev w_Planner_goalsFit : List Cond := .code yX7_goalsFit cX7_goalsFit 4 (some .boolean) :: zall
abbrev rm_Planner_goalsFit : Room := { frames := 2, cells := 0, slots := 0, locals := 60 }
theorem hd_Planner_goalsFit : yX7_goalsFit.cls = "HillSchool$Planner" ∧ yX7_goalsFit.cls ≠ "java/lang/invoke/MethodHandle" ∧ yX7_goalsFit.cls ≠ "java/lang/invoke/VarHandle" ∧ (parseMethodDescriptor yX7_goalsFit.desc).map (fun d => d.parameters.length) = some 0 := by decide +kernel
def wd_Planner_goalsFit (cA : Nat → ClassId) (q0 q1 q2 q3 q4 q5 q6 q7 q8 q9 q10 q11 q12 q13 q14 q15 q16 q17 q18 q19 q20 q21 q22 q23 q24 : Nat) (u0 u1 u2 u3 u4 u5 u6 u7 : Int) (i_hill_columns_many : Int) (i_hill_goals : Nat → Int) (i_hill_columns_heights : Nat → Int)  : va_W := [(q0, .inr (7, [.ref q1, .ref q2, .ref q3, .ref q4, .ref q5, .ref q6, .ref q7, .ref q8, .ref q9, .ref q10, .ref q11, .ref q12, .ref q13, .int (Int32.ofInt u0), .int (Int32.ofInt u1), .int (Int32.ofInt u2)])), (q1, .inr (2, [.ref q14, .int (Int32.ofInt u3), .ref q15, .ref q16, .ref q17, .int (Int32.ofInt u4), .ref q18, .ref q19, .ref q20, .int (Int32.ofInt u5), .ref q21, .ref q22, .int (Int32.ofInt u6), .int (Int32.ofInt u7)])), (q14, .inr (1, [.int (Int32.ofInt i_hill_columns_many), .ref q23, .ref q24])), (q20, .inl (cA 0, 12, .inl (za i_hill_goals))), (q23, .inl (cA 0, 12, .inl (za i_hill_columns_heights)))]
def wf_Planner_goalsFit (cA : Nat → ClassId) (q0 q1 q2 q3 q4 q5 q6 q7 q8 q9 q10 q11 q12 q13 q14 q15 q16 q17 q18 q19 q20 q21 q22 q23 q24 : Nat) (u0 u1 u2 u3 u4 u5 u6 u7 : Int) (i_hill_columns_many : Int) (i_hill_goals : Nat → Int) (i_hill_columns_heights : Nat → Int) (o : Int) : va_W := wd_Planner_goalsFit cA q0 q1 q2 q3 q4 q5 q6 q7 q8 q9 q10 q11 q12 q13 q14 q15 q16 q17 q18 q19 q20 q21 q22 q23 q24 u0 u1 u2 u3 u4 u5 u6 u7 i_hill_columns_many i_hill_goals i_hill_columns_heights
def f_Planner_goalsFit_58 (i_hill_columns_many : Int) (i_hill_goals : Nat → Int) (i_hill_columns_heights : Nat → Int) (k6 : Int → Int → Int → Option (Int)) (x1 : Int) (x3 : Int) (s0 : Int) : Option (Int) :=
  zn (x3 + 1) fun v1 =>
  k6 x1 s0 v1
def f_Planner_goalsFit_57 (i_hill_columns_many : Int) (i_hill_goals : Nat → Int) (i_hill_columns_heights : Nat → Int) (k6 : Int → Int → Int → Option (Int)) (x1 : Int) (x3 : Int) : Option (Int) :=
  f_Planner_goalsFit_58 i_hill_columns_many i_hill_goals i_hill_columns_heights k6 x1 x3 0
def f_Planner_goalsFit_6_b (i_hill_columns_many : Int) (i_hill_goals : Nat → Int) (i_hill_columns_heights : Nat → Int) (k6 : Int → Int → Int → Option (Int)) (x1 : Int) (x2 : Int) (x3 : Int) : Option (Int) :=
  if zi_w i_hill_columns_many ≤ zi_w x3 then
    zd1 (f_Columns_stones i_hill_columns_many i_hill_columns_heights) fun v1 =>
    if zi_w x1 = zi_w v1 then
      some 1
    else
      if zi_w v1 ≤ zi_w x1 then
        some 0
      else
        if zi_w x2 ≠ 0 then
          some 0
        else
          some 1
  else
    zg 12 i_hill_goals x3 fun v2 =>
    zn (zi_max 0 v2) fun v3 =>
    zn (x1 + v3) fun v4 =>
    if zi_w x2 = 0 then
      f_Planner_goalsFit_57 i_hill_columns_many i_hill_goals i_hill_columns_heights k6 v4 x3
    else
      zg 12 i_hill_goals x3 fun v5 =>
      if zi_w v5 = zi_w (-1) then
        f_Planner_goalsFit_57 i_hill_columns_many i_hill_goals i_hill_columns_heights k6 v4 x3
      else
        f_Planner_goalsFit_58 i_hill_columns_many i_hill_goals i_hill_columns_heights k6 v4 x3 1
def f_Planner_goalsFit_6 (i_hill_columns_many : Int) (i_hill_goals : Nat → Int) (i_hill_columns_heights : Nat → Int) : Nat → Int → Int → Int → Option (Int)
  | 0 => fun _ _ _ => none
  | n + 1 => fun y0 y1 y2 => f_Planner_goalsFit_6_b i_hill_columns_many i_hill_goals i_hill_columns_heights (f_Planner_goalsFit_6 i_hill_columns_many i_hill_goals i_hill_columns_heights n) y0 y1 y2
def f_Planner_goalsFit (i_hill_columns_many : Int) (i_hill_goals : Nat → Int) (i_hill_columns_heights : Nat → Int) : Option (Int) :=
  f_Planner_goalsFit_6 i_hill_columns_many i_hill_goals i_hill_columns_heights zfu 0 1 0
set_option maxHeartbeats 4000000 in
set_option maxRecDepth 100000 in
theorem c_Planner_goalsFit (l : Launch) (ev : zEv) (dC : Nat → ClassId) (dI : Nat → Nat → Nat) (cA : Nat → ClassId) (q0 q1 q2 q3 q4 q5 q6 q7 q8 q9 q10 q11 q12 q13 q14 q15 q16 q17 q18 q19 q20 q21 q22 q23 q24 : Nat) (u0 u1 u2 u3 u4 u5 u6 u7 : Int) {i_hill_columns_many : Int} {i_hill_goals : Nat → Int} {i_hill_columns_heights : Nat → Int} {out : Int} (hf : f_Planner_goalsFit i_hill_columns_many i_hill_goals i_hill_columns_heights = some out) : xc_I l ev (dC, dI) vwCl (tyl cA) yX7_goalsFit w_Planner_goalsFit rm_Planner_goalsFit [.ref q0] (wd_Planner_goalsFit cA q0 q1 q2 q3 q4 q5 q6 q7 q8 q9 q10 q11 q12 q13 q14 q15 q16 q17 q18 q19 q20 q21 q22 q23 q24 u0 u1 u2 u3 u4 u5 u6 u7 i_hill_columns_many i_hill_goals i_hill_columns_heights) (wf_Planner_goalsFit cA q0 q1 q2 q3 q4 q5 q6 q7 q8 q9 q10 q11 q12 q13 q14 q15 q16 q17 q18 q19 q20 q21 q22 q23 q24 u0 u1 u2 u3 u4 u5 u6 u7 i_hill_columns_many i_hill_goals i_hill_columns_heights out) out := by
  refine xv_startI (cc := cX7_goalsFit) (maxL := 4) (rt := .boolean) (by decide +kernel) rfl (Nat.le_of_ble_eq_true rfl) ?_
  intro p e s m args below meth c A Q H ls hx hb hml hts hown hK hA hP hD hS hl hE hret
  have hown : s.vm.findClass "HillSchool$Planner" = some m.cls := hown
  have hz : ∀ w ∈ zall, w.before args s = true := fun w h => hts w (List.mem_cons_of_mem _ h)
  have hl : lv_has ls 4 [(0, .ref q0)] := hl
  have b_58 : ∀ (k6 : Int → Int → Int → Option (Int)) (_ : ∀ (x1 : Int) (x2 : Int) (x3 : Int) (H : Heap) (locs : List Loc) (ls : Array Slot), k6 x1 x2 x3 = some out → va_P (dC, dI) vwCl (wd_Planner_goalsFit cA q0 q1 q2 q3 q4 q5 q6 q7 q8 q9 q10 q11 q12 q13 q14 q15 q16 q17 q18 q19 q20 q21 q22 q23 q24 u0 u1 u2 u3 u4 u5 u6 u7 i_hill_columns_many i_hill_goals i_hill_columns_heights) H → va_D A (wd_Planner_goalsFit cA q0 q1 q2 q3 q4 q5 q6 q7 q8 q9 q10 q11 q12 q13 q14 q15 q16 q17 q18 q19 q20 q21 q22 q23 q24 u0 u1 u2 u3 u4 u5 u6 u7 i_hill_columns_many i_hill_goals i_hill_columns_heights) → va_S A s.heap H locs → lv_has ls 4 [(0, .ref q0), (1, .int (Int32.ofInt x1)), (2, .int (Int32.ofInt x2)), (3, .int (Int32.ofInt x3))] → W p l e rm_Planner_goalsFit s m args below meth c H locs 0 0 Q (F0 m 6 ls [])), ∀ (x1 : Int) (x3 : Int) (s0 : Int) (H : Heap) (locs : List Loc) (ls : Array Slot), f_Planner_goalsFit_58 i_hill_columns_many i_hill_goals i_hill_columns_heights k6 x1 x3 s0 = some out → va_P (dC, dI) vwCl (wd_Planner_goalsFit cA q0 q1 q2 q3 q4 q5 q6 q7 q8 q9 q10 q11 q12 q13 q14 q15 q16 q17 q18 q19 q20 q21 q22 q23 q24 u0 u1 u2 u3 u4 u5 u6 u7 i_hill_columns_many i_hill_goals i_hill_columns_heights) H → va_D A (wd_Planner_goalsFit cA q0 q1 q2 q3 q4 q5 q6 q7 q8 q9 q10 q11 q12 q13 q14 q15 q16 q17 q18 q19 q20 q21 q22 q23 q24 u0 u1 u2 u3 u4 u5 u6 u7 i_hill_columns_many i_hill_goals i_hill_columns_heights) → va_S A s.heap H locs → lv_has ls 4 [(0, .ref q0), (1, .int (Int32.ofInt x1)), (3, .int (Int32.ofInt x3))] → W p l e rm_Planner_goalsFit s m args below meth c H locs 0 0 Q (F0 m 58 ls [.int (Int32.ofInt s0)]) := by
    intro k6 ih6 x1 x3 s0 H locs ls hf hP hD hS hl
    unfold f_Planner_goalsFit_58 at hf
    refine lv_istore_n (lv' := [(2, .int (Int32.ofInt s0)), (0, .ref q0), (1, .int (Int32.ofInt x1)), (3, .int (Int32.ofInt x3))]) hx hb dX7_goalsFit_58 rfl hl (by decide) rfl (fun ls hl => ?_)
    refine xi_iinc hx hb dX7_goalsFit_59 hl (k := 3) rfl (by decide) hf (fun v1 ls hl hf => ?_)
    have hl : lv_has ls 4 [(3, .int (Int32.ofInt v1)), (2, .int (Int32.ofInt s0)), (0, .ref q0), (1, .int (Int32.ofInt x1))] := hl
    refine lv_goto (tgt := 6) hx hb dX7_goalsFit_62 (by decide) ?_
    exact ih6 _ _ _ _ _ _ hf hP hD hS (lv_sub hl [2, 3, 1, 0] rfl)
  have b_57 : ∀ (k6 : Int → Int → Int → Option (Int)) (_ : ∀ (x1 : Int) (x2 : Int) (x3 : Int) (H : Heap) (locs : List Loc) (ls : Array Slot), k6 x1 x2 x3 = some out → va_P (dC, dI) vwCl (wd_Planner_goalsFit cA q0 q1 q2 q3 q4 q5 q6 q7 q8 q9 q10 q11 q12 q13 q14 q15 q16 q17 q18 q19 q20 q21 q22 q23 q24 u0 u1 u2 u3 u4 u5 u6 u7 i_hill_columns_many i_hill_goals i_hill_columns_heights) H → va_D A (wd_Planner_goalsFit cA q0 q1 q2 q3 q4 q5 q6 q7 q8 q9 q10 q11 q12 q13 q14 q15 q16 q17 q18 q19 q20 q21 q22 q23 q24 u0 u1 u2 u3 u4 u5 u6 u7 i_hill_columns_many i_hill_goals i_hill_columns_heights) → va_S A s.heap H locs → lv_has ls 4 [(0, .ref q0), (1, .int (Int32.ofInt x1)), (2, .int (Int32.ofInt x2)), (3, .int (Int32.ofInt x3))] → W p l e rm_Planner_goalsFit s m args below meth c H locs 0 0 Q (F0 m 6 ls [])), ∀ (x1 : Int) (x3 : Int) (H : Heap) (locs : List Loc) (ls : Array Slot), f_Planner_goalsFit_57 i_hill_columns_many i_hill_goals i_hill_columns_heights k6 x1 x3 = some out → va_P (dC, dI) vwCl (wd_Planner_goalsFit cA q0 q1 q2 q3 q4 q5 q6 q7 q8 q9 q10 q11 q12 q13 q14 q15 q16 q17 q18 q19 q20 q21 q22 q23 q24 u0 u1 u2 u3 u4 u5 u6 u7 i_hill_columns_many i_hill_goals i_hill_columns_heights) H → va_D A (wd_Planner_goalsFit cA q0 q1 q2 q3 q4 q5 q6 q7 q8 q9 q10 q11 q12 q13 q14 q15 q16 q17 q18 q19 q20 q21 q22 q23 q24 u0 u1 u2 u3 u4 u5 u6 u7 i_hill_columns_many i_hill_goals i_hill_columns_heights) → va_S A s.heap H locs → lv_has ls 4 [(0, .ref q0), (1, .int (Int32.ofInt x1)), (3, .int (Int32.ofInt x3))] → W p l e rm_Planner_goalsFit s m args below meth c H locs 0 0 Q (F0 m 57 ls []) := by
    intro k6 ih6 x1 x3 H locs ls hf hP hD hS hl
    unfold f_Planner_goalsFit_57 at hf
    refine lv_iconst (v := Int32.ofInt 0) hx hb dX7_goalsFit_57 rfl ?_
    exact b_58 _ ih6 _ _ _ _ _ _ hf hP hD hS (lv_sub hl [0, 1, 2] rfl)
  have b_6 : ∀ (k6 : Int → Int → Int → Option (Int)) (_ : ∀ (x1 : Int) (x2 : Int) (x3 : Int) (H : Heap) (locs : List Loc) (ls : Array Slot), k6 x1 x2 x3 = some out → va_P (dC, dI) vwCl (wd_Planner_goalsFit cA q0 q1 q2 q3 q4 q5 q6 q7 q8 q9 q10 q11 q12 q13 q14 q15 q16 q17 q18 q19 q20 q21 q22 q23 q24 u0 u1 u2 u3 u4 u5 u6 u7 i_hill_columns_many i_hill_goals i_hill_columns_heights) H → va_D A (wd_Planner_goalsFit cA q0 q1 q2 q3 q4 q5 q6 q7 q8 q9 q10 q11 q12 q13 q14 q15 q16 q17 q18 q19 q20 q21 q22 q23 q24 u0 u1 u2 u3 u4 u5 u6 u7 i_hill_columns_many i_hill_goals i_hill_columns_heights) → va_S A s.heap H locs → lv_has ls 4 [(0, .ref q0), (1, .int (Int32.ofInt x1)), (2, .int (Int32.ofInt x2)), (3, .int (Int32.ofInt x3))] → W p l e rm_Planner_goalsFit s m args below meth c H locs 0 0 Q (F0 m 6 ls [])), ∀ (x1 : Int) (x2 : Int) (x3 : Int) (H : Heap) (locs : List Loc) (ls : Array Slot), f_Planner_goalsFit_6_b i_hill_columns_many i_hill_goals i_hill_columns_heights k6 x1 x2 x3 = some out → va_P (dC, dI) vwCl (wd_Planner_goalsFit cA q0 q1 q2 q3 q4 q5 q6 q7 q8 q9 q10 q11 q12 q13 q14 q15 q16 q17 q18 q19 q20 q21 q22 q23 q24 u0 u1 u2 u3 u4 u5 u6 u7 i_hill_columns_many i_hill_goals i_hill_columns_heights) H → va_D A (wd_Planner_goalsFit cA q0 q1 q2 q3 q4 q5 q6 q7 q8 q9 q10 q11 q12 q13 q14 q15 q16 q17 q18 q19 q20 q21 q22 q23 q24 u0 u1 u2 u3 u4 u5 u6 u7 i_hill_columns_many i_hill_goals i_hill_columns_heights) → va_S A s.heap H locs → lv_has ls 4 [(0, .ref q0), (1, .int (Int32.ofInt x1)), (2, .int (Int32.ofInt x2)), (3, .int (Int32.ofInt x3))] → W p l e rm_Planner_goalsFit s m args below meth c H locs 0 0 Q (F0 m 6 ls []) := by
    intro k6 ih6 x1 x2 x3 H locs ls hf hP hD hS hl
    unfold f_Planner_goalsFit_6_b at hf
    refine lv_iload_n hx hb dX7_goalsFit_6 rfl (lv_at hl 3 rfl) ?_
    refine lv_aload_n hx hb dX7_goalsFit_7 rfl (lv_at hl 0 rfl) ?_
    refine va_get (D := (dC, dI)) (ci := 7) (v := .ref q1) (C := RX7) (T := TX7) (N := 16) hx hb hz zi_X7 hown hK hP 0 rfl rfl 0 (by decide) (hz _ zw_347) (fun _ h9 => h9) rfl dX7_goalsFit_8 ?_
    refine va_getN (D := (dC, dI)) (ci := 2) (v := .ref q14) (C := RX2) (T := TX2) (N := 14) hx hb hz zi_X2 hown hK hP 1 rfl rfl 0 (by decide) (va_Nw.use rfl (hE.1.1 _ zw_170)) (fun _ h9 => h9) rfl dX7_goalsFit_11 ?_
    refine va_getN (D := (dC, dI)) (ci := 1) (v := .int (Int32.ofInt i_hill_columns_many)) (C := RX1) (T := TX1) (N := 3) hx hb hz zi_X1 hown hK hP 2 rfl rfl 0 (by decide) (va_Nw.use rfl (hE.1.1 _ zw_144)) (fun _ h9 => h9) rfl dX7_goalsFit_14 ?_
    refine xi_icmp_ge (tgt := 65) hx hb dX7_goalsFit_17 (by decide) hf (fun hf => ?_) (fun hf => ?_)
    · refine lv_aload_n hx hb dX7_goalsFit_65 rfl (lv_at hl 0 rfl) ?_
      refine va_get (D := (dC, dI)) (ci := 7) (v := .ref q1) (C := RX7) (T := TX7) (N := 16) hx hb hz zi_X7 hown hK hP 0 rfl rfl 0 (by decide) (hz _ zw_347) (fun _ h9 => h9) rfl dX7_goalsFit_66 ?_
      refine va_getN (D := (dC, dI)) (ci := 2) (v := .ref q14) (C := RX2) (T := TX2) (N := 14) hx hb hz zi_X2 hown hK hP 1 rfl rfl 0 (by decide) (va_Nw.use rfl (hE.1.1 _ zw_170)) (fun _ h9 => h9) rfl dX7_goalsFit_69 ?_
      refine xe_d1 hf (fun v1 hg hf => ?_)
      have hC : ([2, 4] : List Nat).map (fun i => (wd_Planner_goalsFit cA q0 q1 q2 q3 q4 q5 q6 q7 q8 q9 q10 q11 q12 q13 q14 q15 q16 q17 q18 q19 q20 q21 q22 q23 q24 u0 u1 u2 u3 u4 u5 u6 u7 i_hill_columns_many i_hill_goals i_hill_columns_heights)[i]?) = (wd_Columns_stones cA q14 q23 q24 i_hill_columns_many i_hill_columns_heights).map some := rfl
      refine xv_afterI (ws' := (wd_Planner_goalsFit cA q0 q1 q2 q3 q4 q5 q6 q7 q8 q9 q10 q11 q12 q13 q14 q15 q16 q17 q18 q19 q20 q21 q22 q23 q24 u0 u1 u2 u3 u4 u5 u6 u7 i_hill_columns_many i_hill_goals i_hill_columns_heights)) (isC := [2, 4]) (ps := [none, none, some 0, none, some 1]) (va_runV (As := []) (rest := []) ⟨hx, hb, hml, hown, hts⟩ (c_Columns_stones l ev dC dI cA q14 q23 q24 hg H.size) (cwV 0 hts (zgV zw_922 zw_923 zw_924 zw_106 zw_925) rfl rfl rfl hd_Columns_stones ⟨Nat.le_of_ble_eq_true rfl, Nat.le_of_ble_eq_true rfl⟩) (xv_preV (T := TX1) (N := 3) hE hA hS hK hP hD (isC := [2, 4]) (by decide +kernel) hC (q0 := 2) (ci := 1) rfl rfl) rfl rfl hl.1 rfl (lv_room (Nat.le_of_ble_eq_true rfl)) dX7_goalsFit_72 ⟨Nat.le_refl _, Nat.le_refl _⟩) hP hD hS hA (by decide +kernel) rfl hC rfl rfl (fun H locs hP hD hS => ?_)
      refine lv_istore_n (lv' := [(3, .int (Int32.ofInt v1)), (0, .ref q0), (1, .int (Int32.ofInt x1)), (2, .int (Int32.ofInt x2))]) hx hb dX7_goalsFit_75 rfl hl (by decide) rfl (fun ls hl => ?_)
      refine lv_iload_n hx hb dX7_goalsFit_76 rfl (lv_at hl 2 rfl) ?_
      refine lv_iload_n hx hb dX7_goalsFit_77 rfl (lv_at hl 0 rfl) ?_
      refine xi_icmp_eq (tgt := 90) hx hb dX7_goalsFit_78 (by decide) hf (fun hf => ?_) (fun hf => ?_)
      · refine lv_iconst (v := Int32.ofInt 1) hx hb dX7_goalsFit_90 rfl ?_
        refine lv_goto (tgt := 95) hx hb dX7_goalsFit_91 (by decide) ?_
        obtain rfl := Option.some.inj hf
        exact hret _ _ _ _ zz_b1 dX7_goalsFit_95 hP hD hS
      · refine lv_iload_n hx hb dX7_goalsFit_81 rfl (lv_at hl 2 rfl) ?_
        refine lv_iload_n hx hb dX7_goalsFit_82 rfl (lv_at hl 0 rfl) ?_
        refine xi_icmp_ge (tgt := 94) hx hb dX7_goalsFit_83 (by decide) hf (fun hf => ?_) (fun hf => ?_)
        · refine lv_iconst (v := Int32.ofInt 0) hx hb dX7_goalsFit_94 rfl ?_
          obtain rfl := Option.some.inj hf
          exact hret _ _ _ _ zz_b0 dX7_goalsFit_95 hP hD hS
        · refine lv_iload_n hx hb dX7_goalsFit_86 rfl (lv_at hl 3 rfl) ?_
          refine xi_if_ne (tgt := 94) hx hb dX7_goalsFit_87 (by decide) hf (fun hf => ?_) (fun hf => ?_)
          · refine lv_iconst (v := Int32.ofInt 0) hx hb dX7_goalsFit_94 rfl ?_
            obtain rfl := Option.some.inj hf
            exact hret _ _ _ _ zz_b0 dX7_goalsFit_95 hP hD hS
          · refine lv_iconst (v := Int32.ofInt 1) hx hb dX7_goalsFit_90 rfl ?_
            refine lv_goto (tgt := 95) hx hb dX7_goalsFit_91 (by decide) ?_
            obtain rfl := Option.some.inj hf
            exact hret _ _ _ _ zz_b1 dX7_goalsFit_95 hP hD hS
    · refine lv_iload_n hx hb dX7_goalsFit_20 rfl (lv_at hl 1 rfl) ?_
      refine lv_iconst (v := Int32.ofInt 0) hx hb dX7_goalsFit_21 rfl ?_
      refine lv_aload_n hx hb dX7_goalsFit_22 rfl (lv_at hl 0 rfl) ?_
      refine va_get (D := (dC, dI)) (ci := 7) (v := .ref q1) (C := RX7) (T := TX7) (N := 16) hx hb hz zi_X7 hown hK hP 0 rfl rfl 0 (by decide) (hz _ zw_347) (fun _ h9 => h9) rfl dX7_goalsFit_23 ?_
      refine va_getN (D := (dC, dI)) (ci := 2) (v := .ref q20) (C := RX2) (T := TX2) (N := 14) hx hb hz zi_X2 hown hK hP 1 rfl rfl 8 (by decide) (va_Nw.use rfl (hE.1.1 _ zw_195)) (fun _ h9 => h9) rfl dX7_goalsFit_26 ?_
      refine lv_iload_n hx hb dX7_goalsFit_29 rfl (lv_at hl 3 rfl) ?_
      refine xi_iald hx hb hK hP 3 0 rfl rfl dX7_goalsFit_30 hf (fun v2 hf => ?_)
      refine xi_mmax hx hb (hml.trans hl.1.symm) hown (hz _ zw_935) (hz _ zw_654) (hz _ zw_116) (hz _ zw_655) (Nat.le_of_ble_eq_true rfl) (Nat.le_of_ble_eq_true rfl) (Nat.zero_le _) (Nat.zero_le _) dX7_goalsFit_31 hf (fun v3 hf => ?_)
      refine xi_iadd hx hb dX7_goalsFit_34 hf (fun v4 hf => ?_)
      refine lv_istore_n (lv' := [(1, .int (Int32.ofInt v4)), (0, .ref q0), (2, .int (Int32.ofInt x2)), (3, .int (Int32.ofInt x3))]) hx hb dX7_goalsFit_35 rfl hl (by decide) rfl (fun ls hl => ?_)
      refine lv_iload_n hx hb dX7_goalsFit_36 rfl (lv_at hl 2 rfl) ?_
      refine xi_if_eq (tgt := 57) hx hb dX7_goalsFit_37 (by decide) hf (fun hf => ?_) (fun hf => ?_)
      · exact b_57 _ ih6 _ _ _ _ _ hf hP hD hS (lv_sub hl [1, 0, 3] rfl)
      · refine lv_aload_n hx hb dX7_goalsFit_40 rfl (lv_at hl 1 rfl) ?_
        refine va_get (D := (dC, dI)) (ci := 7) (v := .ref q1) (C := RX7) (T := TX7) (N := 16) hx hb hz zi_X7 hown hK hP 0 rfl rfl 0 (by decide) (hz _ zw_347) (fun _ h9 => h9) rfl dX7_goalsFit_41 ?_
        refine va_getN (D := (dC, dI)) (ci := 2) (v := .ref q20) (C := RX2) (T := TX2) (N := 14) hx hb hz zi_X2 hown hK hP 1 rfl rfl 8 (by decide) (va_Nw.use rfl (hE.1.1 _ zw_195)) (fun _ h9 => h9) rfl dX7_goalsFit_44 ?_
        refine lv_iload_n hx hb dX7_goalsFit_47 rfl (lv_at hl 3 rfl) ?_
        refine xi_iald hx hb hK hP 3 0 rfl rfl dX7_goalsFit_48 hf (fun v5 hf => ?_)
        refine lv_iconst (v := Int32.ofInt (-1)) hx hb dX7_goalsFit_49 rfl ?_
        refine xi_icmp_eq (tgt := 57) hx hb dX7_goalsFit_50 (by decide) hf (fun hf => ?_) (fun hf => ?_)
        · exact b_57 _ ih6 _ _ _ _ _ hf hP hD hS (lv_sub hl [1, 0, 3] rfl)
        · refine lv_iconst (v := Int32.ofInt 1) hx hb dX7_goalsFit_53 rfl ?_
          refine lv_goto (tgt := 58) hx hb dX7_goalsFit_54 (by decide) ?_
          exact b_58 _ ih6 _ _ _ _ _ _ hf hP hD hS (lv_sub hl [1, 0, 3] rfl)
  have l_6 : ∀ (n : Nat), ∀ (x1 : Int) (x2 : Int) (x3 : Int) (H : Heap) (locs : List Loc) (ls : Array Slot), f_Planner_goalsFit_6 i_hill_columns_many i_hill_goals i_hill_columns_heights n x1 x2 x3 = some out → va_P (dC, dI) vwCl (wd_Planner_goalsFit cA q0 q1 q2 q3 q4 q5 q6 q7 q8 q9 q10 q11 q12 q13 q14 q15 q16 q17 q18 q19 q20 q21 q22 q23 q24 u0 u1 u2 u3 u4 u5 u6 u7 i_hill_columns_many i_hill_goals i_hill_columns_heights) H → va_D A (wd_Planner_goalsFit cA q0 q1 q2 q3 q4 q5 q6 q7 q8 q9 q10 q11 q12 q13 q14 q15 q16 q17 q18 q19 q20 q21 q22 q23 q24 u0 u1 u2 u3 u4 u5 u6 u7 i_hill_columns_many i_hill_goals i_hill_columns_heights) → va_S A s.heap H locs → lv_has ls 4 [(0, .ref q0), (1, .int (Int32.ofInt x1)), (2, .int (Int32.ofInt x2)), (3, .int (Int32.ofInt x3))] → W p l e rm_Planner_goalsFit s m args below meth c H locs 0 0 Q (F0 m 6 ls []) := by
    intro n
    induction n with
    | zero => intro x1 x2 x3 H locs ls hf hP hD hS hl; exact nomatch hf
    | succ n ih => intro x1 x2 x3 H locs ls hf hP hD hS hl; exact b_6 (f_Planner_goalsFit_6 i_hill_columns_many i_hill_goals i_hill_columns_heights n) ih x1 x2 x3 H locs ls hf hP hD hS hl
  unfold f_Planner_goalsFit at hf
  refine lv_iconst (v := Int32.ofInt 0) hx hb dX7_goalsFit_0 rfl ?_
  refine lv_istore_n (lv' := [(1, .int (Int32.ofInt 0)), (0, .ref q0)]) hx hb dX7_goalsFit_1 rfl hl (by decide) rfl (fun ls hl => ?_)
  refine lv_iconst (v := Int32.ofInt 1) hx hb dX7_goalsFit_2 rfl ?_
  refine lv_istore_n (lv' := [(2, .int (Int32.ofInt 1)), (1, .int (Int32.ofInt 0)), (0, .ref q0)]) hx hb dX7_goalsFit_3 rfl hl (by decide) rfl (fun ls hl => ?_)
  refine lv_iconst (v := Int32.ofInt 0) hx hb dX7_goalsFit_4 rfl ?_
  refine lv_istore_n (lv' := [(3, .int (Int32.ofInt 0)), (2, .int (Int32.ofInt 1)), (1, .int (Int32.ofInt 0)), (0, .ref q0)]) hx hb dX7_goalsFit_5 rfl hl (by decide) rfl (fun ls hl => ?_)
  exact l_6  _ _ _ _ _ _ _ hf hP hD hS (lv_sub hl [3, 2, 1, 0] rfl)
theorem dX7_goalsAreSo_0 : decode cX7_goalsAreSo 0 = .ok (.iconst 0, 1) := by decide +kernel
theorem dX7_goalsAreSo_1 : decode cX7_goalsAreSo 1 = .ok (.istore_n 1, 1) := by decide +kernel
theorem dX7_goalsAreSo_2 : decode cX7_goalsAreSo 2 = .ok (.iload_n 1, 1) := by decide +kernel
theorem dX7_goalsAreSo_3 : decode cX7_goalsAreSo 3 = .ok (.aload_n 0, 1) := by decide +kernel
theorem dX7_goalsAreSo_4 : decode cX7_goalsAreSo 4 = .ok (.getfield 50, 3) := by decide +kernel
theorem dX7_goalsAreSo_7 : decode cX7_goalsAreSo 7 = .ok (.getfield 58, 3) := by decide +kernel
theorem dX7_goalsAreSo_10 : decode cX7_goalsAreSo 10 = .ok (.getfield 64, 3) := by decide +kernel
theorem dX7_goalsAreSo_13 : decode cX7_goalsAreSo 13 = .ok (.if_icmp .ge 47, 3) := by decide +kernel
theorem dX7_goalsAreSo_16 : decode cX7_goalsAreSo 16 = .ok (.iload_n 1, 1) := by decide +kernel
theorem dX7_goalsAreSo_17 : decode cX7_goalsAreSo 17 = .ok (.iconst 4, 1) := by decide +kernel
theorem dX7_goalsAreSo_18 : decode cX7_goalsAreSo 18 = .ok (.if_icmp .ge 42, 3) := by decide +kernel
theorem dX7_goalsAreSo_21 : decode cX7_goalsAreSo 21 = .ok (.aload_n 0, 1) := by decide +kernel
theorem dX7_goalsAreSo_22 : decode cX7_goalsAreSo 22 = .ok (.getfield 50, 3) := by decide +kernel
theorem dX7_goalsAreSo_25 : decode cX7_goalsAreSo 25 = .ok (.getfield 95, 3) := by decide +kernel
theorem dX7_goalsAreSo_28 : decode cX7_goalsAreSo 28 = .ok (.iload_n 1, 1) := by decide +kernel
theorem dX7_goalsAreSo_29 : decode cX7_goalsAreSo 29 = .ok (.iaload, 1) := by decide +kernel
theorem dX7_goalsAreSo_30 : decode cX7_goalsAreSo 30 = .ok (.iconst (-1), 1) := by decide +kernel
theorem dX7_goalsAreSo_31 : decode cX7_goalsAreSo 31 = .ok (.if_icmp .eq 23, 3) := by decide +kernel
theorem dX7_goalsAreSo_34 : decode cX7_goalsAreSo 34 = .ok (.aload_n 0, 1) := by decide +kernel
theorem dX7_goalsAreSo_35 : decode cX7_goalsAreSo 35 = .ok (.getfield 50, 3) := by decide +kernel
theorem dX7_goalsAreSo_38 : decode cX7_goalsAreSo 38 = .ok (.getfield 95, 3) := by decide +kernel
theorem dX7_goalsAreSo_41 : decode cX7_goalsAreSo 41 = .ok (.iload_n 1, 1) := by decide +kernel
theorem dX7_goalsAreSo_42 : decode cX7_goalsAreSo 42 = .ok (.iaload, 1) := by decide +kernel
theorem dX7_goalsAreSo_43 : decode cX7_goalsAreSo 43 = .ok (.aload_n 0, 1) := by decide +kernel
theorem dX7_goalsAreSo_44 : decode cX7_goalsAreSo 44 = .ok (.getfield 44, 3) := by decide +kernel
theorem dX7_goalsAreSo_47 : decode cX7_goalsAreSo 47 = .ok (.iload_n 1, 1) := by decide +kernel
theorem dX7_goalsAreSo_48 : decode cX7_goalsAreSo 48 = .ok (.iaload, 1) := by decide +kernel
theorem dX7_goalsAreSo_49 : decode cX7_goalsAreSo 49 = .ok (.if_icmp .eq 5, 3) := by decide +kernel
theorem dX7_goalsAreSo_52 : decode cX7_goalsAreSo 52 = .ok (.iconst 0, 1) := by decide +kernel
theorem dX7_goalsAreSo_53 : decode cX7_goalsAreSo 53 = .ok (.ireturn, 1) := by decide +kernel
theorem dX7_goalsAreSo_54 : decode cX7_goalsAreSo 54 = .ok (.iinc 1 1, 3) := by decide +kernel
theorem dX7_goalsAreSo_57 : decode cX7_goalsAreSo 57 = .ok (.goto (-55), 3) := by decide +kernel
theorem dX7_goalsAreSo_60 : decode cX7_goalsAreSo 60 = .ok (.iconst 1, 1) := by decide +kernel
theorem dX7_goalsAreSo_61 : decode cX7_goalsAreSo 61 = .ok (.ireturn, 1) := by decide +kernel
theorem zw_358 : (Jvm.Cond.fieldLink "HillSchool$Planner" (44 : Nat) "HillSchool$Planner" "heights" "[I") ∈ zall := zmemG (zmj_2 15 rfl) rfl
theorem zw_986 : (Jvm.Cond.code ({ cls := "HillSchool$Planner", name := "goalsAreSo", desc := "()Z" } : Jvm.MethodName) prog_9_method_10_code (2 : Nat) (Option.some Jvm.ClassFile.FieldType.boolean)) ∈ zall := zmemG (zmj_4 163 rfl) rfl
abbrev w_Planner_goalsAreSo : List Cond := .code yX7_goalsAreSo cX7_goalsAreSo 2 (some .boolean) :: zall
abbrev rm_Planner_goalsAreSo : Room := { frames := 0, cells := 0, slots := 0, locals := 0 }
theorem hd_Planner_goalsAreSo : yX7_goalsAreSo.cls = "HillSchool$Planner" ∧ yX7_goalsAreSo.cls ≠ "java/lang/invoke/MethodHandle" ∧ yX7_goalsAreSo.cls ≠ "java/lang/invoke/VarHandle" ∧ (parseMethodDescriptor yX7_goalsAreSo.desc).map (fun d => d.parameters.length) = some 0 := by decide +kernel
def wd_Planner_goalsAreSo (cA : Nat → ClassId) (q0 q1 q2 q3 q4 q5 q6 q7 q8 q9 q10 q11 q12 q13 q14 q15 q16 q17 q18 q19 q20 q21 q22 q23 q24 : Nat) (u0 u1 u2 u3 u4 u5 u6 u7 : Int) (i_heights : Nat → Int) (i_hill_columns_many : Int) (i_hill_goals : Nat → Int)  : va_W := [(q0, .inr (7, [.ref q1, .ref q2, .ref q3, .ref q4, .ref q5, .ref q6, .ref q7, .ref q8, .ref q9, .ref q10, .ref q11, .ref q12, .ref q13, .int (Int32.ofInt u0), .int (Int32.ofInt u1), .int (Int32.ofInt u2)])), (q1, .inr (2, [.ref q14, .int (Int32.ofInt u3), .ref q15, .ref q16, .ref q17, .int (Int32.ofInt u4), .ref q18, .ref q19, .ref q20, .int (Int32.ofInt u5), .ref q21, .ref q22, .int (Int32.ofInt u6), .int (Int32.ofInt u7)])), (q12, .inl (cA 0, 4, .inl (za i_heights))), (q14, .inr (1, [.int (Int32.ofInt i_hill_columns_many), .ref q23, .ref q24])), (q20, .inl (cA 0, 12, .inl (za i_hill_goals)))]
def wf_Planner_goalsAreSo (cA : Nat → ClassId) (q0 q1 q2 q3 q4 q5 q6 q7 q8 q9 q10 q11 q12 q13 q14 q15 q16 q17 q18 q19 q20 q21 q22 q23 q24 : Nat) (u0 u1 u2 u3 u4 u5 u6 u7 : Int) (i_heights : Nat → Int) (i_hill_columns_many : Int) (i_hill_goals : Nat → Int) (o : Int) : va_W := wd_Planner_goalsAreSo cA q0 q1 q2 q3 q4 q5 q6 q7 q8 q9 q10 q11 q12 q13 q14 q15 q16 q17 q18 q19 q20 q21 q22 q23 q24 u0 u1 u2 u3 u4 u5 u6 u7 i_heights i_hill_columns_many i_hill_goals
def f_Planner_goalsAreSo_54 (i_heights : Nat → Int) (i_hill_columns_many : Int) (i_hill_goals : Nat → Int) (k2 : Int → Option (Int)) (x1 : Int) : Option (Int) :=
  zn (x1 + 1) fun v1 =>
  k2 v1
def f_Planner_goalsAreSo_2_b (i_heights : Nat → Int) (i_hill_columns_many : Int) (i_hill_goals : Nat → Int) (k2 : Int → Option (Int)) (x1 : Int) : Option (Int) :=
  if zi_w i_hill_columns_many ≤ zi_w x1 then
    some 1
  else
    if zi_w 4 ≤ zi_w x1 then
      some 1
    else
      zg 12 i_hill_goals x1 fun v1 =>
      if zi_w v1 = zi_w (-1) then
        f_Planner_goalsAreSo_54 i_heights i_hill_columns_many i_hill_goals k2 x1
      else
        zg 12 i_hill_goals x1 fun v2 =>
        zg 4 i_heights x1 fun v3 =>
        if zi_w v2 = zi_w v3 then
          f_Planner_goalsAreSo_54 i_heights i_hill_columns_many i_hill_goals k2 x1
        else
          some 0
def f_Planner_goalsAreSo_2 (i_heights : Nat → Int) (i_hill_columns_many : Int) (i_hill_goals : Nat → Int) : Nat → Int → Option (Int)
  | 0 => fun _ => none
  | n + 1 => fun y0 => f_Planner_goalsAreSo_2_b i_heights i_hill_columns_many i_hill_goals (f_Planner_goalsAreSo_2 i_heights i_hill_columns_many i_hill_goals n) y0
def f_Planner_goalsAreSo (i_heights : Nat → Int) (i_hill_columns_many : Int) (i_hill_goals : Nat → Int) : Option (Int) :=
  f_Planner_goalsAreSo_2 i_heights i_hill_columns_many i_hill_goals zfu 0
set_option maxHeartbeats 4000000 in
set_option maxRecDepth 100000 in
theorem c_Planner_goalsAreSo (l : Launch) (ev : zEv) (dC : Nat → ClassId) (dI : Nat → Nat → Nat) (cA : Nat → ClassId) (q0 q1 q2 q3 q4 q5 q6 q7 q8 q9 q10 q11 q12 q13 q14 q15 q16 q17 q18 q19 q20 q21 q22 q23 q24 : Nat) (u0 u1 u2 u3 u4 u5 u6 u7 : Int) {i_heights : Nat → Int} {i_hill_columns_many : Int} {i_hill_goals : Nat → Int} {out : Int} (hf : f_Planner_goalsAreSo i_heights i_hill_columns_many i_hill_goals = some out) : xc_I l ev (dC, dI) vwCl (tyl cA) yX7_goalsAreSo w_Planner_goalsAreSo rm_Planner_goalsAreSo [.ref q0] (wd_Planner_goalsAreSo cA q0 q1 q2 q3 q4 q5 q6 q7 q8 q9 q10 q11 q12 q13 q14 q15 q16 q17 q18 q19 q20 q21 q22 q23 q24 u0 u1 u2 u3 u4 u5 u6 u7 i_heights i_hill_columns_many i_hill_goals) (wf_Planner_goalsAreSo cA q0 q1 q2 q3 q4 q5 q6 q7 q8 q9 q10 q11 q12 q13 q14 q15 q16 q17 q18 q19 q20 q21 q22 q23 q24 u0 u1 u2 u3 u4 u5 u6 u7 i_heights i_hill_columns_many i_hill_goals out) out := by
  refine xv_startI (cc := cX7_goalsAreSo) (maxL := 2) (rt := .boolean) (by decide +kernel) rfl (Nat.le_of_ble_eq_true rfl) ?_
  intro p e s m args below meth c A Q H ls hx hb hml hts hown hK hA hP hD hS hl hE hret
  have hown : s.vm.findClass "HillSchool$Planner" = some m.cls := hown
  have hz : ∀ w ∈ zall, w.before args s = true := fun w h => hts w (List.mem_cons_of_mem _ h)
  have hl : lv_has ls 2 [(0, .ref q0)] := hl
  have b_54 : ∀ (k2 : Int → Option (Int)) (_ : ∀ (x1 : Int) (H : Heap) (locs : List Loc) (ls : Array Slot), k2 x1 = some out → va_P (dC, dI) vwCl (wd_Planner_goalsAreSo cA q0 q1 q2 q3 q4 q5 q6 q7 q8 q9 q10 q11 q12 q13 q14 q15 q16 q17 q18 q19 q20 q21 q22 q23 q24 u0 u1 u2 u3 u4 u5 u6 u7 i_heights i_hill_columns_many i_hill_goals) H → va_D A (wd_Planner_goalsAreSo cA q0 q1 q2 q3 q4 q5 q6 q7 q8 q9 q10 q11 q12 q13 q14 q15 q16 q17 q18 q19 q20 q21 q22 q23 q24 u0 u1 u2 u3 u4 u5 u6 u7 i_heights i_hill_columns_many i_hill_goals) → va_S A s.heap H locs → lv_has ls 2 [(0, .ref q0), (1, .int (Int32.ofInt x1))] → W p l e rm_Planner_goalsAreSo s m args below meth c H locs 0 0 Q (F0 m 2 ls [])), ∀ (x1 : Int) (H : Heap) (locs : List Loc) (ls : Array Slot), f_Planner_goalsAreSo_54 i_heights i_hill_columns_many i_hill_goals k2 x1 = some out → va_P (dC, dI) vwCl (wd_Planner_goalsAreSo cA q0 q1 q2 q3 q4 q5 q6 q7 q8 q9 q10 q11 q12 q13 q14 q15 q16 q17 q18 q19 q20 q21 q22 q23 q24 u0 u1 u2 u3 u4 u5 u6 u7 i_heights i_hill_columns_many i_hill_goals) H → va_D A (wd_Planner_goalsAreSo cA q0 q1 q2 q3 q4 q5 q6 q7 q8 q9 q10 q11 q12 q13 q14 q15 q16 q17 q18 q19 q20 q21 q22 q23 q24 u0 u1 u2 u3 u4 u5 u6 u7 i_heights i_hill_columns_many i_hill_goals) → va_S A s.heap H locs → lv_has ls 2 [(0, .ref q0), (1, .int (Int32.ofInt x1))] → W p l e rm_Planner_goalsAreSo s m args below meth c H locs 0 0 Q (F0 m 54 ls []) := by
    intro k2 ih2 x1 H locs ls hf hP hD hS hl
    unfold f_Planner_goalsAreSo_54 at hf
    refine xi_iinc hx hb dX7_goalsAreSo_54 hl (k := 1) rfl (by decide) hf (fun v1 ls hl hf => ?_)
    have hl : lv_has ls 2 [(1, .int (Int32.ofInt v1)), (0, .ref q0)] := hl
    refine lv_goto (tgt := 2) hx hb dX7_goalsAreSo_57 (by decide) ?_
    exact ih2 _ _ _ _ hf hP hD hS (lv_sub hl [1, 0] rfl)
  have b_2 : ∀ (k2 : Int → Option (Int)) (_ : ∀ (x1 : Int) (H : Heap) (locs : List Loc) (ls : Array Slot), k2 x1 = some out → va_P (dC, dI) vwCl (wd_Planner_goalsAreSo cA q0 q1 q2 q3 q4 q5 q6 q7 q8 q9 q10 q11 q12 q13 q14 q15 q16 q17 q18 q19 q20 q21 q22 q23 q24 u0 u1 u2 u3 u4 u5 u6 u7 i_heights i_hill_columns_many i_hill_goals) H → va_D A (wd_Planner_goalsAreSo cA q0 q1 q2 q3 q4 q5 q6 q7 q8 q9 q10 q11 q12 q13 q14 q15 q16 q17 q18 q19 q20 q21 q22 q23 q24 u0 u1 u2 u3 u4 u5 u6 u7 i_heights i_hill_columns_many i_hill_goals) → va_S A s.heap H locs → lv_has ls 2 [(0, .ref q0), (1, .int (Int32.ofInt x1))] → W p l e rm_Planner_goalsAreSo s m args below meth c H locs 0 0 Q (F0 m 2 ls [])), ∀ (x1 : Int) (H : Heap) (locs : List Loc) (ls : Array Slot), f_Planner_goalsAreSo_2_b i_heights i_hill_columns_many i_hill_goals k2 x1 = some out → va_P (dC, dI) vwCl (wd_Planner_goalsAreSo cA q0 q1 q2 q3 q4 q5 q6 q7 q8 q9 q10 q11 q12 q13 q14 q15 q16 q17 q18 q19 q20 q21 q22 q23 q24 u0 u1 u2 u3 u4 u5 u6 u7 i_heights i_hill_columns_many i_hill_goals) H → va_D A (wd_Planner_goalsAreSo cA q0 q1 q2 q3 q4 q5 q6 q7 q8 q9 q10 q11 q12 q13 q14 q15 q16 q17 q18 q19 q20 q21 q22 q23 q24 u0 u1 u2 u3 u4 u5 u6 u7 i_heights i_hill_columns_many i_hill_goals) → va_S A s.heap H locs → lv_has ls 2 [(0, .ref q0), (1, .int (Int32.ofInt x1))] → W p l e rm_Planner_goalsAreSo s m args below meth c H locs 0 0 Q (F0 m 2 ls []) := by
    intro k2 ih2 x1 H locs ls hf hP hD hS hl
    unfold f_Planner_goalsAreSo_2_b at hf
    refine lv_iload_n hx hb dX7_goalsAreSo_2 rfl (lv_at hl 1 rfl) ?_
    refine lv_aload_n hx hb dX7_goalsAreSo_3 rfl (lv_at hl 0 rfl) ?_
    refine va_get (D := (dC, dI)) (ci := 7) (v := .ref q1) (C := RX7) (T := TX7) (N := 16) hx hb hz zi_X7 hown hK hP 0 rfl rfl 0 (by decide) (hz _ zw_347) (fun _ h9 => h9) rfl dX7_goalsAreSo_4 ?_
    refine va_getN (D := (dC, dI)) (ci := 2) (v := .ref q14) (C := RX2) (T := TX2) (N := 14) hx hb hz zi_X2 hown hK hP 1 rfl rfl 0 (by decide) (va_Nw.use rfl (hE.1.1 _ zw_170)) (fun _ h9 => h9) rfl dX7_goalsAreSo_7 ?_
    refine va_getN (D := (dC, dI)) (ci := 1) (v := .int (Int32.ofInt i_hill_columns_many)) (C := RX1) (T := TX1) (N := 3) hx hb hz zi_X1 hown hK hP 3 rfl rfl 0 (by decide) (va_Nw.use rfl (hE.1.1 _ zw_144)) (fun _ h9 => h9) rfl dX7_goalsAreSo_10 ?_
    refine xi_icmp_ge (tgt := 60) hx hb dX7_goalsAreSo_13 (by decide) hf (fun hf => ?_) (fun hf => ?_)
    · refine lv_iconst (v := Int32.ofInt 1) hx hb dX7_goalsAreSo_60 rfl ?_
      obtain rfl := Option.some.inj hf
      exact hret _ _ _ _ zz_b1 dX7_goalsAreSo_61 hP hD hS
    · refine lv_iload_n hx hb dX7_goalsAreSo_16 rfl (lv_at hl 1 rfl) ?_
      refine lv_iconst (v := Int32.ofInt 4) hx hb dX7_goalsAreSo_17 rfl ?_
      refine xi_icmp_ge (tgt := 60) hx hb dX7_goalsAreSo_18 (by decide) hf (fun hf => ?_) (fun hf => ?_)
      · refine lv_iconst (v := Int32.ofInt 1) hx hb dX7_goalsAreSo_60 rfl ?_
        obtain rfl := Option.some.inj hf
        exact hret _ _ _ _ zz_b1 dX7_goalsAreSo_61 hP hD hS
      · refine lv_aload_n hx hb dX7_goalsAreSo_21 rfl (lv_at hl 0 rfl) ?_
        refine va_get (D := (dC, dI)) (ci := 7) (v := .ref q1) (C := RX7) (T := TX7) (N := 16) hx hb hz zi_X7 hown hK hP 0 rfl rfl 0 (by decide) (hz _ zw_347) (fun _ h9 => h9) rfl dX7_goalsAreSo_22 ?_
        refine va_getN (D := (dC, dI)) (ci := 2) (v := .ref q20) (C := RX2) (T := TX2) (N := 14) hx hb hz zi_X2 hown hK hP 1 rfl rfl 8 (by decide) (va_Nw.use rfl (hE.1.1 _ zw_195)) (fun _ h9 => h9) rfl dX7_goalsAreSo_25 ?_
        refine lv_iload_n hx hb dX7_goalsAreSo_28 rfl (lv_at hl 1 rfl) ?_
        refine xi_iald hx hb hK hP 4 0 rfl rfl dX7_goalsAreSo_29 hf (fun v1 hf => ?_)
        refine lv_iconst (v := Int32.ofInt (-1)) hx hb dX7_goalsAreSo_30 rfl ?_
        refine xi_icmp_eq (tgt := 54) hx hb dX7_goalsAreSo_31 (by decide) hf (fun hf => ?_) (fun hf => ?_)
        · exact b_54 _ ih2 _ _ _ _ hf hP hD hS (lv_sub hl [0, 1] rfl)
        · refine lv_aload_n hx hb dX7_goalsAreSo_34 rfl (lv_at hl 0 rfl) ?_
          refine va_get (D := (dC, dI)) (ci := 7) (v := .ref q1) (C := RX7) (T := TX7) (N := 16) hx hb hz zi_X7 hown hK hP 0 rfl rfl 0 (by decide) (hz _ zw_347) (fun _ h9 => h9) rfl dX7_goalsAreSo_35 ?_
          refine va_getN (D := (dC, dI)) (ci := 2) (v := .ref q20) (C := RX2) (T := TX2) (N := 14) hx hb hz zi_X2 hown hK hP 1 rfl rfl 8 (by decide) (va_Nw.use rfl (hE.1.1 _ zw_195)) (fun _ h9 => h9) rfl dX7_goalsAreSo_38 ?_
          refine lv_iload_n hx hb dX7_goalsAreSo_41 rfl (lv_at hl 1 rfl) ?_
          refine xi_iald hx hb hK hP 4 0 rfl rfl dX7_goalsAreSo_42 hf (fun v2 hf => ?_)
          refine lv_aload_n hx hb dX7_goalsAreSo_43 rfl (lv_at hl 0 rfl) ?_
          refine va_get (D := (dC, dI)) (ci := 7) (v := .ref q12) (C := RX7) (T := TX7) (N := 16) hx hb hz zi_X7 hown hK hP 0 rfl rfl 11 (by decide) (hz _ zw_358) (fun _ h9 => h9) rfl dX7_goalsAreSo_44 ?_
          refine lv_iload_n hx hb dX7_goalsAreSo_47 rfl (lv_at hl 1 rfl) ?_
          refine xi_iald hx hb hK hP 2 0 rfl rfl dX7_goalsAreSo_48 hf (fun v3 hf => ?_)
          refine xi_icmp_eq (tgt := 54) hx hb dX7_goalsAreSo_49 (by decide) hf (fun hf => ?_) (fun hf => ?_)
          · exact b_54 _ ih2 _ _ _ _ hf hP hD hS (lv_sub hl [0, 1] rfl)
          · refine lv_iconst (v := Int32.ofInt 0) hx hb dX7_goalsAreSo_52 rfl ?_
            obtain rfl := Option.some.inj hf
            exact hret _ _ _ _ zz_b0 dX7_goalsAreSo_53 hP hD hS
  have l_2 : ∀ (n : Nat), ∀ (x1 : Int) (H : Heap) (locs : List Loc) (ls : Array Slot), f_Planner_goalsAreSo_2 i_heights i_hill_columns_many i_hill_goals n x1 = some out → va_P (dC, dI) vwCl (wd_Planner_goalsAreSo cA q0 q1 q2 q3 q4 q5 q6 q7 q8 q9 q10 q11 q12 q13 q14 q15 q16 q17 q18 q19 q20 q21 q22 q23 q24 u0 u1 u2 u3 u4 u5 u6 u7 i_heights i_hill_columns_many i_hill_goals) H → va_D A (wd_Planner_goalsAreSo cA q0 q1 q2 q3 q4 q5 q6 q7 q8 q9 q10 q11 q12 q13 q14 q15 q16 q17 q18 q19 q20 q21 q22 q23 q24 u0 u1 u2 u3 u4 u5 u6 u7 i_heights i_hill_columns_many i_hill_goals) → va_S A s.heap H locs → lv_has ls 2 [(0, .ref q0), (1, .int (Int32.ofInt x1))] → W p l e rm_Planner_goalsAreSo s m args below meth c H locs 0 0 Q (F0 m 2 ls []) := by
    intro n
    induction n with
    | zero => intro x1 H locs ls hf hP hD hS hl; exact nomatch hf
    | succ n ih => intro x1 H locs ls hf hP hD hS hl; exact b_2 (f_Planner_goalsAreSo_2 i_heights i_hill_columns_many i_hill_goals n) ih x1 H locs ls hf hP hD hS hl
  unfold f_Planner_goalsAreSo at hf
  refine lv_iconst (v := Int32.ofInt 0) hx hb dX7_goalsAreSo_0 rfl ?_
  refine lv_istore_n (lv' := [(1, .int (Int32.ofInt 0)), (0, .ref q0)]) hx hb dX7_goalsAreSo_1 rfl hl (by decide) rfl (fun ls hl => ?_)
  exact l_2  _ _ _ _ _ hf hP hD hS (lv_sub hl [1, 0] rfl)
theorem dX7_swap_0 : decode cX7_swap 0 = .ok (.aload_n 0, 1) := by decide +kernel
theorem dX7_swap_1 : decode cX7_swap 1 = .ok (.getfield 35, 3) := by decide +kernel
theorem dX7_swap_4 : decode cX7_swap 4 = .ok (.iload_n 1, 1) := by decide +kernel
theorem dX7_swap_5 : decode cX7_swap 5 = .ok (.iaload, 1) := by decide +kernel
theorem dX7_swap_6 : decode cX7_swap 6 = .ok (.istore_n 3, 1) := by decide +kernel
theorem dX7_swap_7 : decode cX7_swap 7 = .ok (.aload_n 0, 1) := by decide +kernel
theorem dX7_swap_8 : decode cX7_swap 8 = .ok (.getfield 35, 3) := by decide +kernel
theorem dX7_swap_11 : decode cX7_swap 11 = .ok (.iload_n 1, 1) := by decide +kernel
theorem dX7_swap_12 : decode cX7_swap 12 = .ok (.aload_n 0, 1) := by decide +kernel
theorem dX7_swap_13 : decode cX7_swap 13 = .ok (.getfield 35, 3) := by decide +kernel
theorem dX7_swap_16 : decode cX7_swap 16 = .ok (.iload_n 2, 1) := by decide +kernel
theorem dX7_swap_17 : decode cX7_swap 17 = .ok (.iaload, 1) := by decide +kernel
theorem dX7_swap_18 : decode cX7_swap 18 = .ok (.iastore, 1) := by decide +kernel
theorem dX7_swap_19 : decode cX7_swap 19 = .ok (.aload_n 0, 1) := by decide +kernel
theorem dX7_swap_20 : decode cX7_swap 20 = .ok (.getfield 35, 3) := by decide +kernel
theorem dX7_swap_23 : decode cX7_swap 23 = .ok (.iload_n 2, 1) := by decide +kernel
theorem dX7_swap_24 : decode cX7_swap 24 = .ok (.iload_n 3, 1) := by decide +kernel
theorem dX7_swap_25 : decode cX7_swap 25 = .ok (.iastore, 1) := by decide +kernel
theorem dX7_swap_26 : decode cX7_swap 26 = .ok (.aload_n 0, 1) := by decide +kernel
theorem dX7_swap_27 : decode cX7_swap 27 = .ok (.getfield 38, 3) := by decide +kernel
theorem dX7_swap_30 : decode cX7_swap 30 = .ok (.aload_n 0, 1) := by decide +kernel
theorem dX7_swap_31 : decode cX7_swap 31 = .ok (.getfield 35, 3) := by decide +kernel
theorem dX7_swap_34 : decode cX7_swap 34 = .ok (.iload_n 1, 1) := by decide +kernel
theorem dX7_swap_35 : decode cX7_swap 35 = .ok (.iaload, 1) := by decide +kernel
theorem dX7_swap_36 : decode cX7_swap 36 = .ok (.iload_n 1, 1) := by decide +kernel
theorem dX7_swap_37 : decode cX7_swap 37 = .ok (.iastore, 1) := by decide +kernel
theorem dX7_swap_38 : decode cX7_swap 38 = .ok (.aload_n 0, 1) := by decide +kernel
theorem dX7_swap_39 : decode cX7_swap 39 = .ok (.getfield 38, 3) := by decide +kernel
theorem dX7_swap_42 : decode cX7_swap 42 = .ok (.aload_n 0, 1) := by decide +kernel
theorem dX7_swap_43 : decode cX7_swap 43 = .ok (.getfield 35, 3) := by decide +kernel
theorem dX7_swap_46 : decode cX7_swap 46 = .ok (.iload_n 2, 1) := by decide +kernel
theorem dX7_swap_47 : decode cX7_swap 47 = .ok (.iaload, 1) := by decide +kernel
theorem dX7_swap_48 : decode cX7_swap 48 = .ok (.iload_n 2, 1) := by decide +kernel
theorem dX7_swap_49 : decode cX7_swap 49 = .ok (.iastore, 1) := by decide +kernel
theorem dX7_swap_50 : decode cX7_swap 50 = .ok (.return_, 1) := by decide +kernel
theorem zw_355 : (Jvm.Cond.fieldLink "HillSchool$Planner" (35 : Nat) "HillSchool$Planner" "queue" "[I") ∈ zall := zmemG (zmj_2 12 rfl) rfl
theorem zw_356 : (Jvm.Cond.fieldLink "HillSchool$Planner" (38 : Nat) "HillSchool$Planner" "queuedAt" "[I") ∈ zall := zmemG (zmj_2 13 rfl) rfl
theorem zw_974 : (Jvm.Cond.code ({ cls := "HillSchool$Planner", name := "swap", desc := "(II)V" } : Jvm.MethodName) prog_9_method_19_code (4 : Nat) (Option.none : Option Jvm.ClassFile.FieldType)) ∈ zall := zmemG (zmj_4 151 rfl) rfl
abbrev w_Planner_swap : List Cond := .code yX7_swap cX7_swap 4 none :: zall
abbrev rm_Planner_swap : Room := { frames := 0, cells := 0, slots := 0, locals := 0 }
theorem hd_Planner_swap : yX7_swap.cls = "HillSchool$Planner" ∧ yX7_swap.cls ≠ "java/lang/invoke/MethodHandle" ∧ yX7_swap.cls ≠ "java/lang/invoke/VarHandle" ∧ (parseMethodDescriptor yX7_swap.desc).map (fun d => d.parameters.length) = some 2 := by decide +kernel
def wd_Planner_swap (cA : Nat → ClassId) (q0 q1 q2 q3 q4 q5 q6 q7 q8 q9 q10 q11 q12 q13 : Nat) (u0 u1 u2 : Int)  (i_queue : Nat → Int) (i_queuedAt : Nat → Int) : va_W := [(q0, .inr (7, [.ref q1, .ref q2, .ref q3, .ref q4, .ref q5, .ref q6, .ref q7, .ref q8, .ref q9, .ref q10, .ref q11, .ref q12, .ref q13, .int (Int32.ofInt u0), .int (Int32.ofInt u1), .int (Int32.ofInt u2)])), (q9, .inl (cA 0, 6720, .inl (za i_queue))), (q10, .inl (cA 0, 6720, .inl (za i_queuedAt)))]
def wf_Planner_swap (cA : Nat → ClassId) (q0 q1 q2 q3 q4 q5 q6 q7 q8 q9 q10 q11 q12 q13 : Nat) (u0 u1 u2 : Int)  (o : (Nat → Int) × (Nat → Int)) : va_W := wd_Planner_swap cA q0 q1 q2 q3 q4 q5 q6 q7 q8 q9 q10 q11 q12 q13 u0 u1 u2 o.1 o.2
def f_Planner_swap (x1 : Int) (x2 : Int) (i_queue : Nat → Int) (i_queuedAt : Nat → Int) : Option ((Nat → Int) × (Nat → Int)) :=
  zg 6720 i_queue x1 fun v1 =>
  zg 6720 i_queue x2 fun v2 =>
  zs 6720 i_queue x1 v2 fun a3 =>
  zs 6720 a3 x2 v1 fun a4 =>
  zg 6720 a4 x1 fun v5 =>
  zs 6720 i_queuedAt v5 x1 fun a6 =>
  zg 6720 a4 x2 fun v7 =>
  zs 6720 a6 v7 x2 fun a8 =>
  some (a4, a8)
set_option maxHeartbeats 4000000 in
set_option maxRecDepth 100000 in
theorem c_Planner_swap (l : Launch) (ev : zEv) (dC : Nat → ClassId) (dI : Nat → Nat → Nat) (cA : Nat → ClassId) (q0 q1 q2 q3 q4 q5 q6 q7 q8 q9 q10 q11 q12 q13 : Nat) (u0 u1 u2 : Int) {x1 x2 : Int} {i_queue : Nat → Int} {i_queuedAt : Nat → Int} {out : (Nat → Int) × (Nat → Int)} (hf : f_Planner_swap x1 x2 i_queue i_queuedAt = some out) : xc_V l ev (dC, dI) vwCl (tyl cA) yX7_swap w_Planner_swap rm_Planner_swap [.ref q0, .int (Int32.ofInt x1), .int (Int32.ofInt x2)] (wd_Planner_swap cA q0 q1 q2 q3 q4 q5 q6 q7 q8 q9 q10 q11 q12 q13 u0 u1 u2 i_queue i_queuedAt) (wf_Planner_swap cA q0 q1 q2 q3 q4 q5 q6 q7 q8 q9 q10 q11 q12 q13 u0 u1 u2 out) := by
  refine xv_startV (cc := cX7_swap) (maxL := 4) (by decide +kernel) rfl (Nat.le_of_ble_eq_true rfl) ?_
  intro p e s m args below meth c A Q H ls hx hb hml hts hown hK hA hP hD hS hl hE hret
  have hown : s.vm.findClass "HillSchool$Planner" = some m.cls := hown
  have hz : ∀ w ∈ zall, w.before args s = true := fun w h => hts w (List.mem_cons_of_mem _ h)
  have hl : lv_has ls 4 [(0, .ref q0), (1, .int (Int32.ofInt x1)), (2, .int (Int32.ofInt x2))] := hl
  unfold f_Planner_swap at hf
  refine lv_aload_n hx hb dX7_swap_0 rfl (lv_at hl 0 rfl) ?_
  refine va_get (D := (dC, dI)) (ci := 7) (v := .ref q9) (C := RX7) (T := TX7) (N := 16) hx hb hz zi_X7 hown hK hP 0 rfl rfl 8 (by decide) (hz _ zw_355) (fun _ h9 => h9) rfl dX7_swap_1 ?_
  refine lv_iload_n hx hb dX7_swap_4 rfl (lv_at hl 1 rfl) ?_
  refine xi_iald hx hb hK hP 1 0 rfl rfl dX7_swap_5 hf (fun v1 hf => ?_)
  refine lv_istore_n (lv' := [(3, .int (Int32.ofInt v1)), (0, .ref q0), (1, .int (Int32.ofInt x1)), (2, .int (Int32.ofInt x2))]) hx hb dX7_swap_6 rfl hl (by decide) rfl (fun ls hl => ?_)
  refine lv_aload_n hx hb dX7_swap_7 rfl (lv_at hl 1 rfl) ?_
  refine va_get (D := (dC, dI)) (ci := 7) (v := .ref q9) (C := RX7) (T := TX7) (N := 16) hx hb hz zi_X7 hown hK hP 0 rfl rfl 8 (by decide) (hz _ zw_355) (fun _ h9 => h9) rfl dX7_swap_8 ?_
  refine lv_iload_n hx hb dX7_swap_11 rfl (lv_at hl 2 rfl) ?_
  refine lv_aload_n hx hb dX7_swap_12 rfl (lv_at hl 1 rfl) ?_
  refine va_get (D := (dC, dI)) (ci := 7) (v := .ref q9) (C := RX7) (T := TX7) (N := 16) hx hb hz zi_X7 hown hK hP 0 rfl rfl 8 (by decide) (hz _ zw_355) (fun _ h9 => h9) rfl dX7_swap_13 ?_
  refine lv_iload_n hx hb dX7_swap_16 rfl (lv_at hl 3 rfl) ?_
  refine xi_iald hx hb hK hP 1 0 rfl rfl dX7_swap_17 hf (fun v2 hf => ?_)
  refine xi_iast hx hb hK hP hD hS 1 0 rfl rfl dX7_swap_18 hf (fun a3 H locs hP hD hS hf => ?_)
  have hP : va_P (dC, dI) vwCl (wd_Planner_swap cA q0 q1 q2 q3 q4 q5 q6 q7 q8 q9 q10 q11 q12 q13 u0 u1 u2 a3 i_queuedAt) H := hP
  have hD : va_D A (wd_Planner_swap cA q0 q1 q2 q3 q4 q5 q6 q7 q8 q9 q10 q11 q12 q13 u0 u1 u2 a3 i_queuedAt) := hD
  refine lv_aload_n hx hb dX7_swap_19 rfl (lv_at hl 1 rfl) ?_
  refine va_get (D := (dC, dI)) (ci := 7) (v := .ref q9) (C := RX7) (T := TX7) (N := 16) hx hb hz zi_X7 hown hK hP 0 rfl rfl 8 (by decide) (hz _ zw_355) (fun _ h9 => h9) rfl dX7_swap_20 ?_
  refine lv_iload_n hx hb dX7_swap_23 rfl (lv_at hl 3 rfl) ?_
  refine lv_iload_n hx hb dX7_swap_24 rfl (lv_at hl 0 rfl) ?_
  refine xi_iast hx hb hK hP hD hS 1 0 rfl rfl dX7_swap_25 hf (fun a4 H locs hP hD hS hf => ?_)
  have hP : va_P (dC, dI) vwCl (wd_Planner_swap cA q0 q1 q2 q3 q4 q5 q6 q7 q8 q9 q10 q11 q12 q13 u0 u1 u2 a4 i_queuedAt) H := hP
  have hD : va_D A (wd_Planner_swap cA q0 q1 q2 q3 q4 q5 q6 q7 q8 q9 q10 q11 q12 q13 u0 u1 u2 a4 i_queuedAt) := hD
  refine lv_aload_n hx hb dX7_swap_26 rfl (lv_at hl 1 rfl) ?_
  refine va_get (D := (dC, dI)) (ci := 7) (v := .ref q10) (C := RX7) (T := TX7) (N := 16) hx hb hz zi_X7 hown hK hP 0 rfl rfl 9 (by decide) (hz _ zw_356) (fun _ h9 => h9) rfl dX7_swap_27 ?_
  refine lv_aload_n hx hb dX7_swap_30 rfl (lv_at hl 1 rfl) ?_
  refine va_get (D := (dC, dI)) (ci := 7) (v := .ref q9) (C := RX7) (T := TX7) (N := 16) hx hb hz zi_X7 hown hK hP 0 rfl rfl 8 (by decide) (hz _ zw_355) (fun _ h9 => h9) rfl dX7_swap_31 ?_
  refine lv_iload_n hx hb dX7_swap_34 rfl (lv_at hl 2 rfl) ?_
  refine xi_iald hx hb hK hP 1 0 rfl rfl dX7_swap_35 hf (fun v5 hf => ?_)
  refine lv_iload_n hx hb dX7_swap_36 rfl (lv_at hl 2 rfl) ?_
  refine xi_iast hx hb hK hP hD hS 2 0 rfl rfl dX7_swap_37 hf (fun a6 H locs hP hD hS hf => ?_)
  have hP : va_P (dC, dI) vwCl (wd_Planner_swap cA q0 q1 q2 q3 q4 q5 q6 q7 q8 q9 q10 q11 q12 q13 u0 u1 u2 a4 a6) H := hP
  have hD : va_D A (wd_Planner_swap cA q0 q1 q2 q3 q4 q5 q6 q7 q8 q9 q10 q11 q12 q13 u0 u1 u2 a4 a6) := hD
  refine lv_aload_n hx hb dX7_swap_38 rfl (lv_at hl 1 rfl) ?_
  refine va_get (D := (dC, dI)) (ci := 7) (v := .ref q10) (C := RX7) (T := TX7) (N := 16) hx hb hz zi_X7 hown hK hP 0 rfl rfl 9 (by decide) (hz _ zw_356) (fun _ h9 => h9) rfl dX7_swap_39 ?_
  refine lv_aload_n hx hb dX7_swap_42 rfl (lv_at hl 1 rfl) ?_
  refine va_get (D := (dC, dI)) (ci := 7) (v := .ref q9) (C := RX7) (T := TX7) (N := 16) hx hb hz zi_X7 hown hK hP 0 rfl rfl 8 (by decide) (hz _ zw_355) (fun _ h9 => h9) rfl dX7_swap_43 ?_
  refine lv_iload_n hx hb dX7_swap_46 rfl (lv_at hl 3 rfl) ?_
  refine xi_iald hx hb hK hP 1 0 rfl rfl dX7_swap_47 hf (fun v7 hf => ?_)
  refine lv_iload_n hx hb dX7_swap_48 rfl (lv_at hl 3 rfl) ?_
  refine xi_iast hx hb hK hP hD hS 2 0 rfl rfl dX7_swap_49 hf (fun a8 H locs hP hD hS hf => ?_)
  have hP : va_P (dC, dI) vwCl (wd_Planner_swap cA q0 q1 q2 q3 q4 q5 q6 q7 q8 q9 q10 q11 q12 q13 u0 u1 u2 a4 a8) H := hP
  have hD : va_D A (wd_Planner_swap cA q0 q1 q2 q3 q4 q5 q6 q7 q8 q9 q10 q11 q12 q13 u0 u1 u2 a4 a8) := hD
  obtain rfl := Option.some.inj hf
  exact hret _ _ _ _ dX7_swap_50 hP hD hS
