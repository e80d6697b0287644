theorem dX10_fact_0 : decode cX10_fact 0 = .ok (.aload_n 0, 1) := by decide +kernel
theorem dX10_fact_1 : decode cX10_fact 1 = .ok (.getfield 10, 3) := by decide +kernel
theorem dX10_fact_4 : decode cX10_fact 4 = .ok (.iload_n 1, 1) := by decide +kernel
theorem dX10_fact_5 : decode cX10_fact 5 = .ok (.invokevirtual 149, 3) := by decide +kernel
theorem dX10_fact_8 : decode cX10_fact 8 = .ok (.ifCond .ne 5, 3) := by decide +kernel
theorem dX10_fact_11 : decode cX10_fact 11 = .ok (.iconst (-1), 1) := by decide +kernel
theorem dX10_fact_12 : decode cX10_fact 12 = .ok (.ireturn, 1) := by decide +kernel
theorem dX10_fact_13 : decode cX10_fact 13 = .ok (.iload_n 2, 1) := by decide +kernel
theorem dX10_fact_14 : decode cX10_fact 14 = .ok (.tableswitch 56 0 2 #[26, 36, 46], 26) := by decide +kernel
theorem dX10_fact_40 : decode cX10_fact 40 = .ok (.aload_n 0, 1) := by decide +kernel
theorem dX10_fact_41 : decode cX10_fact 41 = .ok (.getfield 10, 3) := by decide +kernel
theorem dX10_fact_44 : decode cX10_fact 44 = .ok (.getfield 155, 3) := by decide +kernel
theorem dX10_fact_47 : decode cX10_fact 47 = .ok (.iload_n 1, 1) := by decide +kernel
theorem dX10_fact_48 : decode cX10_fact 48 = .ok (.iaload, 1) := by decide +kernel
theorem dX10_fact_49 : decode cX10_fact 49 = .ok (.ireturn, 1) := by decide +kernel
theorem dX10_fact_50 : decode cX10_fact 50 = .ok (.aload_n 0, 1) := by decide +kernel
theorem dX10_fact_51 : decode cX10_fact 51 = .ok (.getfield 10, 3) := by decide +kernel
theorem dX10_fact_54 : decode cX10_fact 54 = .ok (.getfield 152, 3) := by decide +kernel
theorem dX10_fact_57 : decode cX10_fact 57 = .ok (.iload_n 1, 1) := by decide +kernel
theorem dX10_fact_58 : decode cX10_fact 58 = .ok (.iaload, 1) := by decide +kernel
theorem dX10_fact_59 : decode cX10_fact 59 = .ok (.ireturn, 1) := by decide +kernel
theorem dX10_fact_60 : decode cX10_fact 60 = .ok (.aload_n 0, 1) := by decide +kernel
theorem dX10_fact_61 : decode cX10_fact 61 = .ok (.getfield 10, 3) := by decide +kernel
theorem dX10_fact_64 : decode cX10_fact 64 = .ok (.getfield 158, 3) := by decide +kernel
theorem dX10_fact_67 : decode cX10_fact 67 = .ok (.iload_n 1, 1) := by decide +kernel
theorem dX10_fact_68 : decode cX10_fact 68 = .ok (.iaload, 1) := by decide +kernel
theorem dX10_fact_69 : decode cX10_fact 69 = .ok (.ireturn, 1) := by decide +kernel
theorem dX10_fact_70 : decode cX10_fact 70 = .ok (.iconst (-1), 1) := by decide +kernel
theorem dX10_fact_71 : decode cX10_fact 71 = .ok (.ireturn, 1) := by decide +kernel
theorem zw_179 : (Jvm.Cond.fieldLinkNest "HillSchool" (155 : Nat) "HillSchool$Hill" "strengths" "[I" "HillSchool") ∈ znest := zmemH (zmj_1 76 rfl) rfl
theorem zw_184 : (Jvm.Cond.fieldLinkNest "HillSchool" (158 : Nat) "HillSchool$Hill" "trips" "[I" "HillSchool") ∈ znest := zmemH (zmj_1 81 rfl) rfl
theorem zw_608 : (Jvm.Cond.code ({ cls := "HillSchool", name := "fact", desc := "(II)I" } : Jvm.MethodName) prog_1_method_9_code (3 : Nat) (Option.some Jvm.ClassFile.FieldType.int)) ∈ zall := zmemG (zmj_3 25 rfl) rfl
abbrev w_HS_fact : List Cond := .code yX10_fact cX10_fact 3 (some .int) :: zall
abbrev rm_HS_fact : Room := { frames := 1, cells := 0, slots := 0, locals := 21 }
theorem hd_HS_fact : yX10_fact.cls = "HillSchool" ∧ yX10_fact.cls ≠ "java/lang/invoke/MethodHandle" ∧ yX10_fact.cls ≠ "java/lang/invoke/VarHandle" ∧ (parseMethodDescriptor yX10_fact.desc).map (fun d => d.parameters.length) = some 2 := by decide +kernel
def wd_HS_fact (cA : Nat → ClassId) (q0 q1 q2 q3 q4 q5 q6 q7 q8 q9 q10 q11 q12 q13 q14 q15 q16 q17 q18 q19 q20 q21 : Nat) (u0 u1 u2 u3 u4 u5 u6 u7 : Int) (i_hill_children : Int) (i_hill_strengths : Nat → Int) (i_hill_expelled : Nat → Int) (i_hill_trips : Nat → Int)  : va_W := [(q0, .inr (10, [.ref q1, .ref q2, .ref q3, .ref q4, .int (Int32.ofInt u0), .int (Int32.ofInt u1), .int (Int32.ofInt u2), .ref q5, .int (Int32.ofInt u3), .ref q6, .ref q7, .ref q8, .ref q9, .ref q10, .ref q11, .ref q12])), (q1, .inr (2, [.ref q13, .int (Int32.ofInt i_hill_children), .ref q14, .ref q15, .ref q16, .int (Int32.ofInt u4), .ref q17, .ref q18, .ref q19, .int (Int32.ofInt u5), .ref q20, .ref q21, .int (Int32.ofInt u6), .int (Int32.ofInt u7)])), (q14, .inl (cA 0, 6, .inl (za i_hill_strengths))), (q15, .inl (cA 0, 6, .inl (za i_hill_expelled))), (q16, .inl (cA 0, 6, .inl (za i_hill_trips)))]
def wf_HS_fact (cA : Nat → ClassId) (q0 q1 q2 q3 q4 q5 q6 q7 q8 q9 q10 q11 q12 q13 q14 q15 q16 q17 q18 q19 q20 q21 : Nat) (u0 u1 u2 u3 u4 u5 u6 u7 : Int) (i_hill_children : Int) (i_hill_strengths : Nat → Int) (i_hill_expelled : Nat → Int) (i_hill_trips : Nat → Int) (o : Int) : va_W := wd_HS_fact cA q0 q1 q2 q3 q4 q5 q6 q7 q8 q9 q10 q11 q12 q13 q14 q15 q16 q17 q18 q19 q20 q21 u0 u1 u2 u3 u4 u5 u6 u7 i_hill_children i_hill_strengths i_hill_expelled i_hill_trips
def f_HS_fact (x1 : Int) (x2 : Int) (i_hill_children : Int) (i_hill_strengths : Nat → Int) (i_hill_expelled : Nat → Int) (i_hill_trips : Nat → Int) : Option (Int) :=
  zd1 (f_Hill_hasChild x1 i_hill_children) fun v1 =>
  if zi_w v1 ≠ 0 then
    if zi_w x2 = 0 then
      zg 6 i_hill_strengths x1 fun v2 =>
      some v2
    else if zi_w x2 = 1 then
      zg 6 i_hill_expelled x1 fun v3 =>
      some v3
    else if zi_w x2 = 2 then
      zg 6 i_hill_trips x1 fun v4 =>
      some v4
    else
      some (-1)
  else
    some (-1)
set_option maxHeartbeats 4000000 in
set_option maxRecDepth 100000 in
theorem c_HS_fact (l : Launch) (ev : zEv) (dC : Nat → ClassId) (dI : Nat → Nat → Nat) (cA : Nat → ClassId) (q0 q1 q2 q3 q4 q5 q6 q7 q8 q9 q10 q11 q12 q13 q14 q15 q16 q17 q18 q19 q20 q21 : Nat) (u0 u1 u2 u3 u4 u5 u6 u7 : Int) {x1 x2 : Int} {i_hill_children : Int} {i_hill_strengths : Nat → Int} {i_hill_expelled : Nat → Int} {i_hill_trips : Nat → Int} {out : Int} (hf : f_HS_fact x1 x2 i_hill_children i_hill_strengths i_hill_expelled i_hill_trips = some out) : xc_I l ev (dC, dI) vwCl (tyl cA) yX10_fact w_HS_fact rm_HS_fact [.ref q0, .int (Int32.ofInt x1), .int (Int32.ofInt x2)] (wd_HS_fact cA q0 q1 q2 q3 q4 q5 q6 q7 q8 q9 q10 q11 q12 q13 q14 q15 q16 q17 q18 q19 q20 q21 u0 u1 u2 u3 u4 u5 u6 u7 i_hill_children i_hill_strengths i_hill_expelled i_hill_trips) (wf_HS_fact cA q0 q1 q2 q3 q4 q5 q6 q7 q8 q9 q10 q11 q12 q13 q14 q15 q16 q17 q18 q19 q20 q21 u0 u1 u2 u3 u4 u5 u6 u7 i_hill_children i_hill_strengths i_hill_expelled i_hill_trips out) out := by
  refine xv_startI (cc := cX10_fact) (maxL := 3) (rt := .int) (by decide +kernel) rfl (Nat.le_of_ble_eq_true rfl) ?_
  intro p e s m args below meth c A Q H ls hx hb hml hts hown hK hA hP hD hS hl hE hret
  have hown : s.vm.findClass "HillSchool" = some m.cls := hown
  have hz : ∀ w ∈ zall, w.before args s = true := fun w h => hts w (List.mem_cons_of_mem _ h)
  have hl : lv_has ls 3 [(0, .ref q0), (1, .int (Int32.ofInt x1)), (2, .int (Int32.ofInt x2))] := hl
  unfold f_HS_fact at hf
  refine lv_aload_n hx hb dX10_fact_0 rfl (lv_at hl 0 rfl) ?_
  refine va_get (D := (dC, dI)) (ci := 10) (v := .ref q1) (C := RX10) (T := TX10) (N := 16) hx hb hz zi_X10 hown hK hP 0 rfl rfl 0 (by decide) (hz _ zw_477) (fun _ h9 => h9) rfl dX10_fact_1 ?_
  refine lv_iload_n hx hb dX10_fact_4 rfl (lv_at hl 1 rfl) ?_
  refine xe_d1 hf (fun v1 hg hf => ?_)
  have hC : ([1] : List Nat).map (fun i => (wd_HS_fact cA q0 q1 q2 q3 q4 q5 q6 q7 q8 q9 q10 q11 q12 q13 q14 q15 q16 q17 q18 q19 q20 q21 u0 u1 u2 u3 u4 u5 u6 u7 i_hill_children i_hill_strengths i_hill_expelled i_hill_trips)[i]?) = (wd_Hill_hasChild cA q1 q13 q14 q15 q16 q17 q18 q19 q20 q21 u4 u5 u6 u7 i_hill_children).map some := rfl
  refine xv_afterI (ws' := (wd_HS_fact cA q0 q1 q2 q3 q4 q5 q6 q7 q8 q9 q10 q11 q12 q13 q14 q15 q16 q17 q18 q19 q20 q21 u0 u1 u2 u3 u4 u5 u6 u7 i_hill_children i_hill_strengths i_hill_expelled i_hill_trips)) (isC := [1]) (ps := [none, some 0, none, none, none]) (va_runV (As := [.int (Int32.ofInt x1)]) (rest := []) ⟨hx, hb, hml, hown, hts⟩ (c_Hill_hasChild l ev dC dI cA q1 q13 q14 q15 q16 q17 q18 q19 q20 q21 u4 u5 u6 u7 hg H.size) (cwV 1 hts (zgV zw_601 zw_602 zw_603 zw_105 zw_604) rfl rfl rfl hd_Hill_hasChild ⟨Nat.le_of_ble_eq_true rfl, Nat.le_of_ble_eq_true rfl⟩) (xv_preV (T := TX2) (N := 14) hE hA hS hK hP hD (isC := [1]) (by decide +kernel) hC (q0 := 1) (ci := 2) rfl rfl) rfl rfl hl.1 rfl (lv_room (Nat.le_of_ble_eq_true rfl)) dX10_fact_5 ⟨Nat.le_refl _, Nat.le_refl _⟩) hP hD hS hA (by decide +kernel) rfl hC rfl rfl (fun H locs hP hD hS => ?_)
  refine xi_if_ne (tgt := 13) hx hb dX10_fact_8 (by decide) hf (fun hf => ?_) (fun hf => ?_)
  · refine lv_iload_n hx hb dX10_fact_13 rfl (lv_at hl 2 rfl) ?_
    refine xz_if hf (fun hc hf => ?_) (fun hn0 hf => ?_)
    · refine xi_tin (tgt := 40) hx hb dX10_fact_14 hc (by decide) (by decide) rfl (by decide) ?_
      refine lv_aload_n hx hb dX10_fact_40 rfl (lv_at hl 0 rfl) ?_
      refine va_get (D := (dC, dI)) (ci := 10) (v := .ref q1) (C := RX10) (T := TX10) (N := 16) hx hb hz zi_X10 hown hK hP 0 rfl rfl 0 (by decide) (hz _ zw_477) (fun _ h9 => h9) rfl dX10_fact_41 ?_
      refine va_getN (D := (dC, dI)) (ci := 2) (v := .ref q14) (C := RX2) (T := TX2) (N := 14) hx hb hz zi_X2 hown hK hP 1 rfl rfl 2 (by decide) (va_Nw.use rfl (hE.1.1 _ zw_179)) (fun _ h9 => h9) rfl dX10_fact_44 ?_
      refine lv_iload_n hx hb dX10_fact_47 rfl (lv_at hl 1 rfl) ?_
      refine xi_iald hx hb hK hP 2 0 rfl rfl dX10_fact_48 hf (fun v2 hf => ?_)
      obtain rfl := Option.some.inj hf
      exact hret _ _ _ _ rfl dX10_fact_49 hP hD hS
    refine xz_if hf (fun hc hf => ?_) (fun hn1 hf => ?_)
    · refine xi_tin (tgt := 50) hx hb dX10_fact_14 hc (by decide) (by decide) rfl (by decide) ?_
      refine lv_aload_n hx hb dX10_fact_50 rfl (lv_at hl 0 rfl) ?_
      refine va_get (D := (dC, dI)) (ci := 10) (v := .ref q1) (C := RX10) (T := TX10) (N := 16) hx hb hz zi_X10 hown hK hP 0 rfl rfl 0 (by decide) (hz _ zw_477) (fun _ h9 => h9) rfl dX10_fact_51 ?_
      refine va_getN (D := (dC, dI)) (ci := 2) (v := .ref q15) (C := RX2) (T := TX2) (N := 14) hx hb hz zi_X2 hown hK hP 1 rfl rfl 3 (by decide) (va_Nw.use rfl (hE.1.1 _ zw_181)) (fun _ h9 => h9) rfl dX10_fact_54 ?_
      refine lv_iload_n hx hb dX10_fact_57 rfl (lv_at hl 1 rfl) ?_
      refine xi_iald hx hb hK hP 3 0 rfl rfl dX10_fact_58 hf (fun v3 hf => ?_)
      obtain rfl := Option.some.inj hf
      exact hret _ _ _ _ rfl dX10_fact_59 hP hD hS
    refine xz_if hf (fun hc hf => ?_) (fun hn2 hf => ?_)
    · refine xi_tin (tgt := 60) hx hb dX10_fact_14 hc (by decide) (by decide) rfl (by decide) ?_
      refine lv_aload_n hx hb dX10_fact_60 rfl (lv_at hl 0 rfl) ?_
      refine va_get (D := (dC, dI)) (ci := 10) (v := .ref q1) (C := RX10) (T := TX10) (N := 16) hx hb hz zi_X10 hown hK hP 0 rfl rfl 0 (by decide) (hz _ zw_477) (fun _ h9 => h9) rfl dX10_fact_61 ?_
      refine va_getN (D := (dC, dI)) (ci := 2) (v := .ref q16) (C := RX2) (T := TX2) (N := 14) hx hb hz zi_X2 hown hK hP 1 rfl rfl 4 (by decide) (va_Nw.use rfl (hE.1.1 _ zw_184)) (fun _ h9 => h9) rfl dX10_fact_64 ?_
      refine lv_iload_n hx hb dX10_fact_67 rfl (lv_at hl 1 rfl) ?_
      refine xi_iald hx hb hK hP 4 0 rfl rfl dX10_fact_68 hf (fun v4 hf => ?_)
      obtain rfl := Option.some.inj hf
      exact hret _ _ _ _ rfl dX10_fact_69 hP hD hS
    refine xi_tout (tgt := 70) hx hb dX10_fact_14 (by omega) (by decide) ?_
    refine lv_iconst (v := Int32.ofInt (-1)) hx hb dX10_fact_70 rfl ?_
    obtain rfl := Option.some.inj hf
    exact hret _ _ _ _ rfl dX10_fact_71 hP hD hS
  · refine lv_iconst (v := Int32.ofInt (-1)) hx hb dX10_fact_11 rfl ?_
    obtain rfl := Option.some.inj hf
    exact hret _ _ _ _ rfl dX10_fact_12 hP hD hS
theorem dX10_parish_0 : decode cX10_parish 0 = .ok (.aload_n 0, 1) := by decide +kernel
theorem dX10_parish_1 : decode cX10_parish 1 = .ok (.getfield 10, 3) := by decide +kernel
theorem dX10_parish_4 : decode cX10_parish 4 = .ok (.getfield 99, 3) := by decide +kernel
theorem dX10_parish_7 : decode cX10_parish 7 = .ok (.iload_n 1, 1) := by decide +kernel
theorem dX10_parish_8 : decode cX10_parish 8 = .ok (.invokevirtual 122, 3) := by decide +kernel
theorem dX10_parish_11 : decode cX10_parish 11 = .ok (.ifCond .ne 10, 3) := by decide +kernel
theorem dX10_parish_14 : decode cX10_parish 14 = .ok (.aload_n 0, 1) := by decide +kernel
theorem dX10_parish_15 : decode cX10_parish 15 = .ok (.bipush (-2), 2) := by decide +kernel
theorem dX10_parish_17 : decode cX10_parish 17 = .ok (.invokevirtual 109, 3) := by decide +kernel
theorem dX10_parish_20 : decode cX10_parish 20 = .ok (.ireturn, 1) := by decide +kernel
theorem dX10_parish_21 : decode cX10_parish 21 = .ok (.aload_n 0, 1) := by decide +kernel
theorem dX10_parish_22 : decode cX10_parish 22 = .ok (.getfield 10, 3) := by decide +kernel
theorem dX10_parish_25 : decode cX10_parish 25 = .ok (.getfield 161, 3) := by decide +kernel
theorem dX10_parish_28 : decode cX10_parish 28 = .ok (.bipush 6, 2) := by decide +kernel
theorem dX10_parish_30 : decode cX10_parish 30 = .ok (.if_icmp .lt 10, 3) := by decide +kernel
theorem dX10_parish_33 : decode cX10_parish 33 = .ok (.aload_n 0, 1) := by decide +kernel
theorem dX10_parish_34 : decode cX10_parish 34 = .ok (.bipush (-5), 2) := by decide +kernel
theorem dX10_parish_36 : decode cX10_parish 36 = .ok (.invokevirtual 109, 3) := by decide +kernel
theorem dX10_parish_39 : decode cX10_parish 39 = .ok (.ireturn, 1) := by decide +kernel
theorem dX10_parish_40 : decode cX10_parish 40 = .ok (.aload_n 0, 1) := by decide +kernel
theorem dX10_parish_41 : decode cX10_parish 41 = .ok (.getfield 10, 3) := by decide +kernel
theorem dX10_parish_44 : decode cX10_parish 44 = .ok (.getfield 161, 3) := by decide +kernel
theorem dX10_parish_47 : decode cX10_parish 47 = .ok (.istore_n 2, 1) := by decide +kernel
theorem dX10_parish_48 : decode cX10_parish 48 = .ok (.aload_n 0, 1) := by decide +kernel
theorem dX10_parish_49 : decode cX10_parish 49 = .ok (.getfield 10, 3) := by decide +kernel
theorem dX10_parish_52 : decode cX10_parish 52 = .ok (.getfield 164, 3) := by decide +kernel
theorem dX10_parish_55 : decode cX10_parish 55 = .ok (.iload_n 2, 1) := by decide +kernel
theorem dX10_parish_56 : decode cX10_parish 56 = .ok (.iload_n 1, 1) := by decide +kernel
theorem dX10_parish_57 : decode cX10_parish 57 = .ok (.iastore, 1) := by decide +kernel
theorem dX10_parish_58 : decode cX10_parish 58 = .ok (.aload_n 0, 1) := by decide +kernel
theorem dX10_parish_59 : decode cX10_parish 59 = .ok (.getfield 10, 3) := by decide +kernel
theorem dX10_parish_62 : decode cX10_parish 62 = .ok (.dup, 1) := by decide +kernel
theorem dX10_parish_63 : decode cX10_parish 63 = .ok (.getfield 161, 3) := by decide +kernel
theorem dX10_parish_66 : decode cX10_parish 66 = .ok (.iconst 1, 1) := by decide +kernel
theorem dX10_parish_67 : decode cX10_parish 67 = .ok (.iadd, 1) := by decide +kernel
theorem dX10_parish_68 : decode cX10_parish 68 = .ok (.putfield 161, 3) := by decide +kernel
theorem dX10_parish_71 : decode cX10_parish 71 = .ok (.aload_n 0, 1) := by decide +kernel
theorem dX10_parish_72 : decode cX10_parish 72 = .ok (.iload_n 2, 1) := by decide +kernel
theorem dX10_parish_73 : decode cX10_parish 73 = .ok (.invokevirtual 119, 3) := by decide +kernel
theorem dX10_parish_76 : decode cX10_parish 76 = .ok (.ireturn, 1) := by decide +kernel
theorem zw_186 : (Jvm.Cond.fieldLinkNest "HillSchool" (161 : Nat) "HillSchool$Hill" "parishes" "I" "HillSchool") ∈ znest := zmemH (zmj_1 83 rfl) rfl
theorem zw_188 : (Jvm.Cond.fieldLinkNest "HillSchool" (164 : Nat) "HillSchool$Hill" "places" "[I" "HillSchool") ∈ znest := zmemH (zmj_1 85 rfl) rfl
theorem zw_612 : (Jvm.Cond.code ({ cls := "HillSchool", name := "parish", desc := "(I)I" } : Jvm.MethodName) prog_1_method_10_code (3 : Nat) (Option.some Jvm.ClassFile.FieldType.int)) ∈ zall := zmemG (zmj_3 29 rfl) rfl
abbrev w_HS_parish : List Cond := .code yX10_parish cX10_parish 3 (some .int) :: zall
abbrev rm_HS_parish : Room := { frames := 1, cells := 0, slots := 0, locals := 21 }
theorem hd_HS_parish : yX10_parish.cls = "HillSchool" ∧ yX10_parish.cls ≠ "java/lang/invoke/MethodHandle" ∧ yX10_parish.cls ≠ "java/lang/invoke/VarHandle" ∧ (parseMethodDescriptor yX10_parish.desc).map (fun d => d.parameters.length) = some 1 := by decide +kernel
def wd_HS_parish (cA : Nat → ClassId) (q0 q1 q2 q3 q4 q5 q6 q7 q8 q9 q10 q11 q12 q13 q14 q15 q16 q17 q18 q19 q20 q21 q22 q23 : Nat) (u0 u1 u2 u3 u4 u5 : Int) (i_hill_columns_many : Int) (i_latestStatus : Int) (i_hill_parishes : Int) (i_hill_changes : Int) (i_refusals : Nat → Int) (i_hill_places : Nat → Int) : va_W := [(q0, .inr (10, [.ref q1, .ref q2, .ref q3, .ref q4, .int (Int32.ofInt u0), .int (Int32.ofInt u1), .int (Int32.ofInt u2), .ref q5, .int (Int32.ofInt i_latestStatus), .ref q6, .ref q7, .ref q8, .ref q9, .ref q10, .ref q11, .ref q12])), (q1, .inr (2, [.ref q13, .int (Int32.ofInt u3), .ref q14, .ref q15, .ref q16, .int (Int32.ofInt i_hill_parishes), .ref q17, .ref q18, .ref q19, .int (Int32.ofInt u4), .ref q20, .ref q21, .int (Int32.ofInt u5), .int (Int32.ofInt i_hill_changes)])), (q5, .inl (cA 0, 7, .inl (za i_refusals))), (q13, .inr (1, [.int (Int32.ofInt i_hill_columns_many), .ref q22, .ref q23])), (q17, .inl (cA 0, 6, .inl (za i_hill_places)))]
def wf_HS_parish (cA : Nat → ClassId) (q0 q1 q2 q3 q4 q5 q6 q7 q8 q9 q10 q11 q12 q13 q14 q15 q16 q17 q18 q19 q20 q21 q22 q23 : Nat) (u0 u1 u2 u3 u4 u5 : Int) (i_hill_columns_many : Int) (o : Int × Int × Int × Int × (Nat → Int) × (Nat → Int)) : va_W := wd_HS_parish cA q0 q1 q2 q3 q4 q5 q6 q7 q8 q9 q10 q11 q12 q13 q14 q15 q16 q17 q18 q19 q20 q21 q22 q23 u0 u1 u2 u3 u4 u5 i_hill_columns_many o.2.1 o.2.2.1 o.2.2.2.1 o.2.2.2.2.1 o.2.2.2.2.2
def f_HS_parish (x1 : Int) (i_hill_columns_many : Int) (i_latestStatus : Int) (i_hill_parishes : Int) (i_hill_changes : Int) (i_refusals : Nat → Int) (i_hill_places : Nat → Int) : Option (Int × Int × Int × Int × (Nat → Int) × (Nat → Int)) :=
  zd1 (f_Columns_has x1 i_hill_columns_many) fun v1 =>
  if zi_w v1 ≠ 0 then
    if zi_w i_hill_parishes < zi_w 6 then
      zs 6 i_hill_places i_hill_parishes x1 fun a2 =>
      zn (i_hill_parishes + 1) fun v3 =>
      zd3 (f_HS_accept i_hill_parishes i_latestStatus i_hill_changes) fun v4 v5 v6 =>
      some (v4, v5, v3, v6, i_refusals, a2)
    else
      zd3 (f_HS_refuse (-5) i_latestStatus i_refusals) fun v7 v8 a9 =>
      some (v7, v8, i_hill_parishes, i_hill_changes, a9, i_hill_places)
  else
    zd3 (f_HS_refuse (-2) i_latestStatus i_refusals) fun v10 v11 a12 =>
    some (v10, v11, i_hill_parishes, i_hill_changes, a12, i_hill_places)
set_option maxHeartbeats 4000000 in
set_option maxRecDepth 100000 in
theorem c_HS_parish (l : Launch) (ev : zEv) (dC : Nat → ClassId) (dI : Nat → Nat → Nat) (cA : Nat → ClassId) (q0 q1 q2 q3 q4 q5 q6 q7 q8 q9 q10 q11 q12 q13 q14 q15 q16 q17 q18 q19 q20 q21 q22 q23 : Nat) (u0 u1 u2 u3 u4 u5 : Int) {x1 : Int} {i_hill_columns_many : Int} {i_latestStatus : Int} {i_hill_parishes : Int} {i_hill_changes : Int} {i_refusals : Nat → Int} {i_hill_places : Nat → Int} {out : Int × Int × Int × Int × (Nat → Int) × (Nat → Int)} (hf : f_HS_parish x1 i_hill_columns_many i_latestStatus i_hill_parishes i_hill_changes i_refusals i_hill_places = some out) : xc_I l ev (dC, dI) vwCl (tyl cA) yX10_parish w_HS_parish rm_HS_parish [.ref q0, .int (Int32.ofInt x1)] (wd_HS_parish cA q0 q1 q2 q3 q4 q5 q6 q7 q8 q9 q10 q11 q12 q13 q14 q15 q16 q17 q18 q19 q20 q21 q22 q23 u0 u1 u2 u3 u4 u5 i_hill_columns_many i_latestStatus i_hill_parishes i_hill_changes i_refusals i_hill_places) (wf_HS_parish cA q0 q1 q2 q3 q4 q5 q6 q7 q8 q9 q10 q11 q12 q13 q14 q15 q16 q17 q18 q19 q20 q21 q22 q23 u0 u1 u2 u3 u4 u5 i_hill_columns_many out) out.1 := by
  refine xv_startI (cc := cX10_parish) (maxL := 3) (rt := .int) (by decide +kernel) rfl (Nat.le_of_ble_eq_true rfl) ?_
  intro p e s m args below meth c A Q H ls hx hb hml hts hown hK hA hP hD hS hl hE hret
  have hown : s.vm.findClass "HillSchool" = some m.cls := hown
  have hz : ∀ w ∈ zall, w.before args s = true := fun w h => hts w (List.mem_cons_of_mem _ h)
  have hl : lv_has ls 3 [(0, .ref q0), (1, .int (Int32.ofInt x1))] := hl
  unfold f_HS_parish at hf
  refine lv_aload_n hx hb dX10_parish_0 rfl (lv_at hl 0 rfl) ?_
  refine va_get (D := (dC, dI)) (ci := 10) (v := .ref q1) (C := RX10) (T := TX10) (N := 16) hx hb hz zi_X10 hown hK hP 0 rfl rfl 0 (by decide) (hz _ zw_477) (fun _ h9 => h9) rfl dX10_parish_1 ?_
  refine va_getN (D := (dC, dI)) (ci := 2) (v := .ref q13) (C := RX2) (T := TX2) (N := 14) hx hb hz zi_X2 hown hK hP 1 rfl rfl 0 (by decide) (va_Nw.use rfl (hE.1.1 _ zw_169)) (fun _ h9 => h9) rfl dX10_parish_4 ?_
  refine lv_iload_n hx hb dX10_parish_7 rfl (lv_at hl 1 rfl) ?_
  refine xe_d1 hf (fun v1 hg hf => ?_)
  have hC : ([3] : List Nat).map (fun i => (wd_HS_parish cA q0 q1 q2 q3 q4 q5 q6 q7 q8 q9 q10 q11 q12 q13 q14 q15 q16 q17 q18 q19 q20 q21 q22 q23 u0 u1 u2 u3 u4 u5 i_hill_columns_many i_latestStatus i_hill_parishes i_hill_changes i_refusals i_hill_places)[i]?) = (wd_Columns_has cA q13 q22 q23 i_hill_columns_many).map some := rfl
  refine xv_afterI (ws' := (wd_HS_parish cA q0 q1 q2 q3 q4 q5 q6 q7 q8 q9 q10 q11 q12 q13 q14 q15 q16 q17 q18 q19 q20 q21 q22 q23 u0 u1 u2 u3 u4 u5 i_hill_columns_many i_latestStatus i_hill_parishes i_hill_changes i_refusals i_hill_places)) (isC := [3]) (ps := [none, none, none, some 0, none]) (va_runV (As := [.int (Int32.ofInt x1)]) (rest := []) ⟨hx, hb, hml, hown, hts⟩ (c_Columns_has l ev dC dI cA q13 q22 q23 hg H.size) (cwV 1 hts (zgV zw_546 zw_547 zw_548 zw_106 zw_549) rfl rfl rfl hd_Columns_has ⟨Nat.le_of_ble_eq_true rfl, Nat.le_of_ble_eq_true rfl⟩) (xv_preV (T := TX1) (N := 3) hE hA hS hK hP hD (isC := [3]) (by decide +kernel) hC (q0 := 3) (ci := 1) rfl rfl) rfl rfl hl.1 rfl (lv_room (Nat.le_of_ble_eq_true rfl)) dX10_parish_8 ⟨Nat.le_refl _, Nat.le_refl _⟩) hP hD hS hA (by decide +kernel) rfl hC rfl rfl (fun H locs hP hD hS => ?_)
  refine xi_if_ne (tgt := 21) hx hb dX10_parish_11 (by decide) hf (fun hf => ?_) (fun hf => ?_)
  · refine lv_aload_n hx hb dX10_parish_21 rfl (lv_at hl 0 rfl) ?_
    refine va_get (D := (dC, dI)) (ci := 10) (v := .ref q1) (C := RX10) (T := TX10) (N := 16) hx hb hz zi_X10 hown hK hP 0 rfl rfl 0 (by decide) (hz _ zw_477) (fun _ h9 => h9) rfl dX10_parish_22 ?_
    refine va_getN (D := (dC, dI)) (ci := 2) (v := .int (Int32.ofInt i_hill_parishes)) (C := RX2) (T := TX2) (N := 14) hx hb hz zi_X2 hown hK hP 1 rfl rfl 5 (by decide) (va_Nw.use rfl (hE.1.1 _ zw_186)) (fun _ h9 => h9) rfl dX10_parish_25 ?_
    refine lv_bipush (v := Int32.ofInt 6) hx hb dX10_parish_28 (by decide) ?_
    refine xi_icmp_lt (tgt := 40) hx hb dX10_parish_30 (by decide) hf (fun hf => ?_) (fun hf => ?_)
    · refine lv_aload_n hx hb dX10_parish_40 rfl (lv_at hl 0 rfl) ?_
      refine va_get (D := (dC, dI)) (ci := 10) (v := .ref q1) (C := RX10) (T := TX10) (N := 16) hx hb hz zi_X10 hown hK hP 0 rfl rfl 0 (by decide) (hz _ zw_477) (fun _ h9 => h9) rfl dX10_parish_41 ?_
      refine va_getN (D := (dC, dI)) (ci := 2) (v := .int (Int32.ofInt i_hill_parishes)) (C := RX2) (T := TX2) (N := 14) hx hb hz zi_X2 hown hK hP 1 rfl rfl 5 (by decide) (va_Nw.use rfl (hE.1.1 _ zw_186)) (fun _ h9 => h9) rfl dX10_parish_44 ?_
      refine lv_istore_n (lv' := [(2, .int (Int32.ofInt i_hill_parishes)), (0, .ref q0), (1, .int (Int32.ofInt x1))]) hx hb dX10_parish_47 rfl hl (by decide) rfl (fun ls hl => ?_)
      refine lv_aload_n hx hb dX10_parish_48 rfl (lv_at hl 1 rfl) ?_
      refine va_get (D := (dC, dI)) (ci := 10) (v := .ref q1) (C := RX10) (T := TX10) (N := 16) hx hb hz zi_X10 hown hK hP 0 rfl rfl 0 (by decide) (hz _ zw_477) (fun _ h9 => h9) rfl dX10_parish_49 ?_
      refine va_getN (D := (dC, dI)) (ci := 2) (v := .ref q17) (C := RX2) (T := TX2) (N := 14) hx hb hz zi_X2 hown hK hP 1 rfl rfl 6 (by decide) (va_Nw.use rfl (hE.1.1 _ zw_188)) (fun _ h9 => h9) rfl dX10_parish_52 ?_
      refine lv_iload_n hx hb dX10_parish_55 rfl (lv_at hl 0 rfl) ?_
      refine lv_iload_n hx hb dX10_parish_56 rfl (lv_at hl 2 rfl) ?_
      refine xi_iast hx hb hK hP hD hS 4 0 rfl rfl dX10_parish_57 hf (fun a2 H locs hP hD hS hf => ?_)
      have hP : va_P (dC, dI) vwCl (wd_HS_parish cA q0 q1 q2 q3 q4 q5 q6 q7 q8 q9 q10 q11 q12 q13 q14 q15 q16 q17 q18 q19 q20 q21 q22 q23 u0 u1 u2 u3 u4 u5 i_hill_columns_many i_latestStatus i_hill_parishes i_hill_changes i_refusals a2) H := hP
      have hD : va_D A (wd_HS_parish cA q0 q1 q2 q3 q4 q5 q6 q7 q8 q9 q10 q11 q12 q13 q14 q15 q16 q17 q18 q19 q20 q21 q22 q23 u0 u1 u2 u3 u4 u5 i_hill_columns_many i_latestStatus i_hill_parishes i_hill_changes i_refusals a2) := hD
      refine lv_aload_n hx hb dX10_parish_58 rfl (lv_at hl 1 rfl) ?_
      refine va_get (D := (dC, dI)) (ci := 10) (v := .ref q1) (C := RX10) (T := TX10) (N := 16) hx hb hz zi_X10 hown hK hP 0 rfl rfl 0 (by decide) (hz _ zw_477) (fun _ h9 => h9) rfl dX10_parish_59 ?_
      refine lv_dup hx hb dX10_parish_62 rfl ?_
      refine va_getN (D := (dC, dI)) (ci := 2) (v := .int (Int32.ofInt i_hill_parishes)) (C := RX2) (T := TX2) (N := 14) hx hb hz zi_X2 hown hK hP 1 rfl rfl 5 (by decide) (va_Nw.use rfl (hE.1.1 _ zw_186)) (fun _ h9 => h9) rfl dX10_parish_63 ?_
      refine lv_iconst (v := Int32.ofInt 1) hx hb dX10_parish_66 rfl ?_
      refine xi_iadd hx hb dX10_parish_67 hf (fun v3 hf => ?_)
      refine va_putN (D := (dC, dI)) (ci := 2) (v := .int (Int32.ofInt v3)) (ty := .int) (C := RX2) (T := TX2) (N := 14) hx hb hz zi_X2 tyX2 tyX2_ok nmX2 hown hK hP hD hS 1 rfl rfl 5 (by decide) (va_Nw.use rfl (hE.1.1 _ zw_186)) (fun _ h9 => h9) rfl (by decide +kernel) rfl rfl (Nat.le_of_ble_eq_true rfl) dX10_parish_68 (fun H locs hP hD hS => ?_)
      have hP : va_P (dC, dI) vwCl (wd_HS_parish cA q0 q1 q2 q3 q4 q5 q6 q7 q8 q9 q10 q11 q12 q13 q14 q15 q16 q17 q18 q19 q20 q21 q22 q23 u0 u1 u2 u3 u4 u5 i_hill_columns_many i_latestStatus v3 i_hill_changes i_refusals a2) H := hP
      have hD : va_D A (wd_HS_parish cA q0 q1 q2 q3 q4 q5 q6 q7 q8 q9 q10 q11 q12 q13 q14 q15 q16 q17 q18 q19 q20 q21 q22 q23 u0 u1 u2 u3 u4 u5 i_hill_columns_many i_latestStatus v3 i_hill_changes i_refusals a2) := hD
      refine lv_aload_n hx hb dX10_parish_71 rfl (lv_at hl 1 rfl) ?_
      refine lv_iload_n hx hb dX10_parish_72 rfl (lv_at hl 0 rfl) ?_
      refine xe_d3 hf (fun v4 v5 v6 hg hf => ?_)
      have hC : ([0, 1] : List Nat).map (fun i => (wd_HS_parish cA q0 q1 q2 q3 q4 q5 q6 q7 q8 q9 q10 q11 q12 q13 q14 q15 q16 q17 q18 q19 q20 q21 q22 q23 u0 u1 u2 u3 u4 u5 i_hill_columns_many i_latestStatus v3 i_hill_changes i_refusals a2)[i]?) = (wd_HS_accept cA q0 q1 q2 q3 q4 q5 q6 q7 q8 q9 q10 q11 q12 q13 q14 q15 q16 q17 q18 q19 q20 q21 u0 u1 u2 u3 v3 u4 u5 i_latestStatus i_hill_changes).map some := rfl
      refine xv_afterI (ws' := (wd_HS_parish cA q0 q1 q2 q3 q4 q5 q6 q7 q8 q9 q10 q11 q12 q13 q14 q15 q16 q17 q18 q19 q20 q21 q22 q23 u0 u1 u2 u3 u4 u5 i_hill_columns_many v5 v3 v6 i_refusals a2)) (isC := [0, 1]) (ps := [some 0, some 1, none, none, none]) (va_runV (As := [.int (Int32.ofInt i_hill_parishes)]) (rest := []) ⟨hx, hb, hml, hown, hts⟩ (c_HS_accept l ev dC dI cA q0 q1 q2 q3 q4 q5 q6 q7 q8 q9 q10 q11 q12 q13 q14 q15 q16 q17 q18 q19 q20 q21 u0 u1 u2 u3 v3 u4 u5 hg H.size) (cwV 1 hts (zgV zw_538 zw_540 zw_1 zw_104 zw_541) rfl rfl rfl hd_HS_accept ⟨Nat.le_of_ble_eq_true rfl, Nat.le_of_ble_eq_true rfl⟩) (xv_preV (T := TX10) (N := 16) hE hA hS hK hP hD (isC := [0, 1]) (by decide +kernel) hC (q0 := 0) (ci := 10) rfl rfl) rfl rfl hl.1 rfl (lv_room (Nat.le_of_ble_eq_true rfl)) dX10_parish_73 ⟨Nat.le_refl _, Nat.le_refl _⟩) hP hD hS hA (by decide +kernel) rfl hC rfl rfl (fun H locs hP hD hS => ?_)
      obtain rfl := Option.some.inj hf
      exact hret _ _ _ _ rfl dX10_parish_76 hP hD hS
    · refine lv_aload_n hx hb dX10_parish_33 rfl (lv_at hl 0 rfl) ?_
      refine lv_bipush (v := Int32.ofInt (-5)) hx hb dX10_parish_34 (by decide) ?_
      refine xe_d3 hf (fun v7 v8 a9 hg hf => ?_)
      have hC : ([0, 2] : List Nat).map (fun i => (wd_HS_parish cA q0 q1 q2 q3 q4 q5 q6 q7 q8 q9 q10 q11 q12 q13 q14 q15 q16 q17 q18 q19 q20 q21 q22 q23 u0 u1 u2 u3 u4 u5 i_hill_columns_many i_latestStatus i_hill_parishes i_hill_changes i_refusals i_hill_places)[i]?) = (wd_HS_refuse cA q0 q1 q2 q3 q4 q5 q6 q7 q8 q9 q10 q11 q12 u0 u1 u2 i_latestStatus i_refusals).map some := rfl
      refine xv_afterI (ws' := (wd_HS_parish cA q0 q1 q2 q3 q4 q5 q6 q7 q8 q9 q10 q11 q12 q13 q14 q15 q16 q17 q18 q19 q20 q21 q22 q23 u0 u1 u2 u3 u4 u5 i_hill_columns_many v8 i_hill_parishes i_hill_changes a9 i_hill_places)) (isC := [0, 2]) (ps := [some 0, none, some 1, none, none]) (va_runV (As := [.int (Int32.ofInt (-5))]) (rest := []) ⟨hx, hb, hml, hown, hts⟩ (c_HS_refuse l ev dC dI cA q0 q1 q2 q3 q4 q5 q6 q7 q8 q9 q10 q11 q12 u0 u1 u2 hg H.size) (cwV 1 hts (zgV zw_534 zw_536 zw_0 zw_104 zw_537) rfl rfl rfl hd_HS_refuse ⟨Nat.le_of_ble_eq_true rfl, Nat.le_of_ble_eq_true rfl⟩) (xv_preV (T := TX10) (N := 16) hE hA hS hK hP hD (isC := [0, 2]) (by decide +kernel) hC (q0 := 0) (ci := 10) rfl rfl) rfl rfl hl.1 rfl (lv_room (Nat.le_of_ble_eq_true rfl)) dX10_parish_36 ⟨Nat.le_refl _, Nat.le_refl _⟩) hP hD hS hA (by decide +kernel) rfl hC rfl rfl (fun H locs hP hD hS => ?_)
      obtain rfl := Option.some.inj hf
      exact hret _ _ _ _ rfl dX10_parish_39 hP hD hS
  · refine lv_aload_n hx hb dX10_parish_14 rfl (lv_at hl 0 rfl) ?_
    refine lv_bipush (v := Int32.ofInt (-2)) hx hb dX10_parish_15 (by decide) ?_
    refine xe_d3 hf (fun v10 v11 a12 hg hf => ?_)
    have hC : ([0, 2] : List Nat).map (fun i => (wd_HS_parish cA q0 q1 q2 q3 q4 q5 q6 q7 q8 q9 q10 q11 q12 q13 q14 q15 q16 q17 q18 q19 q20 q21 q22 q23 u0 u1 u2 u3 u4 u5 i_hill_columns_many i_latestStatus i_hill_parishes i_hill_changes i_refusals i_hill_places)[i]?) = (wd_HS_refuse cA q0 q1 q2 q3 q4 q5 q6 q7 q8 q9 q10 q11 q12 u0 u1 u2 i_latestStatus i_refusals).map some := rfl
    refine xv_afterI (ws' := (wd_HS_parish cA q0 q1 q2 q3 q4 q5 q6 q7 q8 q9 q10 q11 q12 q13 q14 q15 q16 q17 q18 q19 q20 q21 q22 q23 u0 u1 u2 u3 u4 u5 i_hill_columns_many v11 i_hill_parishes i_hill_changes a12 i_hill_places)) (isC := [0, 2]) (ps := [some 0, none, some 1, none, none]) (va_runV (As := [.int (Int32.ofInt (-2))]) (rest := []) ⟨hx, hb, hml, hown, hts⟩ (c_HS_refuse l ev dC dI cA q0 q1 q2 q3 q4 q5 q6 q7 q8 q9 q10 q11 q12 u0 u1 u2 hg H.size) (cwV 1 hts (zgV zw_534 zw_536 zw_0 zw_104 zw_537) rfl rfl rfl hd_HS_refuse ⟨Nat.le_of_ble_eq_true rfl, Nat.le_of_ble_eq_true rfl⟩) (xv_preV (T := TX10) (N := 16) hE hA hS hK hP hD (isC := [0, 2]) (by decide +kernel) hC (q0 := 0) (ci := 10) rfl rfl) rfl rfl hl.1 rfl (lv_room (Nat.le_of_ble_eq_true rfl)) dX10_parish_17 ⟨Nat.le_refl _, Nat.le_refl _⟩) hP hD hS hA (by decide +kernel) rfl hC rfl rfl (fun H locs hP hD hS => ?_)
    obtain rfl := Option.some.inj hf
    exact hret _ _ _ _ rfl dX10_parish_20 hP hD hS
theorem dX10_terms_0 : decode cX10_terms 0 = .ok (.iload_n 1, 1) := by decide +kernel
theorem dX10_terms_1 : decode cX10_terms 1 = .ok (.ifCond .lt 29, 3) := by decide +kernel
theorem dX10_terms_4 : decode cX10_terms 4 = .ok (.iload_n 1, 1) := by decide +kernel
theorem dX10_terms_5 : decode cX10_terms 5 = .ok (.getstatic 167, 3) := by decide +kernel
theorem dX10_terms_8 : decode cX10_terms 8 = .ok (.arraylength, 1) := by decide +kernel
theorem dX10_terms_9 : decode cX10_terms 9 = .ok (.if_icmp .ge 21, 3) := by decide +kernel
theorem dX10_terms_12 : decode cX10_terms 12 = .ok (.iload_n 2, 1) := by decide +kernel
theorem dX10_terms_13 : decode cX10_terms 13 = .ok (.getstatic 170, 3) := by decide +kernel
theorem dX10_terms_16 : decode cX10_terms 16 = .ok (.iload_n 1, 1) := by decide +kernel
theorem dX10_terms_17 : decode cX10_terms 17 = .ok (.iaload, 1) := by decide +kernel
theorem dX10_terms_18 : decode cX10_terms 18 = .ok (.if_icmp .lt 12, 3) := by decide +kernel
theorem dX10_terms_21 : decode cX10_terms 21 = .ok (.iload_n 2, 1) := by decide +kernel
theorem dX10_terms_22 : decode cX10_terms 22 = .ok (.getstatic 173, 3) := by decide +kernel
theorem dX10_terms_25 : decode cX10_terms 25 = .ok (.iload_n 1, 1) := by decide +kernel
theorem dX10_terms_26 : decode cX10_terms 26 = .ok (.iaload, 1) := by decide +kernel
theorem dX10_terms_27 : decode cX10_terms 27 = .ok (.if_icmp .le 9, 3) := by decide +kernel
theorem dX10_terms_30 : decode cX10_terms 30 = .ok (.aload_n 0, 1) := by decide +kernel
theorem dX10_terms_31 : decode cX10_terms 31 = .ok (.iconst (-1), 1) := by decide +kernel
theorem dX10_terms_32 : decode cX10_terms 32 = .ok (.invokevirtual 109, 3) := by decide +kernel
theorem dX10_terms_35 : decode cX10_terms 35 = .ok (.ireturn, 1) := by decide +kernel
theorem dX10_terms_36 : decode cX10_terms 36 = .ok (.aload_n 0, 1) := by decide +kernel
theorem dX10_terms_37 : decode cX10_terms 37 = .ok (.getfield 10, 3) := by decide +kernel
theorem dX10_terms_40 : decode cX10_terms 40 = .ok (.getfield 176, 3) := by decide +kernel
theorem dX10_terms_43 : decode cX10_terms 43 = .ok (.iload_n 1, 1) := by decide +kernel
theorem dX10_terms_44 : decode cX10_terms 44 = .ok (.iaload, 1) := by decide +kernel
theorem dX10_terms_45 : decode cX10_terms 45 = .ok (.istore_n 3, 1) := by decide +kernel
theorem dX10_terms_46 : decode cX10_terms 46 = .ok (.aload_n 0, 1) := by decide +kernel
theorem dX10_terms_47 : decode cX10_terms 47 = .ok (.getfield 10, 3) := by decide +kernel
theorem dX10_terms_50 : decode cX10_terms 50 = .ok (.getfield 176, 3) := by decide +kernel
theorem dX10_terms_53 : decode cX10_terms 53 = .ok (.iload_n 1, 1) := by decide +kernel
theorem dX10_terms_54 : decode cX10_terms 54 = .ok (.iload_n 2, 1) := by decide +kernel
theorem dX10_terms_55 : decode cX10_terms 55 = .ok (.iastore, 1) := by decide +kernel
theorem dX10_terms_56 : decode cX10_terms 56 = .ok (.aload_n 0, 1) := by decide +kernel
theorem dX10_terms_57 : decode cX10_terms 57 = .ok (.iload_n 3, 1) := by decide +kernel
theorem dX10_terms_58 : decode cX10_terms 58 = .ok (.invokevirtual 119, 3) := by decide +kernel
theorem dX10_terms_61 : decode cX10_terms 61 = .ok (.ireturn, 1) := by decide +kernel
theorem zw_191 : (Jvm.Cond.fieldLinkNest "HillSchool" (176 : Nat) "HillSchool$Hill" "terms" "[I" "HillSchool") ∈ znest := zmemH (zmj_1 88 rfl) rfl
theorem zw_616 : (Jvm.Cond.code ({ cls := "HillSchool", name := "terms", desc := "(II)I" } : Jvm.MethodName) prog_1_method_11_code (4 : Nat) (Option.some Jvm.ClassFile.FieldType.int)) ∈ zall := zmemG (zmj_3 33 rfl) rfl
theorem zw_617 : (Jvm.Cond.fieldLink "HillSchool" (167 : Nat) "HillSchool" "FIRST_TERMS" "[I") ∈ zall := zmemG (zmj_3 34 rfl) rfl
theorem zw_618 : (Jvm.Cond.fieldLink "HillSchool" (170 : Nat) "HillSchool" "LEAST_TERMS" "[I") ∈ zall := zmemG (zmj_3 35 rfl) rfl
theorem zw_620 : (Jvm.Cond.fieldLink "HillSchool" (173 : Nat) "HillSchool" "MOST_TERMS" "[I") ∈ zall := zmemG (zmj_3 37 rfl) rfl
abbrev w_HS_terms : List Cond := .code yX10_terms cX10_terms 4 (some .int) :: zall
abbrev rm_HS_terms : Room := { frames := 1, cells := 0, slots := 0, locals := 21 }
theorem hd_HS_terms : yX10_terms.cls = "HillSchool" ∧ yX10_terms.cls ≠ "java/lang/invoke/MethodHandle" ∧ yX10_terms.cls ≠ "java/lang/invoke/VarHandle" ∧ (parseMethodDescriptor yX10_terms.desc).map (fun d => d.parameters.length) = some 2 := by decide +kernel
def wd_HS_terms (cA : Nat → ClassId) (q0 q1 q2 q3 q4 q5 q6 q7 q8 q9 q10 q11 q12 q13 q14 q15 q16 q17 q18 q19 q20 q21 : Nat) (u0 u1 u2 u3 u4 u5 u6 : Int)  (i_latestStatus : Int) (i_hill_changes : Int) (i_refusals : Nat → Int) (i_hill_terms : Nat → Int) : va_W := [(q0, .inr (10, [.ref q1, .ref q2, .ref q3, .ref q4, .int (Int32.ofInt u0), .int (Int32.ofInt u1), .int (Int32.ofInt u2), .ref q5, .int (Int32.ofInt i_latestStatus), .ref q6, .ref q7, .ref q8, .ref q9, .ref q10, .ref q11, .ref q12])), (q1, .inr (2, [.ref q13, .int (Int32.ofInt u3), .ref q14, .ref q15, .ref q16, .int (Int32.ofInt u4), .ref q17, .ref q18, .ref q19, .int (Int32.ofInt u5), .ref q20, .ref q21, .int (Int32.ofInt u6), .int (Int32.ofInt i_hill_changes)])), (q5, .inl (cA 0, 7, .inl (za i_refusals))), (q18, .inl (cA 0, 4, .inl (za i_hill_terms)))]
def wf_HS_terms (cA : Nat → ClassId) (q0 q1 q2 q3 q4 q5 q6 q7 q8 q9 q10 q11 q12 q13 q14 q15 q16 q17 q18 q19 q20 q21 : Nat) (u0 u1 u2 u3 u4 u5 u6 : Int)  (o : Int × Int × Int × (Nat → Int) × (Nat → Int)) : va_W := wd_HS_terms cA q0 q1 q2 q3 q4 q5 q6 q7 q8 q9 q10 q11 q12 q13 q14 q15 q16 q17 q18 q19 q20 q21 u0 u1 u2 u3 u4 u5 u6 o.2.1 o.2.2.1 o.2.2.2.1 o.2.2.2.2
def f_HS_terms_30  (i_latestStatus : Int) (i_hill_changes : Int) (i_refusals : Nat → Int) (i_hill_terms : Nat → Int) : Option (Int × Int × Int × (Nat → Int) × (Nat → Int)) :=
  zd3 (f_HS_refuse (-1) i_latestStatus i_refusals) fun v1 v2 a3 =>
  some (v1, v2, i_hill_changes, a3, i_hill_terms)
def f_HS_terms (x1 : Int) (x2 : Int) (i_latestStatus : Int) (i_hill_changes : Int) (i_refusals : Nat → Int) (i_hill_terms : Nat → Int) : Option (Int × Int × Int × (Nat → Int) × (Nat → Int)) :=
  if zi_w x1 < 0 then
    f_HS_terms_30 i_latestStatus i_hill_changes i_refusals i_hill_terms
  else
    if zi_w 4 ≤ zi_w x1 then
      f_HS_terms_30 i_latestStatus i_hill_changes i_refusals i_hill_terms
    else
      zg 4 (zk 0) x1 fun v1 =>
      if zi_w x2 < zi_w v1 then
        f_HS_terms_30 i_latestStatus i_hill_changes i_refusals i_hill_terms
      else
        zg 4 (zk 1) x1 fun v2 =>
        if zi_w x2 ≤ zi_w v2 then
          zg 4 i_hill_terms x1 fun v3 =>
          zs 4 i_hill_terms x1 x2 fun a4 =>
          zd3 (f_HS_accept v3 i_latestStatus i_hill_changes) fun v5 v6 v7 =>
          some (v5, v6, v7, i_refusals, a4)
        else
          f_HS_terms_30 i_latestStatus i_hill_changes i_refusals i_hill_terms
set_option maxHeartbeats 4000000 in
set_option maxRecDepth 100000 in
theorem c_HS_terms (l : Launch) (ev : zEv) (dC : Nat → ClassId) (dI : Nat → Nat → Nat) (cA : Nat → ClassId) (q0 q1 q2 q3 q4 q5 q6 q7 q8 q9 q10 q11 q12 q13 q14 q15 q16 q17 q18 q19 q20 q21 : Nat) (u0 u1 u2 u3 u4 u5 u6 : Int) {x1 x2 : Int} {i_latestStatus : Int} {i_hill_changes : Int} {i_refusals : Nat → Int} {i_hill_terms : Nat → Int} {out : Int × Int × Int × (Nat → Int) × (Nat → Int)} (hf : f_HS_terms x1 x2 i_latestStatus i_hill_changes i_refusals i_hill_terms = some out) : xc_I l ev (dC, dI) vwCl (tyl cA) yX10_terms w_HS_terms rm_HS_terms [.ref q0, .int (Int32.ofInt x1), .int (Int32.ofInt x2)] (wd_HS_terms cA q0 q1 q2 q3 q4 q5 q6 q7 q8 q9 q10 q11 q12 q13 q14 q15 q16 q17 q18 q19 q20 q21 u0 u1 u2 u3 u4 u5 u6 i_latestStatus i_hill_changes i_refusals i_hill_terms) (wf_HS_terms cA q0 q1 q2 q3 q4 q5 q6 q7 q8 q9 q10 q11 q12 q13 q14 q15 q16 q17 q18 q19 q20 q21 u0 u1 u2 u3 u4 u5 u6 out) out.1 := by
  refine xv_startI (cc := cX10_terms) (maxL := 4) (rt := .int) (by decide +kernel) rfl (Nat.le_of_ble_eq_true rfl) ?_
  intro p e s m args below meth c A Q H ls hx hb hml hts hown hK hA hP hD hS hl hE hret
  have hown : s.vm.findClass "HillSchool" = some m.cls := hown
  have hz : ∀ w ∈ zall, w.before args s = true := fun w h => hts w (List.mem_cons_of_mem _ h)
  have hl : lv_has ls 4 [(0, .ref q0), (1, .int (Int32.ofInt x1)), (2, .int (Int32.ofInt x2))] := hl
  have b_30 : ∀ (i_latestStatus : Int) (i_hill_changes : Int) (i_refusals : Nat → Int) (i_hill_terms : Nat → Int) (H : Heap) (locs : List Loc) (ls : Array Slot), f_HS_terms_30 i_latestStatus i_hill_changes i_refusals i_hill_terms = some out → va_P (dC, dI) vwCl (wd_HS_terms cA q0 q1 q2 q3 q4 q5 q6 q7 q8 q9 q10 q11 q12 q13 q14 q15 q16 q17 q18 q19 q20 q21 u0 u1 u2 u3 u4 u5 u6 i_latestStatus i_hill_changes i_refusals i_hill_terms) H → va_D A (wd_HS_terms cA q0 q1 q2 q3 q4 q5 q6 q7 q8 q9 q10 q11 q12 q13 q14 q15 q16 q17 q18 q19 q20 q21 u0 u1 u2 u3 u4 u5 u6 i_latestStatus i_hill_changes i_refusals i_hill_terms) → va_S A s.heap H locs → lv_has ls 4 [(0, .ref q0)] → W p l e rm_HS_terms s m args below meth c H locs 0 0 Q (F0 m 30 ls []) := by
    intro i_latestStatus i_hill_changes i_refusals i_hill_terms H locs ls hf hP hD hS hl
    unfold f_HS_terms_30 at hf
    refine lv_aload_n hx hb dX10_terms_30 rfl (lv_at hl 0 rfl) ?_
    refine lv_iconst (v := Int32.ofInt (-1)) hx hb dX10_terms_31 rfl ?_
    refine xe_d3 hf (fun v1 v2 a3 hg hf => ?_)
    have hC : ([0, 2] : List Nat).map (fun i => (wd_HS_terms cA q0 q1 q2 q3 q4 q5 q6 q7 q8 q9 q10 q11 q12 q13 q14 q15 q16 q17 q18 q19 q20 q21 u0 u1 u2 u3 u4 u5 u6 i_latestStatus i_hill_changes i_refusals i_hill_terms)[i]?) = (wd_HS_refuse cA q0 q1 q2 q3 q4 q5 q6 q7 q8 q9 q10 q11 q12 u0 u1 u2 i_latestStatus i_refusals).map some := rfl
    refine xv_afterI (ws' := (wd_HS_terms cA q0 q1 q2 q3 q4 q5 q6 q7 q8 q9 q10 q11 q12 q13 q14 q15 q16 q17 q18 q19 q20 q21 u0 u1 u2 u3 u4 u5 u6 v2 i_hill_changes a3 i_hill_terms)) (isC := [0, 2]) (ps := [some 0, none, some 1, none]) (va_runV (As := [.int (Int32.ofInt (-1))]) (rest := []) ⟨hx, hb, hml, hown, hts⟩ (c_HS_refuse l ev dC dI cA q0 q1 q2 q3 q4 q5 q6 q7 q8 q9 q10 q11 q12 u0 u1 u2 hg H.size) (cwV 1 hts (zgV zw_534 zw_536 zw_0 zw_104 zw_537) rfl rfl rfl hd_HS_refuse ⟨Nat.le_of_ble_eq_true rfl, Nat.le_of_ble_eq_true rfl⟩) (xv_preV (T := TX10) (N := 16) hE hA hS hK hP hD (isC := [0, 2]) (by decide +kernel) hC (q0 := 0) (ci := 10) rfl rfl) rfl rfl hl.1 rfl (lv_room (Nat.le_of_ble_eq_true rfl)) dX10_terms_32 ⟨Nat.le_refl _, Nat.le_refl _⟩) hP hD hS hA (by decide +kernel) rfl hC rfl rfl (fun H locs hP hD hS => ?_)
    obtain rfl := Option.some.inj hf
    exact hret _ _ _ _ rfl dX10_terms_35 hP hD hS
  unfold f_HS_terms at hf
  refine lv_iload_n hx hb dX10_terms_0 rfl (lv_at hl 1 rfl) ?_
  refine xi_if_lt (tgt := 30) hx hb dX10_terms_1 (by decide) hf (fun hf => ?_) (fun hf => ?_)
  · exact b_30  _ _ _ _ _ _ _ hf hP hD hS (lv_sub hl [0] rfl)
  · refine lv_iload_n hx hb dX10_terms_4 rfl (lv_at hl 1 rfl) ?_
    refine va_gets (C := "HillSchool") (n := "FIRST_TERMS") (d := "[I") (v := .ref (ev.1 2)) hx hb (hE.2.1 2 (by decide)).1 hS hown (hz _ zw_617) (fun _ h9 => h9) dX10_terms_5 ?_
    refine va_tlen (v := Int32.ofInt 4) hx hb (hE.2.1 2 (by decide)).2.1 hS (by decide +kernel) dX10_terms_8 ?_
    refine xi_icmp_ge (tgt := 30) hx hb dX10_terms_9 (by decide) hf (fun hf => ?_) (fun hf => ?_)
    · exact b_30  _ _ _ _ _ _ _ hf hP hD hS (lv_sub hl [0] rfl)
    · refine lv_iload_n hx hb dX10_terms_12 rfl (lv_at hl 2 rfl) ?_
      refine va_gets (C := "HillSchool") (n := "LEAST_TERMS") (d := "[I") (v := .ref (ev.1 0)) hx hb (hE.2.1 0 (by decide)).1 hS hown (hz _ zw_618) (fun _ h9 => h9) dX10_terms_13 ?_
      refine lv_iload_n hx hb dX10_terms_16 rfl (lv_at hl 1 rfl) ?_
      refine xi_kald hx hb (hE.2.1 0 (by decide)).2.1 hS dX10_terms_17 hf (fun v1 hf => ?_)
      refine xi_icmp_lt (tgt := 30) hx hb dX10_terms_18 (by decide) hf (fun hf => ?_) (fun hf => ?_)
      · exact b_30  _ _ _ _ _ _ _ hf hP hD hS (lv_sub hl [0] rfl)
      · refine lv_iload_n hx hb dX10_terms_21 rfl (lv_at hl 2 rfl) ?_
        refine va_gets (C := "HillSchool") (n := "MOST_TERMS") (d := "[I") (v := .ref (ev.1 1)) hx hb (hE.2.1 1 (by decide)).1 hS hown (hz _ zw_620) (fun _ h9 => h9) dX10_terms_22 ?_
        refine lv_iload_n hx hb dX10_terms_25 rfl (lv_at hl 1 rfl) ?_
        refine xi_kald hx hb (hE.2.1 1 (by decide)).2.1 hS dX10_terms_26 hf (fun v2 hf => ?_)
        refine xi_icmp_le (tgt := 36) hx hb dX10_terms_27 (by decide) hf (fun hf => ?_) (fun hf => ?_)
        · refine lv_aload_n hx hb dX10_terms_36 rfl (lv_at hl 0 rfl) ?_
          refine va_get (D := (dC, dI)) (ci := 10) (v := .ref q1) (C := RX10) (T := TX10) (N := 16) hx hb hz zi_X10 hown hK hP 0 rfl rfl 0 (by decide) (hz _ zw_477) (fun _ h9 => h9) rfl dX10_terms_37 ?_
          refine va_getN (D := (dC, dI)) (ci := 2) (v := .ref q18) (C := RX2) (T := TX2) (N := 14) hx hb hz zi_X2 hown hK hP 1 rfl rfl 7 (by decide) (va_Nw.use rfl (hE.1.1 _ zw_191)) (fun _ h9 => h9) rfl dX10_terms_40 ?_
          refine lv_iload_n hx hb dX10_terms_43 rfl (lv_at hl 1 rfl) ?_
          refine xi_iald hx hb hK hP 3 0 rfl rfl dX10_terms_44 hf (fun v3 hf => ?_)
          refine lv_istore_n (lv' := [(3, .int (Int32.ofInt v3)), (0, .ref q0), (1, .int (Int32.ofInt x1)), (2, .int (Int32.ofInt x2))]) hx hb dX10_terms_45 rfl hl (by decide) rfl (fun ls hl => ?_)
          refine lv_aload_n hx hb dX10_terms_46 rfl (lv_at hl 1 rfl) ?_
          refine va_get (D := (dC, dI)) (ci := 10) (v := .ref q1) (C := RX10) (T := TX10) (N := 16) hx hb hz zi_X10 hown hK hP 0 rfl rfl 0 (by decide) (hz _ zw_477) (fun _ h9 => h9) rfl dX10_terms_47 ?_
          refine va_getN (D := (dC, dI)) (ci := 2) (v := .ref q18) (C := RX2) (T := TX2) (N := 14) hx hb hz zi_X2 hown hK hP 1 rfl rfl 7 (by decide) (va_Nw.use rfl (hE.1.1 _ zw_191)) (fun _ h9 => h9) rfl dX10_terms_50 ?_
          refine lv_iload_n hx hb dX10_terms_53 rfl (lv_at hl 2 rfl) ?_
          refine lv_iload_n hx hb dX10_terms_54 rfl (lv_at hl 3 rfl) ?_
          refine xi_iast hx hb hK hP hD hS 3 0 rfl rfl dX10_terms_55 hf (fun a4 H locs hP hD hS hf => ?_)
          have hP : va_P (dC, dI) vwCl (wd_HS_terms cA q0 q1 q2 q3 q4 q5 q6 q7 q8 q9 q10 q11 q12 q13 q14 q15 q16 q17 q18 q19 q20 q21 u0 u1 u2 u3 u4 u5 u6 i_latestStatus i_hill_changes i_refusals a4) H := hP
          have hD : va_D A (wd_HS_terms cA q0 q1 q2 q3 q4 q5 q6 q7 q8 q9 q10 q11 q12 q13 q14 q15 q16 q17 q18 q19 q20 q21 u0 u1 u2 u3 u4 u5 u6 i_latestStatus i_hill_changes i_refusals a4) := hD
          refine lv_aload_n hx hb dX10_terms_56 rfl (lv_at hl 1 rfl) ?_
          refine lv_iload_n hx hb dX10_terms_57 rfl (lv_at hl 0 rfl) ?_
          refine xe_d3 hf (fun v5 v6 v7 hg hf => ?_)
          have hC : ([0, 1] : List Nat).map (fun i => (wd_HS_terms cA q0 q1 q2 q3 q4 q5 q6 q7 q8 q9 q10 q11 q12 q13 q14 q15 q16 q17 q18 q19 q20 q21 u0 u1 u2 u3 u4 u5 u6 i_latestStatus i_hill_changes i_refusals a4)[i]?) = (wd_HS_accept cA q0 q1 q2 q3 q4 q5 q6 q7 q8 q9 q10 q11 q12 q13 q14 q15 q16 q17 q18 q19 q20 q21 u0 u1 u2 u3 u4 u5 u6 i_latestStatus i_hill_changes).map some := rfl
          refine xv_afterI (ws' := (wd_HS_terms cA q0 q1 q2 q3 q4 q5 q6 q7 q8 q9 q10 q11 q12 q13 q14 q15 q16 q17 q18 q19 q20 q21 u0 u1 u2 u3 u4 u5 u6 v6 v7 i_refusals a4)) (isC := [0, 1]) (ps := [some 0, some 1, none, none]) (va_runV (As := [.int (Int32.ofInt v3)]) (rest := []) ⟨hx, hb, hml, hown, hts⟩ (c_HS_accept l ev dC dI cA q0 q1 q2 q3 q4 q5 q6 q7 q8 q9 q10 q11 q12 q13 q14 q15 q16 q17 q18 q19 q20 q21 u0 u1 u2 u3 u4 u5 u6 hg H.size) (cwV 1 hts (zgV zw_538 zw_540 zw_1 zw_104 zw_541) rfl rfl rfl hd_HS_accept ⟨Nat.le_of_ble_eq_true rfl, Nat.le_of_ble_eq_true rfl⟩) (xv_preV (T := TX10) (N := 16) hE hA hS hK hP hD (isC := [0, 1]) (by decide +kernel) hC (q0 := 0) (ci := 10) rfl rfl) rfl rfl hl.1 rfl (lv_room (Nat.le_of_ble_eq_true rfl)) dX10_terms_58 ⟨Nat.le_refl _, Nat.le_refl _⟩) hP hD hS hA (by decide +kernel) rfl hC rfl rfl (fun H locs hP hD hS => ?_)
          obtain rfl := Option.some.inj hf
          exact hret _ _ _ _ rfl dX10_terms_61 hP hD hS
        · exact b_30  _ _ _ _ _ _ _ hf hP hD hS (lv_sub hl [0] rfl)
theorem dX10_feedFour_0 : decode cX10_feedFour 0 = .ok (.bipush 24, 2) := by decide +kernel
theorem dX10_feedFour_2 : decode cX10_feedFour 2 = .ok (.istore_n 2, 1) := by decide +kernel
theorem dX10_feedFour_3 : decode cX10_feedFour 3 = .ok (.iload_n 2, 1) := by decide +kernel
theorem dX10_feedFour_4 : decode cX10_feedFour 4 = .ok (.ifCond .lt 45, 3) := by decide +kernel
theorem dX10_feedFour_7 : decode cX10_feedFour 7 = .ok (.aload_n 0, 1) := by decide +kernel
theorem dX10_feedFour_8 : decode cX10_feedFour 8 = .ok (.getfield 28, 3) := by decide +kernel
theorem dX10_feedFour_11 : decode cX10_feedFour 11 = .ok (.sipush 400, 3) := by decide +kernel
theorem dX10_feedFour_14 : decode cX10_feedFour 14 = .ok (.if_icmp .ge 35, 3) := by decide +kernel
theorem dX10_feedFour_17 : decode cX10_feedFour 17 = .ok (.aload_n 0, 1) := by decide +kernel
theorem dX10_feedFour_18 : decode cX10_feedFour 18 = .ok (.getfield 24, 3) := by decide +kernel
theorem dX10_feedFour_21 : decode cX10_feedFour 21 = .ok (.aload_n 0, 1) := by decide +kernel
theorem dX10_feedFour_22 : decode cX10_feedFour 22 = .ok (.getfield 28, 3) := by decide +kernel
theorem dX10_feedFour_25 : decode cX10_feedFour 25 = .ok (.iload_n 1, 1) := by decide +kernel
theorem dX10_feedFour_26 : decode cX10_feedFour 26 = .ok (.iload_n 2, 1) := by decide +kernel
theorem dX10_feedFour_27 : decode cX10_feedFour 27 = .ok (.iushr, 1) := by decide +kernel
theorem dX10_feedFour_28 : decode cX10_feedFour 28 = .ok (.sipush 255, 3) := by decide +kernel
theorem dX10_feedFour_31 : decode cX10_feedFour 31 = .ok (.iand, 1) := by decide +kernel
theorem dX10_feedFour_32 : decode cX10_feedFour 32 = .ok (.iastore, 1) := by decide +kernel
theorem dX10_feedFour_33 : decode cX10_feedFour 33 = .ok (.aload_n 0, 1) := by decide +kernel
theorem dX10_feedFour_34 : decode cX10_feedFour 34 = .ok (.dup, 1) := by decide +kernel
theorem dX10_feedFour_35 : decode cX10_feedFour 35 = .ok (.getfield 28, 3) := by decide +kernel
theorem dX10_feedFour_38 : decode cX10_feedFour 38 = .ok (.iconst 1, 1) := by decide +kernel
theorem dX10_feedFour_39 : decode cX10_feedFour 39 = .ok (.iadd, 1) := by decide +kernel
theorem dX10_feedFour_40 : decode cX10_feedFour 40 = .ok (.putfield 28, 3) := by decide +kernel
theorem dX10_feedFour_43 : decode cX10_feedFour 43 = .ok (.iinc 2 (-8), 3) := by decide +kernel
theorem dX10_feedFour_46 : decode cX10_feedFour 46 = .ok (.goto (-43), 3) := by decide +kernel
theorem dX10_feedFour_49 : decode cX10_feedFour 49 = .ok (.return_, 1) := by decide +kernel
theorem zw_480 : (Jvm.Cond.fieldLink "HillSchool" (24 : Nat) "HillSchool" "tape" "[I") ∈ zall := zmemG (zmj_2 137 rfl) rfl
theorem zw_481 : (Jvm.Cond.fieldLink "HillSchool" (28 : Nat) "HillSchool" "taped" "I") ∈ zall := zmemG (zmj_2 138 rfl) rfl
theorem zw_629 : (Jvm.Cond.code ({ cls := "HillSchool", name := "feedFour", desc := "(I)V" } : Jvm.MethodName) prog_1_method_42_code (3 : Nat) (Option.none : Option Jvm.ClassFile.FieldType)) ∈ zall := zmemG (zmj_3 46 rfl) rfl
abbrev w_HS_feedFour : List Cond := .code yX10_feedFour cX10_feedFour 3 none :: zall
abbrev rm_HS_feedFour : Room := { frames := 0, cells := 0, slots := 0, locals := 0 }
theorem hd_HS_feedFour : yX10_feedFour.cls = "HillSchool" ∧ yX10_feedFour.cls ≠ "java/lang/invoke/MethodHandle" ∧ yX10_feedFour.cls ≠ "java/lang/invoke/VarHandle" ∧ (parseMethodDescriptor yX10_feedFour.desc).map (fun d => d.parameters.length) = some 1 := by decide +kernel
def wd_HS_feedFour (cA : Nat → ClassId) (q0 q1 q2 q3 q4 q5 q6 q7 q8 q9 q10 q11 q12 : Nat) (u0 u1 u2 : Int)  (i_taped : Int) (i_tape : Nat → Int) : va_W := [(q0, .inr (10, [.ref q1, .ref q2, .ref q3, .ref q4, .int (Int32.ofInt i_taped), .int (Int32.ofInt u0), .int (Int32.ofInt u1), .ref q5, .int (Int32.ofInt u2), .ref q6, .ref q7, .ref q8, .ref q9, .ref q10, .ref q11, .ref q12])), (q4, .inl (cA 0, 400, .inl (za i_tape)))]
def wf_HS_feedFour (cA : Nat → ClassId) (q0 q1 q2 q3 q4 q5 q6 q7 q8 q9 q10 q11 q12 : Nat) (u0 u1 u2 : Int)  (o : Int × (Nat → Int)) : va_W := wd_HS_feedFour cA q0 q1 q2 q3 q4 q5 q6 q7 q8 q9 q10 q11 q12 u0 u1 u2 o.1 o.2
def f_HS_feedFour_3_b  (k3 : Int → Int → Int → (Nat → Int) → Option (Int × (Nat → Int))) (x1 : Int) (x2 : Int) (i_taped : Int) (i_tape : Nat → Int) : Option (Int × (Nat → Int)) :=
  if zi_w x2 < 0 then
    some (i_taped, i_tape)
  else
    if zi_w 400 ≤ zi_w i_taped then
      some (i_taped, i_tape)
    else
      zn (zi_ushr x1 x2) fun v1 =>
      zn (zi_and v1 255) fun v2 =>
      zs 400 i_tape i_taped v2 fun a3 =>
      zn (i_taped + 1) fun v4 =>
      zn (x2 + (-8)) fun v5 =>
      k3 x1 v5 v4 a3
def f_HS_feedFour_3  : Nat → Int → Int → Int → (Nat → Int) → Option (Int × (Nat → Int))
  | 0 => fun _ _ _ _ => none
  | n + 1 => fun y0 y1 y2 y3 => f_HS_feedFour_3_b  (f_HS_feedFour_3  n) y0 y1 y2 y3
def f_HS_feedFour (x1 : Int) (i_taped : Int) (i_tape : Nat → Int) : Option (Int × (Nat → Int)) :=
  f_HS_feedFour_3 zfu x1 24 i_taped i_tape
set_option maxHeartbeats 4000000 in
set_option maxRecDepth 100000 in
theorem c_HS_feedFour (l : Launch) (ev : zEv) (dC : Nat → ClassId) (dI : Nat → Nat → Nat) (cA : Nat → ClassId) (q0 q1 q2 q3 q4 q5 q6 q7 q8 q9 q10 q11 q12 : Nat) (u0 u1 u2 : Int) {x1 : Int} {i_taped : Int} {i_tape : Nat → Int} {out : Int × (Nat → Int)} (hf : f_HS_feedFour x1 i_taped i_tape = some out) : xc_V l ev (dC, dI) vwCl (tyl cA) yX10_feedFour w_HS_feedFour rm_HS_feedFour [.ref q0, .int (Int32.ofInt x1)] (wd_HS_feedFour cA q0 q1 q2 q3 q4 q5 q6 q7 q8 q9 q10 q11 q12 u0 u1 u2 i_taped i_tape) (wf_HS_feedFour cA q0 q1 q2 q3 q4 q5 q6 q7 q8 q9 q10 q11 q12 u0 u1 u2 out) := by
  refine xv_startV (cc := cX10_feedFour) (maxL := 3) (by decide +kernel) rfl (Nat.le_of_ble_eq_true rfl) ?_
  intro p e s m args below meth c A Q H ls hx hb hml hts hown hK hA hP hD hS hl hE hret
  have hown : s.vm.findClass "HillSchool" = some m.cls := hown
  have hz : ∀ w ∈ zall, w.before args s = true := fun w h => hts w (List.mem_cons_of_mem _ h)
  have hl : lv_has ls 3 [(0, .ref q0), (1, .int (Int32.ofInt x1))] := hl
  have b_3 : ∀ (k3 : Int → Int → Int → (Nat → Int) → Option (Int × (Nat → Int))) (_ : ∀ (x1 : Int) (x2 : Int) (i_taped : Int) (i_tape : Nat → Int) (H : Heap) (locs : List Loc) (ls : Array Slot), k3 x1 x2 i_taped i_tape = some out → va_P (dC, dI) vwCl (wd_HS_feedFour cA q0 q1 q2 q3 q4 q5 q6 q7 q8 q9 q10 q11 q12 u0 u1 u2 i_taped i_tape) H → va_D A (wd_HS_feedFour cA q0 q1 q2 q3 q4 q5 q6 q7 q8 q9 q10 q11 q12 u0 u1 u2 i_taped i_tape) → va_S A s.heap H locs → lv_has ls 3 [(0, .ref q0), (1, .int (Int32.ofInt x1)), (2, .int (Int32.ofInt x2))] → W p l e rm_HS_feedFour s m args below meth c H locs 0 0 Q (F0 m 3 ls [])), ∀ (x1 : Int) (x2 : Int) (i_taped : Int) (i_tape : Nat → Int) (H : Heap) (locs : List Loc) (ls : Array Slot), f_HS_feedFour_3_b k3 x1 x2 i_taped i_tape = some out → va_P (dC, dI) vwCl (wd_HS_feedFour cA q0 q1 q2 q3 q4 q5 q6 q7 q8 q9 q10 q11 q12 u0 u1 u2 i_taped i_tape) H → va_D A (wd_HS_feedFour cA q0 q1 q2 q3 q4 q5 q6 q7 q8 q9 q10 q11 q12 u0 u1 u2 i_taped i_tape) → va_S A s.heap H locs → lv_has ls 3 [(0, .ref q0), (1, .int (Int32.ofInt x1)), (2, .int (Int32.ofInt x2))] → W p l e rm_HS_feedFour s m args below meth c H locs 0 0 Q (F0 m 3 ls []) := by
    intro k3 ih3 x1 x2 i_taped i_tape H locs ls hf hP hD hS hl
    unfold f_HS_feedFour_3_b at hf
    refine lv_iload_n hx hb dX10_feedFour_3 rfl (lv_at hl 2 rfl) ?_
    refine xi_if_lt (tgt := 49) hx hb dX10_feedFour_4 (by decide) hf (fun hf => ?_) (fun hf => ?_)
    · obtain rfl := Option.some.inj hf
      exact hret _ _ _ _ dX10_feedFour_49 hP hD hS
    · refine lv_aload_n hx hb dX10_feedFour_7 rfl (lv_at hl 0 rfl) ?_
      refine va_get (D := (dC, dI)) (ci := 10) (v := .int (Int32.ofInt i_taped)) (C := RX10) (T := TX10) (N := 16) hx hb hz zi_X10 hown hK hP 0 rfl rfl 4 (by decide) (hz _ zw_481) (fun _ h9 => h9) rfl dX10_feedFour_8 ?_
      refine lv_sipush (v := Int32.ofInt 400) hx hb dX10_feedFour_11 (by decide) ?_
      refine xi_icmp_ge (tgt := 49) hx hb dX10_feedFour_14 (by decide) hf (fun hf => ?_) (fun hf => ?_)
      · obtain rfl := Option.some.inj hf
        exact hret _ _ _ _ dX10_feedFour_49 hP hD hS
      · refine lv_aload_n hx hb dX10_feedFour_17 rfl (lv_at hl 0 rfl) ?_
        refine va_get (D := (dC, dI)) (ci := 10) (v := .ref q4) (C := RX10) (T := TX10) (N := 16) hx hb hz zi_X10 hown hK hP 0 rfl rfl 3 (by decide) (hz _ zw_480) (fun _ h9 => h9) rfl dX10_feedFour_18 ?_
        refine lv_aload_n hx hb dX10_feedFour_21 rfl (lv_at hl 0 rfl) ?_
        refine va_get (D := (dC, dI)) (ci := 10) (v := .int (Int32.ofInt i_taped)) (C := RX10) (T := TX10) (N := 16) hx hb hz zi_X10 hown hK hP 0 rfl rfl 4 (by decide) (hz _ zw_481) (fun _ h9 => h9) rfl dX10_feedFour_22 ?_
        refine lv_iload_n hx hb dX10_feedFour_25 rfl (lv_at hl 1 rfl) ?_
        refine lv_iload_n hx hb dX10_feedFour_26 rfl (lv_at hl 2 rfl) ?_
        refine xi_iushr hx hb dX10_feedFour_27 hf (fun v1 hf => ?_)
        refine lv_sipush (v := Int32.ofInt 255) hx hb dX10_feedFour_28 (by decide) ?_
        refine xi_iand hx hb dX10_feedFour_31 hf (fun v2 hf => ?_)
        refine xi_iast hx hb hK hP hD hS 1 0 rfl rfl dX10_feedFour_32 hf (fun a3 H locs hP hD hS hf => ?_)
        have hP : va_P (dC, dI) vwCl (wd_HS_feedFour cA q0 q1 q2 q3 q4 q5 q6 q7 q8 q9 q10 q11 q12 u0 u1 u2 i_taped a3) H := hP
        have hD : va_D A (wd_HS_feedFour cA q0 q1 q2 q3 q4 q5 q6 q7 q8 q9 q10 q11 q12 u0 u1 u2 i_taped a3) := hD
        refine lv_aload_n hx hb dX10_feedFour_33 rfl (lv_at hl 0 rfl) ?_
        refine lv_dup hx hb dX10_feedFour_34 rfl ?_
        refine va_get (D := (dC, dI)) (ci := 10) (v := .int (Int32.ofInt i_taped)) (C := RX10) (T := TX10) (N := 16) hx hb hz zi_X10 hown hK hP 0 rfl rfl 4 (by decide) (hz _ zw_481) (fun _ h9 => h9) rfl dX10_feedFour_35 ?_
        refine lv_iconst (v := Int32.ofInt 1) hx hb dX10_feedFour_38 rfl ?_
        refine xi_iadd hx hb dX10_feedFour_39 hf (fun v4 hf => ?_)
        refine va_put (D := (dC, dI)) (ci := 10) (v := .int (Int32.ofInt v4)) (ty := .int) (C := RX10) (T := TX10) (N := 16) hx hb hz zi_X10 tyX10 tyX10_ok nmX10 hown hK hP hD hS 0 rfl rfl 4 (by decide) (hz _ zw_481) (fun _ h9 => h9) rfl (by decide +kernel) rfl rfl (Nat.le_of_ble_eq_true rfl) dX10_feedFour_40 (fun H locs hP hD hS => ?_)
        have hP : va_P (dC, dI) vwCl (wd_HS_feedFour cA q0 q1 q2 q3 q4 q5 q6 q7 q8 q9 q10 q11 q12 u0 u1 u2 v4 a3) H := hP
        have hD : va_D A (wd_HS_feedFour cA q0 q1 q2 q3 q4 q5 q6 q7 q8 q9 q10 q11 q12 u0 u1 u2 v4 a3) := hD
        refine xi_iinc hx hb dX10_feedFour_43 hl (k := 2) rfl (by decide) hf (fun v5 ls hl hf => ?_)
        have hl : lv_has ls 3 [(2, .int (Int32.ofInt v5)), (0, .ref q0), (1, .int (Int32.ofInt x1))] := hl
        refine lv_goto (tgt := 3) hx hb dX10_feedFour_46 (by decide) ?_
        exact ih3 _ _ _ _ _ _ _ hf hP hD hS (lv_sub hl [1, 2, 0] rfl)
  have l_3 : ∀ (n : Nat), ∀ (x1 : Int) (x2 : Int) (i_taped : Int) (i_tape : Nat → Int) (H : Heap) (locs : List Loc) (ls : Array Slot), f_HS_feedFour_3 n x1 x2 i_taped i_tape = some out → va_P (dC, dI) vwCl (wd_HS_feedFour cA q0 q1 q2 q3 q4 q5 q6 q7 q8 q9 q10 q11 q12 u0 u1 u2 i_taped i_tape) H → va_D A (wd_HS_feedFour cA q0 q1 q2 q3 q4 q5 q6 q7 q8 q9 q10 q11 q12 u0 u1 u2 i_taped i_tape) → va_S A s.heap H locs → lv_has ls 3 [(0, .ref q0), (1, .int (Int32.ofInt x1)), (2, .int (Int32.ofInt x2))] → W p l e rm_HS_feedFour s m args below meth c H locs 0 0 Q (F0 m 3 ls []) := by
    intro n
    induction n with
    | zero => intro x1 x2 i_taped i_tape H locs ls hf hP hD hS hl; exact nomatch hf
    | succ n ih => intro x1 x2 i_taped i_tape H locs ls hf hP hD hS hl; exact b_3 (f_HS_feedFour_3 n) ih x1 x2 i_taped i_tape H locs ls hf hP hD hS hl
  unfold f_HS_feedFour at hf
  refine lv_bipush (v := Int32.ofInt 24) hx hb dX10_feedFour_0 (by decide) ?_
  refine lv_istore_n (lv' := [(2, .int (Int32.ofInt 24)), (0, .ref q0), (1, .int (Int32.ofInt x1))]) hx hb dX10_feedFour_2 rfl hl (by decide) rfl (fun ls hl => ?_)
  exact l_3  _ _ _ _ _ _ _ _ hf hP hD hS (lv_sub hl [1, 2, 0] rfl)
theorem dX10_feed_0 : decode cX10_feed 0 = .ok (.aload_n 0, 1) := by decide +kernel
theorem dX10_feed_1 : decode cX10_feed 1 = .ok (.getfield 28, 3) := by decide +kernel
theorem dX10_feed_4 : decode cX10_feed 4 = .ok (.bipush 20, 2) := by decide +kernel
theorem dX10_feed_6 : decode cX10_feed 6 = .ok (.iadd, 1) := by decide +kernel
theorem dX10_feed_7 : decode cX10_feed 7 = .ok (.sipush 400, 3) := by decide +kernel
theorem dX10_feed_10 : decode cX10_feed 10 = .ok (.if_icmp .le 5, 3) := by decide +kernel
theorem dX10_feed_13 : decode cX10_feed 13 = .ok (.iconst (-1), 1) := by decide +kernel
theorem dX10_feed_14 : decode cX10_feed 14 = .ok (.ireturn, 1) := by decide +kernel
theorem dX10_feed_15 : decode cX10_feed 15 = .ok (.aload_n 0, 1) := by decide +kernel
theorem dX10_feed_16 : decode cX10_feed 16 = .ok (.iload_n 1, 1) := by decide +kernel
theorem dX10_feed_17 : decode cX10_feed 17 = .ok (.invokevirtual 179, 3) := by decide +kernel
theorem dX10_feed_20 : decode cX10_feed 20 = .ok (.aload_n 0, 1) := by decide +kernel
theorem dX10_feed_21 : decode cX10_feed 21 = .ok (.iload_n 2, 1) := by decide +kernel
theorem dX10_feed_22 : decode cX10_feed 22 = .ok (.invokevirtual 179, 3) := by decide +kernel
theorem dX10_feed_25 : decode cX10_feed 25 = .ok (.aload_n 0, 1) := by decide +kernel
theorem dX10_feed_26 : decode cX10_feed 26 = .ok (.iload_n 3, 1) := by decide +kernel
theorem dX10_feed_27 : decode cX10_feed 27 = .ok (.invokevirtual 179, 3) := by decide +kernel
theorem dX10_feed_30 : decode cX10_feed 30 = .ok (.aload_n 0, 1) := by decide +kernel
theorem dX10_feed_31 : decode cX10_feed 31 = .ok (.iload 4, 2) := by decide +kernel
theorem dX10_feed_33 : decode cX10_feed 33 = .ok (.invokevirtual 179, 3) := by decide +kernel
theorem dX10_feed_36 : decode cX10_feed 36 = .ok (.aload_n 0, 1) := by decide +kernel
theorem dX10_feed_37 : decode cX10_feed 37 = .ok (.iload 5, 2) := by decide +kernel
theorem dX10_feed_39 : decode cX10_feed 39 = .ok (.invokevirtual 179, 3) := by decide +kernel
theorem dX10_feed_42 : decode cX10_feed 42 = .ok (.aload_n 0, 1) := by decide +kernel
theorem dX10_feed_43 : decode cX10_feed 43 = .ok (.getfield 28, 3) := by decide +kernel
theorem dX10_feed_46 : decode cX10_feed 46 = .ok (.ireturn, 1) := by decide +kernel
theorem zw_2 : (Jvm.Cond.selects "HillSchool" ({ cls := "HillSchool", name := "feedFour", desc := "(I)V" } : Jvm.MethodName) ({ cls := "HillSchool", name := "feedFour", desc := "(I)V" } : Jvm.MethodName)) ∈ zall := zmemG (zmj_0 2 rfl) rfl
theorem zw_625 : (Jvm.Cond.code ({ cls := "HillSchool", name := "feed", desc := "(IIIII)I" } : Jvm.MethodName) prog_1_method_12_code (6 : Nat) (Option.some Jvm.ClassFile.FieldType.int)) ∈ zall := zmemG (zmj_3 42 rfl) rfl
theorem zw_626 : (Jvm.Cond.methodLink "HillSchool" (179 : Nat) ({ cls := "HillSchool", name := "feedFour", desc := "(I)V" } : Jvm.MethodName)) ∈ zall := zmemG (zmj_3 43 rfl) rfl
theorem zw_628 : (Jvm.Cond.instanceMethod ({ cls := "HillSchool", name := "feedFour", desc := "(I)V" } : Jvm.MethodName)) ∈ zall := zmemG (zmj_3 45 rfl) rfl
abbrev w_HS_feed : List Cond := .code yX10_feed cX10_feed 6 (some .int) :: zall
abbrev rm_HS_feed : Room := { frames := 1, cells := 0, slots := 0, locals := 22 }
theorem hd_HS_feed : yX10_feed.cls = "HillSchool" ∧ yX10_feed.cls ≠ "java/lang/invoke/MethodHandle" ∧ yX10_feed.cls ≠ "java/lang/invoke/VarHandle" ∧ (parseMethodDescriptor yX10_feed.desc).map (fun d => d.parameters.length) = some 5 := by decide +kernel
def wd_HS_feed (cA : Nat → ClassId) (q0 q1 q2 q3 q4 q5 q6 q7 q8 q9 q10 q11 q12 : Nat) (u0 u1 u2 : Int)  (i_taped : Int) (i_tape : Nat → Int) : va_W := [(q0, .inr (10, [.ref q1, .ref q2, .ref q3, .ref q4, .int (Int32.ofInt i_taped), .int (Int32.ofInt u0), .int (Int32.ofInt u1), .ref q5, .int (Int32.ofInt u2), .ref q6, .ref q7, .ref q8, .ref q9, .ref q10, .ref q11, .ref q12])), (q4, .inl (cA 0, 400, .inl (za i_tape)))]
def wf_HS_feed (cA : Nat → ClassId) (q0 q1 q2 q3 q4 q5 q6 q7 q8 q9 q10 q11 q12 : Nat) (u0 u1 u2 : Int)  (o : Int × Int × (Nat → Int)) : va_W := wd_HS_feed cA q0 q1 q2 q3 q4 q5 q6 q7 q8 q9 q10 q11 q12 u0 u1 u2 o.2.1 o.2.2
def f_HS_feed (x1 : Int) (x2 : Int) (x3 : Int) (x4 : Int) (x5 : Int) (i_taped : Int) (i_tape : Nat → Int) : Option (Int × Int × (Nat → Int)) :=
  zn (i_taped + 20) fun v1 =>
  if zi_w v1 ≤ zi_w 400 then
    zd2 (f_HS_feedFour x1 i_taped i_tape) fun v2 a3 =>
    zd2 (f_HS_feedFour x2 v2 a3) fun v4 a5 =>
    zd2 (f_HS_feedFour x3 v4 a5) fun v6 a7 =>
    zd2 (f_HS_feedFour x4 v6 a7) fun v8 a9 =>
    zd2 (f_HS_feedFour x5 v8 a9) fun v10 a11 =>
    some (v10, v10, a11)
  else
    some ((-1), i_taped, i_tape)
set_option maxHeartbeats 4000000 in
set_option maxRecDepth 100000 in
theorem c_HS_feed (l : Launch) (ev : zEv) (dC : Nat → ClassId) (dI : Nat → Nat → Nat) (cA : Nat → ClassId) (q0 q1 q2 q3 q4 q5 q6 q7 q8 q9 q10 q11 q12 : Nat) (u0 u1 u2 : Int) {x1 x2 x3 x4 x5 : Int} {i_taped : Int} {i_tape : Nat → Int} {out : Int × Int × (Nat → Int)} (hf : f_HS_feed x1 x2 x3 x4 x5 i_taped i_tape = some out) : xc_I l ev (dC, dI) vwCl (tyl cA) yX10_feed w_HS_feed rm_HS_feed [.ref q0, .int (Int32.ofInt x1), .int (Int32.ofInt x2), .int (Int32.ofInt x3), .int (Int32.ofInt x4), .int (Int32.ofInt x5)] (wd_HS_feed cA q0 q1 q2 q3 q4 q5 q6 q7 q8 q9 q10 q11 q12 u0 u1 u2 i_taped i_tape) (wf_HS_feed cA q0 q1 q2 q3 q4 q5 q6 q7 q8 q9 q10 q11 q12 u0 u1 u2 out) out.1 := by
  refine xv_startI (cc := cX10_feed) (maxL := 6) (rt := .int) (by decide +kernel) rfl (Nat.le_of_ble_eq_true rfl) ?_
  intro p e s m args below meth c A Q H ls hx hb hml hts hown hK hA hP hD hS hl hE hret
  have hown : s.vm.findClass "HillSchool" = some m.cls := hown
  have hz : ∀ w ∈ zall, w.before args s = true := fun w h => hts w (List.mem_cons_of_mem _ h)
  have hl : lv_has ls 6 [(0, .ref q0), (1, .int (Int32.ofInt x1)), (2, .int (Int32.ofInt x2)), (3, .int (Int32.ofInt x3)), (4, .int (Int32.ofInt x4)), (5, .int (Int32.ofInt x5))] := hl
  unfold f_HS_feed at hf
  refine lv_aload_n hx hb dX10_feed_0 rfl (lv_at hl 0 rfl) ?_
  refine va_get (D := (dC, dI)) (ci := 10) (v := .int (Int32.ofInt i_taped)) (C := RX10) (T := TX10) (N := 16) hx hb hz zi_X10 hown hK hP 0 rfl rfl 4 (by decide) (hz _ zw_481) (fun _ h9 => h9) rfl dX10_feed_1 ?_
  refine lv_bipush (v := Int32.ofInt 20) hx hb dX10_feed_4 (by decide) ?_
  refine xi_iadd hx hb dX10_feed_6 hf (fun v1 hf => ?_)
  refine lv_sipush (v := Int32.ofInt 400) hx hb dX10_feed_7 (by decide) ?_
  refine xi_icmp_le (tgt := 15) hx hb dX10_feed_10 (by decide) hf (fun hf => ?_) (fun hf => ?_)
  · refine lv_aload_n hx hb dX10_feed_15 rfl (lv_at hl 0 rfl) ?_
    refine lv_iload_n hx hb dX10_feed_16 rfl (lv_at hl 1 rfl) ?_
    refine xe_d2 hf (fun v2 a3 hg hf => ?_)
    have hC : ([0, 1] : List Nat).map (fun i => (wd_HS_feed cA q0 q1 q2 q3 q4 q5 q6 q7 q8 q9 q10 q11 q12 u0 u1 u2 i_taped i_tape)[i]?) = (wd_HS_feedFour cA q0 q1 q2 q3 q4 q5 q6 q7 q8 q9 q10 q11 q12 u0 u1 u2 i_taped i_tape).map some := rfl
    refine xv_afterV (ws' := (wd_HS_feed cA q0 q1 q2 q3 q4 q5 q6 q7 q8 q9 q10 q11 q12 u0 u1 u2 v2 a3)) (isC := [0, 1]) (ps := [some 0, some 1]) (va_runV (As := [.int (Int32.ofInt x1)]) (rest := []) ⟨hx, hb, hml, hown, hts⟩ (c_HS_feedFour l ev dC dI cA q0 q1 q2 q3 q4 q5 q6 q7 q8 q9 q10 q11 q12 u0 u1 u2 hg H.size) (cwV 1 hts (zgV zw_626 zw_628 zw_2 zw_104 zw_629) rfl rfl rfl hd_HS_feedFour ⟨Nat.le_of_ble_eq_true rfl, Nat.le_of_ble_eq_true rfl⟩) (xv_preV (T := TX10) (N := 16) hE hA hS hK hP hD (isC := [0, 1]) (by decide +kernel) hC (q0 := 0) (ci := 10) rfl rfl) rfl rfl hl.1 rfl (lv_room (Nat.le_of_ble_eq_true rfl)) dX10_feed_17 ⟨Nat.le_refl _, Nat.le_refl _⟩) hP hD hS hA (by decide +kernel) rfl hC rfl rfl (fun H locs hP hD hS => ?_)
    refine lv_aload_n hx hb dX10_feed_20 rfl (lv_at hl 0 rfl) ?_
    refine lv_iload_n hx hb dX10_feed_21 rfl (lv_at hl 2 rfl) ?_
    refine xe_d2 hf (fun v4 a5 hg hf => ?_)
    have hC : ([0, 1] : List Nat).map (fun i => (wd_HS_feed cA q0 q1 q2 q3 q4 q5 q6 q7 q8 q9 q10 q11 q12 u0 u1 u2 v2 a3)[i]?) = (wd_HS_feedFour cA q0 q1 q2 q3 q4 q5 q6 q7 q8 q9 q10 q11 q12 u0 u1 u2 v2 a3).map some := rfl
    refine xv_afterV (ws' := (wd_HS_feed cA q0 q1 q2 q3 q4 q5 q6 q7 q8 q9 q10 q11 q12 u0 u1 u2 v4 a5)) (isC := [0, 1]) (ps := [some 0, some 1]) (va_runV (As := [.int (Int32.ofInt x2)]) (rest := []) ⟨hx, hb, hml, hown, hts⟩ (c_HS_feedFour l ev dC dI cA q0 q1 q2 q3 q4 q5 q6 q7 q8 q9 q10 q11 q12 u0 u1 u2 hg H.size) (cwV 1 hts (zgV zw_626 zw_628 zw_2 zw_104 zw_629) rfl rfl rfl hd_HS_feedFour ⟨Nat.le_of_ble_eq_true rfl, Nat.le_of_ble_eq_true rfl⟩) (xv_preV (T := TX10) (N := 16) hE hA hS hK hP hD (isC := [0, 1]) (by decide +kernel) hC (q0 := 0) (ci := 10) rfl rfl) rfl rfl hl.1 rfl (lv_room (Nat.le_of_ble_eq_true rfl)) dX10_feed_22 ⟨Nat.le_refl _, Nat.le_refl _⟩) hP hD hS hA (by decide +kernel) rfl hC rfl rfl (fun H locs hP hD hS => ?_)
    refine lv_aload_n hx hb dX10_feed_25 rfl (lv_at hl 0 rfl) ?_
    refine lv_iload_n hx hb dX10_feed_26 rfl (lv_at hl 3 rfl) ?_
    refine xe_d2 hf (fun v6 a7 hg hf => ?_)
    have hC : ([0, 1] : List Nat).map (fun i => (wd_HS_feed cA q0 q1 q2 q3 q4 q5 q6 q7 q8 q9 q10 q11 q12 u0 u1 u2 v4 a5)[i]?) = (wd_HS_feedFour cA q0 q1 q2 q3 q4 q5 q6 q7 q8 q9 q10 q11 q12 u0 u1 u2 v4 a5).map some := rfl
    refine xv_afterV (ws' := (wd_HS_feed cA q0 q1 q2 q3 q4 q5 q6 q7 q8 q9 q10 q11 q12 u0 u1 u2 v6 a7)) (isC := [0, 1]) (ps := [some 0, some 1]) (va_runV (As := [.int (Int32.ofInt x3)]) (rest := []) ⟨hx, hb, hml, hown, hts⟩ (c_HS_feedFour l ev dC dI cA q0 q1 q2 q3 q4 q5 q6 q7 q8 q9 q10 q11 q12 u0 u1 u2 hg H.size) (cwV 1 hts (zgV zw_626 zw_628 zw_2 zw_104 zw_629) rfl rfl rfl hd_HS_feedFour ⟨Nat.le_of_ble_eq_true rfl, Nat.le_of_ble_eq_true rfl⟩) (xv_preV (T := TX10) (N := 16) hE hA hS hK hP hD (isC := [0, 1]) (by decide +kernel) hC (q0 := 0) (ci := 10) rfl rfl) rfl rfl hl.1 rfl (lv_room (Nat.le_of_ble_eq_true rfl)) dX10_feed_27 ⟨Nat.le_refl _, Nat.le_refl _⟩) hP hD hS hA (by decide +kernel) rfl hC rfl rfl (fun H locs hP hD hS => ?_)
    refine lv_aload_n hx hb dX10_feed_30 rfl (lv_at hl 0 rfl) ?_
    refine lv_iload hx hb dX10_feed_31 (lv_at hl 4 rfl) ?_
    refine xe_d2 hf (fun v8 a9 hg hf => ?_)
    have hC : ([0, 1] : List Nat).map (fun i => (wd_HS_feed cA q0 q1 q2 q3 q4 q5 q6 q7 q8 q9 q10 q11 q12 u0 u1 u2 v6 a7)[i]?) = (wd_HS_feedFour cA q0 q1 q2 q3 q4 q5 q6 q7 q8 q9 q10 q11 q12 u0 u1 u2 v6 a7).map some := rfl
    refine xv_afterV (ws' := (wd_HS_feed cA q0 q1 q2 q3 q4 q5 q6 q7 q8 q9 q10 q11 q12 u0 u1 u2 v8 a9)) (isC := [0, 1]) (ps := [some 0, some 1]) (va_runV (As := [.int (Int32.ofInt x4)]) (rest := []) ⟨hx, hb, hml, hown, hts⟩ (c_HS_feedFour l ev dC dI cA q0 q1 q2 q3 q4 q5 q6 q7 q8 q9 q10 q11 q12 u0 u1 u2 hg H.size) (cwV 1 hts (zgV zw_626 zw_628 zw_2 zw_104 zw_629) rfl rfl rfl hd_HS_feedFour ⟨Nat.le_of_ble_eq_true rfl, Nat.le_of_ble_eq_true rfl⟩) (xv_preV (T := TX10) (N := 16) hE hA hS hK hP hD (isC := [0, 1]) (by decide +kernel) hC (q0 := 0) (ci := 10) rfl rfl) rfl rfl hl.1 rfl (lv_room (Nat.le_of_ble_eq_true rfl)) dX10_feed_33 ⟨Nat.le_refl _, Nat.le_refl _⟩) hP hD hS hA (by decide +kernel) rfl hC rfl rfl (fun H locs hP hD hS => ?_)
    refine lv_aload_n hx hb dX10_feed_36 rfl (lv_at hl 0 rfl) ?_
    refine lv_iload hx hb dX10_feed_37 (lv_at hl 5 rfl) ?_
    refine xe_d2 hf (fun v10 a11 hg hf => ?_)
    have hC : ([0, 1] : List Nat).map (fun i => (wd_HS_feed cA q0 q1 q2 q3 q4 q5 q6 q7 q8 q9 q10 q11 q12 u0 u1 u2 v8 a9)[i]?) = (wd_HS_feedFour cA q0 q1 q2 q3 q4 q5 q6 q7 q8 q9 q10 q11 q12 u0 u1 u2 v8 a9).map some := rfl
    refine xv_afterV (ws' := (wd_HS_feed cA q0 q1 q2 q3 q4 q5 q6 q7 q8 q9 q10 q11 q12 u0 u1 u2 v10 a11)) (isC := [0, 1]) (ps := [some 0, some 1]) (va_runV (As := [.int (Int32.ofInt x5)]) (rest := []) ⟨hx, hb, hml, hown, hts⟩ (c_HS_feedFour l ev dC dI cA q0 q1 q2 q3 q4 q5 q6 q7 q8 q9 q10 q11 q12 u0 u1 u2 hg H.size) (cwV 1 hts (zgV zw_626 zw_628 zw_2 zw_104 zw_629) rfl rfl rfl hd_HS_feedFour ⟨Nat.le_of_ble_eq_true rfl, Nat.le_of_ble_eq_true rfl⟩) (xv_preV (T := TX10) (N := 16) hE hA hS hK hP hD (isC := [0, 1]) (by decide +kernel) hC (q0 := 0) (ci := 10) rfl rfl) rfl rfl hl.1 rfl (lv_room (Nat.le_of_ble_eq_true rfl)) dX10_feed_39 ⟨Nat.le_refl _, Nat.le_refl _⟩) hP hD hS hA (by decide +kernel) rfl hC rfl rfl (fun H locs hP hD hS => ?_)
    refine lv_aload_n hx hb dX10_feed_42 rfl (lv_at hl 0 rfl) ?_
    refine va_get (D := (dC, dI)) (ci := 10) (v := .int (Int32.ofInt v10)) (C := RX10) (T := TX10) (N := 16) hx hb hz zi_X10 hown hK hP 0 rfl rfl 4 (by decide) (hz _ zw_481) (fun _ h9 => h9) rfl dX10_feed_43 ?_
    obtain rfl := Option.some.inj hf
    exact hret _ _ _ _ rfl dX10_feed_46 hP hD hS
  · refine lv_iconst (v := Int32.ofInt (-1)) hx hb dX10_feed_13 rfl ?_
    obtain rfl := Option.some.inj hf
    exact hret _ _ _ _ rfl dX10_feed_14 hP hD hS
theorem dX10_end_0 : decode cX10_end 0 = .ok (.iload_n 1, 1) := by decide +kernel
theorem dX10_end_1 : decode cX10_end 1 = .ok (.ifCond .lt 11, 3) := by decide +kernel
theorem dX10_end_4 : decode cX10_end 4 = .ok (.iload_n 1, 1) := by decide +kernel
theorem dX10_end_5 : decode cX10_end 5 = .ok (.aload_n 0, 1) := by decide +kernel
theorem dX10_end_6 : decode cX10_end 6 = .ok (.getfield 28, 3) := by decide +kernel
theorem dX10_end_9 : decode cX10_end 9 = .ok (.if_icmp .le 5, 3) := by decide +kernel
theorem dX10_end_12 : decode cX10_end 12 = .ok (.iconst (-1), 1) := by decide +kernel
theorem dX10_end_13 : decode cX10_end 13 = .ok (.ireturn, 1) := by decide +kernel
theorem dX10_end_14 : decode cX10_end 14 = .ok (.aload_n 0, 1) := by decide +kernel
theorem dX10_end_15 : decode cX10_end 15 = .ok (.iload_n 1, 1) := by decide +kernel
theorem dX10_end_16 : decode cX10_end 16 = .ok (.putfield 28, 3) := by decide +kernel
theorem dX10_end_19 : decode cX10_end 19 = .ok (.iload_n 1, 1) := by decide +kernel
theorem dX10_end_20 : decode cX10_end 20 = .ok (.ireturn, 1) := by decide +kernel
theorem zw_633 : (Jvm.Cond.code ({ cls := "HillSchool", name := "end", desc := "(I)I" } : Jvm.MethodName) prog_1_method_13_code (2 : Nat) (Option.some Jvm.ClassFile.FieldType.int)) ∈ zall := zmemG (zmj_3 50 rfl) rfl
abbrev w_HS_end : List Cond := .code yX10_end cX10_end 2 (some .int) :: zall
abbrev rm_HS_end : Room := { frames := 0, cells := 0, slots := 0, locals := 0 }
theorem hd_HS_end : yX10_end.cls = "HillSchool" ∧ yX10_end.cls ≠ "java/lang/invoke/MethodHandle" ∧ yX10_end.cls ≠ "java/lang/invoke/VarHandle" ∧ (parseMethodDescriptor yX10_end.desc).map (fun d => d.parameters.length) = some 1 := by decide +kernel
def wd_HS_end (cA : Nat → ClassId) (q0 q1 q2 q3 q4 q5 q6 q7 q8 q9 q10 q11 q12 : Nat) (u0 u1 u2 : Int)  (i_taped : Int) : va_W := [(q0, .inr (10, [.ref q1, .ref q2, .ref q3, .ref q4, .int (Int32.ofInt i_taped), .int (Int32.ofInt u0), .int (Int32.ofInt u1), .ref q5, .int (Int32.ofInt u2), .ref q6, .ref q7, .ref q8, .ref q9, .ref q10, .ref q11, .ref q12]))]
def wf_HS_end (cA : Nat → ClassId) (q0 q1 q2 q3 q4 q5 q6 q7 q8 q9 q10 q11 q12 : Nat) (u0 u1 u2 : Int)  (o : Int × Int) : va_W := wd_HS_end cA q0 q1 q2 q3 q4 q5 q6 q7 q8 q9 q10 q11 q12 u0 u1 u2 o.2
def f_HS_end (x1 : Int) (i_taped : Int) : Option (Int × Int) :=
  if zi_w x1 < 0 then
    some ((-1), i_taped)
  else
    if zi_w x1 ≤ zi_w i_taped then
      some (x1, x1)
    else
      some ((-1), i_taped)
set_option maxHeartbeats 4000000 in
set_option maxRecDepth 100000 in
theorem c_HS_end (l : Launch) (ev : zEv) (dC : Nat → ClassId) (dI : Nat → Nat → Nat) (cA : Nat → ClassId) (q0 q1 q2 q3 q4 q5 q6 q7 q8 q9 q10 q11 q12 : Nat) (u0 u1 u2 : Int) {x1 : Int} {i_taped : Int} {out : Int × Int} (hf : f_HS_end x1 i_taped = some out) : xc_I l ev (dC, dI) vwCl (tyl cA) yX10_end w_HS_end rm_HS_end [.ref q0, .int (Int32.ofInt x1)] (wd_HS_end cA q0 q1 q2 q3 q4 q5 q6 q7 q8 q9 q10 q11 q12 u0 u1 u2 i_taped) (wf_HS_end cA q0 q1 q2 q3 q4 q5 q6 q7 q8 q9 q10 q11 q12 u0 u1 u2 out) out.1 := by
  refine xv_startI (cc := cX10_end) (maxL := 2) (rt := .int) (by decide +kernel) rfl (Nat.le_of_ble_eq_true rfl) ?_
  intro p e s m args below meth c A Q H ls hx hb hml hts hown hK hA hP hD hS hl hE hret
  have hown : s.vm.findClass "HillSchool" = some m.cls := hown
  have hz : ∀ w ∈ zall, w.before args s = true := fun w h => hts w (List.mem_cons_of_mem _ h)
  have hl : lv_has ls 2 [(0, .ref q0), (1, .int (Int32.ofInt x1))] := hl
  unfold f_HS_end at hf
  refine lv_iload_n hx hb dX10_end_0 rfl (lv_at hl 1 rfl) ?_
  refine xi_if_lt (tgt := 12) hx hb dX10_end_1 (by decide) hf (fun hf => ?_) (fun hf => ?_)
  · refine lv_iconst (v := Int32.ofInt (-1)) hx hb dX10_end_12 rfl ?_
    obtain rfl := Option.some.inj hf
    exact hret _ _ _ _ rfl dX10_end_13 hP hD hS
  · refine lv_iload_n hx hb dX10_end_4 rfl (lv_at hl 1 rfl) ?_
    refine lv_aload_n hx hb dX10_end_5 rfl (lv_at hl 0 rfl) ?_
    refine va_get (D := (dC, dI)) (ci := 10) (v := .int (Int32.ofInt i_taped)) (C := RX10) (T := TX10) (N := 16) hx hb hz zi_X10 hown hK hP 0 rfl rfl 4 (by decide) (hz _ zw_481) (fun _ h9 => h9) rfl dX10_end_6 ?_
    refine xi_icmp_le (tgt := 14) hx hb dX10_end_9 (by decide) hf (fun hf => ?_) (fun hf => ?_)
    · refine lv_aload_n hx hb dX10_end_14 rfl (lv_at hl 0 rfl) ?_
      refine lv_iload_n hx hb dX10_end_15 rfl (lv_at hl 1 rfl) ?_
      refine va_put (D := (dC, dI)) (ci := 10) (v := .int (Int32.ofInt x1)) (ty := .int) (C := RX10) (T := TX10) (N := 16) hx hb hz zi_X10 tyX10 tyX10_ok nmX10 hown hK hP hD hS 0 rfl rfl 4 (by decide) (hz _ zw_481) (fun _ h9 => h9) rfl (by decide +kernel) rfl rfl (Nat.le_of_ble_eq_true rfl) dX10_end_16 (fun H locs hP hD hS => ?_)
      have hP : va_P (dC, dI) vwCl (wd_HS_end cA q0 q1 q2 q3 q4 q5 q6 q7 q8 q9 q10 q11 q12 u0 u1 u2 x1) H := hP
      have hD : va_D A (wd_HS_end cA q0 q1 q2 q3 q4 q5 q6 q7 q8 q9 q10 q11 q12 u0 u1 u2 x1) := hD
      refine lv_iload_n hx hb dX10_end_19 rfl (lv_at hl 1 rfl) ?_
      obtain rfl := Option.some.inj hf
      exact hret _ _ _ _ rfl dX10_end_20 hP hD hS
    · refine lv_iconst (v := Int32.ofInt (-1)) hx hb dX10_end_12 rfl ?_
      obtain rfl := Option.some.inj hf
      exact hret _ _ _ _ rfl dX10_end_13 hP hD hS
theorem dX10_row_0 : decode cX10_row 0 = .ok (.aload_n 0, 1) := by decide +kernel
theorem dX10_row_1 : decode cX10_row 1 = .ok (.getfield 28, 3) := by decide +kernel
theorem dX10_row_4 : decode cX10_row 4 = .ok (.istore_n 1, 1) := by decide +kernel
theorem dX10_row_5 : decode cX10_row 5 = .ok (.aload_n 0, 1) := by decide +kernel
theorem dX10_row_6 : decode cX10_row 6 = .ok (.iconst 0, 1) := by decide +kernel
theorem dX10_row_7 : decode cX10_row 7 = .ok (.putfield 28, 3) := by decide +kernel
theorem dX10_row_10 : decode cX10_row 10 = .ok (.iload_n 1, 1) := by decide +kernel
theorem dX10_row_11 : decode cX10_row 11 = .ok (.ifCond .eq 22, 3) := by decide +kernel
theorem dX10_row_14 : decode cX10_row 14 = .ok (.aload_n 0, 1) := by decide +kernel
theorem dX10_row_15 : decode cX10_row 15 = .ok (.getfield 10, 3) := by decide +kernel
theorem dX10_row_18 : decode cX10_row 18 = .ok (.getfield 99, 3) := by decide +kernel
theorem dX10_row_21 : decode cX10_row 21 = .ok (.aload_n 0, 1) := by decide +kernel
theorem dX10_row_22 : decode cX10_row 22 = .ok (.getfield 24, 3) := by decide +kernel
theorem dX10_row_25 : decode cX10_row 25 = .ok (.iconst 0, 1) := by decide +kernel
theorem dX10_row_26 : decode cX10_row 26 = .ok (.iaload, 1) := by decide +kernel
theorem dX10_row_27 : decode cX10_row 27 = .ok (.invokevirtual 122, 3) := by decide +kernel
theorem dX10_row_30 : decode cX10_row 30 = .ok (.ifCond .ne 10, 3) := by decide +kernel
theorem dX10_row_33 : decode cX10_row 33 = .ok (.aload_n 0, 1) := by decide +kernel
theorem dX10_row_34 : decode cX10_row 34 = .ok (.bipush (-6), 2) := by decide +kernel
theorem dX10_row_36 : decode cX10_row 36 = .ok (.invokevirtual 109, 3) := by decide +kernel
theorem dX10_row_39 : decode cX10_row 39 = .ok (.ireturn, 1) := by decide +kernel
theorem dX10_row_40 : decode cX10_row 40 = .ok (.iconst 0, 1) := by decide +kernel
theorem dX10_row_41 : decode cX10_row 41 = .ok (.istore_n 2, 1) := by decide +kernel
theorem dX10_row_42 : decode cX10_row 42 = .ok (.iconst 1, 1) := by decide +kernel
theorem dX10_row_43 : decode cX10_row 43 = .ok (.istore_n 3, 1) := by decide +kernel
theorem dX10_row_44 : decode cX10_row 44 = .ok (.iload_n 3, 1) := by decide +kernel
theorem dX10_row_45 : decode cX10_row 45 = .ok (.iload_n 1, 1) := by decide +kernel
theorem dX10_row_46 : decode cX10_row 46 = .ok (.if_icmp .ge 54, 3) := by decide +kernel
theorem dX10_row_49 : decode cX10_row 49 = .ok (.aload_n 0, 1) := by decide +kernel
theorem dX10_row_50 : decode cX10_row 50 = .ok (.getfield 24, 3) := by decide +kernel
theorem dX10_row_53 : decode cX10_row 53 = .ok (.iload_n 3, 1) := by decide +kernel
theorem dX10_row_54 : decode cX10_row 54 = .ok (.iaload, 1) := by decide +kernel
theorem dX10_row_55 : decode cX10_row 55 = .ok (.istore 4, 2) := by decide +kernel
theorem dX10_row_57 : decode cX10_row 57 = .ok (.iload 4, 2) := by decide +kernel
theorem dX10_row_59 : decode cX10_row 59 = .ok (.iconst 1, 1) := by decide +kernel
theorem dX10_row_60 : decode cX10_row 60 = .ok (.if_icmp .lt 34, 3) := by decide +kernel
theorem dX10_row_63 : decode cX10_row 63 = .ok (.iload 4, 2) := by decide +kernel
theorem dX10_row_65 : decode cX10_row 65 = .ok (.bipush 30, 2) := by decide +kernel
theorem dX10_row_67 : decode cX10_row 67 = .ok (.if_icmp .gt 27, 3) := by decide +kernel
theorem dX10_row_70 : decode cX10_row 70 = .ok (.aload_n 0, 1) := by decide +kernel
theorem dX10_row_71 : decode cX10_row 71 = .ok (.getfield 10, 3) := by decide +kernel
theorem dX10_row_74 : decode cX10_row 74 = .ok (.getfield 99, 3) := by decide +kernel
theorem dX10_row_77 : decode cX10_row 77 = .ok (.aload_n 0, 1) := by decide +kernel
theorem dX10_row_78 : decode cX10_row 78 = .ok (.getfield 24, 3) := by decide +kernel
theorem dX10_row_81 : decode cX10_row 81 = .ok (.iconst 0, 1) := by decide +kernel
theorem dX10_row_82 : decode cX10_row 82 = .ok (.iaload, 1) := by decide +kernel
theorem dX10_row_83 : decode cX10_row 83 = .ok (.iload 4, 2) := by decide +kernel
theorem dX10_row_85 : decode cX10_row 85 = .ok (.invokevirtual 126, 3) := by decide +kernel
theorem dX10_row_88 : decode cX10_row 88 = .ok (.ifCond .eq 6, 3) := by decide +kernel
theorem dX10_row_91 : decode cX10_row 91 = .ok (.iinc 2 1, 3) := by decide +kernel
theorem dX10_row_94 : decode cX10_row 94 = .ok (.iinc 3 1, 3) := by decide +kernel
theorem dX10_row_97 : decode cX10_row 97 = .ok (.goto (-53), 3) := by decide +kernel
theorem dX10_row_100 : decode cX10_row 100 = .ok (.aload_n 0, 1) := by decide +kernel
theorem dX10_row_101 : decode cX10_row 101 = .ok (.iload_n 1, 1) := by decide +kernel
theorem dX10_row_102 : decode cX10_row 102 = .ok (.iconst 1, 1) := by decide +kernel
theorem dX10_row_103 : decode cX10_row 103 = .ok (.isub, 1) := by decide +kernel
theorem dX10_row_104 : decode cX10_row 104 = .ok (.iload_n 2, 1) := by decide +kernel
theorem dX10_row_105 : decode cX10_row 105 = .ok (.isub, 1) := by decide +kernel
theorem dX10_row_106 : decode cX10_row 106 = .ok (.putfield 35, 3) := by decide +kernel
theorem dX10_row_109 : decode cX10_row 109 = .ok (.aload_n 0, 1) := by decide +kernel
theorem dX10_row_110 : decode cX10_row 110 = .ok (.iload_n 2, 1) := by decide +kernel
theorem dX10_row_111 : decode cX10_row 111 = .ok (.invokevirtual 119, 3) := by decide +kernel
theorem dX10_row_114 : decode cX10_row 114 = .ok (.ireturn, 1) := by decide +kernel
theorem zw_483 : (Jvm.Cond.fieldLink "HillSchool" (35 : Nat) "HillSchool" "latestGravel" "I") ∈ zall := zmemG (zmj_2 140 rfl) rfl
theorem zw_637 : (Jvm.Cond.code ({ cls := "HillSchool", name := "row", desc := "()I" } : Jvm.MethodName) prog_1_method_14_code (5 : Nat) (Option.some Jvm.ClassFile.FieldType.int)) ∈ zall := zmemG (zmj_3 54 rfl) rfl
abbrev w_HS_row : List Cond := .code yX10_row cX10_row 5 (some .int) :: zall
abbrev rm_HS_row : Room := { frames := 2, cells := 0, slots := 0, locals := 43 }
theorem hd_HS_row : yX10_row.cls = "HillSchool" ∧ yX10_row.cls ≠ "java/lang/invoke/MethodHandle" ∧ yX10_row.cls ≠ "java/lang/invoke/VarHandle" ∧ (parseMethodDescriptor yX10_row.desc).map (fun d => d.parameters.length) = some 0 := by decide +kernel
def wd_HS_row (cA : Nat → ClassId) (q0 q1 q2 q3 q4 q5 q6 q7 q8 q9 q10 q11 q12 q13 q14 q15 q16 q17 q18 q19 q20 q21 q22 q23 : Nat) (u0 u1 u2 u3 u4 : Int) (i_tape : Nat → Int) (i_hill_columns_many : Int) (i_taped : Int) (i_latestGravel : Int) (i_latestStatus : Int) (i_hill_changes : Int) (i_refusals : Nat → Int) (i_hill_columns_heights : Nat → Int) (i_hill_columns_weights : Nat → Int) : va_W := [(q0, .inr (10, [.ref q1, .ref q2, .ref q3, .ref q4, .int (Int32.ofInt i_taped), .int (Int32.ofInt u0), .int (Int32.ofInt i_latestGravel), .ref q5, .int (Int32.ofInt i_latestStatus), .ref q6, .ref q7, .ref q8, .ref q9, .ref q10, .ref q11, .ref q12])), (q1, .inr (2, [.ref q13, .int (Int32.ofInt u1), .ref q14, .ref q15, .ref q16, .int (Int32.ofInt u2), .ref q17, .ref q18, .ref q19, .int (Int32.ofInt u3), .ref q20, .ref q21, .int (Int32.ofInt u4), .int (Int32.ofInt i_hill_changes)])), (q4, .inl (cA 0, 400, .inl (za i_tape))), (q5, .inl (cA 0, 7, .inl (za i_refusals))), (q13, .inr (1, [.int (Int32.ofInt i_hill_columns_many), .ref q22, .ref q23])), (q22, .inl (cA 0, 12, .inl (za i_hill_columns_heights))), (q23, .inl (cA 0, 120, .inl (za i_hill_columns_weights)))]
def wf_HS_row (cA : Nat → ClassId) (q0 q1 q2 q3 q4 q5 q6 q7 q8 q9 q10 q11 q12 q13 q14 q15 q16 q17 q18 q19 q20 q21 q22 q23 : Nat) (u0 u1 u2 u3 u4 : Int) (i_tape : Nat → Int) (i_hill_columns_many : Int) (o : Int × Int × Int × Int × Int × (Nat → Int) × (Nat → Int) × (Nat → Int)) : va_W := wd_HS_row cA q0 q1 q2 q3 q4 q5 q6 q7 q8 q9 q10 q11 q12 q13 q14 q15 q16 q17 q18 q19 q20 q21 q22 q23 u0 u1 u2 u3 u4 i_tape i_hill_columns_many o.2.1 o.2.2.1 o.2.2.2.1 o.2.2.2.2.1 o.2.2.2.2.2.1 o.2.2.2.2.2.2.1 o.2.2.2.2.2.2.2
def f_HS_row_33 (i_tape : Nat → Int) (i_hill_columns_many : Int) (i_taped : Int) (i_latestGravel : Int) (i_latestStatus : Int) (i_hill_changes : Int) (i_refusals : Nat → Int) (i_hill_columns_heights : Nat → Int) (i_hill_columns_weights : Nat → Int) : Option (Int × Int × Int × Int × Int × (Nat → Int) × (Nat → Int) × (Nat → Int)) :=
  zd3 (f_HS_refuse (-6) i_latestStatus i_refusals) fun v1 v2 a3 =>
  some (v1, i_taped, i_latestGravel, v2, i_hill_changes, a3, i_hill_columns_heights, i_hill_columns_weights)
def f_HS_row_94 (i_tape : Nat → Int) (i_hill_columns_many : Int) (k44 : Int → Int → Int → Int → Int → Int → Int → (Nat → Int) → (Nat → Int) → (Nat → Int) → Option (Int × Int × Int × Int × Int × (Nat → Int) × (Nat → Int) × (Nat → Int))) (x1 : Int) (x2 : Int) (x3 : Int) (i_taped : Int) (i_latestGravel : Int) (i_latestStatus : Int) (i_hill_changes : Int) (i_refusals : Nat → Int) (i_hill_columns_heights : Nat → Int) (i_hill_columns_weights : Nat → Int) : Option (Int × Int × Int × Int × Int × (Nat → Int) × (Nat → Int) × (Nat → Int)) :=
  zn (x3 + 1) fun v1 =>
  k44 x1 x2 v1 i_taped i_latestGravel i_latestStatus i_hill_changes i_refusals i_hill_columns_heights i_hill_columns_weights
def f_HS_row_44_b (i_tape : Nat → Int) (i_hill_columns_many : Int) (k44 : Int → Int → Int → Int → Int → Int → Int → (Nat → Int) → (Nat → Int) → (Nat → Int) → Option (Int × Int × Int × Int × Int × (Nat → Int) × (Nat → Int) × (Nat → Int))) (x1 : Int) (x2 : Int) (x3 : Int) (i_taped : Int) (i_latestGravel : Int) (i_latestStatus : Int) (i_hill_changes : Int) (i_refusals : Nat → Int) (i_hill_columns_heights : Nat → Int) (i_hill_columns_weights : Nat → Int) : Option (Int × Int × Int × Int × Int × (Nat → Int) × (Nat → Int) × (Nat → Int)) :=
  if zi_w x1 ≤ zi_w x3 then
    zn (x1 - 1) fun v1 =>
    zn (v1 - x2) fun v2 =>
    zd3 (f_HS_accept x2 i_latestStatus i_hill_changes) fun v3 v4 v5 =>
    some (v3, i_taped, v2, v4, v5, i_refusals, i_hill_columns_heights, i_hill_columns_weights)
  else
    zg 400 i_tape x3 fun v6 =>
    if zi_w v6 < zi_w 1 then
      f_HS_row_94 i_tape i_hill_columns_many k44 x1 x2 x3 i_taped i_latestGravel i_latestStatus i_hill_changes i_refusals i_hill_columns_heights i_hill_columns_weights
    else
      if zi_w 30 < zi_w v6 then
        f_HS_row_94 i_tape i_hill_columns_many k44 x1 x2 x3 i_taped i_latestGravel i_latestStatus i_hill_changes i_refusals i_hill_columns_heights i_hill_columns_weights
      else
        zg 400 i_tape 0 fun v7 =>
        zd3 (f_Columns_put v7 v6 i_hill_columns_many i_hill_columns_heights i_hill_columns_weights) fun v8 a9 a10 =>
        if zi_w v8 = 0 then
          f_HS_row_94 i_tape i_hill_columns_many k44 x1 x2 x3 i_taped i_latestGravel i_latestStatus i_hill_changes i_refusals a9 a10
        else
          zn (x2 + 1) fun v11 =>
          f_HS_row_94 i_tape i_hill_columns_many k44 x1 v11 x3 i_taped i_latestGravel i_latestStatus i_hill_changes i_refusals a9 a10
def f_HS_row_44 (i_tape : Nat → Int) (i_hill_columns_many : Int) : Nat → Int → Int → Int → Int → Int → Int → Int → (Nat → Int) → (Nat → Int) → (Nat → Int) → Option (Int × Int × Int × Int × Int × (Nat → Int) × (Nat → Int) × (Nat → Int))
  | 0 => fun _ _ _ _ _ _ _ _ _ _ => none
  | n + 1 => fun y0 y1 y2 y3 y4 y5 y6 y7 y8 y9 => f_HS_row_44_b i_tape i_hill_columns_many (f_HS_row_44 i_tape i_hill_columns_many n) y0 y1 y2 y3 y4 y5 y6 y7 y8 y9
def f_HS_row (i_tape : Nat → Int) (i_hill_columns_many : Int) (i_taped : Int) (i_latestGravel : Int) (i_latestStatus : Int) (i_hill_changes : Int) (i_refusals : Nat → Int) (i_hill_columns_heights : Nat → Int) (i_hill_columns_weights : Nat → Int) : Option (Int × Int × Int × Int × Int × (Nat → Int) × (Nat → Int) × (Nat → Int)) :=
  if zi_w i_taped = 0 then
    f_HS_row_33 i_tape i_hill_columns_many 0 i_latestGravel i_latestStatus i_hill_changes i_refusals i_hill_columns_heights i_hill_columns_weights
  else
    zg 400 i_tape 0 fun v1 =>
    zd1 (f_Columns_has v1 i_hill_columns_many) fun v2 =>
    if zi_w v2 ≠ 0 then
      f_HS_row_44 i_tape i_hill_columns_many zfu i_taped 0 1 0 i_latestGravel i_latestStatus i_hill_changes i_refusals i_hill_columns_heights i_hill_columns_weights
    else
      f_HS_row_33 i_tape i_hill_columns_many 0 i_latestGravel i_latestStatus i_hill_changes i_refusals i_hill_columns_heights i_hill_columns_weights
set_option maxHeartbeats 4000000 in
set_option maxRecDepth 100000 in
theorem c_HS_row (l : Launch) (ev : zEv) (dC : Nat → ClassId) (dI : Nat → Nat → Nat) (cA : Nat → ClassId) (q0 q1 q2 q3 q4 q5 q6 q7 q8 q9 q10 q11 q12 q13 q14 q15 q16 q17 q18 q19 q20 q21 q22 q23 : Nat) (u0 u1 u2 u3 u4 : Int) {i_tape : Nat → Int} {i_hill_columns_many : Int} {i_taped : Int} {i_latestGravel : Int} {i_latestStatus : Int} {i_hill_changes : Int} {i_refusals : Nat → Int} {i_hill_columns_heights : Nat → Int} {i_hill_columns_weights : Nat → Int} {out : Int × Int × Int × Int × Int × (Nat → Int) × (Nat → Int) × (Nat → Int)} (hf : f_HS_row i_tape i_hill_columns_many i_taped i_latestGravel i_latestStatus i_hill_changes i_refusals i_hill_columns_heights i_hill_columns_weights = some out) : xc_I l ev (dC, dI) vwCl (tyl cA) yX10_row w_HS_row rm_HS_row [.ref q0] (wd_HS_row cA q0 q1 q2 q3 q4 q5 q6 q7 q8 q9 q10 q11 q12 q13 q14 q15 q16 q17 q18 q19 q20 q21 q22 q23 u0 u1 u2 u3 u4 i_tape i_hill_columns_many i_taped i_latestGravel i_latestStatus i_hill_changes i_refusals i_hill_columns_heights i_hill_columns_weights) (wf_HS_row cA q0 q1 q2 q3 q4 q5 q6 q7 q8 q9 q10 q11 q12 q13 q14 q15 q16 q17 q18 q19 q20 q21 q22 q23 u0 u1 u2 u3 u4 i_tape i_hill_columns_many out) out.1 := by
  refine xv_startI (cc := cX10_row) (maxL := 5) (rt := .int) (by decide +kernel) rfl (Nat.le_of_ble_eq_true rfl) ?_
  intro p e s m args below meth c A Q H ls hx hb hml hts hown hK hA hP hD hS hl hE hret
  have hown : s.vm.findClass "HillSchool" = some m.cls := hown
  have hz : ∀ w ∈ zall, w.before args s = true := fun w h => hts w (List.mem_cons_of_mem _ h)
  have hl : lv_has ls 5 [(0, .ref q0)] := hl
  have b_33 : ∀ (i_taped : Int) (i_latestGravel : Int) (i_latestStatus : Int) (i_hill_changes : Int) (i_refusals : Nat → Int) (i_hill_columns_heights : Nat → Int) (i_hill_columns_weights : Nat → Int) (H : Heap) (locs : List Loc) (ls : Array Slot), f_HS_row_33 i_tape i_hill_columns_many i_taped i_latestGravel i_latestStatus i_hill_changes i_refusals i_hill_columns_heights i_hill_columns_weights = some out → va_P (dC, dI) vwCl (wd_HS_row cA q0 q1 q2 q3 q4 q5 q6 q7 q8 q9 q10 q11 q12 q13 q14 q15 q16 q17 q18 q19 q20 q21 q22 q23 u0 u1 u2 u3 u4 i_tape i_hill_columns_many i_taped i_latestGravel i_latestStatus i_hill_changes i_refusals i_hill_columns_heights i_hill_columns_weights) H → va_D A (wd_HS_row cA q0 q1 q2 q3 q4 q5 q6 q7 q8 q9 q10 q11 q12 q13 q14 q15 q16 q17 q18 q19 q20 q21 q22 q23 u0 u1 u2 u3 u4 i_tape i_hill_columns_many i_taped i_latestGravel i_latestStatus i_hill_changes i_refusals i_hill_columns_heights i_hill_columns_weights) → va_S A s.heap H locs → lv_has ls 5 [(0, .ref q0)] → W p l e rm_HS_row s m args below meth c H locs 0 0 Q (F0 m 33 ls []) := by
    intro i_taped i_latestGravel i_latestStatus i_hill_changes i_refusals i_hill_columns_heights i_hill_columns_weights H locs ls hf hP hD hS hl
    unfold f_HS_row_33 at hf
    refine lv_aload_n hx hb dX10_row_33 rfl (lv_at hl 0 rfl) ?_
    refine lv_bipush (v := Int32.ofInt (-6)) hx hb dX10_row_34 (by decide) ?_
    refine xe_d3 hf (fun v1 v2 a3 hg hf => ?_)
    have hC : ([0, 3] : List Nat).map (fun i => (wd_HS_row cA q0 q1 q2 q3 q4 q5 q6 q7 q8 q9 q10 q11 q12 q13 q14 q15 q16 q17 q18 q19 q20 q21 q22 q23 u0 u1 u2 u3 u4 i_tape i_hill_columns_many i_taped i_latestGravel i_latestStatus i_hill_changes i_refusals i_hill_columns_heights i_hill_columns_weights)[i]?) = (wd_HS_refuse cA q0 q1 q2 q3 q4 q5 q6 q7 q8 q9 q10 q11 q12 i_taped u0 i_latestGravel i_latestStatus i_refusals).map some := rfl
    refine xv_afterI (ws' := (wd_HS_row cA q0 q1 q2 q3 q4 q5 q6 q7 q8 q9 q10 q11 q12 q13 q14 q15 q16 q17 q18 q19 q20 q21 q22 q23 u0 u1 u2 u3 u4 i_tape i_hill_columns_many i_taped i_latestGravel v2 i_hill_changes a3 i_hill_columns_heights i_hill_columns_weights)) (isC := [0, 3]) (ps := [some 0, none, none, some 1, none, none, none]) (va_runV (As := [.int (Int32.ofInt (-6))]) (rest := []) ⟨hx, hb, hml, hown, hts⟩ (c_HS_refuse l ev dC dI cA q0 q1 q2 q3 q4 q5 q6 q7 q8 q9 q10 q11 q12 i_taped u0 i_latestGravel hg H.size) (cwV 1 hts (zgV zw_534 zw_536 zw_0 zw_104 zw_537) rfl rfl rfl hd_HS_refuse ⟨Nat.le_of_ble_eq_true rfl, Nat.le_of_ble_eq_true rfl⟩) (xv_preV (T := TX10) (N := 16) hE hA hS hK hP hD (isC := [0, 3]) (by decide +kernel) hC (q0 := 0) (ci := 10) rfl rfl) rfl rfl hl.1 rfl (lv_room (Nat.le_of_ble_eq_true rfl)) dX10_row_36 ⟨Nat.le_refl _, Nat.le_refl _⟩) hP hD hS hA (by decide +kernel) rfl hC rfl rfl (fun H locs hP hD hS => ?_)
    obtain rfl := Option.some.inj hf
    exact hret _ _ _ _ rfl dX10_row_39 hP hD hS
  have b_94 : ∀ (k44 : Int → Int → Int → Int → Int → Int → Int → (Nat → Int) → (Nat → Int) → (Nat → Int) → Option (Int × Int × Int × Int × Int × (Nat → Int) × (Nat → Int) × (Nat → Int))) (_ : ∀ (x1 : Int) (x2 : Int) (x3 : Int) (i_taped : Int) (i_latestGravel : Int) (i_latestStatus : Int) (i_hill_changes : Int) (i_refusals : Nat → Int) (i_hill_columns_heights : Nat → Int) (i_hill_columns_weights : Nat → Int) (H : Heap) (locs : List Loc) (ls : Array Slot), k44 x1 x2 x3 i_taped i_latestGravel i_latestStatus i_hill_changes i_refusals i_hill_columns_heights i_hill_columns_weights = some out → va_P (dC, dI) vwCl (wd_HS_row cA q0 q1 q2 q3 q4 q5 q6 q7 q8 q9 q10 q11 q12 q13 q14 q15 q16 q17 q18 q19 q20 q21 q22 q23 u0 u1 u2 u3 u4 i_tape i_hill_columns_many i_taped i_latestGravel i_latestStatus i_hill_changes i_refusals i_hill_columns_heights i_hill_columns_weights) H → va_D A (wd_HS_row cA q0 q1 q2 q3 q4 q5 q6 q7 q8 q9 q10 q11 q12 q13 q14 q15 q16 q17 q18 q19 q20 q21 q22 q23 u0 u1 u2 u3 u4 i_tape i_hill_columns_many i_taped i_latestGravel i_latestStatus i_hill_changes i_refusals i_hill_columns_heights i_hill_columns_weights) → va_S A s.heap H locs → lv_has ls 5 [(0, .ref q0), (1, .int (Int32.ofInt x1)), (2, .int (Int32.ofInt x2)), (3, .int (Int32.ofInt x3))] → W p l e rm_HS_row s m args below meth c H locs 0 0 Q (F0 m 44 ls [])), ∀ (x1 : Int) (x2 : Int) (x3 : Int) (i_taped : Int) (i_latestGravel : Int) (i_latestStatus : Int) (i_hill_changes : Int) (i_refusals : Nat → Int) (i_hill_columns_heights : Nat → Int) (i_hill_columns_weights : Nat → Int) (H : Heap) (locs : List Loc) (ls : Array Slot), f_HS_row_94 i_tape i_hill_columns_many k44 x1 x2 x3 i_taped i_latestGravel i_latestStatus i_hill_changes i_refusals i_hill_columns_heights i_hill_columns_weights = some out → va_P (dC, dI) vwCl (wd_HS_row cA q0 q1 q2 q3 q4 q5 q6 q7 q8 q9 q10 q11 q12 q13 q14 q15 q16 q17 q18 q19 q20 q21 q22 q23 u0 u1 u2 u3 u4 i_tape i_hill_columns_many i_taped i_latestGravel i_latestStatus i_hill_changes i_refusals i_hill_columns_heights i_hill_columns_weights) H → va_D A (wd_HS_row cA q0 q1 q2 q3 q4 q5 q6 q7 q8 q9 q10 q11 q12 q13 q14 q15 q16 q17 q18 q19 q20 q21 q22 q23 u0 u1 u2 u3 u4 i_tape i_hill_columns_many i_taped i_latestGravel i_latestStatus i_hill_changes i_refusals i_hill_columns_heights i_hill_columns_weights) → va_S A s.heap H locs → lv_has ls 5 [(0, .ref q0), (1, .int (Int32.ofInt x1)), (2, .int (Int32.ofInt x2)), (3, .int (Int32.ofInt x3))] → W p l e rm_HS_row s m args below meth c H locs 0 0 Q (F0 m 94 ls []) := by
    intro k44 ih44 x1 x2 x3 i_taped i_latestGravel i_latestStatus i_hill_changes i_refusals i_hill_columns_heights i_hill_columns_weights H locs ls hf hP hD hS hl
    unfold f_HS_row_94 at hf
    refine xi_iinc hx hb dX10_row_94 hl (k := 3) rfl (by decide) hf (fun v1 ls hl hf => ?_)
    have hl : lv_has ls 5 [(3, .int (Int32.ofInt v1)), (0, .ref q0), (1, .int (Int32.ofInt x1)), (2, .int (Int32.ofInt x2))] := hl
    refine lv_goto (tgt := 44) hx hb dX10_row_97 (by decide) ?_
    exact ih44 _ _ _ _ _ _ _ _ _ _ _ _ _ hf hP hD hS (lv_sub hl [1, 2, 3, 0] rfl)
  have b_44 : ∀ (k44 : Int → Int → Int → Int → Int → Int → Int → (Nat → Int) → (Nat → Int) → (Nat → Int) → Option (Int × Int × Int × Int × Int × (Nat → Int) × (Nat → Int) × (Nat → Int))) (_ : ∀ (x1 : Int) (x2 : Int) (x3 : Int) (i_taped : Int) (i_latestGravel : Int) (i_latestStatus : Int) (i_hill_changes : Int) (i_refusals : Nat → Int) (i_hill_columns_heights : Nat → Int) (i_hill_columns_weights : Nat → Int) (H : Heap) (locs : List Loc) (ls : Array Slot), k44 x1 x2 x3 i_taped i_latestGravel i_latestStatus i_hill_changes i_refusals i_hill_columns_heights i_hill_columns_weights = some out → va_P (dC, dI) vwCl (wd_HS_row cA q0 q1 q2 q3 q4 q5 q6 q7 q8 q9 q10 q11 q12 q13 q14 q15 q16 q17 q18 q19 q20 q21 q22 q23 u0 u1 u2 u3 u4 i_tape i_hill_columns_many i_taped i_latestGravel i_latestStatus i_hill_changes i_refusals i_hill_columns_heights i_hill_columns_weights) H → va_D A (wd_HS_row cA q0 q1 q2 q3 q4 q5 q6 q7 q8 q9 q10 q11 q12 q13 q14 q15 q16 q17 q18 q19 q20 q21 q22 q23 u0 u1 u2 u3 u4 i_tape i_hill_columns_many i_taped i_latestGravel i_latestStatus i_hill_changes i_refusals i_hill_columns_heights i_hill_columns_weights) → va_S A s.heap H locs → lv_has ls 5 [(0, .ref q0), (1, .int (Int32.ofInt x1)), (2, .int (Int32.ofInt x2)), (3, .int (Int32.ofInt x3))] → W p l e rm_HS_row s m args below meth c H locs 0 0 Q (F0 m 44 ls [])), ∀ (x1 : Int) (x2 : Int) (x3 : Int) (i_taped : Int) (i_latestGravel : Int) (i_latestStatus : Int) (i_hill_changes : Int) (i_refusals : Nat → Int) (i_hill_columns_heights : Nat → Int) (i_hill_columns_weights : Nat → Int) (H : Heap) (locs : List Loc) (ls : Array Slot), f_HS_row_44_b i_tape i_hill_columns_many k44 x1 x2 x3 i_taped i_latestGravel i_latestStatus i_hill_changes i_refusals i_hill_columns_heights i_hill_columns_weights = some out → va_P (dC, dI) vwCl (wd_HS_row cA q0 q1 q2 q3 q4 q5 q6 q7 q8 q9 q10 q11 q12 q13 q14 q15 q16 q17 q18 q19 q20 q21 q22 q23 u0 u1 u2 u3 u4 i_tape i_hill_columns_many i_taped i_latestGravel i_latestStatus i_hill_changes i_refusals i_hill_columns_heights i_hill_columns_weights) H → va_D A (wd_HS_row cA q0 q1 q2 q3 q4 q5 q6 q7 q8 q9 q10 q11 q12 q13 q14 q15 q16 q17 q18 q19 q20 q21 q22 q23 u0 u1 u2 u3 u4 i_tape i_hill_columns_many i_taped i_latestGravel i_latestStatus i_hill_changes i_refusals i_hill_columns_heights i_hill_columns_weights) → va_S A s.heap H locs → lv_has ls 5 [(0, .ref q0), (1, .int (Int32.ofInt x1)), (2, .int (Int32.ofInt x2)), (3, .int (Int32.ofInt x3))] → W p l e rm_HS_row s m args below meth c H locs 0 0 Q (F0 m 44 ls []) := by
    intro k44 ih44 x1 x2 x3 i_taped i_latestGravel i_latestStatus i_hill_changes i_refusals i_hill_columns_heights i_hill_columns_weights H locs ls hf hP hD hS hl
    unfold f_HS_row_44_b at hf
    refine lv_iload_n hx hb dX10_row_44 rfl (lv_at hl 3 rfl) ?_
    refine lv_iload_n hx hb dX10_row_45 rfl (lv_at hl 1 rfl) ?_
    refine xi_icmp_ge (tgt := 100) hx hb dX10_row_46 (by decide) hf (fun hf => ?_) (fun hf => ?_)
    · refine lv_aload_n hx hb dX10_row_100 rfl (lv_at hl 0 rfl) ?_
      refine lv_iload_n hx hb dX10_row_101 rfl (lv_at hl 1 rfl) ?_
      refine lv_iconst (v := Int32.ofInt 1) hx hb dX10_row_102 rfl ?_
      refine xi_isub hx hb dX10_row_103 hf (fun v1 hf => ?_)
      refine lv_iload_n hx hb dX10_row_104 rfl (lv_at hl 2 rfl) ?_
      refine xi_isub hx hb dX10_row_105 hf (fun v2 hf => ?_)
      refine va_put (D := (dC, dI)) (ci := 10) (v := .int (Int32.ofInt v2)) (ty := .int) (C := RX10) (T := TX10) (N := 16) hx hb hz zi_X10 tyX10 tyX10_ok nmX10 hown hK hP hD hS 0 rfl rfl 6 (by decide) (hz _ zw_483) (fun _ h9 => h9) rfl (by decide +kernel) rfl rfl (Nat.le_of_ble_eq_true rfl) dX10_row_106 (fun H locs hP hD hS => ?_)
      have hP : va_P (dC, dI) vwCl (wd_HS_row cA q0 q1 q2 q3 q4 q5 q6 q7 q8 q9 q10 q11 q12 q13 q14 q15 q16 q17 q18 q19 q20 q21 q22 q23 u0 u1 u2 u3 u4 i_tape i_hill_columns_many i_taped v2 i_latestStatus i_hill_changes i_refusals i_hill_columns_heights i_hill_columns_weights) H := hP
      have hD : va_D A (wd_HS_row cA q0 q1 q2 q3 q4 q5 q6 q7 q8 q9 q10 q11 q12 q13 q14 q15 q16 q17 q18 q19 q20 q21 q22 q23 u0 u1 u2 u3 u4 i_tape i_hill_columns_many i_taped v2 i_latestStatus i_hill_changes i_refusals i_hill_columns_heights i_hill_columns_weights) := hD
      refine lv_aload_n hx hb dX10_row_109 rfl (lv_at hl 0 rfl) ?_
      refine lv_iload_n hx hb dX10_row_110 rfl (lv_at hl 2 rfl) ?_
      refine xe_d3 hf (fun v3 v4 v5 hg hf => ?_)
      have hC : ([0, 1] : List Nat).map (fun i => (wd_HS_row cA q0 q1 q2 q3 q4 q5 q6 q7 q8 q9 q10 q11 q12 q13 q14 q15 q16 q17 q18 q19 q20 q21 q22 q23 u0 u1 u2 u3 u4 i_tape i_hill_columns_many i_taped v2 i_latestStatus i_hill_changes i_refusals i_hill_columns_heights i_hill_columns_weights)[i]?) = (wd_HS_accept cA q0 q1 q2 q3 q4 q5 q6 q7 q8 q9 q10 q11 q12 q13 q14 q15 q16 q17 q18 q19 q20 q21 i_taped u0 v2 u1 u2 u3 u4 i_latestStatus i_hill_changes).map some := rfl
      refine xv_afterI (ws' := (wd_HS_row cA q0 q1 q2 q3 q4 q5 q6 q7 q8 q9 q10 q11 q12 q13 q14 q15 q16 q17 q18 q19 q20 q21 q22 q23 u0 u1 u2 u3 u4 i_tape i_hill_columns_many i_taped v2 v4 v5 i_refusals i_hill_columns_heights i_hill_columns_weights)) (isC := [0, 1]) (ps := [some 0, some 1, none, none, none, none, none]) (va_runV (As := [.int (Int32.ofInt x2)]) (rest := []) ⟨hx, hb, hml, hown, hts⟩ (c_HS_accept l ev dC dI cA q0 q1 q2 q3 q4 q5 q6 q7 q8 q9 q10 q11 q12 q13 q14 q15 q16 q17 q18 q19 q20 q21 i_taped u0 v2 u1 u2 u3 u4 hg H.size) (cwV 1 hts (zgV zw_538 zw_540 zw_1 zw_104 zw_541) rfl rfl rfl hd_HS_accept ⟨Nat.le_of_ble_eq_true rfl, Nat.le_of_ble_eq_true rfl⟩) (xv_preV (T := TX10) (N := 16) hE hA hS hK hP hD (isC := [0, 1]) (by decide +kernel) hC (q0 := 0) (ci := 10) rfl rfl) rfl rfl hl.1 rfl (lv_room (Nat.le_of_ble_eq_true rfl)) dX10_row_111 ⟨Nat.le_refl _, Nat.le_refl _⟩) hP hD hS hA (by decide +kernel) rfl hC rfl rfl (fun H locs hP hD hS => ?_)
      obtain rfl := Option.some.inj hf
      exact hret _ _ _ _ rfl dX10_row_114 hP hD hS
    · refine lv_aload_n hx hb dX10_row_49 rfl (lv_at hl 0 rfl) ?_
      refine va_get (D := (dC, dI)) (ci := 10) (v := .ref q4) (C := RX10) (T := TX10) (N := 16) hx hb hz zi_X10 hown hK hP 0 rfl rfl 3 (by decide) (hz _ zw_480) (fun _ h9 => h9) rfl dX10_row_50 ?_
      refine lv_iload_n hx hb dX10_row_53 rfl (lv_at hl 3 rfl) ?_
      refine xi_iald hx hb hK hP 2 0 rfl rfl dX10_row_54 hf (fun v6 hf => ?_)
      refine lv_istore (lv' := [(4, .int (Int32.ofInt v6)), (0, .ref q0), (1, .int (Int32.ofInt x1)), (2, .int (Int32.ofInt x2)), (3, .int (Int32.ofInt x3))]) hx hb dX10_row_55 hl (by decide) rfl (fun ls hl => ?_)
      refine lv_iload hx hb dX10_row_57 (lv_at hl 0 rfl) ?_
      refine lv_iconst (v := Int32.ofInt 1) hx hb dX10_row_59 rfl ?_
      refine xi_icmp_lt (tgt := 94) hx hb dX10_row_60 (by decide) hf (fun hf => ?_) (fun hf => ?_)
      · exact b_94 _ ih44 _ _ _ _ _ _ _ _ _ _ _ _ _ hf hP hD hS (lv_sub hl [1, 2, 3, 4] rfl)
      · refine lv_iload hx hb dX10_row_63 (lv_at hl 0 rfl) ?_
        refine lv_bipush (v := Int32.ofInt 30) hx hb dX10_row_65 (by decide) ?_
        refine xi_icmp_gt (tgt := 94) hx hb dX10_row_67 (by decide) hf (fun hf => ?_) (fun hf => ?_)
        · exact b_94 _ ih44 _ _ _ _ _ _ _ _ _ _ _ _ _ hf hP hD hS (lv_sub hl [1, 2, 3, 4] rfl)
        · refine lv_aload_n hx hb dX10_row_70 rfl (lv_at hl 1 rfl) ?_
          refine va_get (D := (dC, dI)) (ci := 10) (v := .ref q1) (C := RX10) (T := TX10) (N := 16) hx hb hz zi_X10 hown hK hP 0 rfl rfl 0 (by decide) (hz _ zw_477) (fun _ h9 => h9) rfl dX10_row_71 ?_
          refine va_getN (D := (dC, dI)) (ci := 2) (v := .ref q13) (C := RX2) (T := TX2) (N := 14) hx hb hz zi_X2 hown hK hP 1 rfl rfl 0 (by decide) (va_Nw.use rfl (hE.1.1 _ zw_169)) (fun _ h9 => h9) rfl dX10_row_74 ?_
          refine lv_aload_n hx hb dX10_row_77 rfl (lv_at hl 1 rfl) ?_
          refine va_get (D := (dC, dI)) (ci := 10) (v := .ref q4) (C := RX10) (T := TX10) (N := 16) hx hb hz zi_X10 hown hK hP 0 rfl rfl 3 (by decide) (hz _ zw_480) (fun _ h9 => h9) rfl dX10_row_78 ?_
          refine lv_iconst (v := Int32.ofInt 0) hx hb dX10_row_81 rfl ?_
          refine xi_iald hx hb hK hP 2 0 rfl rfl dX10_row_82 hf (fun v7 hf => ?_)
          refine lv_iload hx hb dX10_row_83 (lv_at hl 0 rfl) ?_
          refine xe_d3 hf (fun v8 a9 a10 hg hf => ?_)
          have hC : ([4, 5, 6] : List Nat).map (fun i => (wd_HS_row cA q0 q1 q2 q3 q4 q5 q6 q7 q8 q9 q10 q11 q12 q13 q14 q15 q16 q17 q18 q19 q20 q21 q22 q23 u0 u1 u2 u3 u4 i_tape i_hill_columns_many i_taped i_latestGravel i_latestStatus i_hill_changes i_refusals i_hill_columns_heights i_hill_columns_weights)[i]?) = (wd_Columns_put cA q13 q22 q23 i_hill_columns_many i_hill_columns_heights i_hill_columns_weights).map some := rfl
          refine xv_afterI (ws' := (wd_HS_row cA q0 q1 q2 q3 q4 q5 q6 q7 q8 q9 q10 q11 q12 q13 q14 q15 q16 q17 q18 q19 q20 q21 q22 q23 u0 u1 u2 u3 u4 i_tape i_hill_columns_many i_taped i_latestGravel i_latestStatus i_hill_changes i_refusals a9 a10)) (isC := [4, 5, 6]) (ps := [none, none, none, none, some 0, some 1, some 2]) (va_runV (As := [.int (Int32.ofInt v7), .int (Int32.ofInt v6)]) (rest := []) ⟨hx, hb, hml, hown, hts⟩ (c_Columns_put l ev dC dI cA q13 q22 q23 hg H.size) (cwV 2 hts (zgV zw_550 zw_551 zw_552 zw_106 zw_553) rfl rfl rfl hd_Columns_put ⟨Nat.le_of_ble_eq_true rfl, Nat.le_of_ble_eq_true rfl⟩) (xv_preV (T := TX1) (N := 3) hE hA hS hK hP hD (isC := [4, 5, 6]) (by decide +kernel) hC (q0 := 4) (ci := 1) rfl rfl) rfl rfl hl.1 rfl (lv_room (Nat.le_of_ble_eq_true rfl)) dX10_row_85 ⟨Nat.le_refl _, Nat.le_refl _⟩) hP hD hS hA (by decide +kernel) rfl hC rfl rfl (fun H locs hP hD hS => ?_)
          refine xi_if_eq (tgt := 94) hx hb dX10_row_88 (by decide) hf (fun hf => ?_) (fun hf => ?_)
          · exact b_94 _ ih44 _ _ _ _ _ _ _ _ _ _ _ _ _ hf hP hD hS (lv_sub hl [1, 2, 3, 4] rfl)
          · refine xi_iinc hx hb dX10_row_91 hl (k := 3) rfl (by decide) hf (fun v11 ls hl hf => ?_)
            have hl : lv_has ls 5 [(2, .int (Int32.ofInt v11)), (4, .int (Int32.ofInt v6)), (0, .ref q0), (1, .int (Int32.ofInt x1)), (3, .int (Int32.ofInt x3))] := hl
            exact b_94 _ ih44 _ _ _ _ _ _ _ _ _ _ _ _ _ hf hP hD hS (lv_sub hl [2, 3, 0, 4] rfl)
  have l_44 : ∀ (n : Nat), ∀ (x1 : Int) (x2 : Int) (x3 : Int) (i_taped : Int) (i_latestGravel : Int) (i_latestStatus : Int) (i_hill_changes : Int) (i_refusals : Nat → Int) (i_hill_columns_heights : Nat → Int) (i_hill_columns_weights : Nat → Int) (H : Heap) (locs : List Loc) (ls : Array Slot), f_HS_row_44 i_tape i_hill_columns_many n x1 x2 x3 i_taped i_latestGravel i_latestStatus i_hill_changes i_refusals i_hill_columns_heights i_hill_columns_weights = some out → va_P (dC, dI) vwCl (wd_HS_row cA q0 q1 q2 q3 q4 q5 q6 q7 q8 q9 q10 q11 q12 q13 q14 q15 q16 q17 q18 q19 q20 q21 q22 q23 u0 u1 u2 u3 u4 i_tape i_hill_columns_many i_taped i_latestGravel i_latestStatus i_hill_changes i_refusals i_hill_columns_heights i_hill_columns_weights) H → va_D A (wd_HS_row cA q0 q1 q2 q3 q4 q5 q6 q7 q8 q9 q10 q11 q12 q13 q14 q15 q16 q17 q18 q19 q20 q21 q22 q23 u0 u1 u2 u3 u4 i_tape i_hill_columns_many i_taped i_latestGravel i_latestStatus i_hill_changes i_refusals i_hill_columns_heights i_hill_columns_weights) → va_S A s.heap H locs → lv_has ls 5 [(0, .ref q0), (1, .int (Int32.ofInt x1)), (2, .int (Int32.ofInt x2)), (3, .int (Int32.ofInt x3))] → W p l e rm_HS_row s m args below meth c H locs 0 0 Q (F0 m 44 ls []) := by
    intro n
    induction n with
    | zero => intro x1 x2 x3 i_taped i_latestGravel i_latestStatus i_hill_changes i_refusals i_hill_columns_heights i_hill_columns_weights H locs ls hf hP hD hS hl; exact nomatch hf
    | succ n ih => intro x1 x2 x3 i_taped i_latestGravel i_latestStatus i_hill_changes i_refusals i_hill_columns_heights i_hill_columns_weights H locs ls hf hP hD hS hl; exact b_44 (f_HS_row_44 i_tape i_hill_columns_many n) ih x1 x2 x3 i_taped i_latestGravel i_latestStatus i_hill_changes i_refusals i_hill_columns_heights i_hill_columns_weights H locs ls hf hP hD hS hl
  unfold f_HS_row at hf
  refine lv_aload_n hx hb dX10_row_0 rfl (lv_at hl 0 rfl) ?_
  refine va_get (D := (dC, dI)) (ci := 10) (v := .int (Int32.ofInt i_taped)) (C := RX10) (T := TX10) (N := 16) hx hb hz zi_X10 hown hK hP 0 rfl rfl 4 (by decide) (hz _ zw_481) (fun _ h9 => h9) rfl dX10_row_1 ?_
  refine lv_istore_n (lv' := [(1, .int (Int32.ofInt i_taped)), (0, .ref q0)]) hx hb dX10_row_4 rfl hl (by decide) rfl (fun ls hl => ?_)
  refine lv_aload_n hx hb dX10_row_5 rfl (lv_at hl 1 rfl) ?_
  refine lv_iconst (v := Int32.ofInt 0) hx hb dX10_row_6 rfl ?_
  refine va_put (D := (dC, dI)) (ci := 10) (v := .int (Int32.ofInt 0)) (ty := .int) (C := RX10) (T := TX10) (N := 16) hx hb hz zi_X10 tyX10 tyX10_ok nmX10 hown hK hP hD hS 0 rfl rfl 4 (by decide) (hz _ zw_481) (fun _ h9 => h9) rfl (by decide +kernel) rfl rfl (Nat.le_of_ble_eq_true rfl) dX10_row_7 (fun H locs hP hD hS => ?_)
  have hP : va_P (dC, dI) vwCl (wd_HS_row cA q0 q1 q2 q3 q4 q5 q6 q7 q8 q9 q10 q11 q12 q13 q14 q15 q16 q17 q18 q19 q20 q21 q22 q23 u0 u1 u2 u3 u4 i_tape i_hill_columns_many 0 i_latestGravel i_latestStatus i_hill_changes i_refusals i_hill_columns_heights i_hill_columns_weights) H := hP
  have hD : va_D A (wd_HS_row cA q0 q1 q2 q3 q4 q5 q6 q7 q8 q9 q10 q11 q12 q13 q14 q15 q16 q17 q18 q19 q20 q21 q22 q23 u0 u1 u2 u3 u4 i_tape i_hill_columns_many 0 i_latestGravel i_latestStatus i_hill_changes i_refusals i_hill_columns_heights i_hill_columns_weights) := hD
  refine lv_iload_n hx hb dX10_row_10 rfl (lv_at hl 0 rfl) ?_
  refine xi_if_eq (tgt := 33) hx hb dX10_row_11 (by decide) hf (fun hf => ?_) (fun hf => ?_)
  · exact b_33  _ _ _ _ _ _ _ _ _ _ hf hP hD hS (lv_sub hl [1] rfl)
  · refine lv_aload_n hx hb dX10_row_14 rfl (lv_at hl 1 rfl) ?_
    refine va_get (D := (dC, dI)) (ci := 10) (v := .ref q1) (C := RX10) (T := TX10) (N := 16) hx hb hz zi_X10 hown hK hP 0 rfl rfl 0 (by decide) (hz _ zw_477) (fun _ h9 => h9) rfl dX10_row_15 ?_
    refine va_getN (D := (dC, dI)) (ci := 2) (v := .ref q13) (C := RX2) (T := TX2) (N := 14) hx hb hz zi_X2 hown hK hP 1 rfl rfl 0 (by decide) (va_Nw.use rfl (hE.1.1 _ zw_169)) (fun _ h9 => h9) rfl dX10_row_18 ?_
    refine lv_aload_n hx hb dX10_row_21 rfl (lv_at hl 1 rfl) ?_
    refine va_get (D := (dC, dI)) (ci := 10) (v := .ref q4) (C := RX10) (T := TX10) (N := 16) hx hb hz zi_X10 hown hK hP 0 rfl rfl 3 (by decide) (hz _ zw_480) (fun _ h9 => h9) rfl dX10_row_22 ?_
    refine lv_iconst (v := Int32.ofInt 0) hx hb dX10_row_25 rfl ?_
    refine xi_iald hx hb hK hP 2 0 rfl rfl dX10_row_26 hf (fun v1 hf => ?_)
    refine xe_d1 hf (fun v2 hg hf => ?_)
    have hC : ([4] : List Nat).map (fun i => (wd_HS_row cA q0 q1 q2 q3 q4 q5 q6 q7 q8 q9 q10 q11 q12 q13 q14 q15 q16 q17 q18 q19 q20 q21 q22 q23 u0 u1 u2 u3 u4 i_tape i_hill_columns_many 0 i_latestGravel i_latestStatus i_hill_changes i_refusals i_hill_columns_heights i_hill_columns_weights)[i]?) = (wd_Columns_has cA q13 q22 q23 i_hill_columns_many).map some := rfl
    refine xv_afterI (ws' := (wd_HS_row cA q0 q1 q2 q3 q4 q5 q6 q7 q8 q9 q10 q11 q12 q13 q14 q15 q16 q17 q18 q19 q20 q21 q22 q23 u0 u1 u2 u3 u4 i_tape i_hill_columns_many 0 i_latestGravel i_latestStatus i_hill_changes i_refusals i_hill_columns_heights i_hill_columns_weights)) (isC := [4]) (ps := [none, none, none, none, some 0, none, none]) (va_runV (As := [.int (Int32.ofInt v1)]) (rest := []) ⟨hx, hb, hml, hown, hts⟩ (c_Columns_has l ev dC dI cA q13 q22 q23 hg H.size) (cwV 1 hts (zgV zw_546 zw_547 zw_548 zw_106 zw_549) rfl rfl rfl hd_Columns_has ⟨Nat.le_of_ble_eq_true rfl, Nat.le_of_ble_eq_true rfl⟩) (xv_preV (T := TX1) (N := 3) hE hA hS hK hP hD (isC := [4]) (by decide +kernel) hC (q0 := 4) (ci := 1) rfl rfl) rfl rfl hl.1 rfl (lv_room (Nat.le_of_ble_eq_true rfl)) dX10_row_27 ⟨Nat.le_refl _, Nat.le_refl _⟩) hP hD hS hA (by decide +kernel) rfl hC rfl rfl (fun H locs hP hD hS => ?_)
    refine xi_if_ne (tgt := 40) hx hb dX10_row_30 (by decide) hf (fun hf => ?_) (fun hf => ?_)
    · refine lv_iconst (v := Int32.ofInt 0) hx hb dX10_row_40 rfl ?_
      refine lv_istore_n (lv' := [(2, .int (Int32.ofInt 0)), (1, .int (Int32.ofInt i_taped)), (0, .ref q0)]) hx hb dX10_row_41 rfl hl (by decide) rfl (fun ls hl => ?_)
      refine lv_iconst (v := Int32.ofInt 1) hx hb dX10_row_42 rfl ?_
      refine lv_istore_n (lv' := [(3, .int (Int32.ofInt 1)), (2, .int (Int32.ofInt 0)), (1, .int (Int32.ofInt i_taped)), (0, .ref q0)]) hx hb dX10_row_43 rfl hl (by decide) rfl (fun ls hl => ?_)
      exact l_44  _ _ _ _ _ _ _ _ _ _ _ _ _ _ hf hP hD hS (lv_sub hl [3, 2, 1, 0] rfl)
    · exact b_33  _ _ _ _ _ _ _ _ _ _ hf hP hD hS (lv_sub hl [1] rfl)
theorem dX10_gravel_0 : decode cX10_gravel 0 = .ok (.aload_n 0, 1) := by decide +kernel
theorem dX10_gravel_1 : decode cX10_gravel 1 = .ok (.getfield 35, 3) := by decide +kernel
theorem dX10_gravel_4 : decode cX10_gravel 4 = .ok (.ireturn, 1) := by decide +kernel
theorem zw_641 : (Jvm.Cond.code ({ cls := "HillSchool", name := "gravel", desc := "()I" } : Jvm.MethodName) prog_1_method_15_code (1 : Nat) (Option.some Jvm.ClassFile.FieldType.int)) ∈ zall := zmemG (zmj_3 58 rfl) rfl
abbrev w_HS_gravel : List Cond := .code yX10_gravel cX10_gravel 1 (some .int) :: zall
abbrev rm_HS_gravel : Room := { frames := 0, cells := 0, slots := 0, locals := 0 }
theorem hd_HS_gravel : yX10_gravel.cls = "HillSchool" ∧ yX10_gravel.cls ≠ "java/lang/invoke/MethodHandle" ∧ yX10_gravel.cls ≠ "java/lang/invoke/VarHandle" ∧ (parseMethodDescriptor yX10_gravel.desc).map (fun d => d.parameters.length) = some 0 := by decide +kernel
def wd_HS_gravel (cA : Nat → ClassId) (q0 q1 q2 q3 q4 q5 q6 q7 q8 q9 q10 q11 q12 : Nat) (u0 u1 u2 : Int) (i_latestGravel : Int)  : va_W := [(q0, .inr (10, [.ref q1, .ref q2, .ref q3, .ref q4, .int (Int32.ofInt u0), .int (Int32.ofInt u1), .int (Int32.ofInt i_latestGravel), .ref q5, .int (Int32.ofInt u2), .ref q6, .ref q7, .ref q8, .ref q9, .ref q10, .ref q11, .ref q12]))]
def wf_HS_gravel (cA : Nat → ClassId) (q0 q1 q2 q3 q4 q5 q6 q7 q8 q9 q10 q11 q12 : Nat) (u0 u1 u2 : Int) (i_latestGravel : Int) (o : Int) : va_W := wd_HS_gravel cA q0 q1 q2 q3 q4 q5 q6 q7 q8 q9 q10 q11 q12 u0 u1 u2 i_latestGravel
def f_HS_gravel (i_latestGravel : Int) : Option (Int) :=
  some i_latestGravel
set_option maxHeartbeats 4000000 in
set_option maxRecDepth 100000 in
theorem c_HS_gravel (l : Launch) (ev : zEv) (dC : Nat → ClassId) (dI : Nat → Nat → Nat) (cA : Nat → ClassId) (q0 q1 q2 q3 q4 q5 q6 q7 q8 q9 q10 q11 q12 : Nat) (u0 u1 u2 : Int) {i_latestGravel : Int} {out : Int} (hf : f_HS_gravel i_latestGravel = some out) : xc_I l ev (dC, dI) vwCl (tyl cA) yX10_gravel w_HS_gravel rm_HS_gravel [.ref q0] (wd_HS_gravel cA q0 q1 q2 q3 q4 q5 q6 q7 q8 q9 q10 q11 q12 u0 u1 u2 i_latestGravel) (wf_HS_gravel cA q0 q1 q2 q3 q4 q5 q6 q7 q8 q9 q10 q11 q12 u0 u1 u2 i_latestGravel out) out := by
  refine xv_startI (cc := cX10_gravel) (maxL := 1) (rt := .int) (by decide +kernel) rfl (Nat.le_of_ble_eq_true rfl) ?_
  intro p e s m args below meth c A Q H ls hx hb hml hts hown hK hA hP hD hS hl hE hret
  have hown : s.vm.findClass "HillSchool" = some m.cls := hown
  have hz : ∀ w ∈ zall, w.before args s = true := fun w h => hts w (List.mem_cons_of_mem _ h)
  have hl : lv_has ls 1 [(0, .ref q0)] := hl
  unfold f_HS_gravel at hf
  refine lv_aload_n hx hb dX10_gravel_0 rfl (lv_at hl 0 rfl) ?_
  refine va_get (D := (dC, dI)) (ci := 10) (v := .int (Int32.ofInt i_latestGravel)) (C := RX10) (T := TX10) (N := 16) hx hb hz zi_X10 hown hK hP 0 rfl rfl 6 (by decide) (hz _ zw_483) (fun _ h9 => h9) rfl dX10_gravel_1 ?_
  obtain rfl := Option.some.inj hf
  exact hret _ _ _ _ rfl dX10_gravel_4 hP hD hS
theorem dX2_enact_0 : decode cX2_enact 0 = .ok (.aload_n 0, 1) := by decide +kernel
theorem dX2_enact_1 : decode cX2_enact 1 = .ok (.getfield 52, 3) := by decide +kernel
theorem dX2_enact_4 : decode cX2_enact 4 = .ok (.istore_n 2, 1) := by decide +kernel
theorem dX2_enact_5 : decode cX2_enact 5 = .ok (.iload_n 2, 1) := by decide +kernel
theorem dX2_enact_6 : decode cX2_enact 6 = .ok (.bipush 6, 2) := by decide +kernel
theorem dX2_enact_8 : decode cX2_enact 8 = .ok (.if_icmp .lt 5, 3) := by decide +kernel
theorem dX2_enact_11 : decode cX2_enact 11 = .ok (.iconst (-1), 1) := by decide +kernel
theorem dX2_enact_12 : decode cX2_enact 12 = .ok (.ireturn, 1) := by decide +kernel
theorem dX2_enact_13 : decode cX2_enact 13 = .ok (.aload_n 1, 1) := by decide +kernel
theorem dX2_enact_14 : decode cX2_enact 14 = .ok (.getfield 69, 3) := by decide +kernel
theorem dX2_enact_17 : decode cX2_enact 17 = .ok (.iconst 0, 1) := by decide +kernel
theorem dX2_enact_18 : decode cX2_enact 18 = .ok (.aload_n 0, 1) := by decide +kernel
theorem dX2_enact_19 : decode cX2_enact 19 = .ok (.getfield 57, 3) := by decide +kernel
theorem dX2_enact_22 : decode cX2_enact 22 = .ok (.iload_n 2, 1) := by decide +kernel
theorem dX2_enact_23 : decode cX2_enact 23 = .ok (.sipush 424, 3) := by decide +kernel
theorem dX2_enact_26 : decode cX2_enact 26 = .ok (.imul, 1) := by decide +kernel
theorem dX2_enact_27 : decode cX2_enact 27 = .ok (.aload_n 1, 1) := by decide +kernel
theorem dX2_enact_28 : decode cX2_enact 28 = .ok (.getfield 70, 3) := by decide +kernel
theorem dX2_enact_31 : decode cX2_enact 31 = .ok (.invokestatic 72, 3) := by decide +kernel
theorem dX2_enact_34 : decode cX2_enact 34 = .ok (.aload_n 0, 1) := by decide +kernel
theorem dX2_enact_35 : decode cX2_enact 35 = .ok (.getfield 60, 3) := by decide +kernel
theorem dX2_enact_38 : decode cX2_enact 38 = .ok (.iload_n 2, 1) := by decide +kernel
theorem dX2_enact_39 : decode cX2_enact 39 = .ok (.aload_n 1, 1) := by decide +kernel
theorem dX2_enact_40 : decode cX2_enact 40 = .ok (.getfield 70, 3) := by decide +kernel
theorem dX2_enact_43 : decode cX2_enact 43 = .ok (.iastore, 1) := by decide +kernel
theorem dX2_enact_44 : decode cX2_enact 44 = .ok (.aload_n 0, 1) := by decide +kernel
theorem dX2_enact_45 : decode cX2_enact 45 = .ok (.dup, 1) := by decide +kernel
theorem dX2_enact_46 : decode cX2_enact 46 = .ok (.getfield 52, 3) := by decide +kernel
theorem dX2_enact_49 : decode cX2_enact 49 = .ok (.iconst 1, 1) := by decide +kernel
theorem dX2_enact_50 : decode cX2_enact 50 = .ok (.iadd, 1) := by decide +kernel
theorem dX2_enact_51 : decode cX2_enact 51 = .ok (.putfield 52, 3) := by decide +kernel
theorem dX2_enact_54 : decode cX2_enact 54 = .ok (.iload_n 2, 1) := by decide +kernel
theorem dX2_enact_55 : decode cX2_enact 55 = .ok (.ireturn, 1) := by decide +kernel
theorem zw_121 : (Jvm.Cond.initialized "java/lang/System") ∈ zall := zmemG (zmj_1 18 rfl) rfl
theorem zw_196 : (Jvm.Cond.fieldLink "HillSchool$Hill" (52 : Nat) "HillSchool$Hill" "laws" "I") ∈ zall := zmemG (zmj_1 93 rfl) rfl
theorem zw_199 : (Jvm.Cond.fieldLink "HillSchool$Hill" (57 : Nat) "HillSchool$Hill" "orders" "[I") ∈ zall := zmemG (zmj_1 96 rfl) rfl
theorem zw_201 : (Jvm.Cond.fieldLink "HillSchool$Hill" (60 : Nat) "HillSchool$Hill" "ordered" "[I") ∈ zall := zmemG (zmj_1 98 rfl) rfl
theorem zw_249 : (Jvm.Cond.fieldLinkNest "HillSchool$Hill" (69 : Nat) "HillSchool$LawReader" "orders" "[I" "HillSchool") ∈ znest := zmemH (zmj_1 146 rfl) rfl
theorem zw_251 : (Jvm.Cond.fieldLinkNest "HillSchool$Hill" (70 : Nat) "HillSchool$LawReader" "ordered" "I" "HillSchool") ∈ znest := zmemH (zmj_1 148 rfl) rfl
theorem zw_782 : (Jvm.Cond.code ({ cls := "HillSchool$Hill", name := "enact", desc := "(LHillSchool$LawReader;)I" } : Jvm.MethodName) prog_4_method_5_code (3 : Nat) (Option.some Jvm.ClassFile.FieldType.int)) ∈ zall := zmemG (zmj_3 199 rfl) rfl
theorem zw_783 : (Jvm.Cond.methodLink "HillSchool$Hill" (72 : Nat) ({ cls := "java/lang/System", name := "arraycopy", desc := "(Ljava/lang/Object;ILjava/lang/Object;II)V" } : Jvm.MethodName)) ∈ zall := zmemG (zmj_3 200 rfl) rfl
theorem zw_784 : (Jvm.Cond.static ({ cls := "java/lang/System", name := "arraycopy", desc := "(Ljava/lang/Object;ILjava/lang/Object;II)V" } : Jvm.MethodName)) ∈ zall := zmemG (zmj_3 201 rfl) rfl
theorem zw_785 : (Jvm.Cond.native ({ cls := "java/lang/System", name := "arraycopy", desc := "(Ljava/lang/Object;ILjava/lang/Object;II)V" } : Jvm.MethodName)) ∈ zall := zmemG (zmj_3 202 rfl) rfl
abbrev w_Hill_enact : List Cond := .code yX2_enact cX2_enact 3 (some .int) :: zall
abbrev rm_Hill_enact : Room := { frames := 2, cells := 0, slots := 0, locals := 60 }
theorem hd_Hill_enact : yX2_enact.cls = "HillSchool$Hill" ∧ yX2_enact.cls ≠ "java/lang/invoke/MethodHandle" ∧ yX2_enact.cls ≠ "java/lang/invoke/VarHandle" ∧ (parseMethodDescriptor yX2_enact.desc).map (fun d => d.parameters.length) = some 1 := by decide +kernel
def wd_Hill_enact (cA : Nat → ClassId) (q0 q1 q2 q3 q4 q5 q6 q7 q8 q9 q10 q11 q12 q13 q14 : Nat) (u0 u1 u2 u3 u4 u5 : Int) (i_a1_ordered : Int) (i_a1_orders : Nat → Int) (i_laws : Int) (i_orders : Nat → Int) (i_ordered : Nat → Int) : va_W := [(q0, .inr (2, [.ref q1, .int (Int32.ofInt u0), .ref q2, .ref q3, .ref q4, .int (Int32.ofInt u1), .ref q5, .ref q6, .ref q7, .int (Int32.ofInt i_laws), .ref q8, .ref q9, .int (Int32.ofInt u2), .int (Int32.ofInt u3)])), (q10, .inr (4, [.ref q11, .int (Int32.ofInt i_a1_ordered), .ref q12, .ref q13, .ref q14, .int (Int32.ofInt u4), .int (Int32.ofInt u5)])), (q8, .inl (cA 0, 2544, .inl (za i_orders))), (q9, .inl (cA 0, 6, .inl (za i_ordered))), (q11, .inl (cA 0, 424, .inl (za i_a1_orders)))]
def wf_Hill_enact (cA : Nat → ClassId) (q0 q1 q2 q3 q4 q5 q6 q7 q8 q9 q10 q11 q12 q13 q14 : Nat) (u0 u1 u2 u3 u4 u5 : Int) (i_a1_ordered : Int) (i_a1_orders : Nat → Int) (o : Int × Int × (Nat → Int) × (Nat → Int)) : va_W := wd_Hill_enact cA q0 q1 q2 q3 q4 q5 q6 q7 q8 q9 q10 q11 q12 q13 q14 u0 u1 u2 u3 u4 u5 i_a1_ordered i_a1_orders o.2.1 o.2.2.1 o.2.2.2
def f_Hill_enact (i_a1_ordered : Int) (i_a1_orders : Nat → Int) (i_laws : Int) (i_orders : Nat → Int) (i_ordered : Nat → Int) : Option (Int × Int × (Nat → Int) × (Nat → Int)) :=
  if zi_w i_laws < zi_w 6 then
    zn (i_laws * 424) fun v1 =>
    zcp 424 i_a1_orders 0 2544 i_orders v1 i_a1_ordered fun a2 =>
    zs 6 i_ordered i_laws i_a1_ordered fun a3 =>
    zn (i_laws + 1) fun v4 =>
    some (i_laws, v4, a2, a3)
  else
    some ((-1), i_laws, i_orders, i_ordered)
set_option maxHeartbeats 4000000 in
set_option maxRecDepth 100000 in
theorem c_Hill_enact (l : Launch) (ev : zEv) (dC : Nat → ClassId) (dI : Nat → Nat → Nat) (cA : Nat → ClassId) (q0 q1 q2 q3 q4 q5 q6 q7 q8 q9 q10 q11 q12 q13 q14 : Nat) (u0 u1 u2 u3 u4 u5 : Int) {i_a1_ordered : Int} {i_a1_orders : Nat → Int} {i_laws : Int} {i_orders : Nat → Int} {i_ordered : Nat → Int} {out : Int × Int × (Nat → Int) × (Nat → Int)} (hf : f_Hill_enact i_a1_ordered i_a1_orders i_laws i_orders i_ordered = some out) : xc_I l ev (dC, dI) vwCl (tyl cA) yX2_enact w_Hill_enact rm_Hill_enact [.ref q0, .ref q10] (wd_Hill_enact cA q0 q1 q2 q3 q4 q5 q6 q7 q8 q9 q10 q11 q12 q13 q14 u0 u1 u2 u3 u4 u5 i_a1_ordered i_a1_orders i_laws i_orders i_ordered) (wf_Hill_enact cA q0 q1 q2 q3 q4 q5 q6 q7 q8 q9 q10 q11 q12 q13 q14 u0 u1 u2 u3 u4 u5 i_a1_ordered i_a1_orders out) out.1 := by
  refine xv_startI (cc := cX2_enact) (maxL := 3) (rt := .int) (by decide +kernel) rfl (Nat.le_of_ble_eq_true rfl) ?_
  intro p e s m args below meth c A Q H ls hx hb hml hts hown hK hA hP hD hS hl hE hret
  have hown : s.vm.findClass "HillSchool$Hill" = some m.cls := hown
  have hz : ∀ w ∈ zall, w.before args s = true := fun w h => hts w (List.mem_cons_of_mem _ h)
  have hl : lv_has ls 3 [(0, .ref q0), (1, .ref q10)] := hl
  unfold f_Hill_enact at hf
  refine lv_aload_n hx hb dX2_enact_0 rfl (lv_at hl 0 rfl) ?_
  refine va_get (D := (dC, dI)) (ci := 2) (v := .int (Int32.ofInt i_laws)) (C := RX2) (T := TX2) (N := 14) hx hb hz zi_X2 hown hK hP 0 rfl rfl 9 (by decide) (hz _ zw_196) (fun _ h9 => h9) rfl dX2_enact_1 ?_
  refine lv_istore_n (lv' := [(2, .int (Int32.ofInt i_laws)), (0, .ref q0), (1, .ref q10)]) hx hb dX2_enact_4 rfl hl (by decide) rfl (fun ls hl => ?_)
  refine lv_iload_n hx hb dX2_enact_5 rfl (lv_at hl 0 rfl) ?_
  refine lv_bipush (v := Int32.ofInt 6) hx hb dX2_enact_6 (by decide) ?_
  refine xi_icmp_lt (tgt := 13) hx hb dX2_enact_8 (by decide) hf (fun hf => ?_) (fun hf => ?_)
  · refine lv_aload_n hx hb dX2_enact_13 rfl (lv_at hl 2 rfl) ?_
    refine va_getN (D := (dC, dI)) (ci := 4) (v := .ref q11) (C := RX4) (T := TX4) (N := 7) hx hb hz zi_X4 hown hK hP 1 rfl rfl 0 (by decide) (va_Nw.use rfl (hE.1.1 _ zw_249)) (fun _ h9 => h9) rfl dX2_enact_14 ?_
    refine lv_iconst (v := Int32.ofInt 0) hx hb dX2_enact_17 rfl ?_
    refine lv_aload_n hx hb dX2_enact_18 rfl (lv_at hl 1 rfl) ?_
    refine va_get (D := (dC, dI)) (ci := 2) (v := .ref q8) (C := RX2) (T := TX2) (N := 14) hx hb hz zi_X2 hown hK hP 0 rfl rfl 10 (by decide) (hz _ zw_199) (fun _ h9 => h9) rfl dX2_enact_19 ?_
    refine lv_iload_n hx hb dX2_enact_22 rfl (lv_at hl 0 rfl) ?_
    refine lv_sipush (v := Int32.ofInt 424) hx hb dX2_enact_23 (by decide) ?_
    refine xi_imul hx hb dX2_enact_26 hf (fun v1 hf => ?_)
    refine lv_aload_n hx hb dX2_enact_27 rfl (lv_at hl 2 rfl) ?_
    refine va_getN (D := (dC, dI)) (ci := 4) (v := .int (Int32.ofInt i_a1_ordered)) (C := RX4) (T := TX4) (N := 7) hx hb hz zi_X4 hown hK hP 1 rfl rfl 1 (by decide) (va_Nw.use rfl (hE.1.1 _ zw_251)) (fun _ h9 => h9) rfl dX2_enact_28 ?_
    refine xi_copy hx hb (hml.trans hl.1.symm) hown (hz _ zw_783) (hz _ zw_785) (hz _ zw_784) (hz _ zw_121) hK hP hD hS 4 2 0 0 rfl rfl rfl rfl (Nat.le_of_ble_eq_true rfl) (by decide +kernel) dX2_enact_31 hf (fun a2 H locs hP hD hS hf => ?_)
    have hP : va_P (dC, dI) vwCl (wd_Hill_enact cA q0 q1 q2 q3 q4 q5 q6 q7 q8 q9 q10 q11 q12 q13 q14 u0 u1 u2 u3 u4 u5 i_a1_ordered i_a1_orders i_laws a2 i_ordered) H := hP
    have hD : va_D A (wd_Hill_enact cA q0 q1 q2 q3 q4 q5 q6 q7 q8 q9 q10 q11 q12 q13 q14 u0 u1 u2 u3 u4 u5 i_a1_ordered i_a1_orders i_laws a2 i_ordered) := hD
    refine lv_aload_n hx hb dX2_enact_34 rfl (lv_at hl 1 rfl) ?_
    refine va_get (D := (dC, dI)) (ci := 2) (v := .ref q9) (C := RX2) (T := TX2) (N := 14) hx hb hz zi_X2 hown hK hP 0 rfl rfl 11 (by decide) (hz _ zw_201) (fun _ h9 => h9) rfl dX2_enact_35 ?_
    refine lv_iload_n hx hb dX2_enact_38 rfl (lv_at hl 0 rfl) ?_
    refine lv_aload_n hx hb dX2_enact_39 rfl (lv_at hl 2 rfl) ?_
    refine va_getN (D := (dC, dI)) (ci := 4) (v := .int (Int32.ofInt i_a1_ordered)) (C := RX4) (T := TX4) (N := 7) hx hb hz zi_X4 hown hK hP 1 rfl rfl 1 (by decide) (va_Nw.use rfl (hE.1.1 _ zw_251)) (fun _ h9 => h9) rfl dX2_enact_40 ?_
    refine xi_iast hx hb hK hP hD hS 3 0 rfl rfl dX2_enact_43 hf (fun a3 H locs hP hD hS hf => ?_)
    have hP : va_P (dC, dI) vwCl (wd_Hill_enact cA q0 q1 q2 q3 q4 q5 q6 q7 q8 q9 q10 q11 q12 q13 q14 u0 u1 u2 u3 u4 u5 i_a1_ordered i_a1_orders i_laws a2 a3) H := hP
    have hD : va_D A (wd_Hill_enact cA q0 q1 q2 q3 q4 q5 q6 q7 q8 q9 q10 q11 q12 q13 q14 u0 u1 u2 u3 u4 u5 i_a1_ordered i_a1_orders i_laws a2 a3) := hD
    refine lv_aload_n hx hb dX2_enact_44 rfl (lv_at hl 1 rfl) ?_
    refine lv_dup hx hb dX2_enact_45 rfl ?_
    refine va_get (D := (dC, dI)) (ci := 2) (v := .int (Int32.ofInt i_laws)) (C := RX2) (T := TX2) (N := 14) hx hb hz zi_X2 hown hK hP 0 rfl rfl 9 (by decide) (hz _ zw_196) (fun _ h9 => h9) rfl dX2_enact_46 ?_
    refine lv_iconst (v := Int32.ofInt 1) hx hb dX2_enact_49 rfl ?_
    refine xi_iadd hx hb dX2_enact_50 hf (fun v4 hf => ?_)
    refine va_put (D := (dC, dI)) (ci := 2) (v := .int (Int32.ofInt v4)) (ty := .int) (C := RX2) (T := TX2) (N := 14) hx hb hz zi_X2 tyX2 tyX2_ok nmX2 hown hK hP hD hS 0 rfl rfl 9 (by decide) (hz _ zw_196) (fun _ h9 => h9) rfl (by decide +kernel) rfl rfl (Nat.le_of_ble_eq_true rfl) dX2_enact_51 (fun H locs hP hD hS => ?_)
    have hP : va_P (dC, dI) vwCl (wd_Hill_enact cA q0 q1 q2 q3 q4 q5 q6 q7 q8 q9 q10 q11 q12 q13 q14 u0 u1 u2 u3 u4 u5 i_a1_ordered i_a1_orders v4 a2 a3) H := hP
    have hD : va_D A (wd_Hill_enact cA q0 q1 q2 q3 q4 q5 q6 q7 q8 q9 q10 q11 q12 q13 q14 u0 u1 u2 u3 u4 u5 i_a1_ordered i_a1_orders v4 a2 a3) := hD
    refine lv_iload_n hx hb dX2_enact_54 rfl (lv_at hl 0 rfl) ?_
    obtain rfl := Option.some.inj hf
    exact hret _ _ _ _ rfl dX2_enact_55 hP hD hS
  · refine lv_iconst (v := Int32.ofInt (-1)) hx hb dX2_enact_11 rfl ?_
    obtain rfl := Option.some.inj hf
    exact hret _ _ _ _ rfl dX2_enact_12 hP hD hS
theorem dX4_order_0 : decode cX4_order 0 = .ok (.aload_n 0, 1) := by decide +kernel
theorem dX4_order_1 : decode cX4_order 1 = .ok (.getfield 15, 3) := by decide +kernel
theorem dX4_order_4 : decode cX4_order 4 = .ok (.sipush 424, 3) := by decide +kernel
theorem dX4_order_7 : decode cX4_order 7 = .ok (.if_icmp .lt 5, 3) := by decide +kernel
theorem dX4_order_10 : decode cX4_order 10 = .ok (.iconst (-1), 1) := by decide +kernel
theorem dX4_order_11 : decode cX4_order 11 = .ok (.ireturn, 1) := by decide +kernel
theorem dX4_order_12 : decode cX4_order 12 = .ok (.aload_n 0, 1) := by decide +kernel
theorem dX4_order_13 : decode cX4_order 13 = .ok (.getfield 11, 3) := by decide +kernel
theorem dX4_order_16 : decode cX4_order 16 = .ok (.aload_n 0, 1) := by decide +kernel
theorem dX4_order_17 : decode cX4_order 17 = .ok (.getfield 15, 3) := by decide +kernel
theorem dX4_order_20 : decode cX4_order 20 = .ok (.iload_n 2, 1) := by decide +kernel
theorem dX4_order_21 : decode cX4_order 21 = .ok (.iconst 4, 1) := by decide +kernel
theorem dX4_order_22 : decode cX4_order 22 = .ok (.ishl, 1) := by decide +kernel
theorem dX4_order_23 : decode cX4_order 23 = .ok (.iload_n 1, 1) := by decide +kernel
theorem dX4_order_24 : decode cX4_order 24 = .ok (.ior, 1) := by decide +kernel
theorem dX4_order_25 : decode cX4_order 25 = .ok (.iastore, 1) := by decide +kernel
theorem dX4_order_26 : decode cX4_order 26 = .ok (.aload_n 0, 1) := by decide +kernel
theorem dX4_order_27 : decode cX4_order 27 = .ok (.dup, 1) := by decide +kernel
theorem dX4_order_28 : decode cX4_order 28 = .ok (.getfield 15, 3) := by decide +kernel
theorem dX4_order_31 : decode cX4_order 31 = .ok (.iconst 1, 1) := by decide +kernel
theorem dX4_order_32 : decode cX4_order 32 = .ok (.iadd, 1) := by decide +kernel
theorem dX4_order_33 : decode cX4_order 33 = .ok (.putfield 15, 3) := by decide +kernel
theorem dX4_order_36 : decode cX4_order 36 = .ok (.aload_n 0, 1) := by decide +kernel
theorem dX4_order_37 : decode cX4_order 37 = .ok (.getfield 15, 3) := by decide +kernel
theorem dX4_order_40 : decode cX4_order 40 = .ok (.iconst 1, 1) := by decide +kernel
theorem dX4_order_41 : decode cX4_order 41 = .ok (.isub, 1) := by decide +kernel
theorem dX4_order_42 : decode cX4_order 42 = .ok (.ireturn, 1) := by decide +kernel
theorem zw_248 : (Jvm.Cond.fieldLink "HillSchool$LawReader" (11 : Nat) "HillSchool$LawReader" "orders" "[I") ∈ zall := zmemG (zmj_1 145 rfl) rfl
theorem zw_250 : (Jvm.Cond.fieldLink "HillSchool$LawReader" (15 : Nat) "HillSchool$LawReader" "ordered" "I") ∈ zall := zmemG (zmj_1 147 rfl) rfl
theorem zw_751 : (Jvm.Cond.code ({ cls := "HillSchool$LawReader", name := "order", desc := "(II)I" } : Jvm.MethodName) prog_6_method_10_code (3 : Nat) (Option.some Jvm.ClassFile.FieldType.int)) ∈ zall := zmemG (zmj_3 168 rfl) rfl
abbrev w_LawReader_order : List Cond := .code yX4_order cX4_order 3 (some .int) :: zall
abbrev rm_LawReader_order : Room := { frames := 0, cells := 0, slots := 0, locals := 0 }
theorem hd_LawReader_order : yX4_order.cls = "HillSchool$LawReader" ∧ yX4_order.cls ≠ "java/lang/invoke/MethodHandle" ∧ yX4_order.cls ≠ "java/lang/invoke/VarHandle" ∧ (parseMethodDescriptor yX4_order.desc).map (fun d => d.parameters.length) = some 2 := by decide +kernel
def wd_LawReader_order (cA : Nat → ClassId) (q0 q1 q2 q3 q4 : Nat) (u0 u1 : Int)  (i_ordered : Int) (i_orders : Nat → Int) : va_W := [(q0, .inr (4, [.ref q1, .int (Int32.ofInt i_ordered), .ref q2, .ref q3, .ref q4, .int (Int32.ofInt u0), .int (Int32.ofInt u1)])), (q1, .inl (cA 0, 424, .inl (za i_orders)))]
def wf_LawReader_order (cA : Nat → ClassId) (q0 q1 q2 q3 q4 : Nat) (u0 u1 : Int)  (o : Int × Int × (Nat → Int)) : va_W := wd_LawReader_order cA q0 q1 q2 q3 q4 u0 u1 o.2.1 o.2.2
def f_LawReader_order (x1 : Int) (x2 : Int) (i_ordered : Int) (i_orders : Nat → Int) : Option (Int × Int × (Nat → Int)) :=
  if zi_w i_ordered < zi_w 424 then
    zn (zi_shl x2 4) fun v1 =>
    zn (zi_or v1 x1) fun v2 =>
    zs 424 i_orders i_ordered v2 fun a3 =>
    zn (i_ordered + 1) fun v4 =>
    zn (v4 - 1) fun v5 =>
    some (v5, v4, a3)
  else
    some ((-1), i_ordered, i_orders)
set_option maxHeartbeats 4000000 in
set_option maxRecDepth 100000 in
theorem c_LawReader_order (l : Launch) (ev : zEv) (dC : Nat → ClassId) (dI : Nat → Nat → Nat) (cA : Nat → ClassId) (q0 q1 q2 q3 q4 : Nat) (u0 u1 : Int) {x1 x2 : Int} {i_ordered : Int} {i_orders : Nat → Int} {out : Int × Int × (Nat → Int)} (hf : f_LawReader_order x1 x2 i_ordered i_orders = some out) : xc_I l ev (dC, dI) vwCl (tyl cA) yX4_order w_LawReader_order rm_LawReader_order [.ref q0, .int (Int32.ofInt x1), .int (Int32.ofInt x2)] (wd_LawReader_order cA q0 q1 q2 q3 q4 u0 u1 i_ordered i_orders) (wf_LawReader_order cA q0 q1 q2 q3 q4 u0 u1 out) out.1 := by
  refine xv_startI (cc := cX4_order) (maxL := 3) (rt := .int) (by decide +kernel) rfl (Nat.le_of_ble_eq_true rfl) ?_
  intro p e s m args below meth c A Q H ls hx hb hml hts hown hK hA hP hD hS hl hE hret
  have hown : s.vm.findClass "HillSchool$LawReader" = some m.cls := hown
  have hz : ∀ w ∈ zall, w.before args s = true := fun w h => hts w (List.mem_cons_of_mem _ h)
  have hl : lv_has ls 3 [(0, .ref q0), (1, .int (Int32.ofInt x1)), (2, .int (Int32.ofInt x2))] := hl
  unfold f_LawReader_order at hf
  refine lv_aload_n hx hb dX4_order_0 rfl (lv_at hl 0 rfl) ?_
  refine va_get (D := (dC, dI)) (ci := 4) (v := .int (Int32.ofInt i_ordered)) (C := RX4) (T := TX4) (N := 7) hx hb hz zi_X4 hown hK hP 0 rfl rfl 1 (by decide) (hz _ zw_250) (fun _ h9 => h9) rfl dX4_order_1 ?_
  refine lv_sipush (v := Int32.ofInt 424) hx hb dX4_order_4 (by decide) ?_
  refine xi_icmp_lt (tgt := 12) hx hb dX4_order_7 (by decide) hf (fun hf => ?_) (fun hf => ?_)
  · refine lv_aload_n hx hb dX4_order_12 rfl (lv_at hl 0 rfl) ?_
    refine va_get (D := (dC, dI)) (ci := 4) (v := .ref q1) (C := RX4) (T := TX4) (N := 7) hx hb hz zi_X4 hown hK hP 0 rfl rfl 0 (by decide) (hz _ zw_248) (fun _ h9 => h9) rfl dX4_order_13 ?_
    refine lv_aload_n hx hb dX4_order_16 rfl (lv_at hl 0 rfl) ?_
    refine va_get (D := (dC, dI)) (ci := 4) (v := .int (Int32.ofInt i_ordered)) (C := RX4) (T := TX4) (N := 7) hx hb hz zi_X4 hown hK hP 0 rfl rfl 1 (by decide) (hz _ zw_250) (fun _ h9 => h9) rfl dX4_order_17 ?_
    refine lv_iload_n hx hb dX4_order_20 rfl (lv_at hl 2 rfl) ?_
    refine lv_iconst (v := Int32.ofInt 4) hx hb dX4_order_21 rfl ?_
    refine xi_ishl hx hb dX4_order_22 hf (fun v1 hf => ?_)
    refine lv_iload_n hx hb dX4_order_23 rfl (lv_at hl 1 rfl) ?_
    refine xi_ior hx hb dX4_order_24 hf (fun v2 hf => ?_)
    refine xi_iast hx hb hK hP hD hS 1 0 rfl rfl dX4_order_25 hf (fun a3 H locs hP hD hS hf => ?_)
    have hP : va_P (dC, dI) vwCl (wd_LawReader_order cA q0 q1 q2 q3 q4 u0 u1 i_ordered a3) H := hP
    have hD : va_D A (wd_LawReader_order cA q0 q1 q2 q3 q4 u0 u1 i_ordered a3) := hD
    refine lv_aload_n hx hb dX4_order_26 rfl (lv_at hl 0 rfl) ?_
    refine lv_dup hx hb dX4_order_27 rfl ?_
    refine va_get (D := (dC, dI)) (ci := 4) (v := .int (Int32.ofInt i_ordered)) (C := RX4) (T := TX4) (N := 7) hx hb hz zi_X4 hown hK hP 0 rfl rfl 1 (by decide) (hz _ zw_250) (fun _ h9 => h9) rfl dX4_order_28 ?_
    refine lv_iconst (v := Int32.ofInt 1) hx hb dX4_order_31 rfl ?_
    refine xi_iadd hx hb dX4_order_32 hf (fun v4 hf => ?_)
    refine va_put (D := (dC, dI)) (ci := 4) (v := .int (Int32.ofInt v4)) (ty := .int) (C := RX4) (T := TX4) (N := 7) hx hb hz zi_X4 tyX4 tyX4_ok nmX4 hown hK hP hD hS 0 rfl rfl 1 (by decide) (hz _ zw_250) (fun _ h9 => h9) rfl (by decide +kernel) rfl rfl (Nat.le_of_ble_eq_true rfl) dX4_order_33 (fun H locs hP hD hS => ?_)
    have hP : va_P (dC, dI) vwCl (wd_LawReader_order cA q0 q1 q2 q3 q4 u0 u1 v4 a3) H := hP
    have hD : va_D A (wd_LawReader_order cA q0 q1 q2 q3 q4 u0 u1 v4 a3) := hD
    refine lv_aload_n hx hb dX4_order_36 rfl (lv_at hl 0 rfl) ?_
    refine va_get (D := (dC, dI)) (ci := 4) (v := .int (Int32.ofInt v4)) (C := RX4) (T := TX4) (N := 7) hx hb hz zi_X4 hown hK hP 0 rfl rfl 1 (by decide) (hz _ zw_250) (fun _ h9 => h9) rfl dX4_order_37 ?_
    refine lv_iconst (v := Int32.ofInt 1) hx hb dX4_order_40 rfl ?_
    refine xi_isub hx hb dX4_order_41 hf (fun v5 hf => ?_)
    obtain rfl := Option.some.inj hf
    exact hret _ _ _ _ rfl dX4_order_42 hP hD hS
  · refine lv_iconst (v := Int32.ofInt (-1)) hx hb dX4_order_10 rfl ?_
    obtain rfl := Option.some.inj hf
    exact hret _ _ _ _ rfl dX4_order_11 hP hD hS
theorem dX4_pass_0 : decode cX4_pass 0 = .ok (.aload_n 0, 1) := by decide +kernel
theorem dX4_pass_1 : decode cX4_pass 1 = .ok (.getfield 19, 3) := by decide +kernel
theorem dX4_pass_4 : decode cX4_pass 4 = .ok (.aload_n 0, 1) := by decide +kernel
theorem dX4_pass_5 : decode cX4_pass 5 = .ok (.getfield 28, 3) := by decide +kernel
theorem dX4_pass_8 : decode cX4_pass 8 = .ok (.iaload, 1) := by decide +kernel
theorem dX4_pass_9 : decode cX4_pass 9 = .ok (.iload_n 1, 1) := by decide +kernel
theorem dX4_pass_10 : decode cX4_pass 10 = .ok (.if_icmp .ne 13, 3) := by decide +kernel
theorem dX4_pass_13 : decode cX4_pass 13 = .ok (.aload_n 0, 1) := by decide +kernel
theorem dX4_pass_14 : decode cX4_pass 14 = .ok (.getfield 28, 3) := by decide +kernel
theorem dX4_pass_17 : decode cX4_pass 17 = .ok (.sipush 400, 3) := by decide +kernel
theorem dX4_pass_20 : decode cX4_pass 20 = .ok (.if_icmp .lt 5, 3) := by decide +kernel
theorem dX4_pass_23 : decode cX4_pass 23 = .ok (.iconst 0, 1) := by decide +kernel
theorem dX4_pass_24 : decode cX4_pass 24 = .ok (.ireturn, 1) := by decide +kernel
theorem dX4_pass_25 : decode cX4_pass 25 = .ok (.aload_n 0, 1) := by decide +kernel
theorem dX4_pass_26 : decode cX4_pass 26 = .ok (.dup, 1) := by decide +kernel
theorem dX4_pass_27 : decode cX4_pass 27 = .ok (.getfield 28, 3) := by decide +kernel
theorem dX4_pass_30 : decode cX4_pass 30 = .ok (.iconst 1, 1) := by decide +kernel
theorem dX4_pass_31 : decode cX4_pass 31 = .ok (.iadd, 1) := by decide +kernel
theorem dX4_pass_32 : decode cX4_pass 32 = .ok (.putfield 28, 3) := by decide +kernel
theorem dX4_pass_35 : decode cX4_pass 35 = .ok (.iconst 1, 1) := by decide +kernel
theorem dX4_pass_36 : decode cX4_pass 36 = .ok (.ireturn, 1) := by decide +kernel
theorem zw_252 : (Jvm.Cond.fieldLink "HillSchool$LawReader" (19 : Nat) "HillSchool$LawReader" "tokens" "[I") ∈ zall := zmemG (zmj_1 149 rfl) rfl
theorem zw_255 : (Jvm.Cond.fieldLink "HillSchool$LawReader" (28 : Nat) "HillSchool$LawReader" "at" "I") ∈ zall := zmemG (zmj_1 152 rfl) rfl
theorem zw_755 : (Jvm.Cond.code ({ cls := "HillSchool$LawReader", name := "pass", desc := "(I)Z" } : Jvm.MethodName) prog_6_method_9_code (2 : Nat) (Option.some Jvm.ClassFile.FieldType.boolean)) ∈ zall := zmemG (zmj_3 172 rfl) rfl
abbrev w_LawReader_pass : List Cond := .code yX4_pass cX4_pass 2 (some .boolean) :: zall
abbrev rm_LawReader_pass : Room := { frames := 0, cells := 0, slots := 0, locals := 0 }
theorem hd_LawReader_pass : yX4_pass.cls = "HillSchool$LawReader" ∧ yX4_pass.cls ≠ "java/lang/invoke/MethodHandle" ∧ yX4_pass.cls ≠ "java/lang/invoke/VarHandle" ∧ (parseMethodDescriptor yX4_pass.desc).map (fun d => d.parameters.length) = some 1 := by decide +kernel
def wd_LawReader_pass (cA : Nat → ClassId) (q0 q1 q2 q3 q4 : Nat) (u0 u1 : Int) (i_tokens : Nat → Int) (i_at : Int) : va_W := [(q0, .inr (4, [.ref q1, .int (Int32.ofInt u0), .ref q2, .ref q3, .ref q4, .int (Int32.ofInt i_at), .int (Int32.ofInt u1)])), (q2, .inl (cA 0, 401, .inl (za i_tokens)))]
def wf_LawReader_pass (cA : Nat → ClassId) (q0 q1 q2 q3 q4 : Nat) (u0 u1 : Int) (i_tokens : Nat → Int) (o : Int × Int) : va_W := wd_LawReader_pass cA q0 q1 q2 q3 q4 u0 u1 i_tokens o.2
def f_LawReader_pass (x1 : Int) (i_tokens : Nat → Int) (i_at : Int) : Option (Int × Int) :=
  zg 401 i_tokens i_at fun v1 =>
  if zi_w v1 ≠ zi_w x1 then
    some (0, i_at)
  else
    if zi_w i_at < zi_w 400 then
      zn (i_at + 1) fun v2 =>
      some (1, v2)
    else
      some (0, i_at)
set_option maxHeartbeats 4000000 in
set_option maxRecDepth 100000 in
theorem c_LawReader_pass (l : Launch) (ev : zEv) (dC : Nat → ClassId) (dI : Nat → Nat → Nat) (cA : Nat → ClassId) (q0 q1 q2 q3 q4 : Nat) (u0 u1 : Int) {x1 : Int} {i_tokens : Nat → Int} {i_at : Int} {out : Int × Int} (hf : f_LawReader_pass x1 i_tokens i_at = some out) : xc_I l ev (dC, dI) vwCl (tyl cA) yX4_pass w_LawReader_pass rm_LawReader_pass [.ref q0, .int (Int32.ofInt x1)] (wd_LawReader_pass cA q0 q1 q2 q3 q4 u0 u1 i_tokens i_at) (wf_LawReader_pass cA q0 q1 q2 q3 q4 u0 u1 i_tokens out) out.1 := by
  refine xv_startI (cc := cX4_pass) (maxL := 2) (rt := .boolean) (by decide +kernel) rfl (Nat.le_of_ble_eq_true rfl) ?_
  intro p e s m args below meth c A Q H ls hx hb hml hts hown hK hA hP hD hS hl hE hret
  have hown : s.vm.findClass "HillSchool$LawReader" = some m.cls := hown
  have hz : ∀ w ∈ zall, w.before args s = true := fun w h => hts w (List.mem_cons_of_mem _ h)
  have hl : lv_has ls 2 [(0, .ref q0), (1, .int (Int32.ofInt x1))] := hl
  unfold f_LawReader_pass at hf
  refine lv_aload_n hx hb dX4_pass_0 rfl (lv_at hl 0 rfl) ?_
  refine va_get (D := (dC, dI)) (ci := 4) (v := .ref q2) (C := RX4) (T := TX4) (N := 7) hx hb hz zi_X4 hown hK hP 0 rfl rfl 2 (by decide) (hz _ zw_252) (fun _ h9 => h9) rfl dX4_pass_1 ?_
  refine lv_aload_n hx hb dX4_pass_4 rfl (lv_at hl 0 rfl) ?_
  refine va_get (D := (dC, dI)) (ci := 4) (v := .int (Int32.ofInt i_at)) (C := RX4) (T := TX4) (N := 7) hx hb hz zi_X4 hown hK hP 0 rfl rfl 5 (by decide) (hz _ zw_255) (fun _ h9 => h9) rfl dX4_pass_5 ?_
  refine xi_iald hx hb hK hP 1 0 rfl rfl dX4_pass_8 hf (fun v1 hf => ?_)
  refine lv_iload_n hx hb dX4_pass_9 rfl (lv_at hl 1 rfl) ?_
  refine xi_icmp_ne (tgt := 23) hx hb dX4_pass_10 (by decide) hf (fun hf => ?_) (fun hf => ?_)
  · refine lv_iconst (v := Int32.ofInt 0) hx hb dX4_pass_23 rfl ?_
    obtain rfl := Option.some.inj hf
    exact hret _ _ _ _ zz_b0 dX4_pass_24 hP hD hS
  · refine lv_aload_n hx hb dX4_pass_13 rfl (lv_at hl 0 rfl) ?_
    refine va_get (D := (dC, dI)) (ci := 4) (v := .int (Int32.ofInt i_at)) (C := RX4) (T := TX4) (N := 7) hx hb hz zi_X4 hown hK hP 0 rfl rfl 5 (by decide) (hz _ zw_255) (fun _ h9 => h9) rfl dX4_pass_14 ?_
    refine lv_sipush (v := Int32.ofInt 400) hx hb dX4_pass_17 (by decide) ?_
    refine xi_icmp_lt (tgt := 25) hx hb dX4_pass_20 (by decide) hf (fun hf => ?_) (fun hf => ?_)
    · refine lv_aload_n hx hb dX4_pass_25 rfl (lv_at hl 0 rfl) ?_
      refine lv_dup hx hb dX4_pass_26 rfl ?_
      refine va_get (D := (dC, dI)) (ci := 4) (v := .int (Int32.ofInt i_at)) (C := RX4) (T := TX4) (N := 7) hx hb hz zi_X4 hown hK hP 0 rfl rfl 5 (by decide) (hz _ zw_255) (fun _ h9 => h9) rfl dX4_pass_27 ?_
      refine lv_iconst (v := Int32.ofInt 1) hx hb dX4_pass_30 rfl ?_
      refine xi_iadd hx hb dX4_pass_31 hf (fun v2 hf => ?_)
      refine va_put (D := (dC, dI)) (ci := 4) (v := .int (Int32.ofInt v2)) (ty := .int) (C := RX4) (T := TX4) (N := 7) hx hb hz zi_X4 tyX4 tyX4_ok nmX4 hown hK hP hD hS 0 rfl rfl 5 (by decide) (hz _ zw_255) (fun _ h9 => h9) rfl (by decide +kernel) rfl rfl (Nat.le_of_ble_eq_true rfl) dX4_pass_32 (fun H locs hP hD hS => ?_)
      have hP : va_P (dC, dI) vwCl (wd_LawReader_pass cA q0 q1 q2 q3 q4 u0 u1 i_tokens v2) H := hP
      have hD : va_D A (wd_LawReader_pass cA q0 q1 q2 q3 q4 u0 u1 i_tokens v2) := hD
      refine lv_iconst (v := Int32.ofInt 1) hx hb dX4_pass_35 rfl ?_
      obtain rfl := Option.some.inj hf
      exact hret _ _ _ _ zz_b1 dX4_pass_36 hP hD hS
    · refine lv_iconst (v := Int32.ofInt 0) hx hb dX4_pass_23 rfl ?_
      obtain rfl := Option.some.inj hf
      exact hret _ _ _ _ zz_b0 dX4_pass_24 hP hD hS
theorem dX4_comparisonOf_0 : decode cX4_comparisonOf 0 = .ok (.iload_n 0, 1) := by decide +kernel
theorem dX4_comparisonOf_1 : decode cX4_comparisonOf 1 = .ok (.tableswitch 36 60 62 #[27, 33, 30], 27) := by decide +kernel
theorem dX4_comparisonOf_28 : decode cX4_comparisonOf 28 = .ok (.bipush 7, 2) := by decide +kernel
theorem dX4_comparisonOf_30 : decode cX4_comparisonOf 30 = .ok (.ireturn, 1) := by decide +kernel
theorem dX4_comparisonOf_31 : decode cX4_comparisonOf 31 = .ok (.bipush 8, 2) := by decide +kernel
theorem dX4_comparisonOf_33 : decode cX4_comparisonOf 33 = .ok (.ireturn, 1) := by decide +kernel
theorem dX4_comparisonOf_34 : decode cX4_comparisonOf 34 = .ok (.bipush 9, 2) := by decide +kernel
theorem dX4_comparisonOf_36 : decode cX4_comparisonOf 36 = .ok (.ireturn, 1) := by decide +kernel
theorem dX4_comparisonOf_37 : decode cX4_comparisonOf 37 = .ok (.iconst (-1), 1) := by decide +kernel
theorem dX4_comparisonOf_38 : decode cX4_comparisonOf 38 = .ok (.ireturn, 1) := by decide +kernel
theorem zw_774 : (Jvm.Cond.code ({ cls := "HillSchool$LawReader", name := "comparisonOf", desc := "(I)I" } : Jvm.MethodName) prog_6_method_6_code (1 : Nat) (Option.some Jvm.ClassFile.FieldType.int)) ∈ zall := zmemG (zmj_3 191 rfl) rfl
abbrev w_LawReader_comparisonOf : List Cond := .code yX4_comparisonOf cX4_comparisonOf 1 (some .int) :: zall
abbrev rm_LawReader_comparisonOf : Room := { frames := 0, cells := 0, slots := 0, locals := 0 }
theorem hd_LawReader_comparisonOf : yX4_comparisonOf.cls = yX4_comparisonOf.cls ∧ yX4_comparisonOf.cls ≠ "java/lang/invoke/MethodHandle" ∧ yX4_comparisonOf.cls ≠ "java/lang/invoke/VarHandle" ∧ (parseMethodDescriptor yX4_comparisonOf.desc).map (fun d => d.parameters.length) = some 1 := by decide +kernel
def wd_LawReader_comparisonOf (cA : Nat → ClassId)   : va_W := []
def wf_LawReader_comparisonOf (cA : Nat → ClassId)  (o : Int) : va_W := wd_LawReader_comparisonOf cA
def f_LawReader_comparisonOf (x0 : Int) : Option (Int) :=
  if zi_w x0 = 60 then
    some 7
  else if zi_w x0 = 61 then
    some 9
  else if zi_w x0 = 62 then
    some 8
  else
    some (-1)
set_option maxHeartbeats 4000000 in
set_option maxRecDepth 100000 in
theorem c_LawReader_comparisonOf (l : Launch) (ev : zEv) (dC : Nat → ClassId) (dI : Nat → Nat → Nat) (cA : Nat → ClassId) {x0 : Int} {out : Int} (hf : f_LawReader_comparisonOf x0 = some out) : xc_I l ev (dC, dI) vwCl (tyl cA) yX4_comparisonOf w_LawReader_comparisonOf rm_LawReader_comparisonOf [.int (Int32.ofInt x0)] (wd_LawReader_comparisonOf cA) (wf_LawReader_comparisonOf cA out) out := by
  refine xv_startI (cc := cX4_comparisonOf) (maxL := 1) (rt := .int) (by decide +kernel) rfl (Nat.le_of_ble_eq_true rfl) ?_
  intro p e s m args below meth c A Q H ls hx hb hml hts hown hK hA hP hD hS hl hE hret
  have hown : s.vm.findClass "HillSchool$LawReader" = some m.cls := hown
  have hz : ∀ w ∈ zall, w.before args s = true := fun w h => hts w (List.mem_cons_of_mem _ h)
  have hl : lv_has ls 1 [(0, .int (Int32.ofInt x0))] := hl
  unfold f_LawReader_comparisonOf at hf
  refine lv_iload_n hx hb dX4_comparisonOf_0 rfl (lv_at hl 0 rfl) ?_
  refine xz_if hf (fun hc hf => ?_) (fun hn0 hf => ?_)
  · refine xi_tin (tgt := 28) hx hb dX4_comparisonOf_1 hc (by decide) (by decide) rfl (by decide) ?_
    refine lv_bipush (v := Int32.ofInt 7) hx hb dX4_comparisonOf_28 (by decide) ?_
    obtain rfl := Option.some.inj hf
    exact hret _ _ _ _ rfl dX4_comparisonOf_30 hP hD hS
  refine xz_if hf (fun hc hf => ?_) (fun hn1 hf => ?_)
  · refine xi_tin (tgt := 34) hx hb dX4_comparisonOf_1 hc (by decide) (by decide) rfl (by decide) ?_
    refine lv_bipush (v := Int32.ofInt 9) hx hb dX4_comparisonOf_34 (by decide) ?_
    obtain rfl := Option.some.inj hf
    exact hret _ _ _ _ rfl dX4_comparisonOf_36 hP hD hS
  refine xz_if hf (fun hc hf => ?_) (fun hn2 hf => ?_)
  · refine xi_tin (tgt := 31) hx hb dX4_comparisonOf_1 hc (by decide) (by decide) rfl (by decide) ?_
    refine lv_bipush (v := Int32.ofInt 8) hx hb dX4_comparisonOf_31 (by decide) ?_
    obtain rfl := Option.some.inj hf
    exact hret _ _ _ _ rfl dX4_comparisonOf_33 hP hD hS
  refine xi_tout (tgt := 37) hx hb dX4_comparisonOf_1 (by omega) (by decide) ?_
  refine lv_iconst (v := Int32.ofInt (-1)) hx hb dX4_comparisonOf_37 rfl ?_
  obtain rfl := Option.some.inj hf
  exact hret _ _ _ _ rfl dX4_comparisonOf_38 hP hD hS
theorem dX4_readSum_0 : decode cX4_readSum 0 = .ok (.iconst (-1), 1) := by decide +kernel
theorem dX4_readSum_1 : decode cX4_readSum 1 = .ok (.istore_n 2, 1) := by decide +kernel
theorem dX4_readSum_2 : decode cX4_readSum 2 = .ok (.iconst (-1), 1) := by decide +kernel
theorem dX4_readSum_3 : decode cX4_readSum 3 = .ok (.istore_n 3, 1) := by decide +kernel
theorem dX4_readSum_4 : decode cX4_readSum 4 = .ok (.iconst 0, 1) := by decide +kernel
theorem dX4_readSum_5 : decode cX4_readSum 5 = .ok (.istore 4, 2) := by decide +kernel
theorem dX4_readSum_7 : decode cX4_readSum 7 = .ok (.iload 4, 2) := by decide +kernel
theorem dX4_readSum_9 : decode cX4_readSum 9 = .ok (.sipush 400, 3) := by decide +kernel
theorem dX4_readSum_12 : decode cX4_readSum 12 = .ok (.if_icmp .ge 113, 3) := by decide +kernel
theorem dX4_readSum_15 : decode cX4_readSum 15 = .ok (.aload_n 0, 1) := by decide +kernel
theorem dX4_readSum_16 : decode cX4_readSum 16 = .ok (.iload_n 1, 1) := by decide +kernel
theorem dX4_readSum_17 : decode cX4_readSum 17 = .ok (.invokevirtual 75, 3) := by decide +kernel
theorem dX4_readSum_20 : decode cX4_readSum 20 = .ok (.ifCond .eq 105, 3) := by decide +kernel
theorem dX4_readSum_23 : decode cX4_readSum 23 = .ok (.iload_n 2, 1) := by decide +kernel
theorem dX4_readSum_24 : decode cX4_readSum 24 = .ok (.iconst (-1), 1) := by decide +kernel
theorem dX4_readSum_25 : decode cX4_readSum 25 = .ok (.if_icmp .eq 10, 3) := by decide +kernel
theorem dX4_readSum_28 : decode cX4_readSum 28 = .ok (.aload_n 0, 1) := by decide +kernel
theorem dX4_readSum_29 : decode cX4_readSum 29 = .ok (.iload_n 2, 1) := by decide +kernel
theorem dX4_readSum_30 : decode cX4_readSum 30 = .ok (.iconst 0, 1) := by decide +kernel
theorem dX4_readSum_31 : decode cX4_readSum 31 = .ok (.invokevirtual 55, 3) := by decide +kernel
theorem dX4_readSum_34 : decode cX4_readSum 34 = .ok (.pop, 1) := by decide +kernel
theorem dX4_readSum_35 : decode cX4_readSum 35 = .ok (.aload_n 0, 1) := by decide +kernel
theorem dX4_readSum_36 : decode cX4_readSum 36 = .ok (.bipush 42, 2) := by decide +kernel
theorem dX4_readSum_38 : decode cX4_readSum 38 = .ok (.invokevirtual 51, 3) := by decide +kernel
theorem dX4_readSum_41 : decode cX4_readSum 41 = .ok (.ifCond .eq 7, 3) := by decide +kernel
theorem dX4_readSum_44 : decode cX4_readSum 44 = .ok (.iconst 5, 1) := by decide +kernel
theorem dX4_readSum_45 : decode cX4_readSum 45 = .ok (.goto 18, 3) := by decide +kernel
theorem dX4_readSum_48 : decode cX4_readSum 48 = .ok (.aload_n 0, 1) := by decide +kernel
theorem dX4_readSum_49 : decode cX4_readSum 49 = .ok (.bipush 47, 2) := by decide +kernel
theorem dX4_readSum_51 : decode cX4_readSum 51 = .ok (.invokevirtual 51, 3) := by decide +kernel
theorem dX4_readSum_54 : decode cX4_readSum 54 = .ok (.ifCond .eq 8, 3) := by decide +kernel
theorem dX4_readSum_57 : decode cX4_readSum 57 = .ok (.bipush 6, 2) := by decide +kernel
theorem dX4_readSum_59 : decode cX4_readSum 59 = .ok (.goto 4, 3) := by decide +kernel
theorem dX4_readSum_62 : decode cX4_readSum 62 = .ok (.iconst (-1), 1) := by decide +kernel
theorem dX4_readSum_63 : decode cX4_readSum 63 = .ok (.istore_n 2, 1) := by decide +kernel
theorem dX4_readSum_64 : decode cX4_readSum 64 = .ok (.iload_n 2, 1) := by decide +kernel
theorem dX4_readSum_65 : decode cX4_readSum 65 = .ok (.iconst (-1), 1) := by decide +kernel
theorem dX4_readSum_66 : decode cX4_readSum 66 = .ok (.if_icmp .eq 6, 3) := by decide +kernel
theorem dX4_readSum_69 : decode cX4_readSum 69 = .ok (.goto 50, 3) := by decide +kernel
theorem dX4_readSum_72 : decode cX4_readSum 72 = .ok (.iload_n 3, 1) := by decide +kernel
theorem dX4_readSum_73 : decode cX4_readSum 73 = .ok (.iconst (-1), 1) := by decide +kernel
theorem dX4_readSum_74 : decode cX4_readSum 74 = .ok (.if_icmp .eq 10, 3) := by decide +kernel
theorem dX4_readSum_77 : decode cX4_readSum 77 = .ok (.aload_n 0, 1) := by decide +kernel
theorem dX4_readSum_78 : decode cX4_readSum 78 = .ok (.iload_n 3, 1) := by decide +kernel
theorem dX4_readSum_79 : decode cX4_readSum 79 = .ok (.iconst 0, 1) := by decide +kernel
theorem dX4_readSum_80 : decode cX4_readSum 80 = .ok (.invokevirtual 55, 3) := by decide +kernel
theorem dX4_readSum_83 : decode cX4_readSum 83 = .ok (.pop, 1) := by decide +kernel
theorem dX4_readSum_84 : decode cX4_readSum 84 = .ok (.aload_n 0, 1) := by decide +kernel
theorem dX4_readSum_85 : decode cX4_readSum 85 = .ok (.bipush 43, 2) := by decide +kernel
theorem dX4_readSum_87 : decode cX4_readSum 87 = .ok (.invokevirtual 51, 3) := by decide +kernel
theorem dX4_readSum_90 : decode cX4_readSum 90 = .ok (.ifCond .eq 7, 3) := by decide +kernel
theorem dX4_readSum_93 : decode cX4_readSum 93 = .ok (.iconst 3, 1) := by decide +kernel
theorem dX4_readSum_94 : decode cX4_readSum 94 = .ok (.goto 17, 3) := by decide +kernel
theorem dX4_readSum_97 : decode cX4_readSum 97 = .ok (.aload_n 0, 1) := by decide +kernel
theorem dX4_readSum_98 : decode cX4_readSum 98 = .ok (.bipush 45, 2) := by decide +kernel
theorem dX4_readSum_100 : decode cX4_readSum 100 = .ok (.invokevirtual 51, 3) := by decide +kernel
theorem dX4_readSum_103 : decode cX4_readSum 103 = .ok (.ifCond .eq 7, 3) := by decide +kernel
theorem dX4_readSum_106 : decode cX4_readSum 106 = .ok (.iconst 4, 1) := by decide +kernel
theorem dX4_readSum_107 : decode cX4_readSum 107 = .ok (.goto 4, 3) := by decide +kernel
theorem dX4_readSum_110 : decode cX4_readSum 110 = .ok (.iconst (-1), 1) := by decide +kernel
theorem dX4_readSum_111 : decode cX4_readSum 111 = .ok (.istore_n 3, 1) := by decide +kernel
theorem dX4_readSum_112 : decode cX4_readSum 112 = .ok (.iload_n 3, 1) := by decide +kernel
theorem dX4_readSum_113 : decode cX4_readSum 113 = .ok (.iconst (-1), 1) := by decide +kernel
theorem dX4_readSum_114 : decode cX4_readSum 114 = .ok (.if_icmp .ne 5, 3) := by decide +kernel
theorem dX4_readSum_117 : decode cX4_readSum 117 = .ok (.iconst 1, 1) := by decide +kernel
theorem dX4_readSum_118 : decode cX4_readSum 118 = .ok (.ireturn, 1) := by decide +kernel
theorem dX4_readSum_119 : decode cX4_readSum 119 = .ok (.iinc 4 1, 3) := by decide +kernel
theorem dX4_readSum_122 : decode cX4_readSum 122 = .ok (.goto (-115), 3) := by decide +kernel
theorem dX4_readSum_125 : decode cX4_readSum 125 = .ok (.iconst 0, 1) := by decide +kernel
theorem dX4_readSum_126 : decode cX4_readSum 126 = .ok (.ireturn, 1) := by decide +kernel
theorem dX4_readPart_0 : decode cX4_readPart 0 = .ok (.aload_n 0, 1) := by decide +kernel
theorem dX4_readPart_1 : decode cX4_readPart 1 = .ok (.getfield 19, 3) := by decide +kernel
theorem dX4_readPart_4 : decode cX4_readPart 4 = .ok (.aload_n 0, 1) := by decide +kernel
theorem dX4_readPart_5 : decode cX4_readPart 5 = .ok (.getfield 28, 3) := by decide +kernel
theorem dX4_readPart_8 : decode cX4_readPart 8 = .ok (.iaload, 1) := by decide +kernel
theorem dX4_readPart_9 : decode cX4_readPart 9 = .ok (.bipush 91, 2) := by decide +kernel
theorem dX4_readPart_11 : decode cX4_readPart 11 = .ok (.if_icmp .ne 43, 3) := by decide +kernel
theorem dX4_readPart_14 : decode cX4_readPart 14 = .ok (.iload_n 1, 1) := by decide +kernel
theorem dX4_readPart_15 : decode cX4_readPart 15 = .ok (.bipush 8, 2) := by decide +kernel
theorem dX4_readPart_17 : decode cX4_readPart 17 = .ok (.if_icmp .ge 35, 3) := by decide +kernel
theorem dX4_readPart_20 : decode cX4_readPart 20 = .ok (.aload_n 0, 1) := by decide +kernel
theorem dX4_readPart_21 : decode cX4_readPart 21 = .ok (.bipush 91, 2) := by decide +kernel
theorem dX4_readPart_23 : decode cX4_readPart 23 = .ok (.invokevirtual 51, 3) := by decide +kernel
theorem dX4_readPart_26 : decode cX4_readPart 26 = .ok (.ifCond .eq 26, 3) := by decide +kernel
theorem dX4_readPart_29 : decode cX4_readPart 29 = .ok (.aload_n 0, 1) := by decide +kernel
theorem dX4_readPart_30 : decode cX4_readPart 30 = .ok (.iload_n 1, 1) := by decide +kernel
theorem dX4_readPart_31 : decode cX4_readPart 31 = .ok (.iconst 1, 1) := by decide +kernel
theorem dX4_readPart_32 : decode cX4_readPart 32 = .ok (.iadd, 1) := by decide +kernel
theorem dX4_readPart_33 : decode cX4_readPart 33 = .ok (.invokevirtual 58, 3) := by decide +kernel
theorem dX4_readPart_36 : decode cX4_readPart 36 = .ok (.ifCond .eq 16, 3) := by decide +kernel
theorem dX4_readPart_39 : decode cX4_readPart 39 = .ok (.aload_n 0, 1) := by decide +kernel
theorem dX4_readPart_40 : decode cX4_readPart 40 = .ok (.bipush 93, 2) := by decide +kernel
theorem dX4_readPart_42 : decode cX4_readPart 42 = .ok (.invokevirtual 51, 3) := by decide +kernel
theorem dX4_readPart_45 : decode cX4_readPart 45 = .ok (.ifCond .eq 7, 3) := by decide +kernel
theorem dX4_readPart_48 : decode cX4_readPart 48 = .ok (.iconst 1, 1) := by decide +kernel
theorem dX4_readPart_49 : decode cX4_readPart 49 = .ok (.goto 4, 3) := by decide +kernel
theorem dX4_readPart_52 : decode cX4_readPart 52 = .ok (.iconst 0, 1) := by decide +kernel
theorem dX4_readPart_53 : decode cX4_readPart 53 = .ok (.ireturn, 1) := by decide +kernel
theorem dX4_readPart_54 : decode cX4_readPart 54 = .ok (.aload_n 0, 1) := by decide +kernel
theorem dX4_readPart_55 : decode cX4_readPart 55 = .ok (.getfield 19, 3) := by decide +kernel
theorem dX4_readPart_58 : decode cX4_readPart 58 = .ok (.aload_n 0, 1) := by decide +kernel
theorem dX4_readPart_59 : decode cX4_readPart 59 = .ok (.getfield 28, 3) := by decide +kernel
theorem dX4_readPart_62 : decode cX4_readPart 62 = .ok (.iaload, 1) := by decide +kernel
theorem dX4_readPart_63 : decode cX4_readPart 63 = .ok (.sipush 258, 3) := by decide +kernel
theorem dX4_readPart_66 : decode cX4_readPart 66 = .ok (.if_icmp .ne 7, 3) := by decide +kernel
theorem dX4_readPart_69 : decode cX4_readPart 69 = .ok (.iconst 1, 1) := by decide +kernel
theorem dX4_readPart_70 : decode cX4_readPart 70 = .ok (.goto 4, 3) := by decide +kernel
theorem dX4_readPart_73 : decode cX4_readPart 73 = .ok (.iconst 0, 1) := by decide +kernel
theorem dX4_readPart_74 : decode cX4_readPart 74 = .ok (.istore_n 2, 1) := by decide +kernel
theorem dX4_readPart_75 : decode cX4_readPart 75 = .ok (.iload_n 2, 1) := by decide +kernel
theorem dX4_readPart_76 : decode cX4_readPart 76 = .ok (.ifCond .ne 18, 3) := by decide +kernel
theorem dX4_readPart_79 : decode cX4_readPart 79 = .ok (.aload_n 0, 1) := by decide +kernel
theorem dX4_readPart_80 : decode cX4_readPart 80 = .ok (.getfield 19, 3) := by decide +kernel
theorem dX4_readPart_83 : decode cX4_readPart 83 = .ok (.aload_n 0, 1) := by decide +kernel
theorem dX4_readPart_84 : decode cX4_readPart 84 = .ok (.getfield 28, 3) := by decide +kernel
theorem dX4_readPart_87 : decode cX4_readPart 87 = .ok (.iaload, 1) := by decide +kernel
theorem dX4_readPart_88 : decode cX4_readPart 88 = .ok (.sipush 259, 3) := by decide +kernel
theorem dX4_readPart_91 : decode cX4_readPart 91 = .ok (.if_icmp .ne 12, 3) := by decide +kernel
theorem dX4_readPart_94 : decode cX4_readPart 94 = .ok (.aload_n 0, 1) := by decide +kernel
theorem dX4_readPart_95 : decode cX4_readPart 95 = .ok (.getfield 31, 3) := by decide +kernel
theorem dX4_readPart_98 : decode cX4_readPart 98 = .ok (.bipush 50, 2) := by decide +kernel
theorem dX4_readPart_100 : decode cX4_readPart 100 = .ok (.if_icmp .lt 5, 3) := by decide +kernel
theorem dX4_readPart_103 : decode cX4_readPart 103 = .ok (.iconst 0, 1) := by decide +kernel
theorem dX4_readPart_104 : decode cX4_readPart 104 = .ok (.ireturn, 1) := by decide +kernel
theorem dX4_readPart_105 : decode cX4_readPart 105 = .ok (.aload_n 0, 1) := by decide +kernel
theorem dX4_readPart_106 : decode cX4_readPart 106 = .ok (.dup, 1) := by decide +kernel
theorem dX4_readPart_107 : decode cX4_readPart 107 = .ok (.getfield 31, 3) := by decide +kernel
theorem dX4_readPart_110 : decode cX4_readPart 110 = .ok (.iconst 1, 1) := by decide +kernel
theorem dX4_readPart_111 : decode cX4_readPart 111 = .ok (.iadd, 1) := by decide +kernel
theorem dX4_readPart_112 : decode cX4_readPart 112 = .ok (.putfield 31, 3) := by decide +kernel
theorem dX4_readPart_115 : decode cX4_readPart 115 = .ok (.aload_n 0, 1) := by decide +kernel
theorem dX4_readPart_116 : decode cX4_readPart 116 = .ok (.iload_n 2, 1) := by decide +kernel
theorem dX4_readPart_117 : decode cX4_readPart 117 = .ok (.ifCond .eq 7, 3) := by decide +kernel
theorem dX4_readPart_120 : decode cX4_readPart 120 = .ok (.iconst 1, 1) := by decide +kernel
theorem dX4_readPart_121 : decode cX4_readPart 121 = .ok (.goto 4, 3) := by decide +kernel
theorem dX4_readPart_124 : decode cX4_readPart 124 = .ok (.iconst 2, 1) := by decide +kernel
theorem dX4_readPart_125 : decode cX4_readPart 125 = .ok (.aload_n 0, 1) := by decide +kernel
theorem dX4_readPart_126 : decode cX4_readPart 126 = .ok (.getfield 25, 3) := by decide +kernel
theorem dX4_readPart_129 : decode cX4_readPart 129 = .ok (.aload_n 0, 1) := by decide +kernel
theorem dX4_readPart_130 : decode cX4_readPart 130 = .ok (.getfield 28, 3) := by decide +kernel
theorem dX4_readPart_133 : decode cX4_readPart 133 = .ok (.iaload, 1) := by decide +kernel
theorem dX4_readPart_134 : decode cX4_readPart 134 = .ok (.invokevirtual 55, 3) := by decide +kernel
theorem dX4_readPart_137 : decode cX4_readPart 137 = .ok (.pop, 1) := by decide +kernel
theorem dX4_readPart_138 : decode cX4_readPart 138 = .ok (.aload_n 0, 1) := by decide +kernel
theorem dX4_readPart_139 : decode cX4_readPart 139 = .ok (.aload_n 0, 1) := by decide +kernel
theorem dX4_readPart_140 : decode cX4_readPart 140 = .ok (.getfield 19, 3) := by decide +kernel
theorem dX4_readPart_143 : decode cX4_readPart 143 = .ok (.aload_n 0, 1) := by decide +kernel
theorem dX4_readPart_144 : decode cX4_readPart 144 = .ok (.getfield 28, 3) := by decide +kernel
theorem dX4_readPart_147 : decode cX4_readPart 147 = .ok (.iaload, 1) := by decide +kernel
theorem dX4_readPart_148 : decode cX4_readPart 148 = .ok (.invokevirtual 51, 3) := by decide +kernel
theorem dX4_readPart_151 : decode cX4_readPart 151 = .ok (.ireturn, 1) := by decide +kernel
theorem zw_6 : (Jvm.Cond.selects "HillSchool$LawReader" ({ cls := "HillSchool$LawReader", name := "order", desc := "(II)I" } : Jvm.MethodName) ({ cls := "HillSchool$LawReader", name := "order", desc := "(II)I" } : Jvm.MethodName)) ∈ zall := zmemG (zmj_0 6 rfl) rfl
theorem zw_7 : (Jvm.Cond.selects "HillSchool$LawReader" ({ cls := "HillSchool$LawReader", name := "pass", desc := "(I)Z" } : Jvm.MethodName) ({ cls := "HillSchool$LawReader", name := "pass", desc := "(I)Z" } : Jvm.MethodName)) ∈ zall := zmemG (zmj_0 7 rfl) rfl
theorem zw_8 : (Jvm.Cond.selects "HillSchool$LawReader" ({ cls := "HillSchool$LawReader", name := "readSum", desc := "(I)Z" } : Jvm.MethodName) ({ cls := "HillSchool$LawReader", name := "readSum", desc := "(I)Z" } : Jvm.MethodName)) ∈ zall := zmemG (zmj_0 8 rfl) rfl
theorem zw_9 : (Jvm.Cond.selects "HillSchool$LawReader" ({ cls := "HillSchool$LawReader", name := "readPart", desc := "(I)Z" } : Jvm.MethodName) ({ cls := "HillSchool$LawReader", name := "readPart", desc := "(I)Z" } : Jvm.MethodName)) ∈ zall := zmemG (zmj_0 9 rfl) rfl
theorem zw_107 : (Jvm.Cond.initialized "HillSchool$LawReader") ∈ zall := zmemG (zmj_1 4 rfl) rfl
theorem zw_254 : (Jvm.Cond.fieldLink "HillSchool$LawReader" (25 : Nat) "HillSchool$LawReader" "values" "[I") ∈ zall := zmemG (zmj_1 151 rfl) rfl
theorem zw_256 : (Jvm.Cond.fieldLink "HillSchool$LawReader" (31 : Nat) "HillSchool$LawReader" "parts" "I") ∈ zall := zmemG (zmj_1 153 rfl) rfl
theorem zw_748 : (Jvm.Cond.methodLink "HillSchool$LawReader" (55 : Nat) ({ cls := "HillSchool$LawReader", name := "order", desc := "(II)I" } : Jvm.MethodName)) ∈ zall := zmemG (zmj_3 165 rfl) rfl
theorem zw_750 : (Jvm.Cond.instanceMethod ({ cls := "HillSchool$LawReader", name := "order", desc := "(II)I" } : Jvm.MethodName)) ∈ zall := zmemG (zmj_3 167 rfl) rfl
theorem zw_752 : (Jvm.Cond.methodLink "HillSchool$LawReader" (51 : Nat) ({ cls := "HillSchool$LawReader", name := "pass", desc := "(I)Z" } : Jvm.MethodName)) ∈ zall := zmemG (zmj_3 169 rfl) rfl
theorem zw_754 : (Jvm.Cond.instanceMethod ({ cls := "HillSchool$LawReader", name := "pass", desc := "(I)Z" } : Jvm.MethodName)) ∈ zall := zmemG (zmj_3 171 rfl) rfl
theorem zw_756 : (Jvm.Cond.methodLink "HillSchool$LawReader" (58 : Nat) ({ cls := "HillSchool$LawReader", name := "readSum", desc := "(I)Z" } : Jvm.MethodName)) ∈ zall := zmemG (zmj_3 173 rfl) rfl
theorem zw_758 : (Jvm.Cond.instanceMethod ({ cls := "HillSchool$LawReader", name := "readSum", desc := "(I)Z" } : Jvm.MethodName)) ∈ zall := zmemG (zmj_3 175 rfl) rfl
theorem zw_759 : (Jvm.Cond.code ({ cls := "HillSchool$LawReader", name := "readSum", desc := "(I)Z" } : Jvm.MethodName) prog_6_method_7_code (5 : Nat) (Option.some Jvm.ClassFile.FieldType.boolean)) ∈ zall := zmemG (zmj_3 176 rfl) rfl
theorem zw_760 : (Jvm.Cond.methodLink "HillSchool$LawReader" (75 : Nat) ({ cls := "HillSchool$LawReader", name := "readPart", desc := "(I)Z" } : Jvm.MethodName)) ∈ zall := zmemG (zmj_3 177 rfl) rfl
theorem zw_762 : (Jvm.Cond.instanceMethod ({ cls := "HillSchool$LawReader", name := "readPart", desc := "(I)Z" } : Jvm.MethodName)) ∈ zall := zmemG (zmj_3 179 rfl) rfl
theorem zw_763 : (Jvm.Cond.code ({ cls := "HillSchool$LawReader", name := "readPart", desc := "(I)Z" } : Jvm.MethodName) prog_6_method_8_code (3 : Nat) (Option.some Jvm.ClassFile.FieldType.boolean)) ∈ zall := zmemG (zmj_3 180 rfl) rfl
def rmr_LawReader_readSum (n : Nat) : Room := { frames := 1 + n, cells := 0, slots := 0, locals := 22 + 24 * n }
abbrev w_LawReader_readSum : List Cond := .code yX4_readSum cX4_readSum 5 (some .boolean) :: zall
abbrev rm_LawReader_readSum : Room := rmr_LawReader_readSum zdp
theorem hd_LawReader_readSum : yX4_readSum.cls = "HillSchool$LawReader" ∧ yX4_readSum.cls ≠ "java/lang/invoke/MethodHandle" ∧ yX4_readSum.cls ≠ "java/lang/invoke/VarHandle" ∧ (parseMethodDescriptor yX4_readSum.desc).map (fun d => d.parameters.length) = some 1 := by decide +kernel
def wd_LawReader_readSum (cA : Nat → ClassId) (q0 q1 q2 q3 q4 : Nat) (i_tokens : Nat → Int) (i_values : Nat → Int) (i_ordered : Int) (i_at : Int) (i_parts : Int) (i_orders : Nat → Int) : va_W := [(q0, .inr (4, [.ref q1, .int (Int32.ofInt i_ordered), .ref q2, .ref q3, .ref q4, .int (Int32.ofInt i_at), .int (Int32.ofInt i_parts)])), (q1, .inl (cA 0, 424, .inl (za i_orders))), (q2, .inl (cA 0, 401, .inl (za i_tokens))), (q4, .inl (cA 0, 401, .inl (za i_values)))]
def wf_LawReader_readSum (cA : Nat → ClassId) (q0 q1 q2 q3 q4 : Nat) (i_tokens : Nat → Int) (i_values : Nat → Int) (o : Int × Int × Int × Int × (Nat → Int)) : va_W := wd_LawReader_readSum cA q0 q1 q2 q3 q4 i_tokens i_values o.2.1 o.2.2.1 o.2.2.2.1 o.2.2.2.2
abbrev w_LawReader_readPart : List Cond := .code yX4_readPart cX4_readPart 3 (some .boolean) :: zall
abbrev rm_LawReader_readPart : Room := rmr_LawReader_readSum zdp
theorem hd_LawReader_readPart : yX4_readPart.cls = "HillSchool$LawReader" ∧ yX4_readPart.cls ≠ "java/lang/invoke/MethodHandle" ∧ yX4_readPart.cls ≠ "java/lang/invoke/VarHandle" ∧ (parseMethodDescriptor yX4_readPart.desc).map (fun d => d.parameters.length) = some 1 := by decide +kernel
def wd_LawReader_readPart (cA : Nat → ClassId) (q0 q1 q2 q3 q4 : Nat) (i_tokens : Nat → Int) (i_values : Nat → Int) (i_ordered : Int) (i_at : Int) (i_parts : Int) (i_orders : Nat → Int) : va_W := [(q0, .inr (4, [.ref q1, .int (Int32.ofInt i_ordered), .ref q2, .ref q3, .ref q4, .int (Int32.ofInt i_at), .int (Int32.ofInt i_parts)])), (q1, .inl (cA 0, 424, .inl (za i_orders))), (q2, .inl (cA 0, 401, .inl (za i_tokens))), (q4, .inl (cA 0, 401, .inl (za i_values)))]
def wf_LawReader_readPart (cA : Nat → ClassId) (q0 q1 q2 q3 q4 : Nat) (i_tokens : Nat → Int) (i_values : Nat → Int) (o : Int × Int × Int × Int × (Nat → Int)) : va_W := wd_LawReader_readPart cA q0 q1 q2 q3 q4 i_tokens i_values o.2.1 o.2.2.1 o.2.2.2.1 o.2.2.2.2
def f_LawReader_readSum_119 (r_LawReader_readSum : Int → (Nat → Int) → (Nat → Int) → Int → Int → Int → (Nat → Int) → Option (Int × Int × Int × Int × (Nat → Int))) (r_LawReader_readPart : Int → (Nat → Int) → (Nat → Int) → Int → Int → Int → (Nat → Int) → Option (Int × Int × Int × Int × (Nat → Int))) (i_tokens : Nat → Int) (i_values : Nat → Int) (k7 : Int → Int → Int → Int → Int → Int → Int → (Nat → Int) → Option (Int × Int × Int × Int × (Nat → Int))) (x1 : Int) (x2 : Int) (x3 : Int) (x4 : Int) (i_ordered : Int) (i_at : Int) (i_parts : Int) (i_orders : Nat → Int) : Option (Int × Int × Int × Int × (Nat → Int)) :=
  zn (x4 + 1) fun v1 =>
  k7 x1 x2 x3 v1 i_ordered i_at i_parts i_orders
def f_LawReader_readSum_111 (r_LawReader_readSum : Int → (Nat → Int) → (Nat → Int) → Int → Int → Int → (Nat → Int) → Option (Int × Int × Int × Int × (Nat → Int))) (r_LawReader_readPart : Int → (Nat → Int) → (Nat → Int) → Int → Int → Int → (Nat → Int) → Option (Int × Int × Int × Int × (Nat → Int))) (i_tokens : Nat → Int) (i_values : Nat → Int) (k7 : Int → Int → Int → Int → Int → Int → Int → (Nat → Int) → Option (Int × Int × Int × Int × (Nat → Int))) (x1 : Int) (x2 : Int) (x4 : Int) (s0 : Int) (i_ordered : Int) (i_at : Int) (i_parts : Int) (i_orders : Nat → Int) : Option (Int × Int × Int × Int × (Nat → Int)) :=
  if zi_w s0 ≠ zi_w (-1) then
    f_LawReader_readSum_119 r_LawReader_readSum r_LawReader_readPart i_tokens i_values k7 x1 x2 s0 x4 i_ordered i_at i_parts i_orders
  else
    some (1, i_ordered, i_at, i_parts, i_orders)
def f_LawReader_readSum_84 (r_LawReader_readSum : Int → (Nat → Int) → (Nat → Int) → Int → Int → Int → (Nat → Int) → Option (Int × Int × Int × Int × (Nat → Int))) (r_LawReader_readPart : Int → (Nat → Int) → (Nat → Int) → Int → Int → Int → (Nat → Int) → Option (Int × Int × Int × Int × (Nat → Int))) (i_tokens : Nat → Int) (i_values : Nat → Int) (k7 : Int → Int → Int → Int → Int → Int → Int → (Nat → Int) → Option (Int × Int × Int × Int × (Nat → Int))) (x1 : Int) (x2 : Int) (x4 : Int) (i_ordered : Int) (i_at : Int) (i_parts : Int) (i_orders : Nat → Int) : Option (Int × Int × Int × Int × (Nat → Int)) :=
  zd2 (f_LawReader_pass 43 i_tokens i_at) fun v1 v2 =>
  if zi_w v1 = 0 then
    zd2 (f_LawReader_pass 45 i_tokens v2) fun v3 v4 =>
    if zi_w v3 = 0 then
      f_LawReader_readSum_111 r_LawReader_readSum r_LawReader_readPart i_tokens i_values k7 x1 x2 x4 (-1) i_ordered v4 i_parts i_orders
    else
      f_LawReader_readSum_111 r_LawReader_readSum r_LawReader_readPart i_tokens i_values k7 x1 x2 x4 4 i_ordered v4 i_parts i_orders
  else
    f_LawReader_readSum_111 r_LawReader_readSum r_LawReader_readPart i_tokens i_values k7 x1 x2 x4 3 i_ordered v2 i_parts i_orders
def f_LawReader_readSum_63 (r_LawReader_readSum : Int → (Nat → Int) → (Nat → Int) → Int → Int → Int → (Nat → Int) → Option (Int × Int × Int × Int × (Nat → Int))) (r_LawReader_readPart : Int → (Nat → Int) → (Nat → Int) → Int → Int → Int → (Nat → Int) → Option (Int × Int × Int × Int × (Nat → Int))) (i_tokens : Nat → Int) (i_values : Nat → Int) (k7 : Int → Int → Int → Int → Int → Int → Int → (Nat → Int) → Option (Int × Int × Int × Int × (Nat → Int))) (x1 : Int) (x3 : Int) (x4 : Int) (s0 : Int) (i_ordered : Int) (i_at : Int) (i_parts : Int) (i_orders : Nat → Int) : Option (Int × Int × Int × Int × (Nat → Int)) :=
  if zi_w s0 = zi_w (-1) then
    if zi_w x3 = zi_w (-1) then
      f_LawReader_readSum_84 r_LawReader_readSum r_LawReader_readPart i_tokens i_values k7 x1 s0 x4 i_ordered i_at i_parts i_orders
    else
      zd3 (f_LawReader_order x3 0 i_ordered i_orders) fun v1 v2 a3 =>
      f_LawReader_readSum_84 r_LawReader_readSum r_LawReader_readPart i_tokens i_values k7 x1 s0 x4 v2 i_at i_parts a3
  else
    f_LawReader_readSum_119 r_LawReader_readSum r_LawReader_readPart i_tokens i_values k7 x1 s0 x3 x4 i_ordered i_at i_parts i_orders
def f_LawReader_readSum_35 (r_LawReader_readSum : Int → (Nat → Int) → (Nat → Int) → Int → Int → Int → (Nat → Int) → Option (Int × Int × Int × Int × (Nat → Int))) (r_LawReader_readPart : Int → (Nat → Int) → (Nat → Int) → Int → Int → Int → (Nat → Int) → Option (Int × Int × Int × Int × (Nat → Int))) (i_tokens : Nat → Int) (i_values : Nat → Int) (k7 : Int → Int → Int → Int → Int → Int → Int → (Nat → Int) → Option (Int × Int × Int × Int × (Nat → Int))) (x1 : Int) (x3 : Int) (x4 : Int) (i_ordered : Int) (i_at : Int) (i_parts : Int) (i_orders : Nat → Int) : Option (Int × Int × Int × Int × (Nat → Int)) :=
  zd2 (f_LawReader_pass 42 i_tokens i_at) fun v1 v2 =>
  if zi_w v1 = 0 then
    zd2 (f_LawReader_pass 47 i_tokens v2) fun v3 v4 =>
    if zi_w v3 = 0 then
      f_LawReader_readSum_63 r_LawReader_readSum r_LawReader_readPart i_tokens i_values k7 x1 x3 x4 (-1) i_ordered v4 i_parts i_orders
    else
      f_LawReader_readSum_63 r_LawReader_readSum r_LawReader_readPart i_tokens i_values k7 x1 x3 x4 6 i_ordered v4 i_parts i_orders
  else
    f_LawReader_readSum_63 r_LawReader_readSum r_LawReader_readPart i_tokens i_values k7 x1 x3 x4 5 i_ordered v2 i_parts i_orders
def f_LawReader_readSum_7_b (r_LawReader_readSum : Int → (Nat → Int) → (Nat → Int) → Int → Int → Int → (Nat → Int) → Option (Int × Int × Int × Int × (Nat → Int))) (r_LawReader_readPart : Int → (Nat → Int) → (Nat → Int) → Int → Int → Int → (Nat → Int) → Option (Int × Int × Int × Int × (Nat → Int))) (i_tokens : Nat → Int) (i_values : Nat → Int) (k7 : Int → Int → Int → Int → Int → Int → Int → (Nat → Int) → Option (Int × Int × Int × Int × (Nat → Int))) (x1 : Int) (x2 : Int) (x3 : Int) (x4 : Int) (i_ordered : Int) (i_at : Int) (i_parts : Int) (i_orders : Nat → Int) : Option (Int × Int × Int × Int × (Nat → Int)) :=
  if zi_w 400 ≤ zi_w x4 then
    some (0, i_ordered, i_at, i_parts, i_orders)
  else
    zd5 (r_LawReader_readPart x1 i_tokens i_values i_ordered i_at i_parts i_orders) fun v1 v2 v3 v4 a5 =>
    if zi_w v1 = 0 then
      some (0, v2, v3, v4, a5)
    else
      if zi_w x2 = zi_w (-1) then
        f_LawReader_readSum_35 r_LawReader_readSum r_LawReader_readPart i_tokens i_values k7 x1 x3 x4 v2 v3 v4 a5
      else
        zd3 (f_LawReader_order x2 0 v2 a5) fun v6 v7 a8 =>
        f_LawReader_readSum_35 r_LawReader_readSum r_LawReader_readPart i_tokens i_values k7 x1 x3 x4 v7 v3 v4 a8
def f_LawReader_readSum_7 (r_LawReader_readSum : Int → (Nat → Int) → (Nat → Int) → Int → Int → Int → (Nat → Int) → Option (Int × Int × Int × Int × (Nat → Int))) (r_LawReader_readPart : Int → (Nat → Int) → (Nat → Int) → Int → Int → Int → (Nat → Int) → Option (Int × Int × Int × Int × (Nat → Int))) (i_tokens : Nat → Int) (i_values : Nat → Int) : Nat → Int → Int → Int → Int → Int → Int → Int → (Nat → Int) → Option (Int × Int × Int × Int × (Nat → Int))
  | 0 => fun _ _ _ _ _ _ _ _ => none
  | n + 1 => fun y0 y1 y2 y3 y4 y5 y6 y7 => f_LawReader_readSum_7_b r_LawReader_readSum r_LawReader_readPart i_tokens i_values (f_LawReader_readSum_7 r_LawReader_readSum r_LawReader_readPart i_tokens i_values n) y0 y1 y2 y3 y4 y5 y6 y7
def fb_LawReader_readSum (r_LawReader_readSum : Int → (Nat → Int) → (Nat → Int) → Int → Int → Int → (Nat → Int) → Option (Int × Int × Int × Int × (Nat → Int))) (r_LawReader_readPart : Int → (Nat → Int) → (Nat → Int) → Int → Int → Int → (Nat → Int) → Option (Int × Int × Int × Int × (Nat → Int))) (x1 : Int) (i_tokens : Nat → Int) (i_values : Nat → Int) (i_ordered : Int) (i_at : Int) (i_parts : Int) (i_orders : Nat → Int) : Option (Int × Int × Int × Int × (Nat → Int)) :=
  f_LawReader_readSum_7 r_LawReader_readSum r_LawReader_readPart i_tokens i_values zfu x1 (-1) (-1) 0 i_ordered i_at i_parts i_orders
def f_LawReader_readPart_125 (r_LawReader_readSum : Int → (Nat → Int) → (Nat → Int) → Int → Int → Int → (Nat → Int) → Option (Int × Int × Int × Int × (Nat → Int))) (r_LawReader_readPart : Int → (Nat → Int) → (Nat → Int) → Int → Int → Int → (Nat → Int) → Option (Int × Int × Int × Int × (Nat → Int))) (i_tokens : Nat → Int) (i_values : Nat → Int) (s1 : Int) (i_ordered : Int) (i_at : Int) (i_parts : Int) (i_orders : Nat → Int) : Option (Int × Int × Int × Int × (Nat → Int)) :=
  zg 401 i_values i_at fun v1 =>
  zd3 (f_LawReader_order s1 v1 i_ordered i_orders) fun v2 v3 a4 =>
  zg 401 i_tokens i_at fun v5 =>
  zd2 (f_LawReader_pass v5 i_tokens i_at) fun v6 v7 =>
  if ¬ (zi_w v6 = 0 ∨ zi_w v6 = 1) then none else
  some (v6, v3, v7, i_parts, a4)
def f_LawReader_readPart_94 (r_LawReader_readSum : Int → (Nat → Int) → (Nat → Int) → Int → Int → Int → (Nat → Int) → Option (Int × Int × Int × Int × (Nat → Int))) (r_LawReader_readPart : Int → (Nat → Int) → (Nat → Int) → Int → Int → Int → (Nat → Int) → Option (Int × Int × Int × Int × (Nat → Int))) (i_tokens : Nat → Int) (i_values : Nat → Int) (x2 : Int) (i_ordered : Int) (i_at : Int) (i_parts : Int) (i_orders : Nat → Int) : Option (Int × Int × Int × Int × (Nat → Int)) :=
  if zi_w i_parts < zi_w 50 then
    zn (i_parts + 1) fun v1 =>
    if zi_w x2 = 0 then
      f_LawReader_readPart_125 r_LawReader_readSum r_LawReader_readPart i_tokens i_values 2 i_ordered i_at v1 i_orders
    else
      f_LawReader_readPart_125 r_LawReader_readSum r_LawReader_readPart i_tokens i_values 1 i_ordered i_at v1 i_orders
  else
    some (0, i_ordered, i_at, i_parts, i_orders)
def f_LawReader_readPart_74 (r_LawReader_readSum : Int → (Nat → Int) → (Nat → Int) → Int → Int → Int → (Nat → Int) → Option (Int × Int × Int × Int × (Nat → Int))) (r_LawReader_readPart : Int → (Nat → Int) → (Nat → Int) → Int → Int → Int → (Nat → Int) → Option (Int × Int × Int × Int × (Nat → Int))) (i_tokens : Nat → Int) (i_values : Nat → Int) (s0 : Int) (i_ordered : Int) (i_at : Int) (i_parts : Int) (i_orders : Nat → Int) : Option (Int × Int × Int × Int × (Nat → Int)) :=
  if zi_w s0 ≠ 0 then
    f_LawReader_readPart_94 r_LawReader_readSum r_LawReader_readPart i_tokens i_values s0 i_ordered i_at i_parts i_orders
  else
    zg 401 i_tokens i_at fun v1 =>
    if zi_w v1 ≠ zi_w 259 then
      some (0, i_ordered, i_at, i_parts, i_orders)
    else
      f_LawReader_readPart_94 r_LawReader_readSum r_LawReader_readPart i_tokens i_values s0 i_ordered i_at i_parts i_orders
def fb_LawReader_readPart (r_LawReader_readSum : Int → (Nat → Int) → (Nat → Int) → Int → Int → Int → (Nat → Int) → Option (Int × Int × Int × Int × (Nat → Int))) (r_LawReader_readPart : Int → (Nat → Int) → (Nat → Int) → Int → Int → Int → (Nat → Int) → Option (Int × Int × Int × Int × (Nat → Int))) (x1 : Int) (i_tokens : Nat → Int) (i_values : Nat → Int) (i_ordered : Int) (i_at : Int) (i_parts : Int) (i_orders : Nat → Int) : Option (Int × Int × Int × Int × (Nat → Int)) :=
  zg 401 i_tokens i_at fun v1 =>
  if zi_w v1 ≠ zi_w 91 then
    zg 401 i_tokens i_at fun v2 =>
    if zi_w v2 ≠ zi_w 258 then
      f_LawReader_readPart_74 r_LawReader_readSum r_LawReader_readPart i_tokens i_values 0 i_ordered i_at i_parts i_orders
    else
      f_LawReader_readPart_74 r_LawReader_readSum r_LawReader_readPart i_tokens i_values 1 i_ordered i_at i_parts i_orders
  else
    if zi_w 8 ≤ zi_w x1 then
      some (0, i_ordered, i_at, i_parts, i_orders)
    else
      zd2 (f_LawReader_pass 91 i_tokens i_at) fun v3 v4 =>
      if zi_w v3 = 0 then
        some (0, i_ordered, v4, i_parts, i_orders)
      else
        zn (x1 + 1) fun v5 =>
        zd5 (r_LawReader_readSum v5 i_tokens i_values i_ordered v4 i_parts i_orders) fun v6 v7 v8 v9 a10 =>
        if zi_w v6 = 0 then
          some (0, v7, v8, v9, a10)
        else
          zd2 (f_LawReader_pass 93 i_tokens v8) fun v11 v12 =>
          if zi_w v11 = 0 then
            some (0, v7, v12, v9, a10)
          else
            some (1, v7, v12, v9, a10)
def g_LawReader_readSum : Nat → (Int → (Nat → Int) → (Nat → Int) → Int → Int → Int → (Nat → Int) → Option (Int × Int × Int × Int × (Nat → Int))) × (Int → (Nat → Int) → (Nat → Int) → Int → Int → Int → (Nat → Int) → Option (Int × Int × Int × Int × (Nat → Int)))
  | 0 => (fun _ _ _ _ _ _ _ => none, fun _ _ _ _ _ _ _ => none)
  | n + 1 => (fb_LawReader_readSum (g_LawReader_readSum n).1 (g_LawReader_readSum n).2, fb_LawReader_readPart (g_LawReader_readSum n).1 (g_LawReader_readSum n).2)
def f_LawReader_readSum (x1 : Int) (i_tokens : Nat → Int) (i_values : Nat → Int) (i_ordered : Int) (i_at : Int) (i_parts : Int) (i_orders : Nat → Int) : Option (Int × Int × Int × Int × (Nat → Int)) := (g_LawReader_readSum zdp).1 x1 i_tokens i_values i_ordered i_at i_parts i_orders
def f_LawReader_readPart (x1 : Int) (i_tokens : Nat → Int) (i_values : Nat → Int) (i_ordered : Int) (i_at : Int) (i_parts : Int) (i_orders : Nat → Int) : Option (Int × Int × Int × Int × (Nat → Int)) := (g_LawReader_readSum zdp).2 x1 i_tokens i_values i_ordered i_at i_parts i_orders
set_option maxHeartbeats 4000000 in
set_option maxRecDepth 100000 in
theorem cb_LawReader_readSum (l : Launch) (ev : zEv) (dC : Nat → ClassId) (dI : Nat → Nat → Nat) (cA : Nat → ClassId) (dp : Nat) (r_LawReader_readSum : Int → (Nat → Int) → (Nat → Int) → Int → Int → Int → (Nat → Int) → Option (Int × Int × Int × Int × (Nat → Int))) (r_LawReader_readPart : Int → (Nat → Int) → (Nat → Int) → Int → Int → Int → (Nat → Int) → Option (Int × Int × Int × Int × (Nat → Int))) (h_LawReader_readSum : ∀ (q0 q1 q2 q3 q4 : Nat) (x1 : Int) (i_tokens : Nat → Int) (i_values : Nat → Int) (i_ordered : Int) (i_at : Int) (i_parts : Int) (i_orders : Nat → Int) (out : Int × Int × Int × Int × (Nat → Int)), r_LawReader_readSum x1 i_tokens i_values i_ordered i_at i_parts i_orders = some out → xc_I l ev (dC, dI) vwCl (tyl cA) yX4_readSum w_LawReader_readSum (rmr_LawReader_readSum dp) [.ref q0, .int (Int32.ofInt x1)] (wd_LawReader_readSum cA q0 q1 q2 q3 q4 i_tokens i_values i_ordered i_at i_parts i_orders) (wf_LawReader_readSum cA q0 q1 q2 q3 q4 i_tokens i_values out) out.1) (h_LawReader_readPart : ∀ (q0 q1 q2 q3 q4 : Nat) (x1 : Int) (i_tokens : Nat → Int) (i_values : Nat → Int) (i_ordered : Int) (i_at : Int) (i_parts : Int) (i_orders : Nat → Int) (out : Int × Int × Int × Int × (Nat → Int)), r_LawReader_readPart x1 i_tokens i_values i_ordered i_at i_parts i_orders = some out → xc_I l ev (dC, dI) vwCl (tyl cA) yX4_readPart w_LawReader_readPart (rmr_LawReader_readSum dp) [.ref q0, .int (Int32.ofInt x1)] (wd_LawReader_readPart cA q0 q1 q2 q3 q4 i_tokens i_values i_ordered i_at i_parts i_orders) (wf_LawReader_readPart cA q0 q1 q2 q3 q4 i_tokens i_values out) out.1) : ∀ (q0 q1 q2 q3 q4 : Nat) (x1 : Int) (i_tokens : Nat → Int) (i_values : Nat → Int) (i_ordered : Int) (i_at : Int) (i_parts : Int) (i_orders : Nat → Int) (out : Int × Int × Int × Int × (Nat → Int)), fb_LawReader_readSum r_LawReader_readSum r_LawReader_readPart x1 i_tokens i_values i_ordered i_at i_parts i_orders = some out → xc_I l ev (dC, dI) vwCl (tyl cA) yX4_readSum w_LawReader_readSum (rmr_LawReader_readSum (dp + 1)) [.ref q0, .int (Int32.ofInt x1)] (wd_LawReader_readSum cA q0 q1 q2 q3 q4 i_tokens i_values i_ordered i_at i_parts i_orders) (wf_LawReader_readSum cA q0 q1 q2 q3 q4 i_tokens i_values out) out.1 := by
  intro q0 q1 q2 q3 q4 x1 i_tokens i_values i_ordered i_at i_parts i_orders out hf
  refine xv_startI (cc := cX4_readSum) (maxL := 5) (rt := .boolean) (by decide +kernel) rfl (Nat.le_of_ble_eq_true rfl) ?_
  intro p e s m args below meth c A Q H ls hx hb hml hts hown hK hA hP hD hS hl hE hret
  have hown : s.vm.findClass "HillSchool$LawReader" = some m.cls := hown
  have hz : ∀ w ∈ zall, w.before args s = true := fun w h => hts w (List.mem_cons_of_mem _ h)
  have hl : lv_has ls 5 [(0, .ref q0), (1, .int (Int32.ofInt x1))] := hl
  have b_119 : ∀ (k7 : Int → Int → Int → Int → Int → Int → Int → (Nat → Int) → Option (Int × Int × Int × Int × (Nat → Int))) (_ : ∀ (x1 : Int) (x2 : Int) (x3 : Int) (x4 : Int) (i_ordered : Int) (i_at : Int) (i_parts : Int) (i_orders : Nat → Int) (H : Heap) (locs : List Loc) (ls : Array Slot), k7 x1 x2 x3 x4 i_ordered i_at i_parts i_orders = some out → va_P (dC, dI) vwCl (wd_LawReader_readSum cA q0 q1 q2 q3 q4 i_tokens i_values i_ordered i_at i_parts i_orders) H → va_D A (wd_LawReader_readSum cA q0 q1 q2 q3 q4 i_tokens i_values i_ordered i_at i_parts i_orders) → va_S A s.heap H locs → lv_has ls 5 [(0, .ref q0), (1, .int (Int32.ofInt x1)), (2, .int (Int32.ofInt x2)), (3, .int (Int32.ofInt x3)), (4, .int (Int32.ofInt x4))] → W p l e (rmr_LawReader_readSum (dp + 1)) s m args below meth c H locs 0 0 Q (F0 m 7 ls [])), ∀ (x1 : Int) (x2 : Int) (x3 : Int) (x4 : Int) (i_ordered : Int) (i_at : Int) (i_parts : Int) (i_orders : Nat → Int) (H : Heap) (locs : List Loc) (ls : Array Slot), f_LawReader_readSum_119 r_LawReader_readSum r_LawReader_readPart i_tokens i_values k7 x1 x2 x3 x4 i_ordered i_at i_parts i_orders = some out → va_P (dC, dI) vwCl (wd_LawReader_readSum cA q0 q1 q2 q3 q4 i_tokens i_values i_ordered i_at i_parts i_orders) H → va_D A (wd_LawReader_readSum cA q0 q1 q2 q3 q4 i_tokens i_values i_ordered i_at i_parts i_orders) → va_S A s.heap H locs → lv_has ls 5 [(0, .ref q0), (1, .int (Int32.ofInt x1)), (2, .int (Int32.ofInt x2)), (3, .int (Int32.ofInt x3)), (4, .int (Int32.ofInt x4))] → W p l e (rmr_LawReader_readSum (dp + 1)) s m args below meth c H locs 0 0 Q (F0 m 119 ls []) := by
    intro k7 ih7 x1 x2 x3 x4 i_ordered i_at i_parts i_orders H locs ls hf hP hD hS hl
    unfold f_LawReader_readSum_119 at hf
    refine xi_iinc hx hb dX4_readSum_119 hl (k := 4) rfl (by decide) hf (fun v1 ls hl hf => ?_)
    have hl : lv_has ls 5 [(4, .int (Int32.ofInt v1)), (0, .ref q0), (1, .int (Int32.ofInt x1)), (2, .int (Int32.ofInt x2)), (3, .int (Int32.ofInt x3))] := hl
    refine lv_goto (tgt := 7) hx hb dX4_readSum_122 (by decide) ?_
    exact ih7 _ _ _ _ _ _ _ _ _ _ _ hf hP hD hS (lv_sub hl [1, 2, 3, 4, 0] rfl)
  have b_111 : ∀ (k7 : Int → Int → Int → Int → Int → Int → Int → (Nat → Int) → Option (Int × Int × Int × Int × (Nat → Int))) (_ : ∀ (x1 : Int) (x2 : Int) (x3 : Int) (x4 : Int) (i_ordered : Int) (i_at : Int) (i_parts : Int) (i_orders : Nat → Int) (H : Heap) (locs : List Loc) (ls : Array Slot), k7 x1 x2 x3 x4 i_ordered i_at i_parts i_orders = some out → va_P (dC, dI) vwCl (wd_LawReader_readSum cA q0 q1 q2 q3 q4 i_tokens i_values i_ordered i_at i_parts i_orders) H → va_D A (wd_LawReader_readSum cA q0 q1 q2 q3 q4 i_tokens i_values i_ordered i_at i_parts i_orders) → va_S A s.heap H locs → lv_has ls 5 [(0, .ref q0), (1, .int (Int32.ofInt x1)), (2, .int (Int32.ofInt x2)), (3, .int (Int32.ofInt x3)), (4, .int (Int32.ofInt x4))] → W p l e (rmr_LawReader_readSum (dp + 1)) s m args below meth c H locs 0 0 Q (F0 m 7 ls [])), ∀ (x1 : Int) (x2 : Int) (x4 : Int) (s0 : Int) (i_ordered : Int) (i_at : Int) (i_parts : Int) (i_orders : Nat → Int) (H : Heap) (locs : List Loc) (ls : Array Slot), f_LawReader_readSum_111 r_LawReader_readSum r_LawReader_readPart i_tokens i_values k7 x1 x2 x4 s0 i_ordered i_at i_parts i_orders = some out → va_P (dC, dI) vwCl (wd_LawReader_readSum cA q0 q1 q2 q3 q4 i_tokens i_values i_ordered i_at i_parts i_orders) H → va_D A (wd_LawReader_readSum cA q0 q1 q2 q3 q4 i_tokens i_values i_ordered i_at i_parts i_orders) → va_S A s.heap H locs → lv_has ls 5 [(0, .ref q0), (1, .int (Int32.ofInt x1)), (2, .int (Int32.ofInt x2)), (4, .int (Int32.ofInt x4))] → W p l e (rmr_LawReader_readSum (dp + 1)) s m args below meth c H locs 0 0 Q (F0 m 111 ls [.int (Int32.ofInt s0)]) := by
    intro k7 ih7 x1 x2 x4 s0 i_ordered i_at i_parts i_orders H locs ls hf hP hD hS hl
    unfold f_LawReader_readSum_111 at hf
    refine lv_istore_n (lv' := [(3, .int (Int32.ofInt s0)), (0, .ref q0), (1, .int (Int32.ofInt x1)), (2, .int (Int32.ofInt x2)), (4, .int (Int32.ofInt x4))]) hx hb dX4_readSum_111 rfl hl (by decide) rfl (fun ls hl => ?_)
    refine lv_iload_n hx hb dX4_readSum_112 rfl (lv_at hl 0 rfl) ?_
    refine lv_iconst (v := Int32.ofInt (-1)) hx hb dX4_readSum_113 rfl ?_
    refine xi_icmp_ne (tgt := 119) hx hb dX4_readSum_114 (by decide) hf (fun hf => ?_) (fun hf => ?_)
    · exact b_119 _ ih7 _ _ _ _ _ _ _ _ _ _ _ hf hP hD hS (lv_sub hl [1, 2, 3, 0, 4] rfl)
    · refine lv_iconst (v := Int32.ofInt 1) hx hb dX4_readSum_117 rfl ?_
      obtain rfl := Option.some.inj hf
      exact hret _ _ _ _ zz_b1 dX4_readSum_118 hP hD hS
  have b_84 : ∀ (k7 : Int → Int → Int → Int → Int → Int → Int → (Nat → Int) → Option (Int × Int × Int × Int × (Nat → Int))) (_ : ∀ (x1 : Int) (x2 : Int) (x3 : Int) (x4 : Int) (i_ordered : Int) (i_at : Int) (i_parts : Int) (i_orders : Nat → Int) (H : Heap) (locs : List Loc) (ls : Array Slot), k7 x1 x2 x3 x4 i_ordered i_at i_parts i_orders = some out → va_P (dC, dI) vwCl (wd_LawReader_readSum cA q0 q1 q2 q3 q4 i_tokens i_values i_ordered i_at i_parts i_orders) H → va_D A (wd_LawReader_readSum cA q0 q1 q2 q3 q4 i_tokens i_values i_ordered i_at i_parts i_orders) → va_S A s.heap H locs → lv_has ls 5 [(0, .ref q0), (1, .int (Int32.ofInt x1)), (2, .int (Int32.ofInt x2)), (3, .int (Int32.ofInt x3)), (4, .int (Int32.ofInt x4))] → W p l e (rmr_LawReader_readSum (dp + 1)) s m args below meth c H locs 0 0 Q (F0 m 7 ls [])), ∀ (x1 : Int) (x2 : Int) (x4 : Int) (i_ordered : Int) (i_at : Int) (i_parts : Int) (i_orders : Nat → Int) (H : Heap) (locs : List Loc) (ls : Array Slot), f_LawReader_readSum_84 r_LawReader_readSum r_LawReader_readPart i_tokens i_values k7 x1 x2 x4 i_ordered i_at i_parts i_orders = some out → va_P (dC, dI) vwCl (wd_LawReader_readSum cA q0 q1 q2 q3 q4 i_tokens i_values i_ordered i_at i_parts i_orders) H → va_D A (wd_LawReader_readSum cA q0 q1 q2 q3 q4 i_tokens i_values i_ordered i_at i_parts i_orders) → va_S A s.heap H locs → lv_has ls 5 [(0, .ref q0), (1, .int (Int32.ofInt x1)), (2, .int (Int32.ofInt x2)), (4, .int (Int32.ofInt x4))] → W p l e (rmr_LawReader_readSum (dp + 1)) s m args below meth c H locs 0 0 Q (F0 m 84 ls []) := by
    intro k7 ih7 x1 x2 x4 i_ordered i_at i_parts i_orders H locs ls hf hP hD hS hl
    unfold f_LawReader_readSum_84 at hf
    refine lv_aload_n hx hb dX4_readSum_84 rfl (lv_at hl 0 rfl) ?_
    refine lv_bipush (v := Int32.ofInt 43) hx hb dX4_readSum_85 (by decide) ?_
    refine xe_d2 hf (fun v1 v2 hg hf => ?_)
    have hC : ([0, 2] : List Nat).map (fun i => (wd_LawReader_readSum cA q0 q1 q2 q3 q4 i_tokens i_values i_ordered i_at i_parts i_orders)[i]?) = (wd_LawReader_pass cA q0 q1 q2 q3 q4 i_ordered i_parts i_tokens i_at).map some := rfl
    refine xv_afterI (ws' := (wd_LawReader_readSum cA q0 q1 q2 q3 q4 i_tokens i_values i_ordered v2 i_parts i_orders)) (isC := [0, 2]) (ps := [some 0, none, some 1, none]) (va_runV (As := [.int (Int32.ofInt 43)]) (rest := []) ⟨hx, hb, hml, hown, hts⟩ (c_LawReader_pass l ev dC dI cA q0 q1 q2 q3 q4 i_ordered i_parts hg H.size) (cwV 1 hts (zgV zw_752 zw_754 zw_7 zw_107 zw_755) rfl rfl rfl hd_LawReader_pass ⟨(by show 0 + 1 ≤ 1 + (dp + 1); omega), (by show 8 + (2 + 11) + (0) ≤ 22 + 24 * (dp + 1); omega)⟩) (xv_preV (T := TX4) (N := 7) hE hA hS hK hP hD (isC := [0, 2]) (by decide +kernel) hC (q0 := 0) (ci := 4) rfl rfl) rfl rfl hl.1 rfl (lv_room (Nat.le_of_ble_eq_true rfl)) dX4_readSum_87 ⟨Nat.le_refl _, Nat.le_refl _⟩) hP hD hS hA (by decide +kernel) rfl hC rfl rfl (fun H locs hP hD hS => ?_)
    refine xi_if_eq (tgt := 97) hx hb dX4_readSum_90 (by decide) hf (fun hf => ?_) (fun hf => ?_)
    · refine lv_aload_n hx hb dX4_readSum_97 rfl (lv_at hl 0 rfl) ?_
      refine lv_bipush (v := Int32.ofInt 45) hx hb dX4_readSum_98 (by decide) ?_
      refine xe_d2 hf (fun v3 v4 hg hf => ?_)
      have hC : ([0, 2] : List Nat).map (fun i => (wd_LawReader_readSum cA q0 q1 q2 q3 q4 i_tokens i_values i_ordered v2 i_parts i_orders)[i]?) = (wd_LawReader_pass cA q0 q1 q2 q3 q4 i_ordered i_parts i_tokens v2).map some := rfl
      refine xv_afterI (ws' := (wd_LawReader_readSum cA q0 q1 q2 q3 q4 i_tokens i_values i_ordered v4 i_parts i_orders)) (isC := [0, 2]) (ps := [some 0, none, some 1, none]) (va_runV (As := [.int (Int32.ofInt 45)]) (rest := []) ⟨hx, hb, hml, hown, hts⟩ (c_LawReader_pass l ev dC dI cA q0 q1 q2 q3 q4 i_ordered i_parts hg H.size) (cwV 1 hts (zgV zw_752 zw_754 zw_7 zw_107 zw_755) rfl rfl rfl hd_LawReader_pass ⟨(by show 0 + 1 ≤ 1 + (dp + 1); omega), (by show 8 + (2 + 11) + (0) ≤ 22 + 24 * (dp + 1); omega)⟩) (xv_preV (T := TX4) (N := 7) hE hA hS hK hP hD (isC := [0, 2]) (by decide +kernel) hC (q0 := 0) (ci := 4) rfl rfl) rfl rfl hl.1 rfl (lv_room (Nat.le_of_ble_eq_true rfl)) dX4_readSum_100 ⟨Nat.le_refl _, Nat.le_refl _⟩) hP hD hS hA (by decide +kernel) rfl hC rfl rfl (fun H locs hP hD hS => ?_)
      refine xi_if_eq (tgt := 110) hx hb dX4_readSum_103 (by decide) hf (fun hf => ?_) (fun hf => ?_)
      · refine lv_iconst (v := Int32.ofInt (-1)) hx hb dX4_readSum_110 rfl ?_
        exact b_111 _ ih7 _ _ _ _ _ _ _ _ _ _ _ hf hP hD hS (lv_sub hl [0, 1, 2, 3] rfl)
      · refine lv_iconst (v := Int32.ofInt 4) hx hb dX4_readSum_106 rfl ?_
        refine lv_goto (tgt := 111) hx hb dX4_readSum_107 (by decide) ?_
        exact b_111 _ ih7 _ _ _ _ _ _ _ _ _ _ _ hf hP hD hS (lv_sub hl [0, 1, 2, 3] rfl)
    · refine lv_iconst (v := Int32.ofInt 3) hx hb dX4_readSum_93 rfl ?_
      refine lv_goto (tgt := 111) hx hb dX4_readSum_94 (by decide) ?_
      exact b_111 _ ih7 _ _ _ _ _ _ _ _ _ _ _ hf hP hD hS (lv_sub hl [0, 1, 2, 3] rfl)
  have b_63 : ∀ (k7 : Int → Int → Int → Int → Int → Int → Int → (Nat → Int) → Option (Int × Int × Int × Int × (Nat → Int))) (_ : ∀ (x1 : Int) (x2 : Int) (x3 : Int) (x4 : Int) (i_ordered : Int) (i_at : Int) (i_parts : Int) (i_orders : Nat → Int) (H : Heap) (locs : List Loc) (ls : Array Slot), k7 x1 x2 x3 x4 i_ordered i_at i_parts i_orders = some out → va_P (dC, dI) vwCl (wd_LawReader_readSum cA q0 q1 q2 q3 q4 i_tokens i_values i_ordered i_at i_parts i_orders) H → va_D A (wd_LawReader_readSum cA q0 q1 q2 q3 q4 i_tokens i_values i_ordered i_at i_parts i_orders) → va_S A s.heap H locs → lv_has ls 5 [(0, .ref q0), (1, .int (Int32.ofInt x1)), (2, .int (Int32.ofInt x2)), (3, .int (Int32.ofInt x3)), (4, .int (Int32.ofInt x4))] → W p l e (rmr_LawReader_readSum (dp + 1)) s m args below meth c H locs 0 0 Q (F0 m 7 ls [])), ∀ (x1 : Int) (x3 : Int) (x4 : Int) (s0 : Int) (i_ordered : Int) (i_at : Int) (i_parts : Int) (i_orders : Nat → Int) (H : Heap) (locs : List Loc) (ls : Array Slot), f_LawReader_readSum_63 r_LawReader_readSum r_LawReader_readPart i_tokens i_values k7 x1 x3 x4 s0 i_ordered i_at i_parts i_orders = some out → va_P (dC, dI) vwCl (wd_LawReader_readSum cA q0 q1 q2 q3 q4 i_tokens i_values i_ordered i_at i_parts i_orders) H → va_D A (wd_LawReader_readSum cA q0 q1 q2 q3 q4 i_tokens i_values i_ordered i_at i_parts i_orders) → va_S A s.heap H locs → lv_has ls 5 [(0, .ref q0), (1, .int (Int32.ofInt x1)), (3, .int (Int32.ofInt x3)), (4, .int (Int32.ofInt x4))] → W p l e (rmr_LawReader_readSum (dp + 1)) s m args below meth c H locs 0 0 Q (F0 m 63 ls [.int (Int32.ofInt s0)]) := by
    intro k7 ih7 x1 x3 x4 s0 i_ordered i_at i_parts i_orders H locs ls hf hP hD hS hl
    unfold f_LawReader_readSum_63 at hf
    refine lv_istore_n (lv' := [(2, .int (Int32.ofInt s0)), (0, .ref q0), (1, .int (Int32.ofInt x1)), (3, .int (Int32.ofInt x3)), (4, .int (Int32.ofInt x4))]) hx hb dX4_readSum_63 rfl hl (by decide) rfl (fun ls hl => ?_)
    refine lv_iload_n hx hb dX4_readSum_64 rfl (lv_at hl 0 rfl) ?_
    refine lv_iconst (v := Int32.ofInt (-1)) hx hb dX4_readSum_65 rfl ?_
    refine xi_icmp_eq (tgt := 72) hx hb dX4_readSum_66 (by decide) hf (fun hf => ?_) (fun hf => ?_)
    · refine lv_iload_n hx hb dX4_readSum_72 rfl (lv_at hl 3 rfl) ?_
      refine lv_iconst (v := Int32.ofInt (-1)) hx hb dX4_readSum_73 rfl ?_
      refine xi_icmp_eq (tgt := 84) hx hb dX4_readSum_74 (by decide) hf (fun hf => ?_) (fun hf => ?_)
      · exact b_84 _ ih7 _ _ _ _ _ _ _ _ _ _ hf hP hD hS (lv_sub hl [1, 2, 0, 4] rfl)
      · refine lv_aload_n hx hb dX4_readSum_77 rfl (lv_at hl 1 rfl) ?_
        refine lv_iload_n hx hb dX4_readSum_78 rfl (lv_at hl 3 rfl) ?_
        refine lv_iconst (v := Int32.ofInt 0) hx hb dX4_readSum_79 rfl ?_
        refine xe_d3 hf (fun v1 v2 a3 hg hf => ?_)
        have hC : ([0, 1] : List Nat).map (fun i => (wd_LawReader_readSum cA q0 q1 q2 q3 q4 i_tokens i_values i_ordered i_at i_parts i_orders)[i]?) = (wd_LawReader_order cA q0 q1 q2 q3 q4 i_at i_parts i_ordered i_orders).map some := rfl
        refine xv_afterI (ws' := (wd_LawReader_readSum cA q0 q1 q2 q3 q4 i_tokens i_values v2 i_at i_parts a3)) (isC := [0, 1]) (ps := [some 0, some 1, none, none]) (va_runV (As := [.int (Int32.ofInt x3), .int (Int32.ofInt 0)]) (rest := []) ⟨hx, hb, hml, hown, hts⟩ (c_LawReader_order l ev dC dI cA q0 q1 q2 q3 q4 i_at i_parts hg H.size) (cwV 2 hts (zgV zw_748 zw_750 zw_6 zw_107 zw_751) rfl rfl rfl hd_LawReader_order ⟨(by show 0 + 1 ≤ 1 + (dp + 1); omega), (by show 8 + (3 + 11) + (0) ≤ 22 + 24 * (dp + 1); omega)⟩) (xv_preV (T := TX4) (N := 7) hE hA hS hK hP hD (isC := [0, 1]) (by decide +kernel) hC (q0 := 0) (ci := 4) rfl rfl) rfl rfl hl.1 rfl (lv_room (Nat.le_of_ble_eq_true rfl)) dX4_readSum_80 ⟨Nat.le_refl _, Nat.le_refl _⟩) hP hD hS hA (by decide +kernel) rfl hC rfl rfl (fun H locs hP hD hS => ?_)
        refine lv_pop hx hb dX4_readSum_83 rfl ?_
        exact b_84 _ ih7 _ _ _ _ _ _ _ _ _ _ hf hP hD hS (lv_sub hl [1, 2, 0, 4] rfl)
    · refine lv_goto (tgt := 119) hx hb dX4_readSum_69 (by decide) ?_
      exact b_119 _ ih7 _ _ _ _ _ _ _ _ _ _ _ hf hP hD hS (lv_sub hl [1, 2, 0, 3, 4] rfl)
  have b_35 : ∀ (k7 : Int → Int → Int → Int → Int → Int → Int → (Nat → Int) → Option (Int × Int × Int × Int × (Nat → Int))) (_ : ∀ (x1 : Int) (x2 : Int) (x3 : Int) (x4 : Int) (i_ordered : Int) (i_at : Int) (i_parts : Int) (i_orders : Nat → Int) (H : Heap) (locs : List Loc) (ls : Array Slot), k7 x1 x2 x3 x4 i_ordered i_at i_parts i_orders = some out → va_P (dC, dI) vwCl (wd_LawReader_readSum cA q0 q1 q2 q3 q4 i_tokens i_values i_ordered i_at i_parts i_orders) H → va_D A (wd_LawReader_readSum cA q0 q1 q2 q3 q4 i_tokens i_values i_ordered i_at i_parts i_orders) → va_S A s.heap H locs → lv_has ls 5 [(0, .ref q0), (1, .int (Int32.ofInt x1)), (2, .int (Int32.ofInt x2)), (3, .int (Int32.ofInt x3)), (4, .int (Int32.ofInt x4))] → W p l e (rmr_LawReader_readSum (dp + 1)) s m args below meth c H locs 0 0 Q (F0 m 7 ls [])), ∀ (x1 : Int) (x3 : Int) (x4 : Int) (i_ordered : Int) (i_at : Int) (i_parts : Int) (i_orders : Nat → Int) (H : Heap) (locs : List Loc) (ls : Array Slot), f_LawReader_readSum_35 r_LawReader_readSum r_LawReader_readPart i_tokens i_values k7 x1 x3 x4 i_ordered i_at i_parts i_orders = some out → va_P (dC, dI) vwCl (wd_LawReader_readSum cA q0 q1 q2 q3 q4 i_tokens i_values i_ordered i_at i_parts i_orders) H → va_D A (wd_LawReader_readSum cA q0 q1 q2 q3 q4 i_tokens i_values i_ordered i_at i_parts i_orders) → va_S A s.heap H locs → lv_has ls 5 [(0, .ref q0), (1, .int (Int32.ofInt x1)), (3, .int (Int32.ofInt x3)), (4, .int (Int32.ofInt x4))] → W p l e (rmr_LawReader_readSum (dp + 1)) s m args below meth c H locs 0 0 Q (F0 m 35 ls []) := by
    intro k7 ih7 x1 x3 x4 i_ordered i_at i_parts i_orders H locs ls hf hP hD hS hl
    unfold f_LawReader_readSum_35 at hf
    refine lv_aload_n hx hb dX4_readSum_35 rfl (lv_at hl 0 rfl) ?_
    refine lv_bipush (v := Int32.ofInt 42) hx hb dX4_readSum_36 (by decide) ?_
    refine xe_d2 hf (fun v1 v2 hg hf => ?_)
    have hC : ([0, 2] : List Nat).map (fun i => (wd_LawReader_readSum cA q0 q1 q2 q3 q4 i_tokens i_values i_ordered i_at i_parts i_orders)[i]?) = (wd_LawReader_pass cA q0 q1 q2 q3 q4 i_ordered i_parts i_tokens i_at).map some := rfl
    refine xv_afterI (ws' := (wd_LawReader_readSum cA q0 q1 q2 q3 q4 i_tokens i_values i_ordered v2 i_parts i_orders)) (isC := [0, 2]) (ps := [some 0, none, some 1, none]) (va_runV (As := [.int (Int32.ofInt 42)]) (rest := []) ⟨hx, hb, hml, hown, hts⟩ (c_LawReader_pass l ev dC dI cA q0 q1 q2 q3 q4 i_ordered i_parts hg H.size) (cwV 1 hts (zgV zw_752 zw_754 zw_7 zw_107 zw_755) rfl rfl rfl hd_LawReader_pass ⟨(by show 0 + 1 ≤ 1 + (dp + 1); omega), (by show 8 + (2 + 11) + (0) ≤ 22 + 24 * (dp + 1); omega)⟩) (xv_preV (T := TX4) (N := 7) hE hA hS hK hP hD (isC := [0, 2]) (by decide +kernel) hC (q0 := 0) (ci := 4) rfl rfl) rfl rfl hl.1 rfl (lv_room (Nat.le_of_ble_eq_true rfl)) dX4_readSum_38 ⟨Nat.le_refl _, Nat.le_refl _⟩) hP hD hS hA (by decide +kernel) rfl hC rfl rfl (fun H locs hP hD hS => ?_)
    refine xi_if_eq (tgt := 48) hx hb dX4_readSum_41 (by decide) hf (fun hf => ?_) (fun hf => ?_)
    · refine lv_aload_n hx hb dX4_readSum_48 rfl (lv_at hl 0 rfl) ?_
      refine lv_bipush (v := Int32.ofInt 47) hx hb dX4_readSum_49 (by decide) ?_
      refine xe_d2 hf (fun v3 v4 hg hf => ?_)
      have hC : ([0, 2] : List Nat).map (fun i => (wd_LawReader_readSum cA q0 q1 q2 q3 q4 i_tokens i_values i_ordered v2 i_parts i_orders)[i]?) = (wd_LawReader_pass cA q0 q1 q2 q3 q4 i_ordered i_parts i_tokens v2).map some := rfl
      refine xv_afterI (ws' := (wd_LawReader_readSum cA q0 q1 q2 q3 q4 i_tokens i_values i_ordered v4 i_parts i_orders)) (isC := [0, 2]) (ps := [some 0, none, some 1, none]) (va_runV (As := [.int (Int32.ofInt 47)]) (rest := []) ⟨hx, hb, hml, hown, hts⟩ (c_LawReader_pass l ev dC dI cA q0 q1 q2 q3 q4 i_ordered i_parts hg H.size) (cwV 1 hts (zgV zw_752 zw_754 zw_7 zw_107 zw_755) rfl rfl rfl hd_LawReader_pass ⟨(by show 0 + 1 ≤ 1 + (dp + 1); omega), (by show 8 + (2 + 11) + (0) ≤ 22 + 24 * (dp + 1); omega)⟩) (xv_preV (T := TX4) (N := 7) hE hA hS hK hP hD (isC := [0, 2]) (by decide +kernel) hC (q0 := 0) (ci := 4) rfl rfl) rfl rfl hl.1 rfl (lv_room (Nat.le_of_ble_eq_true rfl)) dX4_readSum_51 ⟨Nat.le_refl _, Nat.le_refl _⟩) hP hD hS hA (by decide +kernel) rfl hC rfl rfl (fun H locs hP hD hS => ?_)
      refine xi_if_eq (tgt := 62) hx hb dX4_readSum_54 (by decide) hf (fun hf => ?_) (fun hf => ?_)
      · refine lv_iconst (v := Int32.ofInt (-1)) hx hb dX4_readSum_62 rfl ?_
        exact b_63 _ ih7 _ _ _ _ _ _ _ _ _ _ _ hf hP hD hS (lv_sub hl [0, 1, 2, 3] rfl)
      · refine lv_bipush (v := Int32.ofInt 6) hx hb dX4_readSum_57 (by decide) ?_
        refine lv_goto (tgt := 63) hx hb dX4_readSum_59 (by decide) ?_
        exact b_63 _ ih7 _ _ _ _ _ _ _ _ _ _ _ hf hP hD hS (lv_sub hl [0, 1, 2, 3] rfl)
    · refine lv_iconst (v := Int32.ofInt 5) hx hb dX4_readSum_44 rfl ?_
      refine lv_goto (tgt := 63) hx hb dX4_readSum_45 (by decide) ?_
      exact b_63 _ ih7 _ _ _ _ _ _ _ _ _ _ _ hf hP hD hS (lv_sub hl [0, 1, 2, 3] rfl)
  have b_7 : ∀ (k7 : Int → Int → Int → Int → Int → Int → Int → (Nat → Int) → Option (Int × Int × Int × Int × (Nat → Int))) (_ : ∀ (x1 : Int) (x2 : Int) (x3 : Int) (x4 : Int) (i_ordered : Int) (i_at : Int) (i_parts : Int) (i_orders : Nat → Int) (H : Heap) (locs : List Loc) (ls : Array Slot), k7 x1 x2 x3 x4 i_ordered i_at i_parts i_orders = some out → va_P (dC, dI) vwCl (wd_LawReader_readSum cA q0 q1 q2 q3 q4 i_tokens i_values i_ordered i_at i_parts i_orders) H → va_D A (wd_LawReader_readSum cA q0 q1 q2 q3 q4 i_tokens i_values i_ordered i_at i_parts i_orders) → va_S A s.heap H locs → lv_has ls 5 [(0, .ref q0), (1, .int (Int32.ofInt x1)), (2, .int (Int32.ofInt x2)), (3, .int (Int32.ofInt x3)), (4, .int (Int32.ofInt x4))] → W p l e (rmr_LawReader_readSum (dp + 1)) s m args below meth c H locs 0 0 Q (F0 m 7 ls [])), ∀ (x1 : Int) (x2 : Int) (x3 : Int) (x4 : Int) (i_ordered : Int) (i_at : Int) (i_parts : Int) (i_orders : Nat → Int) (H : Heap) (locs : List Loc) (ls : Array Slot), f_LawReader_readSum_7_b r_LawReader_readSum r_LawReader_readPart i_tokens i_values k7 x1 x2 x3 x4 i_ordered i_at i_parts i_orders = some out → va_P (dC, dI) vwCl (wd_LawReader_readSum cA q0 q1 q2 q3 q4 i_tokens i_values i_ordered i_at i_parts i_orders) H → va_D A (wd_LawReader_readSum cA q0 q1 q2 q3 q4 i_tokens i_values i_ordered i_at i_parts i_orders) → va_S A s.heap H locs → lv_has ls 5 [(0, .ref q0), (1, .int (Int32.ofInt x1)), (2, .int (Int32.ofInt x2)), (3, .int (Int32.ofInt x3)), (4, .int (Int32.ofInt x4))] → W p l e (rmr_LawReader_readSum (dp + 1)) s m args below meth c H locs 0 0 Q (F0 m 7 ls []) := by
    intro k7 ih7 x1 x2 x3 x4 i_ordered i_at i_parts i_orders H locs ls hf hP hD hS hl
    unfold f_LawReader_readSum_7_b at hf
    refine lv_iload hx hb dX4_readSum_7 (lv_at hl 4 rfl) ?_
    refine lv_sipush (v := Int32.ofInt 400) hx hb dX4_readSum_9 (by decide) ?_
    refine xi_icmp_ge (tgt := 125) hx hb dX4_readSum_12 (by decide) hf (fun hf => ?_) (fun hf => ?_)
    · refine lv_iconst (v := Int32.ofInt 0) hx hb dX4_readSum_125 rfl ?_
      obtain rfl := Option.some.inj hf
      exact hret _ _ _ _ zz_b0 dX4_readSum_126 hP hD hS
    · refine lv_aload_n hx hb dX4_readSum_15 rfl (lv_at hl 0 rfl) ?_
      refine lv_iload_n hx hb dX4_readSum_16 rfl (lv_at hl 1 rfl) ?_
      refine xe_d5 hf (fun v1 v2 v3 v4 a5 hg hf => ?_)
      have hC : ([0, 1, 2, 3] : List Nat).map (fun i => (wd_LawReader_readSum cA q0 q1 q2 q3 q4 i_tokens i_values i_ordered i_at i_parts i_orders)[i]?) = (wd_LawReader_readPart cA q0 q1 q2 q3 q4 i_tokens i_values i_ordered i_at i_parts i_orders).map some := rfl
      refine xv_afterI (ws' := (wd_LawReader_readSum cA q0 q1 q2 q3 q4 i_tokens i_values v2 v3 v4 a5)) (isC := [0, 1, 2, 3]) (ps := [some 0, some 1, some 2, some 3]) (va_runV (As := [.int (Int32.ofInt x1)]) (rest := []) ⟨hx, hb, hml, hown, hts⟩ (h_LawReader_readPart q0 q1 q2 q3 q4 _ _ _ _ _ _ _ _ hg H.size) (cwV 1 hts (zgV zw_760 zw_762 zw_9 zw_107 zw_763) rfl rfl rfl hd_LawReader_readPart ⟨(by show 1 + dp + 1 ≤ 1 + (dp + 1); omega), (by show 8 + (3 + 11) + (22 + 24 * dp) ≤ 22 + 24 * (dp + 1); omega)⟩) (xv_preV (T := TX4) (N := 7) hE hA hS hK hP hD (isC := [0, 1, 2, 3]) (by decide +kernel) hC (q0 := 0) (ci := 4) rfl rfl) rfl rfl hl.1 rfl (lv_room (Nat.le_of_ble_eq_true rfl)) dX4_readSum_17 ⟨Nat.le_refl _, Nat.le_refl _⟩) hP hD hS hA (by decide +kernel) rfl hC rfl rfl (fun H locs hP hD hS => ?_)
      refine xi_if_eq (tgt := 125) hx hb dX4_readSum_20 (by decide) hf (fun hf => ?_) (fun hf => ?_)
      · refine lv_iconst (v := Int32.ofInt 0) hx hb dX4_readSum_125 rfl ?_
        obtain rfl := Option.some.inj hf
        exact hret _ _ _ _ zz_b0 dX4_readSum_126 hP hD hS
      · refine lv_iload_n hx hb dX4_readSum_23 rfl (lv_at hl 2 rfl) ?_
        refine lv_iconst (v := Int32.ofInt (-1)) hx hb dX4_readSum_24 rfl ?_
        refine xi_icmp_eq (tgt := 35) hx hb dX4_readSum_25 (by decide) hf (fun hf => ?_) (fun hf => ?_)
        · exact b_35 _ ih7 _ _ _ _ _ _ _ _ _ _ hf hP hD hS (lv_sub hl [0, 1, 3, 4] rfl)
        · refine lv_aload_n hx hb dX4_readSum_28 rfl (lv_at hl 0 rfl) ?_
          refine lv_iload_n hx hb dX4_readSum_29 rfl (lv_at hl 2 rfl) ?_
          refine lv_iconst (v := Int32.ofInt 0) hx hb dX4_readSum_30 rfl ?_
          refine xe_d3 hf (fun v6 v7 a8 hg hf => ?_)
          have hC : ([0, 1] : List Nat).map (fun i => (wd_LawReader_readSum cA q0 q1 q2 q3 q4 i_tokens i_values v2 v3 v4 a5)[i]?) = (wd_LawReader_order cA q0 q1 q2 q3 q4 v3 v4 v2 a5).map some := rfl
          refine xv_afterI (ws' := (wd_LawReader_readSum cA q0 q1 q2 q3 q4 i_tokens i_values v7 v3 v4 a8)) (isC := [0, 1]) (ps := [some 0, some 1, none, none]) (va_runV (As := [.int (Int32.ofInt x2), .int (Int32.ofInt 0)]) (rest := []) ⟨hx, hb, hml, hown, hts⟩ (c_LawReader_order l ev dC dI cA q0 q1 q2 q3 q4 v3 v4 hg H.size) (cwV 2 hts (zgV zw_748 zw_750 zw_6 zw_107 zw_751) rfl rfl rfl hd_LawReader_order ⟨(by show 0 + 1 ≤ 1 + (dp + 1); omega), (by show 8 + (3 + 11) + (0) ≤ 22 + 24 * (dp + 1); omega)⟩) (xv_preV (T := TX4) (N := 7) hE hA hS hK hP hD (isC := [0, 1]) (by decide +kernel) hC (q0 := 0) (ci := 4) rfl rfl) rfl rfl hl.1 rfl (lv_room (Nat.le_of_ble_eq_true rfl)) dX4_readSum_31 ⟨Nat.le_refl _, Nat.le_refl _⟩) hP hD hS hA (by decide +kernel) rfl hC rfl rfl (fun H locs hP hD hS => ?_)
          refine lv_pop hx hb dX4_readSum_34 rfl ?_
          exact b_35 _ ih7 _ _ _ _ _ _ _ _ _ _ hf hP hD hS (lv_sub hl [0, 1, 3, 4] rfl)
  have l_7 : ∀ (n : Nat), ∀ (x1 : Int) (x2 : Int) (x3 : Int) (x4 : Int) (i_ordered : Int) (i_at : Int) (i_parts : Int) (i_orders : Nat → Int) (H : Heap) (locs : List Loc) (ls : Array Slot), f_LawReader_readSum_7 r_LawReader_readSum r_LawReader_readPart i_tokens i_values n x1 x2 x3 x4 i_ordered i_at i_parts i_orders = some out → va_P (dC, dI) vwCl (wd_LawReader_readSum cA q0 q1 q2 q3 q4 i_tokens i_values i_ordered i_at i_parts i_orders) H → va_D A (wd_LawReader_readSum cA q0 q1 q2 q3 q4 i_tokens i_values i_ordered i_at i_parts i_orders) → va_S A s.heap H locs → lv_has ls 5 [(0, .ref q0), (1, .int (Int32.ofInt x1)), (2, .int (Int32.ofInt x2)), (3, .int (Int32.ofInt x3)), (4, .int (Int32.ofInt x4))] → W p l e (rmr_LawReader_readSum (dp + 1)) s m args below meth c H locs 0 0 Q (F0 m 7 ls []) := by
    intro n
    induction n with
    | zero => intro x1 x2 x3 x4 i_ordered i_at i_parts i_orders H locs ls hf hP hD hS hl; exact nomatch hf
    | succ n ih => intro x1 x2 x3 x4 i_ordered i_at i_parts i_orders H locs ls hf hP hD hS hl; exact b_7 (f_LawReader_readSum_7 r_LawReader_readSum r_LawReader_readPart i_tokens i_values n) ih x1 x2 x3 x4 i_ordered i_at i_parts i_orders H locs ls hf hP hD hS hl
  unfold fb_LawReader_readSum at hf
  refine lv_iconst (v := Int32.ofInt (-1)) hx hb dX4_readSum_0 rfl ?_
  refine lv_istore_n (lv' := [(2, .int (Int32.ofInt (-1))), (0, .ref q0), (1, .int (Int32.ofInt x1))]) hx hb dX4_readSum_1 rfl hl (by decide) rfl (fun ls hl => ?_)
  refine lv_iconst (v := Int32.ofInt (-1)) hx hb dX4_readSum_2 rfl ?_
  refine lv_istore_n (lv' := [(3, .int (Int32.ofInt (-1))), (2, .int (Int32.ofInt (-1))), (0, .ref q0), (1, .int (Int32.ofInt x1))]) hx hb dX4_readSum_3 rfl hl (by decide) rfl (fun ls hl => ?_)
  refine lv_iconst (v := Int32.ofInt 0) hx hb dX4_readSum_4 rfl ?_
  refine lv_istore (lv' := [(4, .int (Int32.ofInt 0)), (3, .int (Int32.ofInt (-1))), (2, .int (Int32.ofInt (-1))), (0, .ref q0), (1, .int (Int32.ofInt x1))]) hx hb dX4_readSum_5 hl (by decide) rfl (fun ls hl => ?_)
  exact l_7  _ _ _ _ _ _ _ _ _ _ _ _ hf hP hD hS (lv_sub hl [3, 4, 2, 1, 0] rfl)
set_option maxHeartbeats 4000000 in
set_option maxRecDepth 100000 in
theorem cb_LawReader_readPart (l : Launch) (ev : zEv) (dC : Nat → ClassId) (dI : Nat → Nat → Nat) (cA : Nat → ClassId) (dp : Nat) (r_LawReader_readSum : Int → (Nat → Int) → (Nat → Int) → Int → Int → Int → (Nat → Int) → Option (Int × Int × Int × Int × (Nat → Int))) (r_LawReader_readPart : Int → (Nat → Int) → (Nat → Int) → Int → Int → Int → (Nat → Int) → Option (Int × Int × Int × Int × (Nat → Int))) (h_LawReader_readSum : ∀ (q0 q1 q2 q3 q4 : Nat) (x1 : Int) (i_tokens : Nat → Int) (i_values : Nat → Int) (i_ordered : Int) (i_at : Int) (i_parts : Int) (i_orders : Nat → Int) (out : Int × Int × Int × Int × (Nat → Int)), r_LawReader_readSum x1 i_tokens i_values i_ordered i_at i_parts i_orders = some out → xc_I l ev (dC, dI) vwCl (tyl cA) yX4_readSum w_LawReader_readSum (rmr_LawReader_readSum dp) [.ref q0, .int (Int32.ofInt x1)] (wd_LawReader_readSum cA q0 q1 q2 q3 q4 i_tokens i_values i_ordered i_at i_parts i_orders) (wf_LawReader_readSum cA q0 q1 q2 q3 q4 i_tokens i_values out) out.1) (h_LawReader_readPart : ∀ (q0 q1 q2 q3 q4 : Nat) (x1 : Int) (i_tokens : Nat → Int) (i_values : Nat → Int) (i_ordered : Int) (i_at : Int) (i_parts : Int) (i_orders : Nat → Int) (out : Int × Int × Int × Int × (Nat → Int)), r_LawReader_readPart x1 i_tokens i_values i_ordered i_at i_parts i_orders = some out → xc_I l ev (dC, dI) vwCl (tyl cA) yX4_readPart w_LawReader_readPart (rmr_LawReader_readSum dp) [.ref q0, .int (Int32.ofInt x1)] (wd_LawReader_readPart cA q0 q1 q2 q3 q4 i_tokens i_values i_ordered i_at i_parts i_orders) (wf_LawReader_readPart cA q0 q1 q2 q3 q4 i_tokens i_values out) out.1) : ∀ (q0 q1 q2 q3 q4 : Nat) (x1 : Int) (i_tokens : Nat → Int) (i_values : Nat → Int) (i_ordered : Int) (i_at : Int) (i_parts : Int) (i_orders : Nat → Int) (out : Int × Int × Int × Int × (Nat → Int)), fb_LawReader_readPart r_LawReader_readSum r_LawReader_readPart x1 i_tokens i_values i_ordered i_at i_parts i_orders = some out → xc_I l ev (dC, dI) vwCl (tyl cA) yX4_readPart w_LawReader_readPart (rmr_LawReader_readSum (dp + 1)) [.ref q0, .int (Int32.ofInt x1)] (wd_LawReader_readPart cA q0 q1 q2 q3 q4 i_tokens i_values i_ordered i_at i_parts i_orders) (wf_LawReader_readPart cA q0 q1 q2 q3 q4 i_tokens i_values out) out.1 := by
  intro q0 q1 q2 q3 q4 x1 i_tokens i_values i_ordered i_at i_parts i_orders out hf
  refine xv_startI (cc := cX4_readPart) (maxL := 3) (rt := .boolean) (by decide +kernel) rfl (Nat.le_of_ble_eq_true rfl) ?_
  intro p e s m args below meth c A Q H ls hx hb hml hts hown hK hA hP hD hS hl hE hret
  have hown : s.vm.findClass "HillSchool$LawReader" = some m.cls := hown
  have hz : ∀ w ∈ zall, w.before args s = true := fun w h => hts w (List.mem_cons_of_mem _ h)
  have hl : lv_has ls 3 [(0, .ref q0), (1, .int (Int32.ofInt x1))] := hl
  have b_125 : ∀ (s1 : Int) (i_ordered : Int) (i_at : Int) (i_parts : Int) (i_orders : Nat → Int) (H : Heap) (locs : List Loc) (ls : Array Slot), f_LawReader_readPart_125 r_LawReader_readSum r_LawReader_readPart i_tokens i_values s1 i_ordered i_at i_parts i_orders = some out → va_P (dC, dI) vwCl (wd_LawReader_readPart cA q0 q1 q2 q3 q4 i_tokens i_values i_ordered i_at i_parts i_orders) H → va_D A (wd_LawReader_readPart cA q0 q1 q2 q3 q4 i_tokens i_values i_ordered i_at i_parts i_orders) → va_S A s.heap H locs → lv_has ls 3 [(0, .ref q0)] → W p l e (rmr_LawReader_readSum (dp + 1)) s m args below meth c H locs 0 0 Q (F0 m 125 ls [.int (Int32.ofInt s1), .ref q0]) := by
    intro s1 i_ordered i_at i_parts i_orders H locs ls hf hP hD hS hl
    unfold f_LawReader_readPart_125 at hf
    refine lv_aload_n hx hb dX4_readPart_125 rfl (lv_at hl 0 rfl) ?_
    refine va_get (D := (dC, dI)) (ci := 4) (v := .ref q4) (C := RX4) (T := TX4) (N := 7) hx hb hz zi_X4 hown hK hP 0 rfl rfl 4 (by decide) (hz _ zw_254) (fun _ h9 => h9) rfl dX4_readPart_126 ?_
    refine lv_aload_n hx hb dX4_readPart_129 rfl (lv_at hl 0 rfl) ?_
    refine va_get (D := (dC, dI)) (ci := 4) (v := .int (Int32.ofInt i_at)) (C := RX4) (T := TX4) (N := 7) hx hb hz zi_X4 hown hK hP 0 rfl rfl 5 (by decide) (hz _ zw_255) (fun _ h9 => h9) rfl dX4_readPart_130 ?_
    refine xi_iald hx hb hK hP 3 0 rfl rfl dX4_readPart_133 hf (fun v1 hf => ?_)
    refine xe_d3 hf (fun v2 v3 a4 hg hf => ?_)
    have hC : ([0, 1] : List Nat).map (fun i => (wd_LawReader_readPart cA q0 q1 q2 q3 q4 i_tokens i_values i_ordered i_at i_parts i_orders)[i]?) = (wd_LawReader_order cA q0 q1 q2 q3 q4 i_at i_parts i_ordered i_orders).map some := rfl
    refine xv_afterI (ws' := (wd_LawReader_readPart cA q0 q1 q2 q3 q4 i_tokens i_values v3 i_at i_parts a4)) (isC := [0, 1]) (ps := [some 0, some 1, none, none]) (va_runV (As := [.int (Int32.ofInt s1), .int (Int32.ofInt v1)]) (rest := []) ⟨hx, hb, hml, hown, hts⟩ (c_LawReader_order l ev dC dI cA q0 q1 q2 q3 q4 i_at i_parts hg H.size) (cwV 2 hts (zgV zw_748 zw_750 zw_6 zw_107 zw_751) rfl rfl rfl hd_LawReader_order ⟨(by show 0 + 1 ≤ 1 + (dp + 1); omega), (by show 8 + (3 + 11) + (0) ≤ 22 + 24 * (dp + 1); omega)⟩) (xv_preV (T := TX4) (N := 7) hE hA hS hK hP hD (isC := [0, 1]) (by decide +kernel) hC (q0 := 0) (ci := 4) rfl rfl) rfl rfl hl.1 rfl (lv_room (Nat.le_of_ble_eq_true rfl)) dX4_readPart_134 ⟨Nat.le_refl _, Nat.le_refl _⟩) hP hD hS hA (by decide +kernel) rfl hC rfl rfl (fun H locs hP hD hS => ?_)
    refine lv_pop hx hb dX4_readPart_137 rfl ?_
    refine lv_aload_n hx hb dX4_readPart_138 rfl (lv_at hl 0 rfl) ?_
    refine lv_aload_n hx hb dX4_readPart_139 rfl (lv_at hl 0 rfl) ?_
    refine va_get (D := (dC, dI)) (ci := 4) (v := .ref q2) (C := RX4) (T := TX4) (N := 7) hx hb hz zi_X4 hown hK hP 0 rfl rfl 2 (by decide) (hz _ zw_252) (fun _ h9 => h9) rfl dX4_readPart_140 ?_
    refine lv_aload_n hx hb dX4_readPart_143 rfl (lv_at hl 0 rfl) ?_
    refine va_get (D := (dC, dI)) (ci := 4) (v := .int (Int32.ofInt i_at)) (C := RX4) (T := TX4) (N := 7) hx hb hz zi_X4 hown hK hP 0 rfl rfl 5 (by decide) (hz _ zw_255) (fun _ h9 => h9) rfl dX4_readPart_144 ?_
    refine xi_iald hx hb hK hP 2 0 rfl rfl dX4_readPart_147 hf (fun v5 hf => ?_)
    refine xe_d2 hf (fun v6 v7 hg hf => ?_)
    have hC : ([0, 2] : List Nat).map (fun i => (wd_LawReader_readPart cA q0 q1 q2 q3 q4 i_tokens i_values v3 i_at i_parts a4)[i]?) = (wd_LawReader_pass cA q0 q1 q2 q3 q4 v3 i_parts i_tokens i_at).map some := rfl
    refine xv_afterI (ws' := (wd_LawReader_readPart cA q0 q1 q2 q3 q4 i_tokens i_values v3 v7 i_parts a4)) (isC := [0, 2]) (ps := [some 0, none, some 1, none]) (va_runV (As := [.int (Int32.ofInt v5)]) (rest := []) ⟨hx, hb, hml, hown, hts⟩ (c_LawReader_pass l ev dC dI cA q0 q1 q2 q3 q4 v3 i_parts hg H.size) (cwV 1 hts (zgV zw_752 zw_754 zw_7 zw_107 zw_755) rfl rfl rfl hd_LawReader_pass ⟨(by show 0 + 1 ≤ 1 + (dp + 1); omega), (by show 8 + (2 + 11) + (0) ≤ 22 + 24 * (dp + 1); omega)⟩) (xv_preV (T := TX4) (N := 7) hE hA hS hK hP hD (isC := [0, 2]) (by decide +kernel) hC (q0 := 0) (ci := 4) rfl rfl) rfl rfl hl.1 rfl (lv_room (Nat.le_of_ble_eq_true rfl)) dX4_readPart_148 ⟨Nat.le_refl _, Nat.le_refl _⟩) hP hD hS hA (by decide +kernel) rfl hC rfl rfl (fun H locs hP hD hS => ?_)
    obtain ⟨hzb, hf⟩ := xz_q hf
    obtain rfl := Option.some.inj hf
    exact hret _ _ _ _ (zz_bool hzb) dX4_readPart_151 hP hD hS
  have b_94 : ∀ (x2 : Int) (i_ordered : Int) (i_at : Int) (i_parts : Int) (i_orders : Nat → Int) (H : Heap) (locs : List Loc) (ls : Array Slot), f_LawReader_readPart_94 r_LawReader_readSum r_LawReader_readPart i_tokens i_values x2 i_ordered i_at i_parts i_orders = some out → va_P (dC, dI) vwCl (wd_LawReader_readPart cA q0 q1 q2 q3 q4 i_tokens i_values i_ordered i_at i_parts i_orders) H → va_D A (wd_LawReader_readPart cA q0 q1 q2 q3 q4 i_tokens i_values i_ordered i_at i_parts i_orders) → va_S A s.heap H locs → lv_has ls 3 [(0, .ref q0), (2, .int (Int32.ofInt x2))] → W p l e (rmr_LawReader_readSum (dp + 1)) s m args below meth c H locs 0 0 Q (F0 m 94 ls []) := by
    intro x2 i_ordered i_at i_parts i_orders H locs ls hf hP hD hS hl
    unfold f_LawReader_readPart_94 at hf
    refine lv_aload_n hx hb dX4_readPart_94 rfl (lv_at hl 0 rfl) ?_
    refine va_get (D := (dC, dI)) (ci := 4) (v := .int (Int32.ofInt i_parts)) (C := RX4) (T := TX4) (N := 7) hx hb hz zi_X4 hown hK hP 0 rfl rfl 6 (by decide) (hz _ zw_256) (fun _ h9 => h9) rfl dX4_readPart_95 ?_
    refine lv_bipush (v := Int32.ofInt 50) hx hb dX4_readPart_98 (by decide) ?_
    refine xi_icmp_lt (tgt := 105) hx hb dX4_readPart_100 (by decide) hf (fun hf => ?_) (fun hf => ?_)
    · refine lv_aload_n hx hb dX4_readPart_105 rfl (lv_at hl 0 rfl) ?_
      refine lv_dup hx hb dX4_readPart_106 rfl ?_
      refine va_get (D := (dC, dI)) (ci := 4) (v := .int (Int32.ofInt i_parts)) (C := RX4) (T := TX4) (N := 7) hx hb hz zi_X4 hown hK hP 0 rfl rfl 6 (by decide) (hz _ zw_256) (fun _ h9 => h9) rfl dX4_readPart_107 ?_
      refine lv_iconst (v := Int32.ofInt 1) hx hb dX4_readPart_110 rfl ?_
      refine xi_iadd hx hb dX4_readPart_111 hf (fun v1 hf => ?_)
      refine va_put (D := (dC, dI)) (ci := 4) (v := .int (Int32.ofInt v1)) (ty := .int) (C := RX4) (T := TX4) (N := 7) hx hb hz zi_X4 tyX4 tyX4_ok nmX4 hown hK hP hD hS 0 rfl rfl 6 (by decide) (hz _ zw_256) (fun _ h9 => h9) rfl (by decide +kernel) rfl rfl (Nat.le_of_ble_eq_true rfl) dX4_readPart_112 (fun H locs hP hD hS => ?_)
      have hP : va_P (dC, dI) vwCl (wd_LawReader_readPart cA q0 q1 q2 q3 q4 i_tokens i_values i_ordered i_at v1 i_orders) H := hP
      have hD : va_D A (wd_LawReader_readPart cA q0 q1 q2 q3 q4 i_tokens i_values i_ordered i_at v1 i_orders) := hD
      refine lv_aload_n hx hb dX4_readPart_115 rfl (lv_at hl 0 rfl) ?_
      refine lv_iload_n hx hb dX4_readPart_116 rfl (lv_at hl 1 rfl) ?_
      refine xi_if_eq (tgt := 124) hx hb dX4_readPart_117 (by decide) hf (fun hf => ?_) (fun hf => ?_)
      · refine lv_iconst (v := Int32.ofInt 2) hx hb dX4_readPart_124 rfl ?_
        exact b_125  _ _ _ _ _ _ _ _ hf hP hD hS (lv_sub hl [0] rfl)
      · refine lv_iconst (v := Int32.ofInt 1) hx hb dX4_readPart_120 rfl ?_
        refine lv_goto (tgt := 125) hx hb dX4_readPart_121 (by decide) ?_
        exact b_125  _ _ _ _ _ _ _ _ hf hP hD hS (lv_sub hl [0] rfl)
    · refine lv_iconst (v := Int32.ofInt 0) hx hb dX4_readPart_103 rfl ?_
      obtain rfl := Option.some.inj hf
      exact hret _ _ _ _ zz_b0 dX4_readPart_104 hP hD hS
  have b_74 : ∀ (s0 : Int) (i_ordered : Int) (i_at : Int) (i_parts : Int) (i_orders : Nat → Int) (H : Heap) (locs : List Loc) (ls : Array Slot), f_LawReader_readPart_74 r_LawReader_readSum r_LawReader_readPart i_tokens i_values s0 i_ordered i_at i_parts i_orders = some out → va_P (dC, dI) vwCl (wd_LawReader_readPart cA q0 q1 q2 q3 q4 i_tokens i_values i_ordered i_at i_parts i_orders) H → va_D A (wd_LawReader_readPart cA q0 q1 q2 q3 q4 i_tokens i_values i_ordered i_at i_parts i_orders) → va_S A s.heap H locs → lv_has ls 3 [(0, .ref q0)] → W p l e (rmr_LawReader_readSum (dp + 1)) s m args below meth c H locs 0 0 Q (F0 m 74 ls [.int (Int32.ofInt s0)]) := by
    intro s0 i_ordered i_at i_parts i_orders H locs ls hf hP hD hS hl
    unfold f_LawReader_readPart_74 at hf
    refine lv_istore_n (lv' := [(2, .int (Int32.ofInt s0)), (0, .ref q0)]) hx hb dX4_readPart_74 rfl hl (by decide) rfl (fun ls hl => ?_)
    refine lv_iload_n hx hb dX4_readPart_75 rfl (lv_at hl 0 rfl) ?_
    refine xi_if_ne (tgt := 94) hx hb dX4_readPart_76 (by decide) hf (fun hf => ?_) (fun hf => ?_)
    · exact b_94  _ _ _ _ _ _ _ _ hf hP hD hS (lv_sub hl [1, 0] rfl)
    · refine lv_aload_n hx hb dX4_readPart_79 rfl (lv_at hl 1 rfl) ?_
      refine va_get (D := (dC, dI)) (ci := 4) (v := .ref q2) (C := RX4) (T := TX4) (N := 7) hx hb hz zi_X4 hown hK hP 0 rfl rfl 2 (by decide) (hz _ zw_252) (fun _ h9 => h9) rfl dX4_readPart_80 ?_
      refine lv_aload_n hx hb dX4_readPart_83 rfl (lv_at hl 1 rfl) ?_
      refine va_get (D := (dC, dI)) (ci := 4) (v := .int (Int32.ofInt i_at)) (C := RX4) (T := TX4) (N := 7) hx hb hz zi_X4 hown hK hP 0 rfl rfl 5 (by decide) (hz _ zw_255) (fun _ h9 => h9) rfl dX4_readPart_84 ?_
      refine xi_iald hx hb hK hP 2 0 rfl rfl dX4_readPart_87 hf (fun v1 hf => ?_)
      refine lv_sipush (v := Int32.ofInt 259) hx hb dX4_readPart_88 (by decide) ?_
      refine xi_icmp_ne (tgt := 103) hx hb dX4_readPart_91 (by decide) hf (fun hf => ?_) (fun hf => ?_)
      · refine lv_iconst (v := Int32.ofInt 0) hx hb dX4_readPart_103 rfl ?_
        obtain rfl := Option.some.inj hf
        exact hret _ _ _ _ zz_b0 dX4_readPart_104 hP hD hS
      · exact b_94  _ _ _ _ _ _ _ _ hf hP hD hS (lv_sub hl [1, 0] rfl)
  unfold fb_LawReader_readPart at hf
  refine lv_aload_n hx hb dX4_readPart_0 rfl (lv_at hl 0 rfl) ?_
  refine va_get (D := (dC, dI)) (ci := 4) (v := .ref q2) (C := RX4) (T := TX4) (N := 7) hx hb hz zi_X4 hown hK hP 0 rfl rfl 2 (by decide) (hz _ zw_252) (fun _ h9 => h9) rfl dX4_readPart_1 ?_
  refine lv_aload_n hx hb dX4_readPart_4 rfl (lv_at hl 0 rfl) ?_
  refine va_get (D := (dC, dI)) (ci := 4) (v := .int (Int32.ofInt i_at)) (C := RX4) (T := TX4) (N := 7) hx hb hz zi_X4 hown hK hP 0 rfl rfl 5 (by decide) (hz _ zw_255) (fun _ h9 => h9) rfl dX4_readPart_5 ?_
  refine xi_iald hx hb hK hP 2 0 rfl rfl dX4_readPart_8 hf (fun v1 hf => ?_)
  refine lv_bipush (v := Int32.ofInt 91) hx hb dX4_readPart_9 (by decide) ?_
  refine xi_icmp_ne (tgt := 54) hx hb dX4_readPart_11 (by decide) hf (fun hf => ?_) (fun hf => ?_)
  · refine lv_aload_n hx hb dX4_readPart_54 rfl (lv_at hl 0 rfl) ?_
    refine va_get (D := (dC, dI)) (ci := 4) (v := .ref q2) (C := RX4) (T := TX4) (N := 7) hx hb hz zi_X4 hown hK hP 0 rfl rfl 2 (by decide) (hz _ zw_252) (fun _ h9 => h9) rfl dX4_readPart_55 ?_
    refine lv_aload_n hx hb dX4_readPart_58 rfl (lv_at hl 0 rfl) ?_
    refine va_get (D := (dC, dI)) (ci := 4) (v := .int (Int32.ofInt i_at)) (C := RX4) (T := TX4) (N := 7) hx hb hz zi_X4 hown hK hP 0 rfl rfl 5 (by decide) (hz _ zw_255) (fun _ h9 => h9) rfl dX4_readPart_59 ?_
    refine xi_iald hx hb hK hP 2 0 rfl rfl dX4_readPart_62 hf (fun v2 hf => ?_)
    refine lv_sipush (v := Int32.ofInt 258) hx hb dX4_readPart_63 (by decide) ?_
    refine xi_icmp_ne (tgt := 73) hx hb dX4_readPart_66 (by decide) hf (fun hf => ?_) (fun hf => ?_)
    · refine lv_iconst (v := Int32.ofInt 0) hx hb dX4_readPart_73 rfl ?_
      exact b_74  _ _ _ _ _ _ _ _ hf hP hD hS (lv_sub hl [0] rfl)
    · refine lv_iconst (v := Int32.ofInt 1) hx hb dX4_readPart_69 rfl ?_
      refine lv_goto (tgt := 74) hx hb dX4_readPart_70 (by decide) ?_
      exact b_74  _ _ _ _ _ _ _ _ hf hP hD hS (lv_sub hl [0] rfl)
  · refine lv_iload_n hx hb dX4_readPart_14 rfl (lv_at hl 1 rfl) ?_
    refine lv_bipush (v := Int32.ofInt 8) hx hb dX4_readPart_15 (by decide) ?_
    refine xi_icmp_ge (tgt := 52) hx hb dX4_readPart_17 (by decide) hf (fun hf => ?_) (fun hf => ?_)
    · refine lv_iconst (v := Int32.ofInt 0) hx hb dX4_readPart_52 rfl ?_
      obtain rfl := Option.some.inj hf
      exact hret _ _ _ _ zz_b0 dX4_readPart_53 hP hD hS
    · refine lv_aload_n hx hb dX4_readPart_20 rfl (lv_at hl 0 rfl) ?_
      refine lv_bipush (v := Int32.ofInt 91) hx hb dX4_readPart_21 (by decide) ?_
      refine xe_d2 hf (fun v3 v4 hg hf => ?_)
      have hC : ([0, 2] : List Nat).map (fun i => (wd_LawReader_readPart cA q0 q1 q2 q3 q4 i_tokens i_values i_ordered i_at i_parts i_orders)[i]?) = (wd_LawReader_pass cA q0 q1 q2 q3 q4 i_ordered i_parts i_tokens i_at).map some := rfl
      refine xv_afterI (ws' := (wd_LawReader_readPart cA q0 q1 q2 q3 q4 i_tokens i_values i_ordered v4 i_parts i_orders)) (isC := [0, 2]) (ps := [some 0, none, some 1, none]) (va_runV (As := [.int (Int32.ofInt 91)]) (rest := []) ⟨hx, hb, hml, hown, hts⟩ (c_LawReader_pass l ev dC dI cA q0 q1 q2 q3 q4 i_ordered i_parts hg H.size) (cwV 1 hts (zgV zw_752 zw_754 zw_7 zw_107 zw_755) rfl rfl rfl hd_LawReader_pass ⟨(by show 0 + 1 ≤ 1 + (dp + 1); omega), (by show 8 + (2 + 11) + (0) ≤ 22 + 24 * (dp + 1); omega)⟩) (xv_preV (T := TX4) (N := 7) hE hA hS hK hP hD (isC := [0, 2]) (by decide +kernel) hC (q0 := 0) (ci := 4) rfl rfl) rfl rfl hl.1 rfl (lv_room (Nat.le_of_ble_eq_true rfl)) dX4_readPart_23 ⟨Nat.le_refl _, Nat.le_refl _⟩) hP hD hS hA (by decide +kernel) rfl hC rfl rfl (fun H locs hP hD hS => ?_)
      refine xi_if_eq (tgt := 52) hx hb dX4_readPart_26 (by decide) hf (fun hf => ?_) (fun hf => ?_)
      · refine lv_iconst (v := Int32.ofInt 0) hx hb dX4_readPart_52 rfl ?_
        obtain rfl := Option.some.inj hf
        exact hret _ _ _ _ zz_b0 dX4_readPart_53 hP hD hS
      · refine lv_aload_n hx hb dX4_readPart_29 rfl (lv_at hl 0 rfl) ?_
        refine lv_iload_n hx hb dX4_readPart_30 rfl (lv_at hl 1 rfl) ?_
        refine lv_iconst (v := Int32.ofInt 1) hx hb dX4_readPart_31 rfl ?_
        refine xi_iadd hx hb dX4_readPart_32 hf (fun v5 hf => ?_)
        refine xe_d5 hf (fun v6 v7 v8 v9 a10 hg hf => ?_)
        have hC : ([0, 1, 2, 3] : List Nat).map (fun i => (wd_LawReader_readPart cA q0 q1 q2 q3 q4 i_tokens i_values i_ordered v4 i_parts i_orders)[i]?) = (wd_LawReader_readSum cA q0 q1 q2 q3 q4 i_tokens i_values i_ordered v4 i_parts i_orders).map some := rfl
        refine xv_afterI (ws' := (wd_LawReader_readPart cA q0 q1 q2 q3 q4 i_tokens i_values v7 v8 v9 a10)) (isC := [0, 1, 2, 3]) (ps := [some 0, some 1, some 2, some 3]) (va_runV (As := [.int (Int32.ofInt v5)]) (rest := []) ⟨hx, hb, hml, hown, hts⟩ (h_LawReader_readSum q0 q1 q2 q3 q4 _ _ _ _ _ _ _ _ hg H.size) (cwV 1 hts (zgV zw_756 zw_758 zw_8 zw_107 zw_759) rfl rfl rfl hd_LawReader_readSum ⟨(by show 1 + dp + 1 ≤ 1 + (dp + 1); omega), (by show 8 + (5 + 11) + (22 + 24 * dp) ≤ 22 + 24 * (dp + 1); omega)⟩) (xv_preV (T := TX4) (N := 7) hE hA hS hK hP hD (isC := [0, 1, 2, 3]) (by decide +kernel) hC (q0 := 0) (ci := 4) rfl rfl) rfl rfl hl.1 rfl (lv_room (Nat.le_of_ble_eq_true rfl)) dX4_readPart_33 ⟨Nat.le_refl _, Nat.le_refl _⟩) hP hD hS hA (by decide +kernel) rfl hC rfl rfl (fun H locs hP hD hS => ?_)
        refine xi_if_eq (tgt := 52) hx hb dX4_readPart_36 (by decide) hf (fun hf => ?_) (fun hf => ?_)
        · refine lv_iconst (v := Int32.ofInt 0) hx hb dX4_readPart_52 rfl ?_
          obtain rfl := Option.some.inj hf
          exact hret _ _ _ _ zz_b0 dX4_readPart_53 hP hD hS
        · refine lv_aload_n hx hb dX4_readPart_39 rfl (lv_at hl 0 rfl) ?_
          refine lv_bipush (v := Int32.ofInt 93) hx hb dX4_readPart_40 (by decide) ?_
          refine xe_d2 hf (fun v11 v12 hg hf => ?_)
          have hC : ([0, 2] : List Nat).map (fun i => (wd_LawReader_readPart cA q0 q1 q2 q3 q4 i_tokens i_values v7 v8 v9 a10)[i]?) = (wd_LawReader_pass cA q0 q1 q2 q3 q4 v7 v9 i_tokens v8).map some := rfl
          refine xv_afterI (ws' := (wd_LawReader_readPart cA q0 q1 q2 q3 q4 i_tokens i_values v7 v12 v9 a10)) (isC := [0, 2]) (ps := [some 0, none, some 1, none]) (va_runV (As := [.int (Int32.ofInt 93)]) (rest := []) ⟨hx, hb, hml, hown, hts⟩ (c_LawReader_pass l ev dC dI cA q0 q1 q2 q3 q4 v7 v9 hg H.size) (cwV 1 hts (zgV zw_752 zw_754 zw_7 zw_107 zw_755) rfl rfl rfl hd_LawReader_pass ⟨(by show 0 + 1 ≤ 1 + (dp + 1); omega), (by show 8 + (2 + 11) + (0) ≤ 22 + 24 * (dp + 1); omega)⟩) (xv_preV (T := TX4) (N := 7) hE hA hS hK hP hD (isC := [0, 2]) (by decide +kernel) hC (q0 := 0) (ci := 4) rfl rfl) rfl rfl hl.1 rfl (lv_room (Nat.le_of_ble_eq_true rfl)) dX4_readPart_42 ⟨Nat.le_refl _, Nat.le_refl _⟩) hP hD hS hA (by decide +kernel) rfl hC rfl rfl (fun H locs hP hD hS => ?_)
          refine xi_if_eq (tgt := 52) hx hb dX4_readPart_45 (by decide) hf (fun hf => ?_) (fun hf => ?_)
          · refine lv_iconst (v := Int32.ofInt 0) hx hb dX4_readPart_52 rfl ?_
            obtain rfl := Option.some.inj hf
            exact hret _ _ _ _ zz_b0 dX4_readPart_53 hP hD hS
          · refine lv_iconst (v := Int32.ofInt 1) hx hb dX4_readPart_48 rfl ?_
            refine lv_goto (tgt := 53) hx hb dX4_readPart_49 (by decide) ?_
            obtain rfl := Option.some.inj hf
            exact hret _ _ _ _ zz_b1 dX4_readPart_53 hP hD hS
theorem cg_LawReader_readSum (l : Launch) (ev : zEv) (dC : Nat → ClassId) (dI : Nat → Nat → Nat) (cA : Nat → ClassId) : ∀ n : Nat, (∀ (q0 q1 q2 q3 q4 : Nat) (x1 : Int) (i_tokens : Nat → Int) (i_values : Nat → Int) (i_ordered : Int) (i_at : Int) (i_parts : Int) (i_orders : Nat → Int) (out : Int × Int × Int × Int × (Nat → Int)), (g_LawReader_readSum n).1 x1 i_tokens i_values i_ordered i_at i_parts i_orders = some out → xc_I l ev (dC, dI) vwCl (tyl cA) yX4_readSum w_LawReader_readSum (rmr_LawReader_readSum n) [.ref q0, .int (Int32.ofInt x1)] (wd_LawReader_readSum cA q0 q1 q2 q3 q4 i_tokens i_values i_ordered i_at i_parts i_orders) (wf_LawReader_readSum cA q0 q1 q2 q3 q4 i_tokens i_values out) out.1) ∧ (∀ (q0 q1 q2 q3 q4 : Nat) (x1 : Int) (i_tokens : Nat → Int) (i_values : Nat → Int) (i_ordered : Int) (i_at : Int) (i_parts : Int) (i_orders : Nat → Int) (out : Int × Int × Int × Int × (Nat → Int)), (g_LawReader_readSum n).2 x1 i_tokens i_values i_ordered i_at i_parts i_orders = some out → xc_I l ev (dC, dI) vwCl (tyl cA) yX4_readPart w_LawReader_readPart (rmr_LawReader_readSum n) [.ref q0, .int (Int32.ofInt x1)] (wd_LawReader_readPart cA q0 q1 q2 q3 q4 i_tokens i_values i_ordered i_at i_parts i_orders) (wf_LawReader_readPart cA q0 q1 q2 q3 q4 i_tokens i_values out) out.1) := by
  intro n
  induction n with
  | zero => exact ⟨fun _ _ _ _ _ _ _ _ _ _ _ _ _ hf => (nomatch hf), fun _ _ _ _ _ _ _ _ _ _ _ _ _ hf => (nomatch hf)⟩
  | succ n ih => exact ⟨cb_LawReader_readSum l ev dC dI cA n _ _ ih.1 ih.2, cb_LawReader_readPart l ev dC dI cA n _ _ ih.1 ih.2⟩
theorem c_LawReader_readSum (l : Launch) (ev : zEv) (dC : Nat → ClassId) (dI : Nat → Nat → Nat) (cA : Nat → ClassId) (q0 q1 q2 q3 q4 : Nat) {x1 : Int} {i_tokens : Nat → Int} {i_values : Nat → Int} {i_ordered : Int} {i_at : Int} {i_parts : Int} {i_orders : Nat → Int} {out : Int × Int × Int × Int × (Nat → Int)} (hf : f_LawReader_readSum x1 i_tokens i_values i_ordered i_at i_parts i_orders = some out) : xc_I l ev (dC, dI) vwCl (tyl cA) yX4_readSum w_LawReader_readSum rm_LawReader_readSum [.ref q0, .int (Int32.ofInt x1)] (wd_LawReader_readSum cA q0 q1 q2 q3 q4 i_tokens i_values i_ordered i_at i_parts i_orders) (wf_LawReader_readSum cA q0 q1 q2 q3 q4 i_tokens i_values out) out.1 :=
  (cg_LawReader_readSum l ev dC dI cA zdp).1 q0 q1 q2 q3 q4 x1 i_tokens i_values i_ordered i_at i_parts i_orders out hf
theorem c_LawReader_readPart (l : Launch) (ev : zEv) (dC : Nat → ClassId) (dI : Nat → Nat → Nat) (cA : Nat → ClassId) (q0 q1 q2 q3 q4 : Nat) {x1 : Int} {i_tokens : Nat → Int} {i_values : Nat → Int} {i_ordered : Int} {i_at : Int} {i_parts : Int} {i_orders : Nat → Int} {out : Int × Int × Int × Int × (Nat → Int)} (hf : f_LawReader_readPart x1 i_tokens i_values i_ordered i_at i_parts i_orders = some out) : xc_I l ev (dC, dI) vwCl (tyl cA) yX4_readPart w_LawReader_readPart rm_LawReader_readPart [.ref q0, .int (Int32.ofInt x1)] (wd_LawReader_readPart cA q0 q1 q2 q3 q4 i_tokens i_values i_ordered i_at i_parts i_orders) (wf_LawReader_readPart cA q0 q1 q2 q3 q4 i_tokens i_values out) out.1 :=
  (cg_LawReader_readSum l ev dC dI cA zdp).2 q0 q1 q2 q3 q4 x1 i_tokens i_values i_ordered i_at i_parts i_orders out hf
theorem dX4_aimHere_0 : decode cX4_aimHere 0 = .ok (.iload_n 1, 1) := by decide +kernel
theorem dX4_aimHere_1 : decode cX4_aimHere 1 = .ok (.ifCond .lt 33, 3) := by decide +kernel
theorem dX4_aimHere_4 : decode cX4_aimHere 4 = .ok (.iload_n 1, 1) := by decide +kernel
theorem dX4_aimHere_5 : decode cX4_aimHere 5 = .ok (.aload_n 0, 1) := by decide +kernel
theorem dX4_aimHere_6 : decode cX4_aimHere 6 = .ok (.getfield 15, 3) := by decide +kernel
theorem dX4_aimHere_9 : decode cX4_aimHere 9 = .ok (.if_icmp .ge 25, 3) := by decide +kernel
theorem dX4_aimHere_12 : decode cX4_aimHere 12 = .ok (.aload_n 0, 1) := by decide +kernel
theorem dX4_aimHere_13 : decode cX4_aimHere 13 = .ok (.getfield 11, 3) := by decide +kernel
theorem dX4_aimHere_16 : decode cX4_aimHere 16 = .ok (.iload_n 1, 1) := by decide +kernel
theorem dX4_aimHere_17 : decode cX4_aimHere 17 = .ok (.aload_n 0, 1) := by decide +kernel
theorem dX4_aimHere_18 : decode cX4_aimHere 18 = .ok (.getfield 15, 3) := by decide +kernel
theorem dX4_aimHere_21 : decode cX4_aimHere 21 = .ok (.iconst 4, 1) := by decide +kernel
theorem dX4_aimHere_22 : decode cX4_aimHere 22 = .ok (.ishl, 1) := by decide +kernel
theorem dX4_aimHere_23 : decode cX4_aimHere 23 = .ok (.aload_n 0, 1) := by decide +kernel
theorem dX4_aimHere_24 : decode cX4_aimHere 24 = .ok (.getfield 11, 3) := by decide +kernel
theorem dX4_aimHere_27 : decode cX4_aimHere 27 = .ok (.iload_n 1, 1) := by decide +kernel
theorem dX4_aimHere_28 : decode cX4_aimHere 28 = .ok (.iaload, 1) := by decide +kernel
theorem dX4_aimHere_29 : decode cX4_aimHere 29 = .ok (.bipush 15, 2) := by decide +kernel
theorem dX4_aimHere_31 : decode cX4_aimHere 31 = .ok (.iand, 1) := by decide +kernel
theorem dX4_aimHere_32 : decode cX4_aimHere 32 = .ok (.ior, 1) := by decide +kernel
theorem dX4_aimHere_33 : decode cX4_aimHere 33 = .ok (.iastore, 1) := by decide +kernel
theorem dX4_aimHere_34 : decode cX4_aimHere 34 = .ok (.return_, 1) := by decide +kernel
theorem zw_778 : (Jvm.Cond.code ({ cls := "HillSchool$LawReader", name := "aimHere", desc := "(I)V" } : Jvm.MethodName) prog_6_method_11_code (2 : Nat) (Option.none : Option Jvm.ClassFile.FieldType)) ∈ zall := zmemG (zmj_3 195 rfl) rfl
abbrev w_LawReader_aimHere : List Cond := .code yX4_aimHere cX4_aimHere 2 none :: zall
abbrev rm_LawReader_aimHere : Room := { frames := 0, cells := 0, slots := 0, locals := 0 }
theorem hd_LawReader_aimHere : yX4_aimHere.cls = "HillSchool$LawReader" ∧ yX4_aimHere.cls ≠ "java/lang/invoke/MethodHandle" ∧ yX4_aimHere.cls ≠ "java/lang/invoke/VarHandle" ∧ (parseMethodDescriptor yX4_aimHere.desc).map (fun d => d.parameters.length) = some 1 := by decide +kernel
def wd_LawReader_aimHere (cA : Nat → ClassId) (q0 q1 q2 q3 q4 : Nat) (u0 u1 : Int) (i_ordered : Int) (i_orders : Nat → Int) : va_W := [(q0, .inr (4, [.ref q1, .int (Int32.ofInt i_ordered), .ref q2, .ref q3, .ref q4, .int (Int32.ofInt u0), .int (Int32.ofInt u1)])), (q1, .inl (cA 0, 424, .inl (za i_orders)))]
def wf_LawReader_aimHere (cA : Nat → ClassId) (q0 q1 q2 q3 q4 : Nat) (u0 u1 : Int) (i_ordered : Int) (o : (Nat → Int)) : va_W := wd_LawReader_aimHere cA q0 q1 q2 q3 q4 u0 u1 i_ordered o
def f_LawReader_aimHere (x1 : Int) (i_ordered : Int) (i_orders : Nat → Int) : Option ((Nat → Int)) :=
  if zi_w x1 < 0 then
    some i_orders
  else
    if zi_w i_ordered ≤ zi_w x1 then
      some i_orders
    else
      zn (zi_shl i_ordered 4) fun v1 =>
      zg 424 i_orders x1 fun v2 =>
      zn (zi_and v2 15) fun v3 =>
      zn (zi_or v1 v3) fun v4 =>
      zs 424 i_orders x1 v4 fun a5 =>
      some a5
set_option maxHeartbeats 4000000 in
set_option maxRecDepth 100000 in
theorem c_LawReader_aimHere (l : Launch) (ev : zEv) (dC : Nat → ClassId) (dI : Nat → Nat → Nat) (cA : Nat → ClassId) (q0 q1 q2 q3 q4 : Nat) (u0 u1 : Int) {x1 : Int} {i_ordered : Int} {i_orders : Nat → Int} {out : (Nat → Int)} (hf : f_LawReader_aimHere x1 i_ordered i_orders = some out) : xc_V l ev (dC, dI) vwCl (tyl cA) yX4_aimHere w_LawReader_aimHere rm_LawReader_aimHere [.ref q0, .int (Int32.ofInt x1)] (wd_LawReader_aimHere cA q0 q1 q2 q3 q4 u0 u1 i_ordered i_orders) (wf_LawReader_aimHere cA q0 q1 q2 q3 q4 u0 u1 i_ordered out) := by
  refine xv_startV (cc := cX4_aimHere) (maxL := 2) (by decide +kernel) rfl (Nat.le_of_ble_eq_true rfl) ?_
  intro p e s m args below meth c A Q H ls hx hb hml hts hown hK hA hP hD hS hl hE hret
  have hown : s.vm.findClass "HillSchool$LawReader" = some m.cls := hown
  have hz : ∀ w ∈ zall, w.before args s = true := fun w h => hts w (List.mem_cons_of_mem _ h)
  have hl : lv_has ls 2 [(0, .ref q0), (1, .int (Int32.ofInt x1))] := hl
  unfold f_LawReader_aimHere at hf
  refine lv_iload_n hx hb dX4_aimHere_0 rfl (lv_at hl 1 rfl) ?_
  refine xi_if_lt (tgt := 34) hx hb dX4_aimHere_1 (by decide) hf (fun hf => ?_) (fun hf => ?_)
  · obtain rfl := Option.some.inj hf
    exact hret _ _ _ _ dX4_aimHere_34 hP hD hS
  · refine lv_iload_n hx hb dX4_aimHere_4 rfl (lv_at hl 1 rfl) ?_
    refine lv_aload_n hx hb dX4_aimHere_5 rfl (lv_at hl 0 rfl) ?_
    refine va_get (D := (dC, dI)) (ci := 4) (v := .int (Int32.ofInt i_ordered)) (C := RX4) (T := TX4) (N := 7) hx hb hz zi_X4 hown hK hP 0 rfl rfl 1 (by decide) (hz _ zw_250) (fun _ h9 => h9) rfl dX4_aimHere_6 ?_
    refine xi_icmp_ge (tgt := 34) hx hb dX4_aimHere_9 (by decide) hf (fun hf => ?_) (fun hf => ?_)
    · obtain rfl := Option.some.inj hf
      exact hret _ _ _ _ dX4_aimHere_34 hP hD hS
    · refine lv_aload_n hx hb dX4_aimHere_12 rfl (lv_at hl 0 rfl) ?_
      refine va_get (D := (dC, dI)) (ci := 4) (v := .ref q1) (C := RX4) (T := TX4) (N := 7) hx hb hz zi_X4 hown hK hP 0 rfl rfl 0 (by decide) (hz _ zw_248) (fun _ h9 => h9) rfl dX4_aimHere_13 ?_
      refine lv_iload_n hx hb dX4_aimHere_16 rfl (lv_at hl 1 rfl) ?_
      refine lv_aload_n hx hb dX4_aimHere_17 rfl (lv_at hl 0 rfl) ?_
      refine va_get (D := (dC, dI)) (ci := 4) (v := .int (Int32.ofInt i_ordered)) (C := RX4) (T := TX4) (N := 7) hx hb hz zi_X4 hown hK hP 0 rfl rfl 1 (by decide) (hz _ zw_250) (fun _ h9 => h9) rfl dX4_aimHere_18 ?_
      refine lv_iconst (v := Int32.ofInt 4) hx hb dX4_aimHere_21 rfl ?_
      refine xi_ishl hx hb dX4_aimHere_22 hf (fun v1 hf => ?_)
      refine lv_aload_n hx hb dX4_aimHere_23 rfl (lv_at hl 0 rfl) ?_
      refine va_get (D := (dC, dI)) (ci := 4) (v := .ref q1) (C := RX4) (T := TX4) (N := 7) hx hb hz zi_X4 hown hK hP 0 rfl rfl 0 (by decide) (hz _ zw_248) (fun _ h9 => h9) rfl dX4_aimHere_24 ?_
      refine lv_iload_n hx hb dX4_aimHere_27 rfl (lv_at hl 1 rfl) ?_
      refine xi_iald hx hb hK hP 1 0 rfl rfl dX4_aimHere_28 hf (fun v2 hf => ?_)
      refine lv_bipush (v := Int32.ofInt 15) hx hb dX4_aimHere_29 (by decide) ?_
      refine xi_iand hx hb dX4_aimHere_31 hf (fun v3 hf => ?_)
      refine xi_ior hx hb dX4_aimHere_32 hf (fun v4 hf => ?_)
      refine xi_iast hx hb hK hP hD hS 1 0 rfl rfl dX4_aimHere_33 hf (fun a5 H locs hP hD hS hf => ?_)
      have hP : va_P (dC, dI) vwCl (wd_LawReader_aimHere cA q0 q1 q2 q3 q4 u0 u1 i_ordered a5) H := hP
      have hD : va_D A (wd_LawReader_aimHere cA q0 q1 q2 q3 q4 u0 u1 i_ordered a5) := hD
      obtain rfl := Option.some.inj hf
      exact hret _ _ _ _ dX4_aimHere_34 hP hD hS
